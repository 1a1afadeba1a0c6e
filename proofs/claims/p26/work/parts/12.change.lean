set_option maxHeartbeats 4000000 in
set_option maxRecDepth 100000 in
theorem k_X5_function (l : Launch) (D : va_G) (q : CQ) (b sz : Nat) (u : ST)  (hwf : WP u.1) (hz : u.1.1 1 < 10) : Met l yX5_function wsX5_function ({ frames := 0, cells := 0, slots := 0, locals := 0 } : Room) (va_Pc [.ref (b + 0)] (Pr D q b sz u)) (cI D q b sz (fun r u' => r = nI (u.1.1 1) ∧ u' = ((va_up u.1.1 1 (u.1.1 1 + 1), u.1.2), u.2))) 0 0 (ts_A b 52 sz) := by
  refine ts_met (by decide) rfl (Nat.le_of_ble_eq_true rfl) ?_
  intro p e s m below meth c C0 hX ls hl
  obtain ⟨hsz, hW, hK, hN⟩ := hX
  subst hsz
  obtain ⟨hx, hb, hml, hown, hts, -, -, -⟩ := id C0
  have hW : ts_W D b 52 (cel q b u) s.heap := hW
  have hS : va_S (ts_A b 52 s.heap.size) s.heap s.heap [] := va_S.rf
  have hB : ∀ k, k < 52 → ts_A b 52 s.heap.size (b + k) := fun k hk => ts_Ain hk
  have hi3 : ∀ w ∈ wsX30, w ∈ wsX5_function := ts_lays 9 rfl
  have hi5 : ∀ w ∈ wsX50, w ∈ wsX5_function := ts_lays 5 rfl
  have hl : lv_has ls 1 [(0, .ref (b + 0))] := hl
  have hs := hwf.sz
  refine lv_aload_n hx hb dX5_function_0 rfl (lv_at hl 0 rfl) ?_
  refine ts_get (C := RX5) (T := TX5) (N := 4) (v := .ref (b + 1)) hx hb hts hi5 hown hK hW 0 (by decide) cel_st rfl 0 (by decide) (List.mem_of_getElem? (i := 3) rfl) rfl dX5_function_1 ?_
  refine ts_get (C := RX3) (T := TX3) (N := 5) (v := .int (nI (u.1.1 1))) hx hb hts hi3 hown hK hW 1 (by decide) cel_pr rfl 2 (by decide) (List.mem_of_getElem? (i := 4) rfl) rfl dX5_function_4 ?_
  refine lv_bipush (v := nI 10) hx hb dX5_function_7 (by decide) ?_
  refine lv_icmp_lt (tgt := 22) hx hb dX5_function_9 (by decide) (fun c1 => ?_) (fun c1 => ?_)
  · skip
    rw [nI_ltI (by omega) (by omega)] at c1
    refine lv_aload_n hx hb dX5_function_22 rfl (lv_at hl 0 rfl) ?_
    refine ts_get (C := RX5) (T := TX5) (N := 4) (v := .ref (b + 1)) hx hb hts hi5 hown hK hW 0 (by decide) cel_st rfl 0 (by decide) (List.mem_of_getElem? (i := 3) rfl) rfl dX5_function_23 ?_
    refine lv_dup hx hb dX5_function_26 rfl ?_
    refine ts_get (C := RX3) (T := TX3) (N := 5) (v := .int (nI (u.1.1 1))) hx hb hts hi3 hown hK hW 1 (by decide) cel_pr rfl 2 (by decide) (List.mem_of_getElem? (i := 4) rfl) rfl dX5_function_27 ?_
    refine lv_iconst (v := nI 1) hx hb dX5_function_30 (by decide) ?_
    refine ts_iadd (v := nI ((u.1.1 1) + 1)) hx hb dX5_function_31 (nI_add _ _) ?_
    refine ts_put (C := RX3) (T := TX3) (N := 5) (v := .int (nI ((u.1.1 1) + 1))) hx hb hts hi3 tyX3 tyX3_ok nmX3 hown hK hW hS hB 1 (by decide) cel_pr rfl 2 (by decide) (List.mem_of_getElem? (i := 4) rfl) rfl rfl rfl (Nat.le_of_ble_eq_true rfl) (cel q b ((va_up u.1.1 1 ((u.1.1 1) + 1), u.1.2), u.2.1, u.2.2.1, u.2.2.2)) rfl (cel_oP rfl (fun i hi => va_up_ne _ _ (by omega)) rfl rfl) dX5_function_32 (fun H locs _ _ hW hS => ?_)
    refine lv_aload_n hx hb dX5_function_35 rfl (lv_at hl 0 rfl) ?_
    refine ts_get (C := RX5) (T := TX5) (N := 4) (v := .ref (b + 1)) hx hb hts hi5 hown hK hW 0 (by decide) cel_st rfl 0 (by decide) (List.mem_of_getElem? (i := 3) rfl) rfl dX5_function_36 ?_
    refine ts_get (C := RX3) (T := TX3) (N := 5) (v := .int (nI ((u.1.1 1) + 1))) hx hb hts hi3 hown hK hW 1 (by decide) cel_pr rfl 2 (by decide) (List.mem_of_getElem? (i := 4) rfl) rfl dX5_function_39 ?_
    refine lv_iconst (v := nI 1) hx hb dX5_function_42 (by decide) ?_
    refine ts_isub (v := nI (((u.1.1 1) + 1) - 1)) hx hb dX5_function_43 (pk_sub (by omega)) ?_
    exact ts_iret (u := ((va_up u.1.1 1 ((u.1.1 1) + 1), u.1.2), u.2.1, u.2.2.1, u.2.2.2)) (v := nI (((u.1.1 1) + 1) - 1)) C0 hW hS (by exact ⟨congrArg nI (by omega), rfl⟩) dX5_function_44
  rw [nI_ltI (by omega) (by omega)] at c1
  exfalso; omega
set_option maxHeartbeats 4000000 in
set_option maxRecDepth 100000 in
theorem k_X5_hint (l : Launch) (D : va_G) (q : CQ) (b sz : Nat) (u : ST) (f a o : Nat) (hwf : WP u.1) (hf : f < u.1.1 1) (ha : a ≤ 3) (ho : o ≤ 3) : Met l yX5_hint wsX5_hint ({ frames := 6, cells := 0, slots := 0, locals := 129 } : Room) (va_Pc [.ref (b + 0), .int (nI f), .int (nI a), .int (nI o)] (Pr D q b sz u)) (cI D q b sz (fun r u' => r = nI (cntB (dropD (hintC u.1 f a o)) 10) ∧ ∃ F : FT, u' = (dropP (hintC u.1 f a o), F, u.2.2))) 0 0 (ts_A b 52 sz) := by
  refine ts_met (by decide) rfl (Nat.le_of_ble_eq_true rfl) ?_
  intro p e s m below meth c C0 hX ls hl
  obtain ⟨hsz, hW, hK, hN⟩ := hX
  subst hsz
  obtain ⟨hx, hb, hml, hown, hts, -, -, -⟩ := id C0
  have hW : ts_W D b 52 (cel q b u) s.heap := hW
  have hS : va_S (ts_A b 52 s.heap.size) s.heap s.heap [] := va_S.rf
  have hB : ∀ k, k < 52 → ts_A b 52 s.heap.size (b + k) := fun k hk => ts_Ain hk
  have hi5 : ∀ w ∈ wsX50, w ∈ wsX5_hint := ts_lays 95 rfl
  have hl : lv_has ls 4 [(0, .ref (b + 0)), (1, .int (nI f)), (2, .int (nI a)), (3, .int (nI o))] := hl
  have hs := hwf.sz
  refine lv_aload_n hx hb dX5_hint_0 rfl (lv_at hl 0 rfl) ?_
  refine lv_iload_n hx hb dX5_hint_1 rfl (lv_at hl 1 rfl) ?_
  refine ts_retV (va_runV (As := [.int (nI f)]) (rest := []) ⟨hx, hb, hml, hown, hts⟩ (k_X5_requireFunction l D q b s.heap.size u f hwf (by first | omega | (show f < u.1.1 1; omega))) (cwV 1 hts gX5_hint_X5_requireFunction rfl rfl rfl (by decide +kernel) ⟨Nat.le_of_ble_eq_true rfl, Nat.le_of_ble_eq_true rfl⟩) (ts_preV hK hN hW 0 (by decide) cel_st rfl) rfl rfl hl.1 rfl (lv_room (Nat.le_of_ble_eq_true rfl)) dX5_hint_2 ⟨Nat.zero_le _, Nat.zero_le _⟩) hS (fun x h => ts_Aup hS.1 h) (fun u2 H locs hp3 hW _ _ hS => ?_)
  have hp3u : u2 = u := hp3
  rw [hp3u] at hW
  refine lv_iload_n hx hb dX5_hint_5 rfl (lv_at hl 2 rfl) ?_
  refine lv_iload_n hx hb dX5_hint_6 rfl (lv_at hl 3 rfl) ?_
  refine ts_retV (va_runS (As := [.int (nI a), .int (nI o)]) (rest := []) ⟨hx, hb, hml, hown, hts⟩ (k_X5_requireHints l D q b H.size u a o (by omega) (by omega)) (va_cwS 2 hts gX5_hint_X5_requireHints rfl rfl rfl (by decide +kernel) ⟨Nat.le_of_ble_eq_true rfl, Nat.le_of_ble_eq_true rfl⟩) (ts_preS hK hN hW) rfl rfl hl.1 rfl (lv_room (Nat.le_of_ble_eq_true rfl)) dX5_hint_7 ⟨Nat.zero_le _, Nat.zero_le _⟩) hS (fun x h => ts_Aup hS.1 h) (fun u5 H locs hp6 hW _ _ hS => ?_)
  have hp6u : u5 = u := hp6
  rw [hp6u] at hW
  refine lv_aload_n hx hb dX5_hint_10 rfl (lv_at hl 0 rfl) ?_
  refine ts_get (C := RX5) (T := TX5) (N := 4) (v := .ref (b + 1)) hx hb hts hi5 hown hK hW 0 (by decide) cel_st rfl 0 (by decide) (List.mem_of_getElem? (i := 1) rfl) rfl dX5_hint_11 ?_
  refine lv_iload_n hx hb dX5_hint_14 rfl (lv_at hl 1 rfl) ?_
  refine lv_iload_n hx hb dX5_hint_15 rfl (lv_at hl 2 rfl) ?_
  refine lv_iload_n hx hb dX5_hint_16 rfl (lv_at hl 3 rfl) ?_
  refine ts_retI (va_runV (As := [.int (nI f), .int (nI a), .int (nI o)]) (rest := []) ⟨hx, hb, hml, hown, hts⟩ (k_X3_changeHints l D q b H.size u f a o hwf (by omega) (by omega) (by omega)) (cwV 3 hts gX5_hint_X3_changeHints rfl rfl rfl (by decide +kernel) ⟨Nat.le_of_ble_eq_true rfl, Nat.le_of_ble_eq_true rfl⟩) (ts_preV hK hN hW 1 (by decide) cel_pr rfl) rfl rfl hl.1 rfl (lv_room (Nat.le_of_ble_eq_true rfl)) dX5_hint_17 ⟨Nat.zero_le _, Nat.zero_le _⟩) hS (fun x h => ts_Aup hS.1 h) (fun r7 u8 H locs hp9 hW _ _ hS => ?_)
  obtain ⟨hp9r, hp9u⟩ := hp9
  have hp9r : r7 = nI (chgN u.1 f a o) := hp9r
  have hp9u : u8 = ((hintC u.1 f a o), u.2.1, u.2.2.1, u.2.2.2) := hp9u
  rw [hp9r]
  rw [hp9u] at hW
  refine lv_pop hx hb dX5_hint_20 rfl ?_
  refine lv_aload_n hx hb dX5_hint_21 rfl (lv_at hl 0 rfl) ?_
  refine ts_get (C := RX5) (T := TX5) (N := 4) (v := .ref (b + 1)) hx hb hts hi5 hown hK hW 0 (by decide) cel_st rfl 0 (by decide) (List.mem_of_getElem? (i := 1) rfl) rfl dX5_hint_22 ?_
  refine ts_retI (va_runV (As := []) (rest := []) ⟨hx, hb, hml, hown, hts⟩ (k_X3_dropUntypable l D q b H.size ((hintC u.1 f a o), u.2.1, u.2.2.1, u.2.2.2) (hwf.hic (by omega) ha ho)) (cwV 0 hts gX5_hint_X3_dropUntypable rfl rfl rfl (by decide +kernel) ⟨Nat.le_of_ble_eq_true rfl, Nat.le_of_ble_eq_true rfl⟩) (ts_preV hK hN hW 1 (by decide) cel_pr rfl) rfl rfl hl.1 rfl (lv_room (Nat.le_of_ble_eq_true rfl)) dX5_hint_25 ⟨Nat.zero_le _, Nat.zero_le _⟩) hS (fun x h => ts_Aup hS.1 h) (fun r10 u11 H locs hp12 hW _ _ hS => ?_)
  obtain ⟨hp12r, F13, hp12u⟩ := hp12
  have hp12r : r10 = nI (cntB (dropD (hintC u.1 f a o)) 10) := hp12r
  have hp12u : u11 = ((dropP (hintC u.1 f a o)), F13, u.2.2.1, u.2.2.2) := hp12u
  rw [hp12r]
  rw [hp12u] at hW
  exact ts_iret (u := ((dropP (hintC u.1 f a o)), F13, u.2.2.1, u.2.2.2)) (v := nI (cntB (dropD (hintC u.1 f a o)) 10)) C0 hW hS (by exact ⟨rfl, _, rfl⟩) dX5_hint_28
set_option maxHeartbeats 4000000 in
set_option maxRecDepth 100000 in
theorem k_X5_adopt (l : Launch) (D : va_G) (q : CQ) (b sz : Nat) (u : ST) (f : Nat) (hwf : WP u.1) (hf : f < u.1.1 1) : Met l yX5_adopt wsX5_adopt ({ frames := 6, cells := 0, slots := 0, locals := 129 } : Room) (va_Pc [.ref (b + 0), .int (nI f)] (Pr D q b sz u)) (cI D q b sz (fun r u' => r = nI (chgN u.1 f (adI u.1 f) (adO u.1 f)) ∧ ∃ F : FT, u' = (dropP (hintC u.1 f (adI u.1 f) (adO u.1 f)), F, u.2.2))) 0 0 (ts_A b 52 sz) := by
  refine ts_met (by decide) rfl (Nat.le_of_ble_eq_true rfl) ?_
  intro p e s m below meth c C0 hX ls hl
  obtain ⟨hsz, hW, hK, hN⟩ := hX
  subst hsz
  obtain ⟨hx, hb, hml, hown, hts, -, -, -⟩ := id C0
  have hW : ts_W D b 52 (cel q b u) s.heap := hW
  have hS : va_S (ts_A b 52 s.heap.size) s.heap s.heap [] := va_S.rf
  have hB : ∀ k, k < 52 → ts_A b 52 s.heap.size (b + k) := fun k hk => ts_Ain hk
  have hi2 : ∀ w ∈ wsX20, w ∈ wsX5_adopt := ts_lays 110 rfl
  have hi3 : ∀ w ∈ wsX30, w ∈ wsX5_adopt := ts_lays 105 rfl
  have hi5 : ∀ w ∈ wsX50, w ∈ wsX5_adopt := ts_lays 101 rfl
  have hl : lv_has ls 6 [(0, .ref (b + 0)), (1, .int (nI f))] := hl
  have hs := hwf.sz
  have hgi := guessI_le hwf (f := f) (by omega)
  have hgo := guessO_le hwf (f := f) (by omega)
  refine lv_aload_n hx hb dX5_adopt_0 rfl (lv_at hl 0 rfl) ?_
  refine lv_iload_n hx hb dX5_adopt_1 rfl (lv_at hl 1 rfl) ?_
  refine ts_retV (va_runV (As := [.int (nI f)]) (rest := []) ⟨hx, hb, hml, hown, hts⟩ (k_X5_requireFunction l D q b s.heap.size u f hwf (by first | omega | (show f < u.1.1 1; omega))) (cwV 1 hts gX5_adopt_X5_requireFunction rfl rfl rfl (by decide +kernel) ⟨Nat.le_of_ble_eq_true rfl, Nat.le_of_ble_eq_true rfl⟩) (ts_preV hK hN hW 0 (by decide) cel_st rfl) rfl rfl hl.1 rfl (lv_room (Nat.le_of_ble_eq_true rfl)) dX5_adopt_2 ⟨Nat.zero_le _, Nat.zero_le _⟩) hS (fun x h => ts_Aup hS.1 h) (fun u2 H locs hp3 hW _ _ hS => ?_)
  have hp3u : u2 = u := hp3
  rw [hp3u] at hW
  refine lv_aload_n hx hb dX5_adopt_5 rfl (lv_at hl 0 rfl) ?_
  refine ts_get (C := RX5) (T := TX5) (N := 4) (v := .ref (b + 1)) hx hb hts hi5 hown hK hW 0 (by decide) cel_st rfl 0 (by decide) (List.mem_of_getElem? (i := 1) rfl) rfl dX5_adopt_6 ?_
  refine ts_get (C := RX3) (T := TX3) (N := 5) (v := .ref (b + 2)) hx hb hts hi3 hown hK hW 1 (by decide) cel_pr rfl 0 (by decide) (List.mem_of_getElem? (i := 2) rfl) rfl dX5_adopt_9 ?_
  refine lv_iload_n hx hb dX5_adopt_12 rfl (lv_at hl 1 rfl) ?_
  refine ts_aald (a := b + (3 + 2 * f)) hx hb hK hW 2 (by decide) 1 cel_fs rfl rfl (by omega) (by decide) rfl dX5_adopt_13 ?_
  refine lv_astore_n (lv' := [(2, .ref (b + (3 + 2 * f))), (0, .ref (b + 0)), (1, .int (nI f))]) hx hb dX5_adopt_14 rfl hl (by decide) rfl (fun ls hl => ?_)
  refine lv_aload_n hx hb dX5_adopt_15 rfl (lv_at hl 0 rfl) ?_
  refine ts_get (C := RX2) (T := TX2) (N := 4) (v := .int (nI (u.1.1 (30 + f)))) hx hb hts hi2 hown hK hW (3 + 2 * f) (by omega) (cel_fn (by omega)) rfl 2 (by decide) (List.mem_of_getElem? (i := 3) rfl) rfl dX5_adopt_16 ?_
  have hq4 := hwf.fin (i := f) (by omega)
  refine lv_iconst (v := nI 3) hx hb dX5_adopt_19 (by decide) ?_
  refine lv_icmp_ne (tgt := 34) hx hb dX5_adopt_20 (by decide) (fun c5 => ?_) (fun c5 => ?_)
  · skip
    rw [nI_eq (by omega) (by omega)] at c5
    have ha1 : adI u.1 f = u.1.1 (30 + f) := if_neg c5
    refine lv_aload_n hx hb dX5_adopt_34 rfl (lv_at hl 0 rfl) ?_
    refine ts_get (C := RX2) (T := TX2) (N := 4) (v := .int (nI (u.1.1 (30 + f)))) hx hb hts hi2 hown hK hW (3 + 2 * f) (by omega) (cel_fn (by omega)) rfl 2 (by decide) (List.mem_of_getElem? (i := 3) rfl) rfl dX5_adopt_35 ?_
    have hq6 := hwf.fin (i := f) (by omega)
    refine lv_istore_n (lv' := [(3, .int (nI (u.1.1 (30 + f)))), (2, .ref (b + (3 + 2 * f))), (0, .ref (b + 0)), (1, .int (nI f))]) hx hb dX5_adopt_38 rfl hl (by decide) rfl (fun ls hl => ?_)
    refine lv_aload_n hx hb dX5_adopt_39 rfl (lv_at hl 1 rfl) ?_
    refine ts_get (C := RX2) (T := TX2) (N := 4) (v := .int (nI (u.1.1 (40 + f)))) hx hb hts hi2 hown hK hW (3 + 2 * f) (by omega) (cel_fn (by omega)) rfl 3 (by decide) (List.mem_of_getElem? (i := 4) rfl) rfl dX5_adopt_40 ?_
    have hq7 := hwf.fout (i := f) (by omega)
    refine lv_iconst (v := nI 3) hx hb dX5_adopt_43 (by decide) ?_
    refine lv_icmp_ne (tgt := 58) hx hb dX5_adopt_44 (by decide) (fun c8 => ?_) (fun c8 => ?_)
    · skip
      rw [nI_eq (by omega) (by omega)] at c8
      have ho1 : adO u.1 f = u.1.1 (40 + f) := if_neg c8
      refine lv_aload_n hx hb dX5_adopt_58 rfl (lv_at hl 1 rfl) ?_
      refine ts_get (C := RX2) (T := TX2) (N := 4) (v := .int (nI (u.1.1 (40 + f)))) hx hb hts hi2 hown hK hW (3 + 2 * f) (by omega) (cel_fn (by omega)) rfl 3 (by decide) (List.mem_of_getElem? (i := 4) rfl) rfl dX5_adopt_59 ?_
      have hq9 := hwf.fout (i := f) (by omega)
      refine lv_istore (lv' := [(4, .int (nI (u.1.1 (40 + f)))), (3, .int (nI (u.1.1 (30 + f)))), (2, .ref (b + (3 + 2 * f))), (0, .ref (b + 0)), (1, .int (nI f))]) hx hb dX5_adopt_62 hl (by decide) rfl (fun ls hl => ?_)
      refine lv_aload_n hx hb dX5_adopt_64 rfl (lv_at hl 3 rfl) ?_
      refine ts_get (C := RX5) (T := TX5) (N := 4) (v := .ref (b + 1)) hx hb hts hi5 hown hK hW 0 (by decide) cel_st rfl 0 (by decide) (List.mem_of_getElem? (i := 1) rfl) rfl dX5_adopt_65 ?_
      refine lv_iload_n hx hb dX5_adopt_68 rfl (lv_at hl 4 rfl) ?_
      refine lv_iload_n hx hb dX5_adopt_69 rfl (lv_at hl 1 rfl) ?_
      refine lv_iload hx hb dX5_adopt_70 (lv_at hl 0 rfl) ?_
      refine ts_retI (va_runV (As := [.int (nI f), .int (nI (u.1.1 (30 + f))), .int (nI (u.1.1 (40 + f)))]) (rest := []) ⟨hx, hb, hml, hown, hts⟩ (k_X3_changeHints l D q b H.size u f (u.1.1 (30 + f)) (u.1.1 (40 + f)) hwf (by omega) (by omega) (by omega)) (cwV 3 hts gX5_adopt_X3_changeHints rfl rfl rfl (by decide +kernel) ⟨Nat.le_of_ble_eq_true rfl, Nat.le_of_ble_eq_true rfl⟩) (ts_preV hK hN hW 1 (by decide) cel_pr rfl) rfl rfl hl.1 rfl (lv_room (Nat.le_of_ble_eq_true rfl)) dX5_adopt_72 ⟨Nat.zero_le _, Nat.zero_le _⟩) hS (fun x h => ts_Aup hS.1 h) (fun r10 u11 H locs hp12 hW _ _ hS => ?_)
      obtain ⟨hp12r, hp12u⟩ := hp12
      have hp12r : r10 = nI (chgN u.1 f (u.1.1 (30 + f)) (u.1.1 (40 + f))) := hp12r
      have hp12u : u11 = ((hintC u.1 f (u.1.1 (30 + f)) (u.1.1 (40 + f))), u.2.1, u.2.2.1, u.2.2.2) := hp12u
      rw [hp12r]
      rw [hp12u] at hW
      refine lv_istore (lv' := [(5, .int (nI (chgN u.1 f (u.1.1 (30 + f)) (u.1.1 (40 + f))))), (4, .int (nI (u.1.1 (40 + f)))), (3, .int (nI (u.1.1 (30 + f)))), (2, .ref (b + (3 + 2 * f))), (0, .ref (b + 0)), (1, .int (nI f))]) hx hb dX5_adopt_75 hl (by decide) rfl (fun ls hl => ?_)
      refine lv_aload_n hx hb dX5_adopt_77 rfl (lv_at hl 4 rfl) ?_
      refine ts_get (C := RX5) (T := TX5) (N := 4) (v := .ref (b + 1)) hx hb hts hi5 hown hK hW 0 (by decide) cel_st rfl 0 (by decide) (List.mem_of_getElem? (i := 1) rfl) rfl dX5_adopt_78 ?_
      refine ts_retI (va_runV (As := []) (rest := []) ⟨hx, hb, hml, hown, hts⟩ (k_X3_dropUntypable l D q b H.size ((hintC u.1 f (u.1.1 (30 + f)) (u.1.1 (40 + f))), u.2.1, u.2.2.1, u.2.2.2) (hwf.hic (by omega) (by omega) (by omega))) (cwV 0 hts gX5_adopt_X3_dropUntypable rfl rfl rfl (by decide +kernel) ⟨Nat.le_of_ble_eq_true rfl, Nat.le_of_ble_eq_true rfl⟩) (ts_preV hK hN hW 1 (by decide) cel_pr rfl) rfl rfl hl.1 rfl (lv_room (Nat.le_of_ble_eq_true rfl)) dX5_adopt_81 ⟨Nat.zero_le _, Nat.zero_le _⟩) hS (fun x h => ts_Aup hS.1 h) (fun r13 u14 H locs hp15 hW _ _ hS => ?_)
      obtain ⟨hp15r, F16, hp15u⟩ := hp15
      have hp15r : r13 = nI (cntB (dropD (hintC u.1 f (u.1.1 (30 + f)) (u.1.1 (40 + f)))) 10) := hp15r
      have hp15u : u14 = ((dropP (hintC u.1 f (u.1.1 (30 + f)) (u.1.1 (40 + f)))), F16, u.2.2.1, u.2.2.2) := hp15u
      rw [hp15r]
      rw [hp15u] at hW
      refine lv_pop hx hb dX5_adopt_84 rfl ?_
      refine lv_iload hx hb dX5_adopt_85 (lv_at hl 0 rfl) ?_
      exact ts_iret (u := ((dropP (hintC u.1 f (u.1.1 (30 + f)) (u.1.1 (40 + f)))), F16, u.2.2.1, u.2.2.2)) (v := nI (chgN u.1 f (u.1.1 (30 + f)) (u.1.1 (40 + f)))) C0 hW hS (by rw [ha1, ho1]; exact ⟨rfl, _, rfl⟩) dX5_adopt_87
    rw [nI_eq (by omega) (by omega)] at c8
    have ho1 : adO u.1 f = guessO u.1 f := if_pos c8
    refine lv_aload_n hx hb dX5_adopt_47 rfl (lv_at hl 2 rfl) ?_
    refine ts_get (C := RX5) (T := TX5) (N := 4) (v := .ref (b + 1)) hx hb hts hi5 hown hK hW 0 (by decide) cel_st rfl 0 (by decide) (List.mem_of_getElem? (i := 1) rfl) rfl dX5_adopt_48 ?_
    refine lv_aload_n hx hb dX5_adopt_51 rfl (lv_at hl 1 rfl) ?_
    refine ts_retI (va_runV (As := [.ref (b + (3 + 2 * f))]) (rest := []) ⟨hx, hb, hml, hown, hts⟩ (k_X3_guessOut l D q b H.size u f hwf (by omega)) (cwV 1 hts gX5_adopt_X3_guessOut rfl rfl rfl (by decide +kernel) ⟨Nat.le_of_ble_eq_true rfl, Nat.le_of_ble_eq_true rfl⟩) (ts_preV hK hN hW 1 (by decide) cel_pr rfl) rfl rfl hl.1 rfl (lv_room (Nat.le_of_ble_eq_true rfl)) dX5_adopt_52 ⟨Nat.zero_le _, Nat.zero_le _⟩) hS (fun x h => ts_Aup hS.1 h) (fun r17 u18 H locs hp19 hW _ _ hS => ?_)
    have hp19r : r17 = nI (guessO u.1 f) := hp19.1
    have hp19u : u18 = u := hp19.2
    rw [hp19r]
    rw [hp19u] at hW
    refine lv_goto (tgt := 62) hx hb dX5_adopt_55 (by decide) ?_
    refine lv_istore (lv' := [(4, .int (nI (guessO u.1 f))), (3, .int (nI (u.1.1 (30 + f)))), (2, .ref (b + (3 + 2 * f))), (0, .ref (b + 0)), (1, .int (nI f))]) hx hb dX5_adopt_62 hl (by decide) rfl (fun ls hl => ?_)
    refine lv_aload_n hx hb dX5_adopt_64 rfl (lv_at hl 3 rfl) ?_
    refine ts_get (C := RX5) (T := TX5) (N := 4) (v := .ref (b + 1)) hx hb hts hi5 hown hK hW 0 (by decide) cel_st rfl 0 (by decide) (List.mem_of_getElem? (i := 1) rfl) rfl dX5_adopt_65 ?_
    refine lv_iload_n hx hb dX5_adopt_68 rfl (lv_at hl 4 rfl) ?_
    refine lv_iload_n hx hb dX5_adopt_69 rfl (lv_at hl 1 rfl) ?_
    refine lv_iload hx hb dX5_adopt_70 (lv_at hl 0 rfl) ?_
    refine ts_retI (va_runV (As := [.int (nI f), .int (nI (u.1.1 (30 + f))), .int (nI (guessO u.1 f))]) (rest := []) ⟨hx, hb, hml, hown, hts⟩ (k_X3_changeHints l D q b H.size u f (u.1.1 (30 + f)) (guessO u.1 f) hwf (by omega) (by omega) (by omega)) (cwV 3 hts gX5_adopt_X3_changeHints rfl rfl rfl (by decide +kernel) ⟨Nat.le_of_ble_eq_true rfl, Nat.le_of_ble_eq_true rfl⟩) (ts_preV hK hN hW 1 (by decide) cel_pr rfl) rfl rfl hl.1 rfl (lv_room (Nat.le_of_ble_eq_true rfl)) dX5_adopt_72 ⟨Nat.zero_le _, Nat.zero_le _⟩) hS (fun x h => ts_Aup hS.1 h) (fun r20 u21 H locs hp22 hW _ _ hS => ?_)
    obtain ⟨hp22r, hp22u⟩ := hp22
    have hp22r : r20 = nI (chgN u.1 f (u.1.1 (30 + f)) (guessO u.1 f)) := hp22r
    have hp22u : u21 = ((hintC u.1 f (u.1.1 (30 + f)) (guessO u.1 f)), u.2.1, u.2.2.1, u.2.2.2) := hp22u
    rw [hp22r]
    rw [hp22u] at hW
    refine lv_istore (lv' := [(5, .int (nI (chgN u.1 f (u.1.1 (30 + f)) (guessO u.1 f)))), (4, .int (nI (guessO u.1 f))), (3, .int (nI (u.1.1 (30 + f)))), (2, .ref (b + (3 + 2 * f))), (0, .ref (b + 0)), (1, .int (nI f))]) hx hb dX5_adopt_75 hl (by decide) rfl (fun ls hl => ?_)
    refine lv_aload_n hx hb dX5_adopt_77 rfl (lv_at hl 4 rfl) ?_
    refine ts_get (C := RX5) (T := TX5) (N := 4) (v := .ref (b + 1)) hx hb hts hi5 hown hK hW 0 (by decide) cel_st rfl 0 (by decide) (List.mem_of_getElem? (i := 1) rfl) rfl dX5_adopt_78 ?_
    refine ts_retI (va_runV (As := []) (rest := []) ⟨hx, hb, hml, hown, hts⟩ (k_X3_dropUntypable l D q b H.size ((hintC u.1 f (u.1.1 (30 + f)) (guessO u.1 f)), u.2.1, u.2.2.1, u.2.2.2) (hwf.hic (by omega) (by omega) (by omega))) (cwV 0 hts gX5_adopt_X3_dropUntypable rfl rfl rfl (by decide +kernel) ⟨Nat.le_of_ble_eq_true rfl, Nat.le_of_ble_eq_true rfl⟩) (ts_preV hK hN hW 1 (by decide) cel_pr rfl) rfl rfl hl.1 rfl (lv_room (Nat.le_of_ble_eq_true rfl)) dX5_adopt_81 ⟨Nat.zero_le _, Nat.zero_le _⟩) hS (fun x h => ts_Aup hS.1 h) (fun r23 u24 H locs hp25 hW _ _ hS => ?_)
    obtain ⟨hp25r, F26, hp25u⟩ := hp25
    have hp25r : r23 = nI (cntB (dropD (hintC u.1 f (u.1.1 (30 + f)) (guessO u.1 f))) 10) := hp25r
    have hp25u : u24 = ((dropP (hintC u.1 f (u.1.1 (30 + f)) (guessO u.1 f))), F26, u.2.2.1, u.2.2.2) := hp25u
    rw [hp25r]
    rw [hp25u] at hW
    refine lv_pop hx hb dX5_adopt_84 rfl ?_
    refine lv_iload hx hb dX5_adopt_85 (lv_at hl 0 rfl) ?_
    exact ts_iret (u := ((dropP (hintC u.1 f (u.1.1 (30 + f)) (guessO u.1 f))), F26, u.2.2.1, u.2.2.2)) (v := nI (chgN u.1 f (u.1.1 (30 + f)) (guessO u.1 f))) C0 hW hS (by rw [ha1, ho1]; exact ⟨rfl, _, rfl⟩) dX5_adopt_87
  rw [nI_eq (by omega) (by omega)] at c5
  have ha1 : adI u.1 f = guessI u.1 f := if_pos c5
  refine lv_aload_n hx hb dX5_adopt_23 rfl (lv_at hl 1 rfl) ?_
  refine ts_get (C := RX5) (T := TX5) (N := 4) (v := .ref (b + 1)) hx hb hts hi5 hown hK hW 0 (by decide) cel_st rfl 0 (by decide) (List.mem_of_getElem? (i := 1) rfl) rfl dX5_adopt_24 ?_
  refine lv_aload_n hx hb dX5_adopt_27 rfl (lv_at hl 0 rfl) ?_
  refine ts_retI (va_runV (As := [.ref (b + (3 + 2 * f))]) (rest := []) ⟨hx, hb, hml, hown, hts⟩ (k_X3_guessIn l D q b H.size u f hwf (by omega)) (cwV 1 hts gX5_adopt_X3_guessIn rfl rfl rfl (by decide +kernel) ⟨Nat.le_of_ble_eq_true rfl, Nat.le_of_ble_eq_true rfl⟩) (ts_preV hK hN hW 1 (by decide) cel_pr rfl) rfl rfl hl.1 rfl (lv_room (Nat.le_of_ble_eq_true rfl)) dX5_adopt_28 ⟨Nat.zero_le _, Nat.zero_le _⟩) hS (fun x h => ts_Aup hS.1 h) (fun r27 u28 H locs hp29 hW _ _ hS => ?_)
  have hp29r : r27 = nI (guessI u.1 f) := hp29.1
  have hp29u : u28 = u := hp29.2
  rw [hp29r]
  rw [hp29u] at hW
  refine lv_goto (tgt := 38) hx hb dX5_adopt_31 (by decide) ?_
  refine lv_istore_n (lv' := [(3, .int (nI (guessI u.1 f))), (2, .ref (b + (3 + 2 * f))), (0, .ref (b + 0)), (1, .int (nI f))]) hx hb dX5_adopt_38 rfl hl (by decide) rfl (fun ls hl => ?_)
  refine lv_aload_n hx hb dX5_adopt_39 rfl (lv_at hl 1 rfl) ?_
  refine ts_get (C := RX2) (T := TX2) (N := 4) (v := .int (nI (u.1.1 (40 + f)))) hx hb hts hi2 hown hK hW (3 + 2 * f) (by omega) (cel_fn (by omega)) rfl 3 (by decide) (List.mem_of_getElem? (i := 4) rfl) rfl dX5_adopt_40 ?_
  have hq30 := hwf.fout (i := f) (by omega)
  refine lv_iconst (v := nI 3) hx hb dX5_adopt_43 (by decide) ?_
  refine lv_icmp_ne (tgt := 58) hx hb dX5_adopt_44 (by decide) (fun c31 => ?_) (fun c31 => ?_)
  · skip
    rw [nI_eq (by omega) (by omega)] at c31
    have ho1 : adO u.1 f = u.1.1 (40 + f) := if_neg c31
    refine lv_aload_n hx hb dX5_adopt_58 rfl (lv_at hl 1 rfl) ?_
    refine ts_get (C := RX2) (T := TX2) (N := 4) (v := .int (nI (u.1.1 (40 + f)))) hx hb hts hi2 hown hK hW (3 + 2 * f) (by omega) (cel_fn (by omega)) rfl 3 (by decide) (List.mem_of_getElem? (i := 4) rfl) rfl dX5_adopt_59 ?_
    have hq32 := hwf.fout (i := f) (by omega)
    refine lv_istore (lv' := [(4, .int (nI (u.1.1 (40 + f)))), (3, .int (nI (guessI u.1 f))), (2, .ref (b + (3 + 2 * f))), (0, .ref (b + 0)), (1, .int (nI f))]) hx hb dX5_adopt_62 hl (by decide) rfl (fun ls hl => ?_)
    refine lv_aload_n hx hb dX5_adopt_64 rfl (lv_at hl 3 rfl) ?_
    refine ts_get (C := RX5) (T := TX5) (N := 4) (v := .ref (b + 1)) hx hb hts hi5 hown hK hW 0 (by decide) cel_st rfl 0 (by decide) (List.mem_of_getElem? (i := 1) rfl) rfl dX5_adopt_65 ?_
    refine lv_iload_n hx hb dX5_adopt_68 rfl (lv_at hl 4 rfl) ?_
    refine lv_iload_n hx hb dX5_adopt_69 rfl (lv_at hl 1 rfl) ?_
    refine lv_iload hx hb dX5_adopt_70 (lv_at hl 0 rfl) ?_
    refine ts_retI (va_runV (As := [.int (nI f), .int (nI (guessI u.1 f)), .int (nI (u.1.1 (40 + f)))]) (rest := []) ⟨hx, hb, hml, hown, hts⟩ (k_X3_changeHints l D q b H.size u f (guessI u.1 f) (u.1.1 (40 + f)) hwf (by omega) (by omega) (by omega)) (cwV 3 hts gX5_adopt_X3_changeHints rfl rfl rfl (by decide +kernel) ⟨Nat.le_of_ble_eq_true rfl, Nat.le_of_ble_eq_true rfl⟩) (ts_preV hK hN hW 1 (by decide) cel_pr rfl) rfl rfl hl.1 rfl (lv_room (Nat.le_of_ble_eq_true rfl)) dX5_adopt_72 ⟨Nat.zero_le _, Nat.zero_le _⟩) hS (fun x h => ts_Aup hS.1 h) (fun r33 u34 H locs hp35 hW _ _ hS => ?_)
    obtain ⟨hp35r, hp35u⟩ := hp35
    have hp35r : r33 = nI (chgN u.1 f (guessI u.1 f) (u.1.1 (40 + f))) := hp35r
    have hp35u : u34 = ((hintC u.1 f (guessI u.1 f) (u.1.1 (40 + f))), u.2.1, u.2.2.1, u.2.2.2) := hp35u
    rw [hp35r]
    rw [hp35u] at hW
    refine lv_istore (lv' := [(5, .int (nI (chgN u.1 f (guessI u.1 f) (u.1.1 (40 + f))))), (4, .int (nI (u.1.1 (40 + f)))), (3, .int (nI (guessI u.1 f))), (2, .ref (b + (3 + 2 * f))), (0, .ref (b + 0)), (1, .int (nI f))]) hx hb dX5_adopt_75 hl (by decide) rfl (fun ls hl => ?_)
    refine lv_aload_n hx hb dX5_adopt_77 rfl (lv_at hl 4 rfl) ?_
    refine ts_get (C := RX5) (T := TX5) (N := 4) (v := .ref (b + 1)) hx hb hts hi5 hown hK hW 0 (by decide) cel_st rfl 0 (by decide) (List.mem_of_getElem? (i := 1) rfl) rfl dX5_adopt_78 ?_
    refine ts_retI (va_runV (As := []) (rest := []) ⟨hx, hb, hml, hown, hts⟩ (k_X3_dropUntypable l D q b H.size ((hintC u.1 f (guessI u.1 f) (u.1.1 (40 + f))), u.2.1, u.2.2.1, u.2.2.2) (hwf.hic (by omega) (by omega) (by omega))) (cwV 0 hts gX5_adopt_X3_dropUntypable rfl rfl rfl (by decide +kernel) ⟨Nat.le_of_ble_eq_true rfl, Nat.le_of_ble_eq_true rfl⟩) (ts_preV hK hN hW 1 (by decide) cel_pr rfl) rfl rfl hl.1 rfl (lv_room (Nat.le_of_ble_eq_true rfl)) dX5_adopt_81 ⟨Nat.zero_le _, Nat.zero_le _⟩) hS (fun x h => ts_Aup hS.1 h) (fun r36 u37 H locs hp38 hW _ _ hS => ?_)
    obtain ⟨hp38r, F39, hp38u⟩ := hp38
    have hp38r : r36 = nI (cntB (dropD (hintC u.1 f (guessI u.1 f) (u.1.1 (40 + f)))) 10) := hp38r
    have hp38u : u37 = ((dropP (hintC u.1 f (guessI u.1 f) (u.1.1 (40 + f)))), F39, u.2.2.1, u.2.2.2) := hp38u
    rw [hp38r]
    rw [hp38u] at hW
    refine lv_pop hx hb dX5_adopt_84 rfl ?_
    refine lv_iload hx hb dX5_adopt_85 (lv_at hl 0 rfl) ?_
    exact ts_iret (u := ((dropP (hintC u.1 f (guessI u.1 f) (u.1.1 (40 + f)))), F39, u.2.2.1, u.2.2.2)) (v := nI (chgN u.1 f (guessI u.1 f) (u.1.1 (40 + f)))) C0 hW hS (by rw [ha1, ho1]; exact ⟨rfl, _, rfl⟩) dX5_adopt_87
  rw [nI_eq (by omega) (by omega)] at c31
  have ho1 : adO u.1 f = guessO u.1 f := if_pos c31
  refine lv_aload_n hx hb dX5_adopt_47 rfl (lv_at hl 2 rfl) ?_
  refine ts_get (C := RX5) (T := TX5) (N := 4) (v := .ref (b + 1)) hx hb hts hi5 hown hK hW 0 (by decide) cel_st rfl 0 (by decide) (List.mem_of_getElem? (i := 1) rfl) rfl dX5_adopt_48 ?_
  refine lv_aload_n hx hb dX5_adopt_51 rfl (lv_at hl 1 rfl) ?_
  refine ts_retI (va_runV (As := [.ref (b + (3 + 2 * f))]) (rest := []) ⟨hx, hb, hml, hown, hts⟩ (k_X3_guessOut l D q b H.size u f hwf (by omega)) (cwV 1 hts gX5_adopt_X3_guessOut rfl rfl rfl (by decide +kernel) ⟨Nat.le_of_ble_eq_true rfl, Nat.le_of_ble_eq_true rfl⟩) (ts_preV hK hN hW 1 (by decide) cel_pr rfl) rfl rfl hl.1 rfl (lv_room (Nat.le_of_ble_eq_true rfl)) dX5_adopt_52 ⟨Nat.zero_le _, Nat.zero_le _⟩) hS (fun x h => ts_Aup hS.1 h) (fun r40 u41 H locs hp42 hW _ _ hS => ?_)
  have hp42r : r40 = nI (guessO u.1 f) := hp42.1
  have hp42u : u41 = u := hp42.2
  rw [hp42r]
  rw [hp42u] at hW
  refine lv_goto (tgt := 62) hx hb dX5_adopt_55 (by decide) ?_
  refine lv_istore (lv' := [(4, .int (nI (guessO u.1 f))), (3, .int (nI (guessI u.1 f))), (2, .ref (b + (3 + 2 * f))), (0, .ref (b + 0)), (1, .int (nI f))]) hx hb dX5_adopt_62 hl (by decide) rfl (fun ls hl => ?_)
  refine lv_aload_n hx hb dX5_adopt_64 rfl (lv_at hl 3 rfl) ?_
  refine ts_get (C := RX5) (T := TX5) (N := 4) (v := .ref (b + 1)) hx hb hts hi5 hown hK hW 0 (by decide) cel_st rfl 0 (by decide) (List.mem_of_getElem? (i := 1) rfl) rfl dX5_adopt_65 ?_
  refine lv_iload_n hx hb dX5_adopt_68 rfl (lv_at hl 4 rfl) ?_
  refine lv_iload_n hx hb dX5_adopt_69 rfl (lv_at hl 1 rfl) ?_
  refine lv_iload hx hb dX5_adopt_70 (lv_at hl 0 rfl) ?_
  refine ts_retI (va_runV (As := [.int (nI f), .int (nI (guessI u.1 f)), .int (nI (guessO u.1 f))]) (rest := []) ⟨hx, hb, hml, hown, hts⟩ (k_X3_changeHints l D q b H.size u f (guessI u.1 f) (guessO u.1 f) hwf (by omega) (by omega) (by omega)) (cwV 3 hts gX5_adopt_X3_changeHints rfl rfl rfl (by decide +kernel) ⟨Nat.le_of_ble_eq_true rfl, Nat.le_of_ble_eq_true rfl⟩) (ts_preV hK hN hW 1 (by decide) cel_pr rfl) rfl rfl hl.1 rfl (lv_room (Nat.le_of_ble_eq_true rfl)) dX5_adopt_72 ⟨Nat.zero_le _, Nat.zero_le _⟩) hS (fun x h => ts_Aup hS.1 h) (fun r43 u44 H locs hp45 hW _ _ hS => ?_)
  obtain ⟨hp45r, hp45u⟩ := hp45
  have hp45r : r43 = nI (chgN u.1 f (guessI u.1 f) (guessO u.1 f)) := hp45r
  have hp45u : u44 = ((hintC u.1 f (guessI u.1 f) (guessO u.1 f)), u.2.1, u.2.2.1, u.2.2.2) := hp45u
  rw [hp45r]
  rw [hp45u] at hW
  refine lv_istore (lv' := [(5, .int (nI (chgN u.1 f (guessI u.1 f) (guessO u.1 f)))), (4, .int (nI (guessO u.1 f))), (3, .int (nI (guessI u.1 f))), (2, .ref (b + (3 + 2 * f))), (0, .ref (b + 0)), (1, .int (nI f))]) hx hb dX5_adopt_75 hl (by decide) rfl (fun ls hl => ?_)
  refine lv_aload_n hx hb dX5_adopt_77 rfl (lv_at hl 4 rfl) ?_
  refine ts_get (C := RX5) (T := TX5) (N := 4) (v := .ref (b + 1)) hx hb hts hi5 hown hK hW 0 (by decide) cel_st rfl 0 (by decide) (List.mem_of_getElem? (i := 1) rfl) rfl dX5_adopt_78 ?_
  refine ts_retI (va_runV (As := []) (rest := []) ⟨hx, hb, hml, hown, hts⟩ (k_X3_dropUntypable l D q b H.size ((hintC u.1 f (guessI u.1 f) (guessO u.1 f)), u.2.1, u.2.2.1, u.2.2.2) (hwf.hic (by omega) (by omega) (by omega))) (cwV 0 hts gX5_adopt_X3_dropUntypable rfl rfl rfl (by decide +kernel) ⟨Nat.le_of_ble_eq_true rfl, Nat.le_of_ble_eq_true rfl⟩) (ts_preV hK hN hW 1 (by decide) cel_pr rfl) rfl rfl hl.1 rfl (lv_room (Nat.le_of_ble_eq_true rfl)) dX5_adopt_81 ⟨Nat.zero_le _, Nat.zero_le _⟩) hS (fun x h => ts_Aup hS.1 h) (fun r46 u47 H locs hp48 hW _ _ hS => ?_)
  obtain ⟨hp48r, F49, hp48u⟩ := hp48
  have hp48r : r46 = nI (cntB (dropD (hintC u.1 f (guessI u.1 f) (guessO u.1 f))) 10) := hp48r
  have hp48u : u47 = ((dropP (hintC u.1 f (guessI u.1 f) (guessO u.1 f))), F49, u.2.2.1, u.2.2.2) := hp48u
  rw [hp48r]
  rw [hp48u] at hW
  refine lv_pop hx hb dX5_adopt_84 rfl ?_
  refine lv_iload hx hb dX5_adopt_85 (lv_at hl 0 rfl) ?_
  exact ts_iret (u := ((dropP (hintC u.1 f (guessI u.1 f) (guessO u.1 f))), F49, u.2.2.1, u.2.2.2)) (v := nI (chgN u.1 f (guessI u.1 f) (guessO u.1 f))) C0 hW hS (by rw [ha1, ho1]; exact ⟨rfl, _, rfl⟩) dX5_adopt_87
set_option maxHeartbeats 4000000 in
set_option maxRecDepth 100000 in
theorem k_X5_step (l : Launch) (D : va_G) (q : CQ) (b sz : Nat) (u : ST) (f v : Nat) (hwf : WP u.1) (hf : f < u.1.1 1) (hv : v ≤ 9 ∨ (20 ≤ v ∧ v ≤ 24) ∨ (40 ≤ v ∧ v < 40 + u.1.1 1)) (hz : u.1.1 (20 + f) < 6) : Met l yX5_step wsX5_step ({ frames := 7, cells := 0, slots := 0, locals := 149 } : Room) (va_Pc [.ref (b + 0), .int (nI f), .int (nI v)] (Pr D q b sz u)) (cI D q b sz (fun r u' => r = nI (u.1.1 (20 + f) + 1) ∧ ∃ F : FT, u' = (dropP (chkP (stepP u.1 f v) 1), F, u.2.2))) 0 0 (ts_A b 52 sz) := by
  refine ts_met (by decide) rfl (Nat.le_of_ble_eq_true rfl) ?_
  intro p e s m below meth c C0 hX ls hl
  obtain ⟨hsz, hW, hK, hN⟩ := hX
  subst hsz
  obtain ⟨hx, hb, hml, hown, hts, -, -, -⟩ := id C0
  have hW : ts_W D b 52 (cel q b u) s.heap := hW
  have hS : va_S (ts_A b 52 s.heap.size) s.heap s.heap [] := va_S.rf
  have hB : ∀ k, k < 52 → ts_A b 52 s.heap.size (b + k) := fun k hk => ts_Ain hk
  have hi2 : ∀ w ∈ wsX20, w ∈ wsX5_step := ts_lays 99 rfl
  have hi3 : ∀ w ∈ wsX30, w ∈ wsX5_step := ts_lays 94 rfl
  have hi5 : ∀ w ∈ wsX50, w ∈ wsX5_step := ts_lays 90 rfl
  have hl : lv_has ls 4 [(0, .ref (b + 0)), (1, .int (nI f)), (2, .int (nI v))] := hl
  have hs := hwf.sz
  refine lv_aload_n hx hb dX5_step_0 rfl (lv_at hl 0 rfl) ?_
  refine lv_iload_n hx hb dX5_step_1 rfl (lv_at hl 1 rfl) ?_
  refine ts_retV (va_runV (As := [.int (nI f)]) (rest := []) ⟨hx, hb, hml, hown, hts⟩ (k_X5_requireFunction l D q b s.heap.size u f hwf (by first | omega | (show f < u.1.1 1; omega))) (cwV 1 hts gX5_step_X5_requireFunction rfl rfl rfl (by decide +kernel) ⟨Nat.le_of_ble_eq_true rfl, Nat.le_of_ble_eq_true rfl⟩) (ts_preV hK hN hW 0 (by decide) cel_st rfl) rfl rfl hl.1 rfl (lv_room (Nat.le_of_ble_eq_true rfl)) dX5_step_2 ⟨Nat.zero_le _, Nat.zero_le _⟩) hS (fun x h => ts_Aup hS.1 h) (fun u2 H locs hp3 hW _ _ hS => ?_)
  have hp3u : u2 = u := hp3
  rw [hp3u] at hW
  refine lv_aload_n hx hb dX5_step_5 rfl (lv_at hl 0 rfl) ?_
  refine ts_get (C := RX5) (T := TX5) (N := 4) (v := .ref (b + 1)) hx hb hts hi5 hown hK hW 0 (by decide) cel_st rfl 0 (by decide) (List.mem_of_getElem? (i := 5) rfl) rfl dX5_step_6 ?_
  refine lv_iload_n hx hb dX5_step_9 rfl (lv_at hl 2 rfl) ?_
  refine ts_retI (va_runV (As := [.int (nI v)]) (rest := []) ⟨hx, hb, hml, hown, hts⟩ (k_X3_isStep l D q b H.size u v hwf (by omega)) (cwV 1 hts gX5_step_X3_isStep rfl rfl rfl (by decide +kernel) ⟨Nat.le_of_ble_eq_true rfl, Nat.le_of_ble_eq_true rfl⟩) (ts_preV hK hN hW 1 (by decide) cel_pr rfl) rfl rfl hl.1 rfl (lv_room (Nat.le_of_ble_eq_true rfl)) dX5_step_10 ⟨Nat.zero_le _, Nat.zero_le _⟩) hS (fun x h => ts_Aup hS.1 h) (fun r4 u5 H locs hp6 hW _ _ hS => ?_)
  have hp6r : r4 = b2i true := hp6.1
  have hp6u : u5 = u := hp6.2
  rw [hp6r]
  rw [hp6u] at hW
  refine lv_if_ne (tgt := 26) hx hb dX5_step_13 (by decide) (fun c7 => ?_) (fun c7 => ?_)
  · skip
    have c7 := ts_bt c7
    refine lv_aload_n hx hb dX5_step_26 rfl (lv_at hl 0 rfl) ?_
    refine ts_get (C := RX5) (T := TX5) (N := 4) (v := .ref (b + 1)) hx hb hts hi5 hown hK hW 0 (by decide) cel_st rfl 0 (by decide) (List.mem_of_getElem? (i := 5) rfl) rfl dX5_step_27 ?_
    refine ts_get (C := RX3) (T := TX3) (N := 5) (v := .ref (b + 2)) hx hb hts hi3 hown hK hW 1 (by decide) cel_pr rfl 0 (by decide) (List.mem_of_getElem? (i := 6) rfl) rfl dX5_step_30 ?_
    refine lv_iload_n hx hb dX5_step_33 rfl (lv_at hl 1 rfl) ?_
    refine ts_aald (a := b + (3 + 2 * f)) hx hb hK hW 2 (by decide) 1 cel_fs rfl rfl (by omega) (by decide) rfl dX5_step_34 ?_
    refine lv_astore_n (lv' := [(3, .ref (b + (3 + 2 * f))), (0, .ref (b + 0)), (1, .int (nI f)), (2, .int (nI v))]) hx hb dX5_step_35 rfl hl (by decide) rfl (fun ls hl => ?_)
    refine lv_aload_n hx hb dX5_step_36 rfl (lv_at hl 0 rfl) ?_
    refine ts_get (C := RX2) (T := TX2) (N := 4) (v := .int (nI (u.1.1 (20 + f)))) hx hb hts hi2 hown hK hW (3 + 2 * f) (by omega) (cel_fn (by omega)) rfl 1 (by decide) (List.mem_of_getElem? (i := 7) rfl) rfl dX5_step_37 ?_
    have hq8 := hwf.fsz (i := f) (by omega)
    refine lv_bipush (v := nI 6) hx hb dX5_step_40 (by decide) ?_
    refine lv_icmp_lt (tgt := 55) hx hb dX5_step_42 (by decide) (fun c9 => ?_) (fun c9 => ?_)
    · skip
      rw [nI_ltI (by omega) (by omega)] at c9
      refine lv_aload_n hx hb dX5_step_55 rfl (lv_at hl 0 rfl) ?_
      refine ts_get (C := RX2) (T := TX2) (N := 4) (v := .ref (b + (4 + 2 * f))) hx hb hts hi2 hown hK hW (3 + 2 * f) (by omega) (cel_fn (by omega)) rfl 0 (by decide) (List.mem_of_getElem? (i := 8) rfl) rfl dX5_step_56 ?_
      refine lv_aload_n hx hb dX5_step_59 rfl (lv_at hl 0 rfl) ?_
      refine ts_get (C := RX2) (T := TX2) (N := 4) (v := .int (nI (u.1.1 (20 + f)))) hx hb hts hi2 hown hK hW (3 + 2 * f) (by omega) (cel_fn (by omega)) rfl 1 (by decide) (List.mem_of_getElem? (i := 7) rfl) rfl dX5_step_60 ?_
      have hq10 := hwf.fsz (i := f) (by omega)
      refine lv_iload_n hx hb dX5_step_63 rfl (lv_at hl 3 rfl) ?_
      refine ts_iast (v := nI v) hx hb hK hW hS hB (4 + 2 * f) (by omega) 0 (cel_sp (by omega)) rfl (by omega) (by decide) (cel q b ((u.1.1, ts_u2 u.1.2 f (u.1.1 (20 + f)) v), u.2.1, u.2.2.1, u.2.2.2)) (cel_sp (by omega)) (fun j _ => ts_u2_row _ _ _ _ _) (cel_oSp (by omega) rfl (fun j hj => ts_u2_ne _ _ _ hj) rfl) dX5_step_64 (fun H locs _ _ hW hS => ?_)
      refine lv_aload_n hx hb dX5_step_65 rfl (lv_at hl 0 rfl) ?_
      refine lv_dup hx hb dX5_step_66 rfl ?_
      refine ts_get (C := RX2) (T := TX2) (N := 4) (v := .int (nI (u.1.1 (20 + f)))) hx hb hts hi2 hown hK hW (3 + 2 * f) (by omega) (cel_fn (by omega)) rfl 1 (by decide) (List.mem_of_getElem? (i := 7) rfl) rfl dX5_step_67 ?_
      have hq11 := hwf.fsz (i := f) (by omega)
      refine lv_iconst (v := nI 1) hx hb dX5_step_70 (by decide) ?_
      refine ts_iadd (v := nI ((u.1.1 (20 + f)) + 1)) hx hb dX5_step_71 (nI_add _ _) ?_
      refine ts_put (C := RX2) (T := TX2) (N := 4) (v := .int (nI ((u.1.1 (20 + f)) + 1))) hx hb hts hi2 tyX2 tyX2_ok nmX2 hown hK hW hS hB (3 + 2 * f) (by omega) (cel_fn (by omega)) rfl 1 (by decide) (List.mem_of_getElem? (i := 7) rfl) rfl rfl rfl (Nat.le_of_ble_eq_true rfl) (cel q b ((va_up u.1.1 (20 + f) ((u.1.1 (20 + f)) + 1), ts_u2 u.1.2 f (u.1.1 (20 + f)) v), u.2.1, u.2.2.1, u.2.2.2)) (by rw [cel_fn (by omega)]; simp [va_up]) (cel_oFn (by omega) rfl (fun j h1 h2 h3 => va_up_ne _ _ (by omega)) rfl) dX5_step_72 (fun H locs _ _ hW hS => ?_)
      refine lv_aload_n hx hb dX5_step_75 rfl (lv_at hl 1 rfl) ?_
      refine ts_get (C := RX5) (T := TX5) (N := 4) (v := .ref (b + 1)) hx hb hts hi5 hown hK hW 0 (by decide) cel_st rfl 0 (by decide) (List.mem_of_getElem? (i := 5) rfl) rfl dX5_step_76 ?_
      refine ts_retV (va_runV (As := []) (rest := []) ⟨hx, hb, hml, hown, hts⟩ (k_X3_afterStepsChanged l D q b H.size ((va_up u.1.1 (20 + f) ((u.1.1 (20 + f)) + 1), ts_u2 u.1.2 f (u.1.1 (20 + f)) v), u.2.1, u.2.2.1, u.2.2.2) (hwf.step (by omega) hz hv)) (cwV 0 hts gX5_step_X3_afterStepsChanged rfl rfl rfl (by decide +kernel) ⟨Nat.le_of_ble_eq_true rfl, Nat.le_of_ble_eq_true rfl⟩) (ts_preV hK hN hW 1 (by decide) cel_pr rfl) rfl rfl hl.1 rfl (lv_room (Nat.le_of_ble_eq_true rfl)) dX5_step_79 ⟨Nat.zero_le _, Nat.zero_le _⟩) hS (fun x h => ts_Aup hS.1 h) (fun u13 H locs hp14 hW _ _ hS => ?_)
      obtain ⟨F15, hp14u⟩ := hp14
      have hp14u : u13 = ((dropP (chkP (va_up u.1.1 (20 + f) ((u.1.1 (20 + f)) + 1), ts_u2 u.1.2 f (u.1.1 (20 + f)) v) 1)), F15, u.2.2.1, u.2.2.2) := hp14u
      rw [hp14u] at hW
      refine lv_aload_n hx hb dX5_step_82 rfl (lv_at hl 0 rfl) ?_
      refine ts_get (C := RX2) (T := TX2) (N := 4) (v := .int (nI (((dropP (chkP (va_up u.1.1 (20 + f) ((u.1.1 (20 + f)) + 1), ts_u2 u.1.2 f (u.1.1 (20 + f)) v) 1))).1 (20 + f)))) hx hb hts hi2 hown hK hW (3 + 2 * f) (by omega) (cel_fn (by omega)) rfl 1 (by decide) (List.mem_of_getElem? (i := 7) rfl) rfl dX5_step_83 ?_
      have hq16 := hwf.fsz (i := f) (by omega)
      exact ts_iret (u := ((dropP (chkP (va_up u.1.1 (20 + f) ((u.1.1 (20 + f)) + 1), ts_u2 u.1.2 f (u.1.1 (20 + f)) v) 1)), F15, u.2.2.1, u.2.2.2)) (v := nI (((dropP (chkP (va_up u.1.1 (20 + f) ((u.1.1 (20 + f)) + 1), ts_u2 u.1.2 f (u.1.1 (20 + f)) v) 1))).1 (20 + f))) C0 hW hS (by refine ⟨congrArg nI ?_, F15, rfl⟩; exact (dropP_fn _ _ (by omega)).trans (va_up_self _ _ _)) dX5_step_86
    rw [nI_ltI (by omega) (by omega)] at c9
    exfalso; omega
  have c7 := ts_bf c7
  exact absurd c7 (by decide)
set_option maxHeartbeats 4000000 in
set_option maxRecDepth 100000 in
theorem k_X5_unstep (l : Launch) (D : va_G) (q : CQ) (b sz : Nat) (u : ST) (f : Nat) (hwf : WP u.1) (hf : f < u.1.1 1) (hz : 0 < u.1.1 (20 + f)) : Met l yX5_unstep wsX5_unstep ({ frames := 7, cells := 0, slots := 0, locals := 149 } : Room) (va_Pc [.ref (b + 0), .int (nI f)] (Pr D q b sz u)) (cI D q b sz (fun r u' => r = nI (u.1.2 f (u.1.1 (20 + f) - 1)) ∧ ∃ F : FT, u' = (dropP (chkP (unsP u.1 f) 1), F, u.2.2))) 0 0 (ts_A b 52 sz) := by
  refine ts_met (by decide) rfl (Nat.le_of_ble_eq_true rfl) ?_
  intro p e s m below meth c C0 hX ls hl
  obtain ⟨hsz, hW, hK, hN⟩ := hX
  subst hsz
  obtain ⟨hx, hb, hml, hown, hts, -, -, -⟩ := id C0
  have hW : ts_W D b 52 (cel q b u) s.heap := hW
  have hS : va_S (ts_A b 52 s.heap.size) s.heap s.heap [] := va_S.rf
  have hB : ∀ k, k < 52 → ts_A b 52 s.heap.size (b + k) := fun k hk => ts_Ain hk
  have hi2 : ∀ w ∈ wsX20, w ∈ wsX5_unstep := ts_lays 93 rfl
  have hi3 : ∀ w ∈ wsX30, w ∈ wsX5_unstep := ts_lays 88 rfl
  have hi5 : ∀ w ∈ wsX50, w ∈ wsX5_unstep := ts_lays 84 rfl
  have hl : lv_has ls 3 [(0, .ref (b + 0)), (1, .int (nI f))] := hl
  have hs := hwf.sz
  have hsz6 := hwf.fsz (i := f) (by omega)
  refine lv_aload_n hx hb dX5_unstep_0 rfl (lv_at hl 0 rfl) ?_
  refine lv_iload_n hx hb dX5_unstep_1 rfl (lv_at hl 1 rfl) ?_
  refine ts_retV (va_runV (As := [.int (nI f)]) (rest := []) ⟨hx, hb, hml, hown, hts⟩ (k_X5_requireFunction l D q b s.heap.size u f hwf (by first | omega | (show f < u.1.1 1; omega))) (cwV 1 hts gX5_unstep_X5_requireFunction rfl rfl rfl (by decide +kernel) ⟨Nat.le_of_ble_eq_true rfl, Nat.le_of_ble_eq_true rfl⟩) (ts_preV hK hN hW 0 (by decide) cel_st rfl) rfl rfl hl.1 rfl (lv_room (Nat.le_of_ble_eq_true rfl)) dX5_unstep_2 ⟨Nat.zero_le _, Nat.zero_le _⟩) hS (fun x h => ts_Aup hS.1 h) (fun u2 H locs hp3 hW _ _ hS => ?_)
  have hp3u : u2 = u := hp3
  rw [hp3u] at hW
  refine lv_aload_n hx hb dX5_unstep_5 rfl (lv_at hl 0 rfl) ?_
  refine ts_get (C := RX5) (T := TX5) (N := 4) (v := .ref (b + 1)) hx hb hts hi5 hown hK hW 0 (by decide) cel_st rfl 0 (by decide) (List.mem_of_getElem? (i := 3) rfl) rfl dX5_unstep_6 ?_
  refine ts_get (C := RX3) (T := TX3) (N := 5) (v := .ref (b + 2)) hx hb hts hi3 hown hK hW 1 (by decide) cel_pr rfl 0 (by decide) (List.mem_of_getElem? (i := 4) rfl) rfl dX5_unstep_9 ?_
  refine lv_iload_n hx hb dX5_unstep_12 rfl (lv_at hl 1 rfl) ?_
  refine ts_aald (a := b + (3 + 2 * f)) hx hb hK hW 2 (by decide) 1 cel_fs rfl rfl (by omega) (by decide) rfl dX5_unstep_13 ?_
  refine lv_astore_n (lv' := [(2, .ref (b + (3 + 2 * f))), (0, .ref (b + 0)), (1, .int (nI f))]) hx hb dX5_unstep_14 rfl hl (by decide) rfl (fun ls hl => ?_)
  refine lv_aload_n hx hb dX5_unstep_15 rfl (lv_at hl 0 rfl) ?_
  refine ts_get (C := RX2) (T := TX2) (N := 4) (v := .int (nI (u.1.1 (20 + f)))) hx hb hts hi2 hown hK hW (3 + 2 * f) (by omega) (cel_fn (by omega)) rfl 1 (by decide) (List.mem_of_getElem? (i := 5) rfl) rfl dX5_unstep_16 ?_
  have hq4 := hwf.fsz (i := f) (by omega)
  refine lv_if_gt (tgt := 32) hx hb dX5_unstep_19 (by decide) (fun c5 => ?_) (fun c5 => ?_)
  · skip
    rw [ts_gt0 (by omega)] at c5
    refine lv_aload_n hx hb dX5_unstep_32 rfl (lv_at hl 0 rfl) ?_
    refine lv_dup hx hb dX5_unstep_33 rfl ?_
    refine ts_get (C := RX2) (T := TX2) (N := 4) (v := .int (nI (u.1.1 (20 + f)))) hx hb hts hi2 hown hK hW (3 + 2 * f) (by omega) (cel_fn (by omega)) rfl 1 (by decide) (List.mem_of_getElem? (i := 5) rfl) rfl dX5_unstep_34 ?_
    have hq6 := hwf.fsz (i := f) (by omega)
    refine lv_iconst (v := nI 1) hx hb dX5_unstep_37 (by decide) ?_
    refine ts_isub (v := nI ((u.1.1 (20 + f)) - 1)) hx hb dX5_unstep_38 (pk_sub (by omega)) ?_
    refine ts_put (C := RX2) (T := TX2) (N := 4) (v := .int (nI ((u.1.1 (20 + f)) - 1))) hx hb hts hi2 tyX2 tyX2_ok nmX2 hown hK hW hS hB (3 + 2 * f) (by omega) (cel_fn (by omega)) rfl 1 (by decide) (List.mem_of_getElem? (i := 5) rfl) rfl rfl rfl (Nat.le_of_ble_eq_true rfl) (cel q b ((va_up u.1.1 (20 + f) ((u.1.1 (20 + f)) - 1), u.1.2), u.2.1, u.2.2.1, u.2.2.2)) (by rw [cel_fn (by omega)]; simp [va_up]) (cel_oFn (by omega) rfl (fun j h1 h2 h3 => va_up_ne _ _ (by omega)) rfl) dX5_unstep_39 (fun H locs _ _ hW hS => ?_)
    refine lv_aload_n hx hb dX5_unstep_42 rfl (lv_at hl 1 rfl) ?_
    refine ts_get (C := RX5) (T := TX5) (N := 4) (v := .ref (b + 1)) hx hb hts hi5 hown hK hW 0 (by decide) cel_st rfl 0 (by decide) (List.mem_of_getElem? (i := 3) rfl) rfl dX5_unstep_43 ?_
    refine ts_retV (va_runV (As := []) (rest := []) ⟨hx, hb, hml, hown, hts⟩ (k_X3_afterStepsChanged l D q b H.size ((va_up u.1.1 (20 + f) ((u.1.1 (20 + f)) - 1), u.1.2), u.2.1, u.2.2.1, u.2.2.2) (hwf.uns (by omega))) (cwV 0 hts gX5_unstep_X3_afterStepsChanged rfl rfl rfl (by decide +kernel) ⟨Nat.le_of_ble_eq_true rfl, Nat.le_of_ble_eq_true rfl⟩) (ts_preV hK hN hW 1 (by decide) cel_pr rfl) rfl rfl hl.1 rfl (lv_room (Nat.le_of_ble_eq_true rfl)) dX5_unstep_46 ⟨Nat.zero_le _, Nat.zero_le _⟩) hS (fun x h => ts_Aup hS.1 h) (fun u8 H locs hp9 hW _ _ hS => ?_)
    obtain ⟨F10, hp9u⟩ := hp9
    have hp9u : u8 = ((dropP (chkP (va_up u.1.1 (20 + f) ((u.1.1 (20 + f)) - 1), u.1.2) 1)), F10, u.2.2.1, u.2.2.2) := hp9u
    rw [hp9u] at hW
    refine lv_aload_n hx hb dX5_unstep_49 rfl (lv_at hl 0 rfl) ?_
    refine ts_get (C := RX2) (T := TX2) (N := 4) (v := .ref (b + (4 + 2 * f))) hx hb hts hi2 hown hK hW (3 + 2 * f) (by omega) (cel_fn (by omega)) rfl 0 (by decide) (List.mem_of_getElem? (i := 6) rfl) rfl dX5_unstep_50 ?_
    refine lv_aload_n hx hb dX5_unstep_53 rfl (lv_at hl 0 rfl) ?_
    refine ts_get (C := RX2) (T := TX2) (N := 4) (v := .int (nI (((dropP (chkP (va_up u.1.1 (20 + f) ((u.1.1 (20 + f)) - 1), u.1.2) 1))).1 (20 + f)))) hx hb hts hi2 hown hK hW (3 + 2 * f) (by omega) (cel_fn (by omega)) rfl 1 (by decide) (List.mem_of_getElem? (i := 5) rfl) rfl dX5_unstep_54 ?_
    have hq11 := hwf.fsz (i := f) (by omega)
    have hzz : ((dropP (chkP (va_up u.1.1 (20 + f) ((u.1.1 (20 + f)) - 1), u.1.2) 1))).1 (20 + f) = u.1.1 (20 + f) - 1 := (dropP_fn _ _ (by omega)).trans (va_up_self _ _ _)
    refine ts_int (y := nI (u.1.1 (20 + f) - 1)) (congrArg nI hzz) ?_
    refine ts_iald (v := nI ((((dropP (chkP (va_up u.1.1 (20 + f) ((u.1.1 (20 + f)) - 1), u.1.2) 1))).2) f (u.1.1 (20 + f) - 1))) hx hb hK hW (4 + 2 * f) (by omega) 0 (cel_sp (by omega)) rfl (by omega) (by decide) rfl dX5_unstep_57 ?_
    exact ts_iret (u := ((dropP (chkP (va_up u.1.1 (20 + f) ((u.1.1 (20 + f)) - 1), u.1.2) 1)), F10, u.2.2.1, u.2.2.2)) (v := nI ((((dropP (chkP (va_up u.1.1 (20 + f) ((u.1.1 (20 + f)) - 1), u.1.2) 1))).2) f (u.1.1 (20 + f) - 1))) C0 hW hS (by exact ⟨rfl, F10, rfl⟩) dX5_unstep_58
  rw [ts_gt0 (by omega)] at c5
  exfalso; omega
set_option maxHeartbeats 4000000 in
set_option maxRecDepth 100000 in
theorem k_X5_type (l : Launch) (D : va_G) (q : CQ) (b sz : Nat) (u : ST) (f : Nat) (hwf : WP u.1) (hf : f < u.1.1 1) (hok : okF u.1 f = true) : Met l yX5_type wsX5_type ({ frames := 3, cells := 0, slots := 0, locals := 66 } : Room) (va_Pc [.ref (b + 0), .int (nI f), .int (nI 1)] (Pr D q b sz u)) (cI D q b sz (fun r u' => r = b2i (hasB (u.1.1 2) f) ∧ ∃ F : FT, u' = ((va_up u.1.1 2 (setB (u.1.1 2) f), u.1.2), F, u.2.2))) 0 0 (ts_A b 52 sz) := by
  refine ts_met (by decide) rfl (Nat.le_of_ble_eq_true rfl) ?_
  intro p e s m below meth c C0 hX ls hl
  obtain ⟨hsz, hW, hK, hN⟩ := hX
  subst hsz
  obtain ⟨hx, hb, hml, hown, hts, -, -, -⟩ := id C0
  have hW : ts_W D b 52 (cel q b u) s.heap := hW
  have hS : va_S (ts_A b 52 s.heap.size) s.heap s.heap [] := va_S.rf
  have hB : ∀ k, k < 52 → ts_A b 52 s.heap.size (b + k) := fun k hk => ts_Ain hk
  have hi3 : ∀ w ∈ wsX30, w ∈ wsX5_type := ts_lays 67 rfl
  have hi5 : ∀ w ∈ wsX50, w ∈ wsX5_type := ts_lays 63 rfl
  have hl : lv_has ls 4 [(0, .ref (b + 0)), (1, .int (nI f)), (2, .int (nI 1))] := hl
  have hs := hwf.sz
  have hty := hwf.ty
  refine lv_aload_n hx hb dX5_type_0 rfl (lv_at hl 0 rfl) ?_
  refine lv_iload_n hx hb dX5_type_1 rfl (lv_at hl 1 rfl) ?_
  refine ts_retV (va_runV (As := [.int (nI f)]) (rest := []) ⟨hx, hb, hml, hown, hts⟩ (k_X5_requireFunction l D q b s.heap.size u f hwf (by first | omega | (show f < u.1.1 1; omega))) (cwV 1 hts gX5_type_X5_requireFunction rfl rfl rfl (by decide +kernel) ⟨Nat.le_of_ble_eq_true rfl, Nat.le_of_ble_eq_true rfl⟩) (ts_preV hK hN hW 0 (by decide) cel_st rfl) rfl rfl hl.1 rfl (lv_room (Nat.le_of_ble_eq_true rfl)) dX5_type_2 ⟨Nat.zero_le _, Nat.zero_le _⟩) hS (fun x h => ts_Aup hS.1 h) (fun u2 H locs hp3 hW _ _ hS => ?_)
  have hp3u : u2 = u := hp3
  rw [hp3u] at hW
  refine lv_iload_n hx hb dX5_type_5 rfl (lv_at hl 2 rfl) ?_
  refine lv_if_eq (tgt := 33) hx hb dX5_type_6 (by decide) (fun c4 => ?_) (fun c4 => ?_)
  · skip
    exfalso; revert c4; decide
  refine lv_aload_n hx hb dX5_type_9 rfl (lv_at hl 0 rfl) ?_
  refine ts_get (C := RX5) (T := TX5) (N := 4) (v := .ref (b + 1)) hx hb hts hi5 hown hK hW 0 (by decide) cel_st rfl 0 (by decide) (List.mem_of_getElem? (i := 3) rfl) rfl dX5_type_10 ?_
  refine lv_iload_n hx hb dX5_type_13 rfl (lv_at hl 1 rfl) ?_
  refine ts_retR (va_runV (As := [.int (nI f)]) (rest := []) ⟨hx, hb, hml, hown, hts⟩ (k_X3_checked l D q b H.size u f hwf (by omega)) (cwV 1 hts gX5_type_X3_checked rfl rfl rfl (by decide +kernel) ⟨Nat.le_of_ble_eq_true rfl, Nat.le_of_ble_eq_true rfl⟩) (ts_preV hK hN hW 1 (by decide) cel_pr rfl) rfl rfl hl.1 rfl (lv_room (Nat.le_of_ble_eq_true rfl)) dX5_type_14 ⟨Nat.zero_le _, Nat.zero_le _⟩) hS (fun x h => ts_Aup hS.1 h) (fun u6 H locs hp7 hW _ _ hS => ?_)
  have hp7u : u6 = (u.1, (chkA u.1 f), u.2.2.1, u.2.2.2) := hp7
  rw [hp7u] at hW
  have hq8 := chkA_le hwf (f := f) (by omega)
  refine ts_retI (va_runV (As := []) (rest := []) ⟨hx, hb, hml, hown, hts⟩ (k_X1_areNone l D q b H.size (u.1, (chkA u.1 f), u.2.2.1, u.2.2.2) (by show (chkA u.1 f).1 < 1000; omega) (by show (chkA u.1 f).2.2 < 1000; omega)) (cwV 0 hts gX5_type_X1_areNone rfl rfl rfl (by decide +kernel) ⟨Nat.le_of_ble_eq_true rfl, Nat.le_of_ble_eq_true rfl⟩) (ts_preV hK hN hW 23 (by decide) cel_fi rfl) rfl rfl hl.1 rfl (lv_room (Nat.le_of_ble_eq_true rfl)) dX5_type_17 ⟨Nat.zero_le _, Nat.zero_le _⟩) hS (fun x h => ts_Aup hS.1 h) (fun r9 u10 H locs hp11 hW _ _ hS => ?_)
  have hp11r : r9 = b2i (noneF (chkA u.1 f)) := hp11.1
  have hp11u : u10 = (u.1, (chkA u.1 f), u.2.2.1, u.2.2.2) := hp11.2
  rw [hp11r]
  rw [hp11u] at hW
  refine lv_if_ne (tgt := 33) hx hb dX5_type_20 (by decide) (fun c12 => ?_) (fun c12 => ?_)
  · skip
    have c12 := ts_bt c12
    refine lv_aload_n hx hb dX5_type_33 rfl (lv_at hl 0 rfl) ?_
    refine ts_get (C := RX5) (T := TX5) (N := 4) (v := .ref (b + 1)) hx hb hts hi5 hown hK hW 0 (by decide) cel_st rfl 0 (by decide) (List.mem_of_getElem? (i := 3) rfl) rfl dX5_type_34 ?_
    refine ts_get (C := RX3) (T := TX3) (N := 5) (v := .int (nI (u.1.1 2))) hx hb hts hi3 hown hK hW 1 (by decide) cel_pr rfl 3 (by decide) (List.mem_of_getElem? (i := 4) rfl) rfl dX5_type_37 ?_
    refine lv_iload_n hx hb dX5_type_40 rfl (lv_at hl 1 rfl) ?_
    refine ts_retI (va_runS (As := [.int (nI (u.1.1 2)), .int (nI f)]) (rest := []) ⟨hx, hb, hml, hown, hts⟩ (k_X5_has l D q b H.size (u.1, (chkA u.1 f), u.2.2.1, u.2.2.2) (u.1.1 2) f (by omega) (by omega)) (va_cwS 2 hts gX5_type_X5_has rfl rfl rfl (by decide +kernel) ⟨Nat.le_of_ble_eq_true rfl, Nat.le_of_ble_eq_true rfl⟩) (ts_preS hK hN hW) rfl rfl hl.1 rfl (lv_room (Nat.le_of_ble_eq_true rfl)) dX5_type_41 ⟨Nat.zero_le _, Nat.zero_le _⟩) hS (fun x h => ts_Aup hS.1 h) (fun r13 u14 H locs hp15 hW _ _ hS => ?_)
    have hp15r : r13 = b2i (hasB (u.1.1 2) f) := hp15.1
    have hp15u : u14 = (u.1, (chkA u.1 f), u.2.2.1, u.2.2.2) := hp15.2
    rw [hp15r]
    rw [hp15u] at hW
    refine lv_istore_n (lv' := [(3, .int (b2i (hasB (u.1.1 2) f))), (0, .ref (b + 0)), (1, .int (nI f)), (2, .int (nI 1))]) hx hb dX5_type_44 rfl hl (by decide) rfl (fun ls hl => ?_)
    refine lv_aload_n hx hb dX5_type_45 rfl (lv_at hl 1 rfl) ?_
    refine ts_get (C := RX5) (T := TX5) (N := 4) (v := .ref (b + 1)) hx hb hts hi5 hown hK hW 0 (by decide) cel_st rfl 0 (by decide) (List.mem_of_getElem? (i := 3) rfl) rfl dX5_type_46 ?_
    refine lv_iload_n hx hb dX5_type_49 rfl (lv_at hl 3 rfl) ?_
    refine lv_if_eq (tgt := 67) hx hb dX5_type_50 (by decide) (fun c16 => ?_) (fun c16 => ?_)
    · skip
      exfalso; revert c16; decide
    refine lv_aload_n hx hb dX5_type_53 rfl (lv_at hl 1 rfl) ?_
    refine ts_get (C := RX5) (T := TX5) (N := 4) (v := .ref (b + 1)) hx hb hts hi5 hown hK hW 0 (by decide) cel_st rfl 0 (by decide) (List.mem_of_getElem? (i := 3) rfl) rfl dX5_type_54 ?_
    refine ts_get (C := RX3) (T := TX3) (N := 5) (v := .int (nI (u.1.1 2))) hx hb hts hi3 hown hK hW 1 (by decide) cel_pr rfl 3 (by decide) (List.mem_of_getElem? (i := 4) rfl) rfl dX5_type_57 ?_
    refine lv_iload_n hx hb dX5_type_60 rfl (lv_at hl 2 rfl) ?_
    refine ts_retI (va_runS (As := [.int (nI (u.1.1 2)), .int (nI f)]) (rest := [.ref (b + 1)]) ⟨hx, hb, hml, hown, hts⟩ (k_X5_with l D q b H.size (u.1, (chkA u.1 f), u.2.2.1, u.2.2.2) (u.1.1 2) f (by omega)) (va_cwS 2 hts gX5_type_X5_with rfl rfl rfl (by decide +kernel) ⟨Nat.le_of_ble_eq_true rfl, Nat.le_of_ble_eq_true rfl⟩) (ts_preS hK hN hW) rfl rfl hl.1 rfl (lv_room (Nat.le_of_ble_eq_true rfl)) dX5_type_61 ⟨Nat.zero_le _, Nat.zero_le _⟩) hS (fun x h => ts_Aup hS.1 h) (fun r17 u18 H locs hp19 hW _ _ hS => ?_)
    have hp19r : r17 = nI (setB (u.1.1 2) f) := hp19.1
    have hp19u : u18 = (u.1, (chkA u.1 f), u.2.2.1, u.2.2.2) := hp19.2
    rw [hp19r]
    rw [hp19u] at hW
    refine lv_goto (tgt := 78) hx hb dX5_type_64 (by decide) ?_
    refine ts_put (C := RX3) (T := TX3) (N := 5) (v := .int (nI (setB (u.1.1 2) f))) hx hb hts hi3 tyX3 tyX3_ok nmX3 hown hK hW hS hB 1 (by decide) cel_pr rfl 3 (by decide) (List.mem_of_getElem? (i := 4) rfl) rfl rfl rfl (Nat.le_of_ble_eq_true rfl) (cel q b ((va_up u.1.1 2 (setB (u.1.1 2) f), u.1.2), (chkA u.1 f), u.2.2.1, u.2.2.2)) rfl (cel_oP rfl (fun i hi => va_up_ne _ _ (by omega)) rfl rfl) dX5_type_78 (fun H locs _ _ hW hS => ?_)
    refine lv_iload_n hx hb dX5_type_81 rfl (lv_at hl 0 rfl) ?_
    exact ts_zret (u := ((va_up u.1.1 2 (setB (u.1.1 2) f), u.1.2), (chkA u.1 f), u.2.2.1, u.2.2.2)) (v := b2i (hasB (u.1.1 2) f)) C0 (b2i_nar _) hW hS (by exact ⟨rfl, _, rfl⟩) dX5_type_82
  have c12 := ts_bf c12
  exact absurd (hok.symm.trans c12) (by decide)
set_option maxHeartbeats 4000000 in
set_option maxRecDepth 100000 in
theorem k_X5_migrate (l : Launch) (D : va_G) (q : CQ) (b sz : Nat) (u : ST) (w_ : Nat) (hwf : WP u.1) (hw : 1 ≤ w_ ∧ w_ ≤ 10) : Met l yX5_migrate wsX5_migrate ({ frames := 5, cells := 0, slots := 0, locals := 114 } : Room) (va_Pc [.ref (b + 0), .int (nI w_)] (Pr D q b sz u)) (cI D q b sz (fun r u' => ∃ (s_ k : Nat), r = nI k ∧ MigI u.1 s_ k ∧ s_ < 1024 ∧ k ≤ 10 ∧ ∃ F : FT, u' = ((va_up u.1.1 2 s_, u.1.2), F, u.2.2))) 0 0 (ts_A b 52 sz) := by
  refine ts_met (by decide) rfl (Nat.le_of_ble_eq_true rfl) ?_
  intro p e s m below meth c C0 hX ls hl
  obtain ⟨hsz, hW, hK, hN⟩ := hX
  subst hsz
  obtain ⟨hx, hb, hml, hown, hts, -, -, -⟩ := id C0
  have hW : ts_W D b 52 (cel q b u) s.heap := hW
  have hS : va_S (ts_A b 52 s.heap.size) s.heap s.heap [] := va_S.rf
  have hB : ∀ k, k < 52 → ts_A b 52 s.heap.size (b + k) := fun k hk => ts_Ain hk
  have hi3 : ∀ w ∈ wsX30, w ∈ wsX5_migrate := ts_lays 88 rfl
  have hi5 : ∀ w ∈ wsX50, w ∈ wsX5_migrate := ts_lays 84 rfl
  have hl : lv_has ls 4 [(0, .ref (b + 0)), (1, .int (nI w_))] := hl
  have hs := hwf.sz
  refine lv_iload_n hx hb dX5_migrate_0 rfl (lv_at hl 1 rfl) ?_
  refine lv_iconst (v := nI 1) hx hb dX5_migrate_1 (by decide) ?_
  refine lv_icmp_lt (tgt := 11) hx hb dX5_migrate_2 (by decide) (fun c1 => ?_) (fun c1 => ?_)
  · skip
    rw [nI_ltI (by omega) (by omega)] at c1
    exfalso; omega
  rw [nI_ltI (by omega) (by omega)] at c1
  refine lv_iload_n hx hb dX5_migrate_5 rfl (lv_at hl 1 rfl) ?_
  refine lv_bipush (v := nI 10) hx hb dX5_migrate_6 (by decide) ?_
  refine lv_icmp_le (tgt := 21) hx hb dX5_migrate_8 (by decide) (fun c2 => ?_) (fun c2 => ?_)
  · skip
    rw [nI_leI (by omega) (by omega)] at c2
    refine lv_iconst (v := nI 0) hx hb dX5_migrate_21 (by decide) ?_
    refine lv_istore_n (lv' := [(2, .int (nI 0)), (0, .ref (b + 0)), (1, .int (nI w_))]) hx hb dX5_migrate_22 rfl hl (by decide) rfl (fun ls hl => ?_)
    have key3 : ∀ (fu : Nat) (k : Nat) (s_ : Nat) (F : FT), (k ≤ w_) → (s_ < 1024) → (MigI u.1 s_ k) → (w_ - k) < fu → ∀ (H : Heap) (locs : List Loc), ts_W D b 52 (cel q b ((va_up u.1.1 2 s_, u.1.2), F, u.2.2.1, u.2.2.2)) H → va_S (ts_A b 52 s.heap.size) s.heap H locs → ∀ ls : Array Slot, lv_has ls 4 [(2, .int (nI k)), (0, .ref (b + 0)), (1, .int (nI w_))] → W p l e ({ frames := 5, cells := 0, slots := 0, locals := 114 } : Room) s m [.ref (b + 0), .int (nI w_)].toArray below meth c H locs 0 0 (MQ below (cI D q b s.heap.size (fun r u' => ∃ (s_ k : Nat), r = nI k ∧ MigI u.1 s_ k ∧ s_ < 1024 ∧ k ≤ 10 ∧ ∃ F : FT, u' = ((va_up u.1.1 2 s_, u.1.2), F, u.2.2))) [.ref (b + 0), .int (nI w_)].toArray s 0 0 (ts_A b 52 s.heap.size)) (F0 m 23 ls []) := by
      intro fu
      induction fu with
      | zero => intro k s_ F _ _ _ hn; exact absurd hn (Nat.not_lt_zero _)
      | succ fu ih4 =>
        intro k s_ F hk hs_ hI hn H locs hW hS ls hl
        refine lv_iload_n hx hb dX5_migrate_23 rfl (lv_at hl 0 rfl) ?_
        refine lv_iload_n hx hb dX5_migrate_24 rfl (lv_at hl 2 rfl) ?_
        refine lv_icmp_ge (tgt := 72) hx hb dX5_migrate_25 (by decide) (fun c5 => ?_) (fun c5 => ?_)
        · skip
          rw [nI_leI (by omega) (by omega)] at c5
          refine lv_iload_n hx hb dX5_migrate_72 rfl (lv_at hl 2 rfl) ?_
          exact ts_iret (u := ((va_up u.1.1 2 s_, u.1.2), F, u.2.2.1, u.2.2.2)) (v := nI w_) C0 hW hS (by exact ⟨s_, k, congrArg nI (by omega), hI, hs_, by omega, F, rfl⟩) dX5_migrate_73
        rw [nI_leI (by omega) (by omega)] at c5
        refine lv_aload_n hx hb dX5_migrate_28 rfl (lv_at hl 1 rfl) ?_
        refine ts_retI (va_runV (As := []) (rest := []) ⟨hx, hb, hml, hown, hts⟩ (k_X5_nextToType l D q b H.size ((va_up u.1.1 2 s_, u.1.2), F, u.2.2.1, u.2.2.2) (hwf.typ hs_)) (cwV 0 hts gX5_migrate_X5_nextToType rfl rfl rfl (by decide +kernel) ⟨Nat.le_of_ble_eq_true rfl, Nat.le_of_ble_eq_true rfl⟩) (ts_preV hK hN hW 0 (by decide) cel_st rfl) rfl rfl hl.1 rfl (lv_room (Nat.le_of_ble_eq_true rfl)) dX5_migrate_29 ⟨Nat.zero_le _, Nat.zero_le _⟩) hS (fun x h => ts_Aup hS.1 h) (fun r6 u7 H locs hp8 hW _ _ hS => ?_)
        obtain ⟨hp8r, F9, hp8u⟩ := hp8
        have hp8r : r6 = zI (nextN (va_up u.1.1 2 s_, u.1.2) u.2.2.2.2.2) := hp8r
        have hp8u : u7 = ((va_up u.1.1 2 s_, u.1.2), F9, u.2.2.1, u.2.2.2) := hp8u
        rw [hp8r]
        rw [hp8u] at hW
        have hq10 : nextN (va_up u.1.1 2 s_, u.1.2) u.2.2.2.2.2 ≤ u.1.1 1 := nxtN_le _ _ _ _
        refine lv_istore_n (lv' := [(3, .int (zI (nextN (va_up u.1.1 2 s_, u.1.2) u.2.2.2.2.2))), (2, .int (nI k)), (0, .ref (b + 0)), (1, .int (nI w_))]) hx hb dX5_migrate_32 rfl hl (by decide) rfl (fun ls hl => ?_)
        refine lv_iload_n hx hb dX5_migrate_33 rfl (lv_at hl 0 rfl) ?_
        refine lv_iconst (v := (-1)) hx hb dX5_migrate_34 (by decide) ?_
        refine lv_icmp_eq (tgt := 46) hx hb dX5_migrate_35 (by decide) (fun c11 => ?_) (fun c11 => ?_)
        · skip
          rw [zI_m1 (by omega)] at c11
          refine lv_iload_n hx hb dX5_migrate_46 rfl (lv_at hl 1 rfl) ?_
          exact ts_iret (u := ((va_up u.1.1 2 s_, u.1.2), F9, u.2.2.1, u.2.2.2)) (v := nI k) C0 hW hS (by exact ⟨s_, k, rfl, hI, hs_, by omega, F9, rfl⟩) dX5_migrate_47
        rw [zI_m1 (by omega)] at c11
        have hn0 := c11
        have hmn := hI.next hwf u.2.2.2.2.2 hn0
        refine lv_aload_n hx hb dX5_migrate_38 rfl (lv_at hl 2 rfl) ?_
        refine lv_iload_n hx hb dX5_migrate_39 rfl (lv_at hl 0 rfl) ?_
        refine ts_int (y := nI ((nextN (va_up u.1.1 2 s_, u.1.2) u.2.2.2.2.2) - 1)) (zI_pred hn0) ?_
        refine ts_retI (va_runV (As := [.int (nI ((nextN (va_up u.1.1 2 s_, u.1.2) u.2.2.2.2.2) - 1))]) (rest := []) ⟨hx, hb, hml, hown, hts⟩ (k_X5_gainOf l D q b H.size ((va_up u.1.1 2 s_, u.1.2), F9, u.2.2.1, u.2.2.2) ((nextN (va_up u.1.1 2 s_, u.1.2) u.2.2.2.2.2) - 1) (hwf.typ hs_) (by omega)) (cwV 1 hts gX5_migrate_X5_gainOf rfl rfl rfl (by decide +kernel) ⟨Nat.le_of_ble_eq_true rfl, Nat.le_of_ble_eq_true rfl⟩) (ts_preV hK hN hW 0 (by decide) cel_st rfl) rfl rfl hl.1 rfl (lv_room (Nat.le_of_ble_eq_true rfl)) dX5_migrate_40 ⟨Nat.zero_le _, Nat.zero_le _⟩) hS (fun x h => ts_Aup hS.1 h) (fun r12 u13 H locs hp14 hW _ _ hS => ?_)
        have hp14r : r12 = gainI (va_up u.1.1 2 s_, u.1.2) u.2.2.2.2.2 ((nextN (va_up u.1.1 2 s_, u.1.2) u.2.2.2.2.2) - 1) := hp14.1
        have hp14u : u13 = ((va_up u.1.1 2 s_, u.1.2), F9, u.2.2.1, u.2.2.2) := hp14.2
        rw [hp14r]
        rw [hp14u] at hW
        refine lv_if_ge (tgt := 48) hx hb dX5_migrate_43 (by decide) (fun c15 => ?_) (fun c15 => ?_)
        · skip
          refine lv_aload_n hx hb dX5_migrate_48 rfl (lv_at hl 2 rfl) ?_
          refine ts_get (C := RX5) (T := TX5) (N := 4) (v := .ref (b + 1)) hx hb hts hi5 hown hK hW 0 (by decide) cel_st rfl 0 (by decide) (List.mem_of_getElem? (i := 3) rfl) rfl dX5_migrate_49 ?_
          refine lv_aload_n hx hb dX5_migrate_52 rfl (lv_at hl 2 rfl) ?_
          refine ts_get (C := RX5) (T := TX5) (N := 4) (v := .ref (b + 1)) hx hb hts hi5 hown hK hW 0 (by decide) cel_st rfl 0 (by decide) (List.mem_of_getElem? (i := 3) rfl) rfl dX5_migrate_53 ?_
          refine ts_get (C := RX3) (T := TX3) (N := 5) (v := .int (nI s_)) hx hb hts hi3 hown hK hW 1 (by decide) cel_pr rfl 3 (by decide) (List.mem_of_getElem? (i := 4) rfl) rfl dX5_migrate_56 ?_
          refine lv_iload_n hx hb dX5_migrate_59 rfl (lv_at hl 0 rfl) ?_
          refine ts_int (y := nI ((nextN (va_up u.1.1 2 s_, u.1.2) u.2.2.2.2.2) - 1)) (zI_pred hn0) ?_
          refine ts_retI (va_runS (As := [.int (nI s_), .int (nI ((nextN (va_up u.1.1 2 s_, u.1.2) u.2.2.2.2.2) - 1))]) (rest := [.ref (b + 1)]) ⟨hx, hb, hml, hown, hts⟩ (k_X5_with l D q b H.size ((va_up u.1.1 2 s_, u.1.2), F9, u.2.2.1, u.2.2.2) s_ ((nextN (va_up u.1.1 2 s_, u.1.2) u.2.2.2.2.2) - 1) (by omega)) (va_cwS 2 hts gX5_migrate_X5_with rfl rfl rfl (by decide +kernel) ⟨Nat.le_of_ble_eq_true rfl, Nat.le_of_ble_eq_true rfl⟩) (ts_preS hK hN hW) rfl rfl hl.1 rfl (lv_room (Nat.le_of_ble_eq_true rfl)) dX5_migrate_60 ⟨Nat.zero_le _, Nat.zero_le _⟩) hS (fun x h => ts_Aup hS.1 h) (fun r16 u17 H locs hp18 hW _ _ hS => ?_)
          have hp18r : r16 = nI (setB s_ ((nextN (va_up u.1.1 2 s_, u.1.2) u.2.2.2.2.2) - 1)) := hp18.1
          have hp18u : u17 = ((va_up u.1.1 2 s_, u.1.2), F9, u.2.2.1, u.2.2.2) := hp18.2
          rw [hp18r]
          rw [hp18u] at hW
          refine ts_put (C := RX3) (T := TX3) (N := 5) (v := .int (nI (setB s_ ((nextN (va_up u.1.1 2 s_, u.1.2) u.2.2.2.2.2) - 1)))) hx hb hts hi3 tyX3 tyX3_ok nmX3 hown hK hW hS hB 1 (by decide) cel_pr rfl 3 (by decide) (List.mem_of_getElem? (i := 4) rfl) rfl rfl rfl (Nat.le_of_ble_eq_true rfl) (cel q b ((va_up (va_up u.1.1 2 s_) 2 (setB s_ ((nextN (va_up u.1.1 2 s_, u.1.2) u.2.2.2.2.2) - 1)), u.1.2), F9, u.2.2.1, u.2.2.2)) rfl (cel_oP rfl (fun i hi => va_up_ne _ _ (by omega)) rfl rfl) dX5_migrate_63 (fun H locs _ _ hW hS => ?_)
          refine lv_iinc (v := nI (k + 1)) (lv' := [(2, .int (nI (k + 1))), (3, .int (zI (nextN (va_up u.1.1 2 s_, u.1.2) u.2.2.2.2.2))), (0, .ref (b + 0)), (1, .int (nI w_))]) hx hb dX5_migrate_66 hl (k := 1) rfl (nI_add k 1) (by decide) rfl (fun ls hl => ?_)
          refine lv_goto (tgt := 23) hx hb dX5_migrate_69 (by decide) ?_
          have e19 : ((va_up u.1.1 2 (setB s_ (nextN (va_up u.1.1 2 s_, u.1.2) u.2.2.2.2.2 - 1)), u.1.2), F9, u.2.2.1, u.2.2.2) = ((va_up (va_up u.1.1 2 s_) 2 (setB s_ ((nextN (va_up u.1.1 2 s_, u.1.2) u.2.2.2.2.2) - 1)), u.1.2), F9, u.2.2.1, u.2.2.2) := by rw [bx_uu]
          exact ih4 (k + 1) (setB s_ (nextN (va_up u.1.1 2 s_, u.1.2) u.2.2.2.2.2 - 1)) F9 (by omega) (setB_lt hs_ (by omega)) hmn.1 (by omega) H locs (by rw [e19]; exact hW) hS ls (lv_sub hl [0, 2, 3] rfl)
        refine lv_iload_n hx hb dX5_migrate_46 rfl (lv_at hl 1 rfl) ?_
        exact ts_iret (u := ((va_up u.1.1 2 s_, u.1.2), F9, u.2.2.1, u.2.2.2)) (v := nI k) C0 hW hS (by exact ⟨s_, k, rfl, hI, hs_, by omega, F9, rfl⟩) dX5_migrate_47
    have e20 : ((va_up u.1.1 2 (u.1.1 2), u.1.2), u.2.1, u.2.2.1, u.2.2.2) = u := by rw [up_id]
    exact key3 _ 0 (u.1.1 2) u.2.1 (by omega) hwf.ty (MigI.zero _) (Nat.lt_succ_self _) _ _ (by rw [e20]; exact hW) hS ls (lv_sub hl [0, 1, 2] rfl)
  rw [nI_leI (by omega) (by omega)] at c2
  exfalso; omega
