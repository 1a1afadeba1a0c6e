set_option maxHeartbeats 4000000 in
set_option maxRecDepth 100000 in
theorem k_X5_stepAt (l : Launch) (D : va_G) (q : CQ) (b sz : Nat) (u : ST) (f j : Nat) (hwf : WP u.1) (hf : f < u.1.1 1) (hj : j < u.1.1 (20 + f)) : Met l yX5_stepAt wsX5_stepAt ({ frames := 1, cells := 0, slots := 0, locals := 21 } : Room) (va_Pc [.ref (b + 0), .int (nI f), .int (nI j)] (Pr D q b sz u)) (cI D q b sz (fun r u' => r = nI (u.1.2 f j) ∧ u' = u)) 0 0 (ts_A b 52 sz) := by
  refine ts_met (by decide) rfl (Nat.le_of_ble_eq_true rfl) ?_
  intro p e s m below meth c C0 hX ls hl
  obtain ⟨hsz, hW, hK, hN⟩ := hX
  subst hsz
  obtain ⟨hx, hb, hml, hown, hts, -, -, -⟩ := id C0
  have hW : ts_W D b 52 (cel q b u) s.heap := hW
  have hS : va_S (ts_A b 52 s.heap.size) s.heap s.heap [] := va_S.rf
  have hB : ∀ k, k < 52 → ts_A b 52 s.heap.size (b + k) := fun k hk => ts_Ain hk
  have hi2 : ∀ w ∈ wsX20, w ∈ wsX5_stepAt := ts_lays 22 rfl
  have hi3 : ∀ w ∈ wsX30, w ∈ wsX5_stepAt := ts_lays 17 rfl
  have hi5 : ∀ w ∈ wsX50, w ∈ wsX5_stepAt := ts_lays 13 rfl
  have hl : lv_has ls 4 [(0, .ref (b + 0)), (1, .int (nI f)), (2, .int (nI j))] := hl
  have hs := hwf.sz
  have hsz := hwf.fsz (i := f) (by omega)
  refine lv_aload_n hx hb dX5_stepAt_0 rfl (lv_at hl 0 rfl) ?_
  refine lv_iload_n hx hb dX5_stepAt_1 rfl (lv_at hl 1 rfl) ?_
  refine ts_retV (va_runV (As := [.int (nI f)]) (rest := []) ⟨hx, hb, hml, hown, hts⟩ (k_X5_requireFunction l D q b s.heap.size u f hwf (by first | omega | (show f < u.1.1 1; omega))) (cwV 1 hts gX5_stepAt_X5_requireFunction rfl rfl rfl (by decide +kernel) ⟨Nat.le_of_ble_eq_true rfl, Nat.le_of_ble_eq_true rfl⟩) (ts_preV hK hN hW 0 (by decide) cel_st rfl) rfl rfl hl.1 rfl (lv_room (Nat.le_of_ble_eq_true rfl)) dX5_stepAt_2 ⟨Nat.zero_le _, Nat.zero_le _⟩) hS (fun x h => ts_Aup hS.1 h) (fun u2 H locs hp3 hW _ _ hS => ?_)
  have hp3u : u2 = u := hp3
  rw [hp3u] at hW
  refine lv_aload_n hx hb dX5_stepAt_5 rfl (lv_at hl 0 rfl) ?_
  refine ts_get (C := RX5) (T := TX5) (N := 4) (v := .ref (b + 1)) hx hb hts hi5 hown hK hW 0 (by decide) cel_st rfl 0 (by decide) (List.mem_of_getElem? (i := 3) rfl) rfl dX5_stepAt_6 ?_
  refine ts_get (C := RX3) (T := TX3) (N := 5) (v := .ref (b + 2)) hx hb hts hi3 hown hK hW 1 (by decide) cel_pr rfl 0 (by decide) (List.mem_of_getElem? (i := 4) rfl) rfl dX5_stepAt_9 ?_
  refine lv_iload_n hx hb dX5_stepAt_12 rfl (lv_at hl 1 rfl) ?_
  refine ts_aald (a := b + (3 + 2 * f)) hx hb hK hW 2 (by decide) 1 cel_fs rfl rfl (by omega) (by decide) rfl dX5_stepAt_13 ?_
  refine lv_astore_n (lv' := [(3, .ref (b + (3 + 2 * f))), (0, .ref (b + 0)), (1, .int (nI f)), (2, .int (nI j))]) hx hb dX5_stepAt_14 rfl hl (by decide) rfl (fun ls hl => ?_)
  refine lv_iload_n hx hb dX5_stepAt_15 rfl (lv_at hl 3 rfl) ?_
  refine lv_if_lt (tgt := 27) hx hb dX5_stepAt_16 (by decide) (fun c4 => ?_) (fun c4 => ?_)
  · skip
    rw [ts_lt0 (by omega)] at c4
    exfalso; omega
  rw [ts_lt0 (by omega)] at c4
  refine lv_iload_n hx hb dX5_stepAt_19 rfl (lv_at hl 3 rfl) ?_
  refine lv_aload_n hx hb dX5_stepAt_20 rfl (lv_at hl 0 rfl) ?_
  refine ts_get (C := RX2) (T := TX2) (N := 4) (v := .int (nI (u.1.1 (20 + f)))) hx hb hts hi2 hown hK hW (3 + 2 * f) (by omega) (cel_fn (by omega)) rfl 1 (by decide) (List.mem_of_getElem? (i := 5) rfl) rfl dX5_stepAt_21 ?_
  have hq5 := hwf.fsz (i := f) (by omega)
  refine lv_icmp_lt (tgt := 37) hx hb dX5_stepAt_24 (by decide) (fun c6 => ?_) (fun c6 => ?_)
  · skip
    rw [nI_ltI (by omega) (by omega)] at c6
    refine lv_aload_n hx hb dX5_stepAt_37 rfl (lv_at hl 0 rfl) ?_
    refine ts_get (C := RX2) (T := TX2) (N := 4) (v := .ref (b + (4 + 2 * f))) hx hb hts hi2 hown hK hW (3 + 2 * f) (by omega) (cel_fn (by omega)) rfl 0 (by decide) (List.mem_of_getElem? (i := 6) rfl) rfl dX5_stepAt_38 ?_
    refine lv_iload_n hx hb dX5_stepAt_41 rfl (lv_at hl 3 rfl) ?_
    refine ts_iald (v := nI (u.1.2 f j)) hx hb hK hW (4 + 2 * f) (by omega) 0 (cel_sp (by omega)) rfl (by omega) (by decide) rfl dX5_stepAt_42 ?_
    have hq7 := hwf.stp (i := f) (j := j) (by omega) (by omega)
    exact ts_iret (u := u) (v := nI (u.1.2 f j)) C0 hW hS (by exact ⟨rfl, rfl⟩) dX5_stepAt_43
  rw [nI_ltI (by omega) (by omega)] at c6
  exfalso; omega
set_option maxHeartbeats 4000000 in
set_option maxRecDepth 100000 in
theorem k_X5_ofFunction (l : Launch) (D : va_G) (q : CQ) (b sz : Nat) (u : ST) (f w_ : Nat) (hwf : WP u.1) (hf : f < u.1.1 1) (hw : w_ ≤ 10) : Met l yX5_ofFunction wsX5_ofFunction ({ frames := 3, cells := 0, slots := 0, locals := 66 } : Room) (va_Pc [.ref (b + 0), .int (nI f), .int (nI w_)] (Pr D q b sz u)) (cI D q b sz (fun r u' => r = ofFI u.1 u.2.2.2 f w_ ∧ ∃ F : FT, u' = (u.1, F, u.2.2))) 0 0 (ts_A b 52 sz) := by
  refine ts_met (by decide) rfl (Nat.le_of_ble_eq_true rfl) ?_
  intro p e s m below meth c C0 hX ls hl
  obtain ⟨hsz, hW, hK, hN⟩ := hX
  subst hsz
  obtain ⟨hx, hb, hml, hown, hts, -, -, -⟩ := id C0
  have hW : ts_W D b 52 (cel q b u) s.heap := hW
  have hS : va_S (ts_A b 52 s.heap.size) s.heap s.heap [] := va_S.rf
  have hB : ∀ k, k < 52 → ts_A b 52 s.heap.size (b + k) := fun k hk => ts_Ain hk
  have hi1 : ∀ w ∈ wsX10, w ∈ wsX5_ofFunction := ts_lays 103 rfl
  have hi2 : ∀ w ∈ wsX20, w ∈ wsX5_ofFunction := ts_lays 99 rfl
  have hi3 : ∀ w ∈ wsX30, w ∈ wsX5_ofFunction := ts_lays 94 rfl
  have hi5 : ∀ w ∈ wsX50, w ∈ wsX5_ofFunction := ts_lays 90 rfl
  have hl : lv_has ls 4 [(0, .ref (b + 0)), (1, .int (nI f)), (2, .int (nI w_))] := hl
  have hs := hwf.sz
  have hty := hwf.ty
  refine lv_aload_n hx hb dX5_ofFunction_0 rfl (lv_at hl 0 rfl) ?_
  refine lv_iload_n hx hb dX5_ofFunction_1 rfl (lv_at hl 1 rfl) ?_
  refine ts_retV (va_runV (As := [.int (nI f)]) (rest := []) ⟨hx, hb, hml, hown, hts⟩ (k_X5_requireFunction l D q b s.heap.size u f hwf (by first | omega | (show f < u.1.1 1; omega))) (cwV 1 hts gX5_ofFunction_X5_requireFunction rfl rfl rfl (by decide +kernel) ⟨Nat.le_of_ble_eq_true rfl, Nat.le_of_ble_eq_true rfl⟩) (ts_preV hK hN hW 0 (by decide) cel_st rfl) rfl rfl hl.1 rfl (lv_room (Nat.le_of_ble_eq_true rfl)) dX5_ofFunction_2 ⟨Nat.zero_le _, Nat.zero_le _⟩) hS (fun x h => ts_Aup hS.1 h) (fun u2 H locs hp3 hW _ _ hS => ?_)
  have hp3u : u2 = u := hp3
  rw [hp3u] at hW
  refine lv_iload_n hx hb dX5_ofFunction_5 rfl (lv_at hl 2 rfl) ?_
  refine lv_bipush (v := nI 10) hx hb dX5_ofFunction_6 (by decide) ?_
  refine ts_retV (va_runS (As := [.int (nI w_), .int (nI 10)]) (rest := []) ⟨hx, hb, hml, hown, hts⟩ (k_X5_requireWhat l D q b H.size u w_ 10 (by omega) (by omega)) (va_cwS 2 hts gX5_ofFunction_X5_requireWhat rfl rfl rfl (by decide +kernel) ⟨Nat.le_of_ble_eq_true rfl, Nat.le_of_ble_eq_true rfl⟩) (ts_preS hK hN hW) rfl rfl hl.1 rfl (lv_room (Nat.le_of_ble_eq_true rfl)) dX5_ofFunction_8 ⟨Nat.zero_le _, Nat.zero_le _⟩) hS (fun x h => ts_Aup hS.1 h) (fun u5 H locs hp6 hW _ _ hS => ?_)
  have hp6u : u5 = u := hp6
  rw [hp6u] at hW
  refine lv_aload_n hx hb dX5_ofFunction_11 rfl (lv_at hl 0 rfl) ?_
  refine ts_get (C := RX5) (T := TX5) (N := 4) (v := .ref (b + 1)) hx hb hts hi5 hown hK hW 0 (by decide) cel_st rfl 0 (by decide) (List.mem_of_getElem? (i := 1) rfl) rfl dX5_ofFunction_12 ?_
  refine ts_get (C := RX3) (T := TX3) (N := 5) (v := .ref (b + 2)) hx hb hts hi3 hown hK hW 1 (by decide) cel_pr rfl 0 (by decide) (List.mem_of_getElem? (i := 2) rfl) rfl dX5_ofFunction_15 ?_
  refine lv_iload_n hx hb dX5_ofFunction_18 rfl (lv_at hl 1 rfl) ?_
  refine ts_aald (a := b + (3 + 2 * f)) hx hb hK hW 2 (by decide) 1 cel_fs rfl rfl (by omega) (by decide) rfl dX5_ofFunction_19 ?_
  refine lv_astore_n (lv' := [(3, .ref (b + (3 + 2 * f))), (0, .ref (b + 0)), (1, .int (nI f)), (2, .int (nI w_))]) hx hb dX5_ofFunction_20 rfl hl (by decide) rfl (fun ls hl => ?_)
  refine lv_iload_n hx hb dX5_ofFunction_21 rfl (lv_at hl 3 rfl) ?_
  by_cases c7 : w_ = 0
  · skip
    refine lv_tableIn (tgt := 76) hx hb dX5_ofFunction_22 (by rw [c7]; decide) (by rw [c7]; decide) (by rw [c7]; rfl) (by decide) ?_
    refine lv_aload_n hx hb dX5_ofFunction_76 rfl (lv_at hl 0 rfl) ?_
    refine ts_get (C := RX2) (T := TX2) (N := 4) (v := .int (nI (u.1.1 (20 + f)))) hx hb hts hi2 hown hK hW (3 + 2 * f) (by omega) (cel_fn (by omega)) rfl 1 (by decide) (List.mem_of_getElem? (i := 3) rfl) rfl dX5_ofFunction_77 ?_
    have hq8 := hwf.fsz (i := f) (by omega)
    exact ts_iret (u := u) (v := nI (u.1.1 (20 + f))) C0 hW hS (by refine ⟨?_, u.2.1, rfl⟩; unfold ofFI; (repeat' split) <;> first | rfl | (exfalso; omega)) dX5_ofFunction_80
  by_cases c9 : w_ = 1
  · skip
    refine lv_tableIn (tgt := 81) hx hb dX5_ofFunction_22 (by rw [c9]; decide) (by rw [c9]; decide) (by rw [c9]; rfl) (by decide) ?_
    refine lv_aload_n hx hb dX5_ofFunction_81 rfl (lv_at hl 0 rfl) ?_
    refine ts_get (C := RX2) (T := TX2) (N := 4) (v := .int (nI (u.1.1 (30 + f)))) hx hb hts hi2 hown hK hW (3 + 2 * f) (by omega) (cel_fn (by omega)) rfl 2 (by decide) (List.mem_of_getElem? (i := 4) rfl) rfl dX5_ofFunction_82 ?_
    have hq10 := hwf.fin (i := f) (by omega)
    exact ts_iret (u := u) (v := nI (u.1.1 (30 + f))) C0 hW hS (by refine ⟨?_, u.2.1, rfl⟩; unfold ofFI; (repeat' split) <;> first | rfl | (exfalso; omega)) dX5_ofFunction_85
  by_cases c11 : w_ = 2
  · skip
    refine lv_tableIn (tgt := 86) hx hb dX5_ofFunction_22 (by rw [c11]; decide) (by rw [c11]; decide) (by rw [c11]; rfl) (by decide) ?_
    refine lv_aload_n hx hb dX5_ofFunction_86 rfl (lv_at hl 0 rfl) ?_
    refine ts_get (C := RX2) (T := TX2) (N := 4) (v := .int (nI (u.1.1 (40 + f)))) hx hb hts hi2 hown hK hW (3 + 2 * f) (by omega) (cel_fn (by omega)) rfl 3 (by decide) (List.mem_of_getElem? (i := 5) rfl) rfl dX5_ofFunction_87 ?_
    have hq12 := hwf.fout (i := f) (by omega)
    exact ts_iret (u := u) (v := nI (u.1.1 (40 + f))) C0 hW hS (by refine ⟨?_, u.2.1, rfl⟩; unfold ofFI; (repeat' split) <;> first | rfl | (exfalso; omega)) dX5_ofFunction_90
  by_cases c13 : w_ = 3
  · skip
    refine lv_tableIn (tgt := 91) hx hb dX5_ofFunction_22 (by rw [c13]; decide) (by rw [c13]; decide) (by rw [c13]; rfl) (by decide) ?_
    refine lv_aload_n hx hb dX5_ofFunction_91 rfl (lv_at hl 1 rfl) ?_
    refine ts_get (C := RX5) (T := TX5) (N := 4) (v := .ref (b + 1)) hx hb hts hi5 hown hK hW 0 (by decide) cel_st rfl 0 (by decide) (List.mem_of_getElem? (i := 1) rfl) rfl dX5_ofFunction_92 ?_
    refine ts_get (C := RX3) (T := TX3) (N := 5) (v := .int (nI (u.1.1 2))) hx hb hts hi3 hown hK hW 1 (by decide) cel_pr rfl 3 (by decide) (List.mem_of_getElem? (i := 6) rfl) rfl dX5_ofFunction_95 ?_
    refine lv_iload_n hx hb dX5_ofFunction_98 rfl (lv_at hl 2 rfl) ?_
    refine ts_retI (va_runS (As := [.int (nI (u.1.1 2)), .int (nI f)]) (rest := []) ⟨hx, hb, hml, hown, hts⟩ (k_X5_has l D q b H.size u (u.1.1 2) f (by omega) (by omega)) (va_cwS 2 hts gX5_ofFunction_X5_has rfl rfl rfl (by decide +kernel) ⟨Nat.le_of_ble_eq_true rfl, Nat.le_of_ble_eq_true rfl⟩) (ts_preS hK hN hW) rfl rfl hl.1 rfl (lv_room (Nat.le_of_ble_eq_true rfl)) dX5_ofFunction_99 ⟨Nat.zero_le _, Nat.zero_le _⟩) hS (fun x h => ts_Aup hS.1 h) (fun r14 u15 H locs hp16 hW _ _ hS => ?_)
    have hp16r : r14 = b2i (hasB (u.1.1 2) f) := hp16.1
    have hp16u : u15 = u := hp16.2
    rw [hp16r]
    rw [hp16u] at hW
    refine lv_if_eq (tgt := 109) hx hb dX5_ofFunction_102 (by decide) (fun c17 => ?_) (fun c17 => ?_)
    · skip
      have c17 := ts_bf c17
      have hb3 := c17
      refine lv_iconst (v := nI 0) hx hb dX5_ofFunction_109 (by decide) ?_
      exact ts_iret (u := u) (v := nI 0) C0 hW hS (by refine ⟨?_, u.2.1, rfl⟩; unfold ofFI; rw [if_neg (by omega), if_neg (by omega), if_neg (by omega), if_pos (by omega), hb3]; rfl) dX5_ofFunction_110
    have c17 := ts_bt c17
    have hb3 := c17
    refine lv_iconst (v := nI 1) hx hb dX5_ofFunction_105 (by decide) ?_
    refine lv_goto (tgt := 110) hx hb dX5_ofFunction_106 (by decide) ?_
    exact ts_iret (u := u) (v := nI 1) C0 hW hS (by refine ⟨?_, u.2.1, rfl⟩; unfold ofFI; rw [if_neg (by omega), if_neg (by omega), if_neg (by omega), if_pos (by omega), hb3]; rfl) dX5_ofFunction_110
  by_cases c18 : w_ = 4
  · skip
    refine lv_tableIn (tgt := 111) hx hb dX5_ofFunction_22 (by rw [c18]; decide) (by rw [c18]; decide) (by rw [c18]; rfl) (by decide) ?_
    refine lv_aload_n hx hb dX5_ofFunction_111 rfl (lv_at hl 1 rfl) ?_
    refine ts_get (C := RX5) (T := TX5) (N := 4) (v := .ref (b + 1)) hx hb hts hi5 hown hK hW 0 (by decide) cel_st rfl 0 (by decide) (List.mem_of_getElem? (i := 1) rfl) rfl dX5_ofFunction_112 ?_
    refine lv_iload_n hx hb dX5_ofFunction_115 rfl (lv_at hl 2 rfl) ?_
    refine ts_retR (va_runV (As := [.int (nI f)]) (rest := []) ⟨hx, hb, hml, hown, hts⟩ (k_X3_checked l D q b H.size u f hwf (by omega)) (cwV 1 hts gX5_ofFunction_X3_checked rfl rfl rfl (by decide +kernel) ⟨Nat.le_of_ble_eq_true rfl, Nat.le_of_ble_eq_true rfl⟩) (ts_preV hK hN hW 1 (by decide) cel_pr rfl) rfl rfl hl.1 rfl (lv_room (Nat.le_of_ble_eq_true rfl)) dX5_ofFunction_116 ⟨Nat.zero_le _, Nat.zero_le _⟩) hS (fun x h => ts_Aup hS.1 h) (fun u20 H locs hp21 hW _ _ hS => ?_)
    have hp21u : u20 = (u.1, (chkA u.1 f), u.2.2.1, u.2.2.2) := hp21
    rw [hp21u] at hW
    have hq22 := chkA_le hwf (f := f) (by omega)
    refine ts_get (C := RX1) (T := TX1) (N := 3) (v := .int (nI (((chkA u.1 f)).1))) hx hb hts hi1 hown hK hW 23 (by decide) cel_fi rfl 0 (by decide) (List.mem_of_getElem? (i := 7) rfl) rfl dX5_ofFunction_119 ?_
    exact ts_iret (u := (u.1, (chkA u.1 f), u.2.2.1, u.2.2.2)) (v := nI (((chkA u.1 f)).1)) C0 hW hS (by refine ⟨?_, (chkA u.1 f), rfl⟩; unfold ofFI; (repeat' split) <;> first | rfl | (exfalso; omega)) dX5_ofFunction_122
  by_cases c23 : w_ = 5
  · skip
    refine lv_tableIn (tgt := 123) hx hb dX5_ofFunction_22 (by rw [c23]; decide) (by rw [c23]; decide) (by rw [c23]; rfl) (by decide) ?_
    refine lv_aload_n hx hb dX5_ofFunction_123 rfl (lv_at hl 1 rfl) ?_
    refine ts_get (C := RX5) (T := TX5) (N := 4) (v := .ref (b + 1)) hx hb hts hi5 hown hK hW 0 (by decide) cel_st rfl 0 (by decide) (List.mem_of_getElem? (i := 1) rfl) rfl dX5_ofFunction_124 ?_
    refine lv_iload_n hx hb dX5_ofFunction_127 rfl (lv_at hl 2 rfl) ?_
    refine ts_retR (va_runV (As := [.int (nI f)]) (rest := []) ⟨hx, hb, hml, hown, hts⟩ (k_X3_checked l D q b H.size u f hwf (by omega)) (cwV 1 hts gX5_ofFunction_X3_checked rfl rfl rfl (by decide +kernel) ⟨Nat.le_of_ble_eq_true rfl, Nat.le_of_ble_eq_true rfl⟩) (ts_preV hK hN hW 1 (by decide) cel_pr rfl) rfl rfl hl.1 rfl (lv_room (Nat.le_of_ble_eq_true rfl)) dX5_ofFunction_128 ⟨Nat.zero_le _, Nat.zero_le _⟩) hS (fun x h => ts_Aup hS.1 h) (fun u25 H locs hp26 hW _ _ hS => ?_)
    have hp26u : u25 = (u.1, (chkA u.1 f), u.2.2.1, u.2.2.2) := hp26
    rw [hp26u] at hW
    have hq27 := chkA_le hwf (f := f) (by omega)
    refine ts_get (C := RX1) (T := TX1) (N := 3) (v := .int (((chkA u.1 f)).2.1)) hx hb hts hi1 hown hK hW 23 (by decide) cel_fi rfl 1 (by decide) (List.mem_of_getElem? (i := 8) rfl) rfl dX5_ofFunction_131 ?_
    exact ts_iret (u := (u.1, (chkA u.1 f), u.2.2.1, u.2.2.2)) (v := ((chkA u.1 f)).2.1) C0 hW hS (by refine ⟨?_, (chkA u.1 f), rfl⟩; unfold ofFI; (repeat' split) <;> first | rfl | (exfalso; omega)) dX5_ofFunction_134
  by_cases c28 : w_ = 6
  · skip
    refine lv_tableIn (tgt := 135) hx hb dX5_ofFunction_22 (by rw [c28]; decide) (by rw [c28]; decide) (by rw [c28]; rfl) (by decide) ?_
    refine lv_aload_n hx hb dX5_ofFunction_135 rfl (lv_at hl 1 rfl) ?_
    refine ts_get (C := RX5) (T := TX5) (N := 4) (v := .ref (b + 1)) hx hb hts hi5 hown hK hW 0 (by decide) cel_st rfl 0 (by decide) (List.mem_of_getElem? (i := 1) rfl) rfl dX5_ofFunction_136 ?_
    refine lv_iload_n hx hb dX5_ofFunction_139 rfl (lv_at hl 2 rfl) ?_
    refine ts_retR (va_runV (As := [.int (nI f)]) (rest := []) ⟨hx, hb, hml, hown, hts⟩ (k_X3_checked l D q b H.size u f hwf (by omega)) (cwV 1 hts gX5_ofFunction_X3_checked rfl rfl rfl (by decide +kernel) ⟨Nat.le_of_ble_eq_true rfl, Nat.le_of_ble_eq_true rfl⟩) (ts_preV hK hN hW 1 (by decide) cel_pr rfl) rfl rfl hl.1 rfl (lv_room (Nat.le_of_ble_eq_true rfl)) dX5_ofFunction_140 ⟨Nat.zero_le _, Nat.zero_le _⟩) hS (fun x h => ts_Aup hS.1 h) (fun u30 H locs hp31 hW _ _ hS => ?_)
    have hp31u : u30 = (u.1, (chkA u.1 f), u.2.2.1, u.2.2.2) := hp31
    rw [hp31u] at hW
    have hq32 := chkA_le hwf (f := f) (by omega)
    refine ts_get (C := RX1) (T := TX1) (N := 3) (v := .int (nI (((chkA u.1 f)).2.2))) hx hb hts hi1 hown hK hW 23 (by decide) cel_fi rfl 2 (by decide) (List.mem_of_getElem? (i := 9) rfl) rfl dX5_ofFunction_143 ?_
    exact ts_iret (u := (u.1, (chkA u.1 f), u.2.2.1, u.2.2.2)) (v := nI (((chkA u.1 f)).2.2)) C0 hW hS (by refine ⟨?_, (chkA u.1 f), rfl⟩; unfold ofFI; (repeat' split) <;> first | rfl | (exfalso; omega)) dX5_ofFunction_146
  by_cases c33 : w_ = 7
  · skip
    refine lv_tableIn (tgt := 147) hx hb dX5_ofFunction_22 (by rw [c33]; decide) (by rw [c33]; decide) (by rw [c33]; rfl) (by decide) ?_
    refine lv_aload_n hx hb dX5_ofFunction_147 rfl (lv_at hl 1 rfl) ?_
    refine ts_get (C := RX5) (T := TX5) (N := 4) (v := .ref (b + 1)) hx hb hts hi5 hown hK hW 0 (by decide) cel_st rfl 0 (by decide) (List.mem_of_getElem? (i := 1) rfl) rfl dX5_ofFunction_148 ?_
    refine lv_aload_n hx hb dX5_ofFunction_151 rfl (lv_at hl 0 rfl) ?_
    refine ts_retI (va_runV (As := [.ref (b + (3 + 2 * f))]) (rest := []) ⟨hx, hb, hml, hown, hts⟩ (k_X3_guessIn l D q b H.size u f hwf (by omega)) (cwV 1 hts gX5_ofFunction_X3_guessIn rfl rfl rfl (by decide +kernel) ⟨Nat.le_of_ble_eq_true rfl, Nat.le_of_ble_eq_true rfl⟩) (ts_preV hK hN hW 1 (by decide) cel_pr rfl) rfl rfl hl.1 rfl (lv_room (Nat.le_of_ble_eq_true rfl)) dX5_ofFunction_152 ⟨Nat.zero_le _, Nat.zero_le _⟩) hS (fun x h => ts_Aup hS.1 h) (fun r34 u35 H locs hp36 hW _ _ hS => ?_)
    have hp36r : r34 = nI (guessI u.1 f) := hp36.1
    have hp36u : u35 = u := hp36.2
    rw [hp36r]
    rw [hp36u] at hW
    exact ts_iret (u := u) (v := nI (guessI u.1 f)) C0 hW hS (by refine ⟨?_, u.2.1, rfl⟩; unfold ofFI; (repeat' split) <;> first | rfl | (exfalso; omega)) dX5_ofFunction_155
  by_cases c37 : w_ = 8
  · skip
    refine lv_tableIn (tgt := 156) hx hb dX5_ofFunction_22 (by rw [c37]; decide) (by rw [c37]; decide) (by rw [c37]; rfl) (by decide) ?_
    refine lv_aload_n hx hb dX5_ofFunction_156 rfl (lv_at hl 1 rfl) ?_
    refine ts_get (C := RX5) (T := TX5) (N := 4) (v := .ref (b + 1)) hx hb hts hi5 hown hK hW 0 (by decide) cel_st rfl 0 (by decide) (List.mem_of_getElem? (i := 1) rfl) rfl dX5_ofFunction_157 ?_
    refine lv_aload_n hx hb dX5_ofFunction_160 rfl (lv_at hl 0 rfl) ?_
    refine ts_retI (va_runV (As := [.ref (b + (3 + 2 * f))]) (rest := []) ⟨hx, hb, hml, hown, hts⟩ (k_X3_guessOut l D q b H.size u f hwf (by omega)) (cwV 1 hts gX5_ofFunction_X3_guessOut rfl rfl rfl (by decide +kernel) ⟨Nat.le_of_ble_eq_true rfl, Nat.le_of_ble_eq_true rfl⟩) (ts_preV hK hN hW 1 (by decide) cel_pr rfl) rfl rfl hl.1 rfl (lv_room (Nat.le_of_ble_eq_true rfl)) dX5_ofFunction_161 ⟨Nat.zero_le _, Nat.zero_le _⟩) hS (fun x h => ts_Aup hS.1 h) (fun r38 u39 H locs hp40 hW _ _ hS => ?_)
    have hp40r : r38 = nI (guessO u.1 f) := hp40.1
    have hp40u : u39 = u := hp40.2
    rw [hp40r]
    rw [hp40u] at hW
    exact ts_iret (u := u) (v := nI (guessO u.1 f)) C0 hW hS (by refine ⟨?_, u.2.1, rfl⟩; unfold ofFI; (repeat' split) <;> first | rfl | (exfalso; omega)) dX5_ofFunction_164
  by_cases c41 : w_ = 9
  · skip
    refine lv_tableIn (tgt := 165) hx hb dX5_ofFunction_22 (by rw [c41]; decide) (by rw [c41]; decide) (by rw [c41]; rfl) (by decide) ?_
    refine lv_aload_n hx hb dX5_ofFunction_165 rfl (lv_at hl 1 rfl) ?_
    refine ts_get (C := RX5) (T := TX5) (N := 4) (v := .ref (b + 1)) hx hb hts hi5 hown hK hW 0 (by decide) cel_st rfl 0 (by decide) (List.mem_of_getElem? (i := 1) rfl) rfl dX5_ofFunction_166 ?_
    refine lv_iload_n hx hb dX5_ofFunction_169 rfl (lv_at hl 2 rfl) ?_
    refine ts_retI (va_runV (As := [.int (nI f)]) (rest := []) ⟨hx, hb, hml, hown, hts⟩ (k_X3_callersOf l D q b H.size u f hwf (by omega)) (cwV 1 hts gX5_ofFunction_X3_callersOf rfl rfl rfl (by decide +kernel) ⟨Nat.le_of_ble_eq_true rfl, Nat.le_of_ble_eq_true rfl⟩) (ts_preV hK hN hW 1 (by decide) cel_pr rfl) rfl rfl hl.1 rfl (lv_room (Nat.le_of_ble_eq_true rfl)) dX5_ofFunction_170 ⟨Nat.zero_le _, Nat.zero_le _⟩) hS (fun x h => ts_Aup hS.1 h) (fun r42 u43 H locs hp44 hW _ _ hS => ?_)
    have hp44r : r42 = nI (calN u.1 f (u.1.1 1)) := hp44.1
    have hp44u : u43 = u := hp44.2
    rw [hp44r]
    rw [hp44u] at hW
    exact ts_iret (u := u) (v := nI (calN u.1 f (u.1.1 1))) C0 hW hS (by refine ⟨?_, u.2.1, rfl⟩; unfold ofFI; (repeat' split) <;> first | rfl | (exfalso; omega)) dX5_ofFunction_173
  refine lv_tableOut (tgt := 174) hx hb dX5_ofFunction_22 (by rw [nI_toInt (by omega)]; omega) (by decide) ?_
  refine lv_aload_n hx hb dX5_ofFunction_174 rfl (lv_at hl 1 rfl) ?_
  refine ts_get (C := RX5) (T := TX5) (N := 4) (v := .ref (b + 37)) hx hb hts hi5 hown hK hW 0 (by decide) cel_st rfl 2 (by decide) (List.mem_of_getElem? (i := 10) rfl) rfl dX5_ofFunction_175 ?_
  refine lv_iload_n hx hb dX5_ofFunction_178 rfl (lv_at hl 2 rfl) ?_
  refine ts_retI (va_runV (As := [.int (nI f)]) (rest := []) ⟨hx, hb, hml, hown, hts⟩ (k_X0_timesCalled l D q b H.size u f (by omega)) (cwV 1 hts gX5_ofFunction_X0_timesCalled rfl rfl rfl (by decide +kernel) ⟨Nat.le_of_ble_eq_true rfl, Nat.le_of_ble_eq_true rfl⟩) (ts_preV hK hN hW 37 (by decide) cel_bk rfl) rfl rfl hl.1 rfl (lv_room (Nat.le_of_ble_eq_true rfl)) dX5_ofFunction_179 ⟨Nat.zero_le _, Nat.zero_le _⟩) hS (fun x h => ts_Aup hS.1 h) (fun r45 u46 H locs hp47 hW _ _ hS => ?_)
  have hp47r : r45 = nI (sumN u.2.2.2.2.2 f 11) := hp47.1
  have hp47u : u46 = u := hp47.2
  rw [hp47r]
  rw [hp47u] at hW
  exact ts_iret (u := u) (v := nI (sumN u.2.2.2.2.2 f 11)) C0 hW hS (by refine ⟨?_, u.2.1, rfl⟩; unfold ofFI; (repeat' split) <;> first | rfl | (exfalso; omega)) dX5_ofFunction_182
set_option maxHeartbeats 4000000 in
set_option maxRecDepth 100000 in
theorem k_X5_many (l : Launch) (D : va_G) (q : CQ) (b sz : Nat) (u : ST) (w_ : Nat) (hwf : WP u.1) (hw : w_ ≤ 8) : Met l yX5_many wsX5_many ({ frames := 4, cells := 0, slots := 0, locals := 88 } : Room) (va_Pc [.ref (b + 0), .int (nI w_)] (Pr D q b sz u)) (cI D q b sz (fun r u' => r = nI (manyN u.1 u.2.2.2 w_) ∧ ∃ F : FT, u' = (u.1, F, u.2.2))) 0 0 (ts_A b 52 sz) := by
  refine ts_met (by decide) rfl (Nat.le_of_ble_eq_true rfl) ?_
  intro p e s m below meth c C0 hX ls hl
  obtain ⟨hsz, hW, hK, hN⟩ := hX
  subst hsz
  obtain ⟨hx, hb, hml, hown, hts, -, -, -⟩ := id C0
  have hW : ts_W D b 52 (cel q b u) s.heap := hW
  have hS : va_S (ts_A b 52 s.heap.size) s.heap s.heap [] := va_S.rf
  have hB : ∀ k, k < 52 → ts_A b 52 s.heap.size (b + k) := fun k hk => ts_Ain hk
  have hi0 : ∀ w ∈ wsX00, w ∈ wsX5_many := ts_lays 102 rfl
  have hi3 : ∀ w ∈ wsX30, w ∈ wsX5_many := ts_lays 97 rfl
  have hi5 : ∀ w ∈ wsX50, w ∈ wsX5_many := ts_lays 93 rfl
  have hl : lv_has ls 2 [(0, .ref (b + 0)), (1, .int (nI w_))] := hl
  have hs := hwf.sz
  have hty := hwf.ty
  have htn := typN_lt u.1 _ hs
  refine lv_iload_n hx hb dX5_many_0 rfl (lv_at hl 1 rfl) ?_
  refine lv_bipush (v := nI 8) hx hb dX5_many_1 (by decide) ?_
  refine ts_retV (va_runS (As := [.int (nI w_), .int (nI 8)]) (rest := []) ⟨hx, hb, hml, hown, hts⟩ (k_X5_requireWhat l D q b s.heap.size u w_ 8 (by omega) (by omega)) (va_cwS 2 hts gX5_many_X5_requireWhat rfl rfl rfl (by decide +kernel) ⟨Nat.le_of_ble_eq_true rfl, Nat.le_of_ble_eq_true rfl⟩) (ts_preS hK hN hW) rfl rfl hl.1 rfl (lv_room (Nat.le_of_ble_eq_true rfl)) dX5_many_3 ⟨Nat.zero_le _, Nat.zero_le _⟩) hS (fun x h => ts_Aup hS.1 h) (fun u2 H locs hp3 hW _ _ hS => ?_)
  have hp3u : u2 = u := hp3
  rw [hp3u] at hW
  refine lv_iload_n hx hb dX5_many_6 rfl (lv_at hl 1 rfl) ?_
  by_cases c4 : w_ = 0
  · skip
    refine lv_tableIn (tgt := 52) hx hb dX5_many_7 (by rw [c4]; decide) (by rw [c4]; decide) (by rw [c4]; rfl) (by decide) ?_
    refine lv_aload_n hx hb dX5_many_52 rfl (lv_at hl 0 rfl) ?_
    refine ts_get (C := RX5) (T := TX5) (N := 4) (v := .ref (b + 1)) hx hb hts hi5 hown hK hW 0 (by decide) cel_st rfl 0 (by decide) (List.mem_of_getElem? (i := 1) rfl) rfl dX5_many_53 ?_
    refine ts_get (C := RX3) (T := TX3) (N := 5) (v := .int (nI (u.1.1 1))) hx hb hts hi3 hown hK hW 1 (by decide) cel_pr rfl 2 (by decide) (List.mem_of_getElem? (i := 2) rfl) rfl dX5_many_56 ?_
    exact ts_iret (u := u) (v := nI (u.1.1 1)) C0 hW hS (by refine ⟨congrArg nI (by unfold manyN; (repeat' split) <;> first | rfl | (exfalso; omega)), u.2.1, rfl⟩) dX5_many_59
  by_cases c5 : w_ = 1
  · skip
    refine lv_tableIn (tgt := 60) hx hb dX5_many_7 (by rw [c5]; decide) (by rw [c5]; decide) (by rw [c5]; rfl) (by decide) ?_
    refine lv_aload_n hx hb dX5_many_60 rfl (lv_at hl 0 rfl) ?_
    refine ts_get (C := RX5) (T := TX5) (N := 4) (v := .ref (b + 1)) hx hb hts hi5 hown hK hW 0 (by decide) cel_st rfl 0 (by decide) (List.mem_of_getElem? (i := 1) rfl) rfl dX5_many_61 ?_
    refine ts_get (C := RX3) (T := TX3) (N := 5) (v := .int (nI (u.1.1 2))) hx hb hts hi3 hown hK hW 1 (by decide) cel_pr rfl 3 (by decide) (List.mem_of_getElem? (i := 3) rfl) rfl dX5_many_64 ?_
    refine ts_retI (va_runS (As := [.int (nI (u.1.1 2))]) (rest := []) ⟨hx, hb, hml, hown, hts⟩ (k_J6_bitCount_0f7a4 l D q b H.size u (u.1.1 2) (by omega)) (va_cwS 1 hts gX5_many_J6_bitCount_0f7a4 rfl rfl rfl (by decide +kernel) ⟨Nat.le_of_ble_eq_true rfl, Nat.le_of_ble_eq_true rfl⟩) (ts_preS hK hN hW) rfl rfl hl.1 rfl (lv_room (Nat.le_of_ble_eq_true rfl)) dX5_many_67 ⟨Nat.zero_le _, Nat.zero_le _⟩) hS (fun x h => ts_Aup hS.1 h) (fun r6 u7 H locs hp8 hW _ _ hS => ?_)
    have hp8r : r6 = nI (cntB (u.1.1 2) 10) := hp8.1
    have hp8u : u7 = u := hp8.2
    rw [hp8r]
    rw [hp8u] at hW
    exact ts_iret (u := u) (v := nI (cntB (u.1.1 2) 10)) C0 hW hS (by refine ⟨congrArg nI (by unfold manyN; (repeat' split) <;> first | rfl | (exfalso; omega)), u.2.1, rfl⟩) dX5_many_70
  by_cases c9 : w_ = 2
  · skip
    refine lv_tableIn (tgt := 71) hx hb dX5_many_7 (by rw [c9]; decide) (by rw [c9]; decide) (by rw [c9]; rfl) (by decide) ?_
    refine lv_aload_n hx hb dX5_many_71 rfl (lv_at hl 0 rfl) ?_
    refine ts_get (C := RX5) (T := TX5) (N := 4) (v := .ref (b + 1)) hx hb hts hi5 hown hK hW 0 (by decide) cel_st rfl 0 (by decide) (List.mem_of_getElem? (i := 1) rfl) rfl dX5_many_72 ?_
    refine ts_retI (va_runV (As := []) (rest := []) ⟨hx, hb, hml, hown, hts⟩ (k_X3_typable l D q b H.size u hwf) (cwV 0 hts gX5_many_X3_typable rfl rfl rfl (by decide +kernel) ⟨Nat.le_of_ble_eq_true rfl, Nat.le_of_ble_eq_true rfl⟩) (ts_preV hK hN hW 1 (by decide) cel_pr rfl) rfl rfl hl.1 rfl (lv_room (Nat.le_of_ble_eq_true rfl)) dX5_many_75 ⟨Nat.zero_le _, Nat.zero_le _⟩) hS (fun x h => ts_Aup hS.1 h) (fun r10 u11 H locs hp12 hW _ _ hS => ?_)
    obtain ⟨hp12r, F13, hp12u⟩ := hp12
    have hp12r : r10 = nI (typN u.1 (u.1.1 1)) := hp12r
    have hp12u : u11 = (u.1, F13, u.2.2.1, u.2.2.2) := hp12u
    rw [hp12r]
    rw [hp12u] at hW
    refine ts_retI (va_runS (As := [.int (nI (typN u.1 (u.1.1 1)))]) (rest := []) ⟨hx, hb, hml, hown, hts⟩ (k_J6_bitCount_0f7a4 l D q b H.size (u.1, F13, u.2.2.1, u.2.2.2) (typN u.1 (u.1.1 1)) (by omega)) (va_cwS 1 hts gX5_many_J6_bitCount_0f7a4 rfl rfl rfl (by decide +kernel) ⟨Nat.le_of_ble_eq_true rfl, Nat.le_of_ble_eq_true rfl⟩) (ts_preS hK hN hW) rfl rfl hl.1 rfl (lv_room (Nat.le_of_ble_eq_true rfl)) dX5_many_78 ⟨Nat.zero_le _, Nat.zero_le _⟩) hS (fun x h => ts_Aup hS.1 h) (fun r14 u15 H locs hp16 hW _ _ hS => ?_)
    have hp16r : r14 = nI (cntB (typN u.1 (u.1.1 1)) 10) := hp16.1
    have hp16u : u15 = (u.1, F13, u.2.2.1, u.2.2.2) := hp16.2
    rw [hp16r]
    rw [hp16u] at hW
    exact ts_iret (u := (u.1, F13, u.2.2.1, u.2.2.2)) (v := nI (cntB (typN u.1 (u.1.1 1)) 10)) C0 hW hS (by refine ⟨congrArg nI (by unfold manyN; (repeat' split) <;> first | rfl | (exfalso; omega)), F13, rfl⟩) dX5_many_81
  by_cases c17 : w_ = 3
  · skip
    refine lv_tableIn (tgt := 82) hx hb dX5_many_7 (by rw [c17]; decide) (by rw [c17]; decide) (by rw [c17]; rfl) (by decide) ?_
    refine lv_aload_n hx hb dX5_many_82 rfl (lv_at hl 0 rfl) ?_
    refine ts_get (C := RX5) (T := TX5) (N := 4) (v := .ref (b + 1)) hx hb hts hi5 hown hK hW 0 (by decide) cel_st rfl 0 (by decide) (List.mem_of_getElem? (i := 1) rfl) rfl dX5_many_83 ?_
    refine ts_retI (va_runV (As := []) (rest := []) ⟨hx, hb, hml, hown, hts⟩ (k_X3_allFaults l D q b H.size u hwf) (cwV 0 hts gX5_many_X3_allFaults rfl rfl rfl (by decide +kernel) ⟨Nat.le_of_ble_eq_true rfl, Nat.le_of_ble_eq_true rfl⟩) (ts_preV hK hN hW 1 (by decide) cel_pr rfl) rfl rfl hl.1 rfl (lv_room (Nat.le_of_ble_eq_true rfl)) dX5_many_86 ⟨Nat.zero_le _, Nat.zero_le _⟩) hS (fun x h => ts_Aup hS.1 h) (fun r18 u19 H locs hp20 hW _ _ hS => ?_)
    obtain ⟨hp20r, F21, hp20u⟩ := hp20
    have hp20r : r18 = nI (fltN u.1 (u.1.1 1)) := hp20r
    have hp20u : u19 = (u.1, F21, u.2.2.1, u.2.2.2) := hp20u
    rw [hp20r]
    rw [hp20u] at hW
    exact ts_iret (u := (u.1, F21, u.2.2.1, u.2.2.2)) (v := nI (fltN u.1 (u.1.1 1))) C0 hW hS (by refine ⟨congrArg nI (by unfold manyN; (repeat' split) <;> first | rfl | (exfalso; omega)), F21, rfl⟩) dX5_many_89
  by_cases c22 : w_ = 4
  · skip
    refine lv_tableIn (tgt := 90) hx hb dX5_many_7 (by rw [c22]; decide) (by rw [c22]; decide) (by rw [c22]; rfl) (by decide) ?_
    refine lv_aload_n hx hb dX5_many_90 rfl (lv_at hl 0 rfl) ?_
    refine ts_get (C := RX5) (T := TX5) (N := 4) (v := .ref (b + 1)) hx hb hts hi5 hown hK hW 0 (by decide) cel_st rfl 0 (by decide) (List.mem_of_getElem? (i := 1) rfl) rfl dX5_many_91 ?_
    refine ts_get (C := RX3) (T := TX3) (N := 5) (v := .int (nI (u.1.1 3))) hx hb hts hi3 hown hK hW 1 (by decide) cel_pr rfl 4 (by decide) (List.mem_of_getElem? (i := 4) rfl) rfl dX5_many_94 ?_
    exact ts_iret (u := u) (v := nI (u.1.1 3)) C0 hW hS (by refine ⟨congrArg nI (by unfold manyN; (repeat' split) <;> first | rfl | (exfalso; omega)), u.2.1, rfl⟩) dX5_many_97
  by_cases c23 : w_ = 5
  · skip
    refine lv_tableIn (tgt := 98) hx hb dX5_many_7 (by rw [c23]; decide) (by rw [c23]; decide) (by rw [c23]; rfl) (by decide) ?_
    refine lv_aload_n hx hb dX5_many_98 rfl (lv_at hl 0 rfl) ?_
    refine ts_get (C := RX5) (T := TX5) (N := 4) (v := .ref (b + 37)) hx hb hts hi5 hown hK hW 0 (by decide) cel_st rfl 2 (by decide) (List.mem_of_getElem? (i := 5) rfl) rfl dX5_many_99 ?_
    refine ts_get (C := RX0) (T := TX0) (N := 6) (v := .int (nI (u.2.2.2.1 0))) hx hb hts hi0 hown hK hW 37 (by decide) cel_bk rfl 3 (by decide) (List.mem_of_getElem? (i := 6) rfl) rfl dX5_many_102 ?_
    exact ts_iret (u := u) (v := nI (u.2.2.2.1 0)) C0 hW hS (by refine ⟨congrArg nI (by unfold manyN; (repeat' split) <;> first | rfl | (exfalso; omega)), u.2.1, rfl⟩) dX5_many_105
  by_cases c24 : w_ = 6
  · skip
    refine lv_tableIn (tgt := 106) hx hb dX5_many_7 (by rw [c24]; decide) (by rw [c24]; decide) (by rw [c24]; rfl) (by decide) ?_
    refine lv_aload_n hx hb dX5_many_106 rfl (lv_at hl 0 rfl) ?_
    refine ts_get (C := RX5) (T := TX5) (N := 4) (v := .ref (b + 37)) hx hb hts hi5 hown hK hW 0 (by decide) cel_st rfl 2 (by decide) (List.mem_of_getElem? (i := 5) rfl) rfl dX5_many_107 ?_
    refine ts_get (C := RX0) (T := TX0) (N := 6) (v := .int (nI (u.2.2.2.1 1))) hx hb hts hi0 hown hK hW 37 (by decide) cel_bk rfl 4 (by decide) (List.mem_of_getElem? (i := 7) rfl) rfl dX5_many_110 ?_
    exact ts_iret (u := u) (v := nI (u.2.2.2.1 1)) C0 hW hS (by refine ⟨congrArg nI (by unfold manyN; (repeat' split) <;> first | rfl | (exfalso; omega)), u.2.1, rfl⟩) dX5_many_113
  by_cases c25 : w_ = 7
  · skip
    refine lv_tableIn (tgt := 114) hx hb dX5_many_7 (by rw [c25]; decide) (by rw [c25]; decide) (by rw [c25]; rfl) (by decide) ?_
    refine lv_aload_n hx hb dX5_many_114 rfl (lv_at hl 0 rfl) ?_
    refine ts_get (C := RX5) (T := TX5) (N := 4) (v := .ref (b + 37)) hx hb hts hi5 hown hK hW 0 (by decide) cel_st rfl 2 (by decide) (List.mem_of_getElem? (i := 5) rfl) rfl dX5_many_115 ?_
    refine ts_get (C := RX0) (T := TX0) (N := 6) (v := .int (nI (u.2.2.2.1 2))) hx hb hts hi0 hown hK hW 37 (by decide) cel_bk rfl 5 (by decide) (List.mem_of_getElem? (i := 8) rfl) rfl dX5_many_118 ?_
    exact ts_iret (u := u) (v := nI (u.2.2.2.1 2)) C0 hW hS (by refine ⟨congrArg nI (by unfold manyN; (repeat' split) <;> first | rfl | (exfalso; omega)), u.2.1, rfl⟩) dX5_many_121
  refine lv_tableOut (tgt := 122) hx hb dX5_many_7 (by rw [nI_toInt (by omega)]; omega) (by decide) ?_
  refine lv_aload_n hx hb dX5_many_122 rfl (lv_at hl 0 rfl) ?_
  refine lv_aload_n hx hb dX5_many_123 rfl (lv_at hl 0 rfl) ?_
  refine ts_get (C := RX5) (T := TX5) (N := 4) (v := .ref (b + 1)) hx hb hts hi5 hown hK hW 0 (by decide) cel_st rfl 0 (by decide) (List.mem_of_getElem? (i := 1) rfl) rfl dX5_many_124 ?_
  refine ts_get (C := RX3) (T := TX3) (N := 5) (v := .int (nI (u.1.1 2))) hx hb hts hi3 hown hK hW 1 (by decide) cel_pr rfl 3 (by decide) (List.mem_of_getElem? (i := 3) rfl) rfl dX5_many_127 ?_
  refine ts_retI (va_runV (As := [.int (nI (u.1.1 2))]) (rest := []) ⟨hx, hb, hml, hown, hts⟩ (k_X5_tollWith l D q b H.size u (u.1.1 2) hwf (by omega)) (cwV 1 hts gX5_many_X5_tollWith rfl rfl rfl (by decide +kernel) ⟨Nat.le_of_ble_eq_true rfl, Nat.le_of_ble_eq_true rfl⟩) (ts_preV hK hN hW 0 (by decide) cel_st rfl) rfl rfl hl.1 rfl (lv_room (Nat.le_of_ble_eq_true rfl)) dX5_many_130 ⟨Nat.zero_le _, Nat.zero_le _⟩) hS (fun x h => ts_Aup hS.1 h) (fun r26 u27 H locs hp28 hW _ _ hS => ?_)
  have hp28r : r26 = nI (tolA u.1 u.2.2.2.2.2 (u.1.1 2)) := hp28.1
  have hp28u : u27 = u := hp28.2
  rw [hp28r]
  rw [hp28u] at hW
  exact ts_iret (u := u) (v := nI (tolA u.1 u.2.2.2.2.2 (u.1.1 2))) C0 hW hS (by refine ⟨congrArg nI (by unfold manyN; (repeat' split) <;> first | rfl | (exfalso; omega)), u.2.1, rfl⟩) dX5_many_133
set_option maxHeartbeats 4000000 in
set_option maxRecDepth 100000 in
theorem k_X5_budget (l : Launch) (D : va_G) (q : CQ) (b sz : Nat) (u : ST) (b_ : Nat) (hwf : WP u.1) (hb_ : b_ ≤ 20) : Met l yX5_budget wsX5_budget ({ frames := 1, cells := 0, slots := 0, locals := 20 } : Room) (va_Pc [.ref (b + 0), .int (nI b_)] (Pr D q b sz u)) (cI D q b sz (fun r u' => r = nI (u.1.1 0) ∧ u' = ((va_up u.1.1 0 b_, u.1.2), u.2))) 0 0 (ts_A b 52 sz) := by
  refine ts_met (by decide) rfl (Nat.le_of_ble_eq_true rfl) ?_
  intro p e s m below meth c C0 hX ls hl
  obtain ⟨hsz, hW, hK, hN⟩ := hX
  subst hsz
  obtain ⟨hx, hb, hml, hown, hts, -, -, -⟩ := id C0
  have hW : ts_W D b 52 (cel q b u) s.heap := hW
  have hS : va_S (ts_A b 52 s.heap.size) s.heap s.heap [] := va_S.rf
  have hB : ∀ k, k < 52 → ts_A b 52 s.heap.size (b + k) := fun k hk => ts_Ain hk
  have hi5 : ∀ w ∈ wsX50, w ∈ wsX5_budget := ts_lays 8 rfl
  have hl : lv_has ls 3 [(0, .ref (b + 0)), (1, .int (nI b_))] := hl
  refine lv_iload_n hx hb dX5_budget_0 rfl (lv_at hl 1 rfl) ?_
  refine ts_retV (va_runS (As := [.int (nI b_)]) (rest := []) ⟨hx, hb, hml, hown, hts⟩ (k_X5_requireBudget l D q b s.heap.size u b_ (by omega)) (va_cwS 1 hts gX5_budget_X5_requireBudget rfl rfl rfl (by decide +kernel) ⟨Nat.le_of_ble_eq_true rfl, Nat.le_of_ble_eq_true rfl⟩) (ts_preS hK hN hW) rfl rfl hl.1 rfl (lv_room (Nat.le_of_ble_eq_true rfl)) dX5_budget_1 ⟨Nat.zero_le _, Nat.zero_le _⟩) hS (fun x h => ts_Aup hS.1 h) (fun u2 H locs hp3 hW _ _ hS => ?_)
  have hp3u : u2 = u := hp3
  rw [hp3u] at hW
  refine lv_aload_n hx hb dX5_budget_4 rfl (lv_at hl 0 rfl) ?_
  refine ts_get (C := RX5) (T := TX5) (N := 4) (v := .int (nI (u.1.1 0))) hx hb hts hi5 hown hK hW 0 (by decide) cel_st rfl 3 (by decide) (List.mem_of_getElem? (i := 1) rfl) rfl dX5_budget_5 ?_
  refine lv_istore_n (lv' := [(2, .int (nI (u.1.1 0))), (0, .ref (b + 0)), (1, .int (nI b_))]) hx hb dX5_budget_8 rfl hl (by decide) rfl (fun ls hl => ?_)
  refine lv_aload_n hx hb dX5_budget_9 rfl (lv_at hl 1 rfl) ?_
  refine lv_iload_n hx hb dX5_budget_10 rfl (lv_at hl 2 rfl) ?_
  refine ts_put (C := RX5) (T := TX5) (N := 4) (v := .int (nI b_)) hx hb hts hi5 tyX5 tyX5_ok nmX5 hown hK hW hS hB 0 (by decide) cel_st rfl 3 (by decide) (List.mem_of_getElem? (i := 1) rfl) rfl rfl rfl (Nat.le_of_ble_eq_true rfl) (cel q b ((va_up u.1.1 0 b_, u.1.2), u.2.1, u.2.2.1, u.2.2.2)) rfl (cel_oS rfl (fun i hi => va_up_ne _ _ (by omega)) rfl) dX5_budget_11 (fun H locs _ _ hW hS => ?_)
  refine lv_iload_n hx hb dX5_budget_14 rfl (lv_at hl 0 rfl) ?_
  exact ts_iret (u := ((va_up u.1.1 0 b_, u.1.2), u.2.1, u.2.2.1, u.2.2.2)) (v := nI (u.1.1 0)) C0 hW hS (by exact ⟨rfl, rfl⟩) dX5_budget_15
set_option maxHeartbeats 4000000 in
set_option maxRecDepth 100000 in
theorem k_X5_latest (l : Launch) (D : va_G) (q : CQ) (b sz : Nat) (u : ST) (w_ : Nat) (hw : w_ ≤ 7) : Met l yX5_latest wsX5_latest ({ frames := 1, cells := 0, slots := 0, locals := 21 } : Room) (va_Pc [.ref (b + 0), .int (nI w_)] (Pr D q b sz u)) (cI D q b sz (fun r u' => r = u.2.2.2.2.1 w_ ∧ u' = u)) 0 0 (ts_A b 52 sz) := by
  refine ts_met (by decide) rfl (Nat.le_of_ble_eq_true rfl) ?_
  intro p e s m below meth c C0 hX ls hl
  obtain ⟨hsz, hW, hK, hN⟩ := hX
  subst hsz
  obtain ⟨hx, hb, hml, hown, hts, -, -, -⟩ := id C0
  have hW : ts_W D b 52 (cel q b u) s.heap := hW
  have hS : va_S (ts_A b 52 s.heap.size) s.heap s.heap [] := va_S.rf
  have hB : ∀ k, k < 52 → ts_A b 52 s.heap.size (b + k) := fun k hk => ts_Ain hk
  have hi0 : ∀ w ∈ wsX00, w ∈ wsX5_latest := ts_lays 13 rfl
  have hi5 : ∀ w ∈ wsX50, w ∈ wsX5_latest := ts_lays 9 rfl
  have hl : lv_has ls 2 [(0, .ref (b + 0)), (1, .int (nI w_))] := hl
  refine lv_iload_n hx hb dX5_latest_0 rfl (lv_at hl 1 rfl) ?_
  refine lv_bipush (v := nI 7) hx hb dX5_latest_1 (by decide) ?_
  refine ts_retV (va_runS (As := [.int (nI w_), .int (nI 7)]) (rest := []) ⟨hx, hb, hml, hown, hts⟩ (k_X5_requireWhat l D q b s.heap.size u w_ 7 (by omega) (by omega)) (va_cwS 2 hts gX5_latest_X5_requireWhat rfl rfl rfl (by decide +kernel) ⟨Nat.le_of_ble_eq_true rfl, Nat.le_of_ble_eq_true rfl⟩) (ts_preS hK hN hW) rfl rfl hl.1 rfl (lv_room (Nat.le_of_ble_eq_true rfl)) dX5_latest_3 ⟨Nat.zero_le _, Nat.zero_le _⟩) hS (fun x h => ts_Aup hS.1 h) (fun u2 H locs hp3 hW _ _ hS => ?_)
  have hp3u : u2 = u := hp3
  rw [hp3u] at hW
  refine lv_aload_n hx hb dX5_latest_6 rfl (lv_at hl 0 rfl) ?_
  refine ts_get (C := RX5) (T := TX5) (N := 4) (v := .ref (b + 37)) hx hb hts hi5 hown hK hW 0 (by decide) cel_st rfl 2 (by decide) (List.mem_of_getElem? (i := 1) rfl) rfl dX5_latest_7 ?_
  refine ts_get (C := RX0) (T := TX0) (N := 6) (v := .ref (b + 51)) hx hb hts hi0 hown hK hW 37 (by decide) cel_bk rfl 2 (by decide) (List.mem_of_getElem? (i := 2) rfl) rfl dX5_latest_10 ?_
  refine lv_iload_n hx hb dX5_latest_13 rfl (lv_at hl 1 rfl) ?_
  refine ts_iald (v := u.2.2.2.2.1 w_) hx hb hK hW 51 (by decide) 0 cel_bl rfl (by omega) (by decide) rfl dX5_latest_14 ?_
  exact ts_iret (u := u) (v := u.2.2.2.2.1 w_) C0 hW hS (by exact ⟨rfl, rfl⟩) dX5_latest_15
set_option maxHeartbeats 4000000 in
set_option maxRecDepth 100000 in
theorem k_X5_counted (l : Launch) (D : va_G) (q : CQ) (b sz : Nat) (u : ST) (r_ f : Nat) (hwf : WP u.1) (hr : r_ ≤ u.1.1 1) (hf : f < u.1.1 1) : Met l yX5_counted wsX5_counted ({ frames := 1, cells := 0, slots := 0, locals := 21 } : Room) (va_Pc [.ref (b + 0), .int (zI r_), .int (nI f)] (Pr D q b sz u)) (cI D q b sz (fun v u' => v = nI (u.2.2.2.2.2 r_ f) ∧ u' = u)) 0 0 (ts_A b 52 sz) := by
  refine ts_met (by decide) rfl (Nat.le_of_ble_eq_true rfl) ?_
  intro p e s m below meth c C0 hX ls hl
  obtain ⟨hsz, hW, hK, hN⟩ := hX
  subst hsz
  obtain ⟨hx, hb, hml, hown, hts, -, -, -⟩ := id C0
  have hW : ts_W D b 52 (cel q b u) s.heap := hW
  have hS : va_S (ts_A b 52 s.heap.size) s.heap s.heap [] := va_S.rf
  have hB : ∀ k, k < 52 → ts_A b 52 s.heap.size (b + k) := fun k hk => ts_Ain hk
  have hi0 : ∀ w ∈ wsX00, w ∈ wsX5_counted := ts_lays 19 rfl
  have hi5 : ∀ w ∈ wsX50, w ∈ wsX5_counted := ts_lays 15 rfl
  have hl : lv_has ls 3 [(0, .ref (b + 0)), (1, .int (zI r_)), (2, .int (nI f))] := hl
  have hs := hwf.sz
  refine lv_iload_n hx hb dX5_counted_0 rfl (lv_at hl 1 rfl) ?_
  refine lv_iconst (v := (-1)) hx hb dX5_counted_1 (by decide) ?_
  refine lv_icmp_eq (tgt := 10) hx hb dX5_counted_2 (by decide) (fun c1 => ?_) (fun c1 => ?_)
  · skip
    rw [zI_m1 (by omega)] at c1
    refine lv_aload_n hx hb dX5_counted_10 rfl (lv_at hl 0 rfl) ?_
    refine lv_iload_n hx hb dX5_counted_11 rfl (lv_at hl 2 rfl) ?_
    refine ts_retV (va_runV (As := [.int (nI f)]) (rest := []) ⟨hx, hb, hml, hown, hts⟩ (k_X5_requireFunction l D q b s.heap.size u f hwf (by first | omega | (show f < u.1.1 1; omega))) (cwV 1 hts gX5_counted_X5_requireFunction rfl rfl rfl (by decide +kernel) ⟨Nat.le_of_ble_eq_true rfl, Nat.le_of_ble_eq_true rfl⟩) (ts_preV hK hN hW 0 (by decide) cel_st rfl) rfl rfl hl.1 rfl (lv_room (Nat.le_of_ble_eq_true rfl)) dX5_counted_12 ⟨Nat.zero_le _, Nat.zero_le _⟩) hS (fun x h => ts_Aup hS.1 h) (fun u3 H locs hp4 hW _ _ hS => ?_)
    have hp4u : u3 = u := hp4
    rw [hp4u] at hW
    refine lv_aload_n hx hb dX5_counted_15 rfl (lv_at hl 0 rfl) ?_
    refine ts_get (C := RX5) (T := TX5) (N := 4) (v := .ref (b + 37)) hx hb hts hi5 hown hK hW 0 (by decide) cel_st rfl 2 (by decide) (List.mem_of_getElem? (i := 1) rfl) rfl dX5_counted_16 ?_
    refine ts_get (C := RX0) (T := TX0) (N := 6) (v := .ref (b + 38)) hx hb hts hi0 hown hK hW 37 (by decide) cel_bk rfl 0 (by decide) (List.mem_of_getElem? (i := 2) rfl) rfl dX5_counted_19 ?_
    refine lv_iload_n hx hb dX5_counted_22 rfl (lv_at hl 1 rfl) ?_
    refine ts_retI (va_runS (As := [.int (zI r_)]) (rest := [.ref (b + 38)]) ⟨hx, hb, hml, hown, hts⟩ (k_X5_rowOf l D q b H.size u r_) (va_cwS 1 hts gX5_counted_X5_rowOf rfl rfl rfl (by decide +kernel) ⟨Nat.le_of_ble_eq_true rfl, Nat.le_of_ble_eq_true rfl⟩) (ts_preS hK hN hW) rfl rfl hl.1 rfl (lv_room (Nat.le_of_ble_eq_true rfl)) dX5_counted_23 ⟨Nat.zero_le _, Nat.zero_le _⟩) hS (fun x h => ts_Aup hS.1 h) (fun r5 u6 H locs hp7 hW _ _ hS => ?_)
    have hp7r : r5 = nI r_ := hp7.1
    have hp7u : u6 = u := hp7.2
    rw [hp7r]
    rw [hp7u] at hW
    refine ts_aald (a := b + (39 + r_)) hx hb hK hW 38 (by decide) 2 cel_bc rfl rfl (by omega) (by decide) rfl dX5_counted_26 ?_
    refine lv_iload_n hx hb dX5_counted_27 rfl (lv_at hl 2 rfl) ?_
    refine ts_iald (v := nI (u.2.2.2.2.2 r_ f)) hx hb hK hW (39 + r_) (by omega) 0 (cel_bw (by omega)) rfl (by omega) (by decide) rfl dX5_counted_28 ?_
    exact ts_iret (u := u) (v := nI (u.2.2.2.2.2 r_ f)) C0 hW hS (by exact ⟨rfl, rfl⟩) dX5_counted_29
  rw [zI_m1 (by omega)] at c1
  have hr0 := c1
  refine lv_aload_n hx hb dX5_counted_5 rfl (lv_at hl 0 rfl) ?_
  refine lv_iload_n hx hb dX5_counted_6 rfl (lv_at hl 1 rfl) ?_
  refine ts_int (y := nI (r_ - 1)) (zI_pred hr0) ?_
  refine ts_retV (va_runV (As := [.int (nI (r_ - 1))]) (rest := []) ⟨hx, hb, hml, hown, hts⟩ (k_X5_requireFunction l D q b s.heap.size u (r_ - 1) hwf (by first | omega | (show (r_ - 1) < u.1.1 1; omega))) (cwV 1 hts gX5_counted_X5_requireFunction rfl rfl rfl (by decide +kernel) ⟨Nat.le_of_ble_eq_true rfl, Nat.le_of_ble_eq_true rfl⟩) (ts_preV hK hN hW 0 (by decide) cel_st rfl) rfl rfl hl.1 rfl (lv_room (Nat.le_of_ble_eq_true rfl)) dX5_counted_7 ⟨Nat.zero_le _, Nat.zero_le _⟩) hS (fun x h => ts_Aup hS.1 h) (fun u9 H locs hp10 hW _ _ hS => ?_)
  have hp10u : u9 = u := hp10
  rw [hp10u] at hW
  refine lv_aload_n hx hb dX5_counted_10 rfl (lv_at hl 0 rfl) ?_
  refine lv_iload_n hx hb dX5_counted_11 rfl (lv_at hl 2 rfl) ?_
  refine ts_retV (va_runV (As := [.int (nI f)]) (rest := []) ⟨hx, hb, hml, hown, hts⟩ (k_X5_requireFunction l D q b H.size u f hwf (by first | omega | (show f < u.1.1 1; omega))) (cwV 1 hts gX5_counted_X5_requireFunction rfl rfl rfl (by decide +kernel) ⟨Nat.le_of_ble_eq_true rfl, Nat.le_of_ble_eq_true rfl⟩) (ts_preV hK hN hW 0 (by decide) cel_st rfl) rfl rfl hl.1 rfl (lv_room (Nat.le_of_ble_eq_true rfl)) dX5_counted_12 ⟨Nat.zero_le _, Nat.zero_le _⟩) hS (fun x h => ts_Aup hS.1 h) (fun u12 H locs hp13 hW _ _ hS => ?_)
  have hp13u : u12 = u := hp13
  rw [hp13u] at hW
  refine lv_aload_n hx hb dX5_counted_15 rfl (lv_at hl 0 rfl) ?_
  refine ts_get (C := RX5) (T := TX5) (N := 4) (v := .ref (b + 37)) hx hb hts hi5 hown hK hW 0 (by decide) cel_st rfl 2 (by decide) (List.mem_of_getElem? (i := 1) rfl) rfl dX5_counted_16 ?_
  refine ts_get (C := RX0) (T := TX0) (N := 6) (v := .ref (b + 38)) hx hb hts hi0 hown hK hW 37 (by decide) cel_bk rfl 0 (by decide) (List.mem_of_getElem? (i := 2) rfl) rfl dX5_counted_19 ?_
  refine lv_iload_n hx hb dX5_counted_22 rfl (lv_at hl 1 rfl) ?_
  refine ts_retI (va_runS (As := [.int (zI r_)]) (rest := [.ref (b + 38)]) ⟨hx, hb, hml, hown, hts⟩ (k_X5_rowOf l D q b H.size u r_) (va_cwS 1 hts gX5_counted_X5_rowOf rfl rfl rfl (by decide +kernel) ⟨Nat.le_of_ble_eq_true rfl, Nat.le_of_ble_eq_true rfl⟩) (ts_preS hK hN hW) rfl rfl hl.1 rfl (lv_room (Nat.le_of_ble_eq_true rfl)) dX5_counted_23 ⟨Nat.zero_le _, Nat.zero_le _⟩) hS (fun x h => ts_Aup hS.1 h) (fun r14 u15 H locs hp16 hW _ _ hS => ?_)
  have hp16r : r14 = nI r_ := hp16.1
  have hp16u : u15 = u := hp16.2
  rw [hp16r]
  rw [hp16u] at hW
  refine ts_aald (a := b + (39 + r_)) hx hb hK hW 38 (by decide) 2 cel_bc rfl rfl (by omega) (by decide) rfl dX5_counted_26 ?_
  refine lv_iload_n hx hb dX5_counted_27 rfl (lv_at hl 2 rfl) ?_
  refine ts_iald (v := nI (u.2.2.2.2.2 r_ f)) hx hb hK hW (39 + r_) (by omega) 0 (cel_bw (by omega)) rfl (by omega) (by decide) rfl dX5_counted_28 ?_
  exact ts_iret (u := u) (v := nI (u.2.2.2.2.2 r_ f)) C0 hW hS (by exact ⟨rfl, rfl⟩) dX5_counted_29
set_option maxHeartbeats 4000000 in
set_option maxRecDepth 100000 in
theorem k_X5_blamed (l : Launch) (D : va_G) (q : CQ) (b sz : Nat) (u : ST) (f : Nat) (hwf : WP u.1) (hf : f < u.1.1 1) : Met l yX5_blamed wsX5_blamed ({ frames := 1, cells := 0, slots := 0, locals := 21 } : Room) (va_Pc [.ref (b + 0), .int (nI f)] (Pr D q b sz u)) (cI D q b sz (fun v u' => v = nI (u.2.2.2.2.2 11 f) ∧ u' = u)) 0 0 (ts_A b 52 sz) := by
  refine ts_met (by decide) rfl (Nat.le_of_ble_eq_true rfl) ?_
  intro p e s m below meth c C0 hX ls hl
  obtain ⟨hsz, hW, hK, hN⟩ := hX
  subst hsz
  obtain ⟨hx, hb, hml, hown, hts, -, -, -⟩ := id C0
  have hW : ts_W D b 52 (cel q b u) s.heap := hW
  have hS : va_S (ts_A b 52 s.heap.size) s.heap s.heap [] := va_S.rf
  have hB : ∀ k, k < 52 → ts_A b 52 s.heap.size (b + k) := fun k hk => ts_Ain hk
  have hi0 : ∀ w ∈ wsX00, w ∈ wsX5_blamed := ts_lays 16 rfl
  have hi5 : ∀ w ∈ wsX50, w ∈ wsX5_blamed := ts_lays 12 rfl
  have hl : lv_has ls 2 [(0, .ref (b + 0)), (1, .int (nI f))] := hl
  have hs := hwf.sz
  refine lv_aload_n hx hb dX5_blamed_0 rfl (lv_at hl 0 rfl) ?_
  refine lv_iload_n hx hb dX5_blamed_1 rfl (lv_at hl 1 rfl) ?_
  refine ts_retV (va_runV (As := [.int (nI f)]) (rest := []) ⟨hx, hb, hml, hown, hts⟩ (k_X5_requireFunction l D q b s.heap.size u f hwf (by first | omega | (show f < u.1.1 1; omega))) (cwV 1 hts gX5_blamed_X5_requireFunction rfl rfl rfl (by decide +kernel) ⟨Nat.le_of_ble_eq_true rfl, Nat.le_of_ble_eq_true rfl⟩) (ts_preV hK hN hW 0 (by decide) cel_st rfl) rfl rfl hl.1 rfl (lv_room (Nat.le_of_ble_eq_true rfl)) dX5_blamed_2 ⟨Nat.zero_le _, Nat.zero_le _⟩) hS (fun x h => ts_Aup hS.1 h) (fun u2 H locs hp3 hW _ _ hS => ?_)
  have hp3u : u2 = u := hp3
  rw [hp3u] at hW
  refine lv_aload_n hx hb dX5_blamed_5 rfl (lv_at hl 0 rfl) ?_
  refine ts_get (C := RX5) (T := TX5) (N := 4) (v := .ref (b + 37)) hx hb hts hi5 hown hK hW 0 (by decide) cel_st rfl 2 (by decide) (List.mem_of_getElem? (i := 1) rfl) rfl dX5_blamed_6 ?_
  refine ts_get (C := RX0) (T := TX0) (N := 6) (v := .ref (b + 50)) hx hb hts hi0 hown hK hW 37 (by decide) cel_bk rfl 1 (by decide) (List.mem_of_getElem? (i := 2) rfl) rfl dX5_blamed_9 ?_
  refine lv_iload_n hx hb dX5_blamed_12 rfl (lv_at hl 1 rfl) ?_
  refine ts_iald (v := nI (u.2.2.2.2.2 11 f)) hx hb hK hW 50 (by decide) 0 cel_bb rfl (by omega) (by decide) rfl dX5_blamed_13 ?_
  exact ts_iret (u := u) (v := nI (u.2.2.2.2.2 11 f)) C0 hW hS (by exact ⟨rfl, rfl⟩) dX5_blamed_14
set_option maxHeartbeats 4000000 in
set_option maxRecDepth 100000 in
theorem k_X5_gain (l : Launch) (D : va_G) (q : CQ) (b sz : Nat) (u : ST) (f : Nat) (hwf : WP u.1) (hf : f < u.1.1 1) : Met l yX5_gain wsX5_gain ({ frames := 4, cells := 0, slots := 0, locals := 89 } : Room) (va_Pc [.ref (b + 0), .int (nI f)] (Pr D q b sz u)) (cI D q b sz (fun v u' => v = gainI u.1 u.2.2.2.2.2 f ∧ u' = u)) 0 0 (ts_A b 52 sz) := by
  refine ts_met (by decide) rfl (Nat.le_of_ble_eq_true rfl) ?_
  intro p e s m below meth c C0 hX ls hl
  obtain ⟨hsz, hW, hK, hN⟩ := hX
  subst hsz
  obtain ⟨hx, hb, hml, hown, hts, -, -, -⟩ := id C0
  have hW : ts_W D b 52 (cel q b u) s.heap := hW
  have hS : va_S (ts_A b 52 s.heap.size) s.heap s.heap [] := va_S.rf
  have hB : ∀ k, k < 52 → ts_A b 52 s.heap.size (b + k) := fun k hk => ts_Ain hk
  have hl : lv_has ls 2 [(0, .ref (b + 0)), (1, .int (nI f))] := hl
  have hs := hwf.sz
  refine lv_aload_n hx hb dX5_gain_0 rfl (lv_at hl 0 rfl) ?_
  refine lv_iload_n hx hb dX5_gain_1 rfl (lv_at hl 1 rfl) ?_
  refine ts_retV (va_runV (As := [.int (nI f)]) (rest := []) ⟨hx, hb, hml, hown, hts⟩ (k_X5_requireFunction l D q b s.heap.size u f hwf (by first | omega | (show f < u.1.1 1; omega))) (cwV 1 hts gX5_gain_X5_requireFunction rfl rfl rfl (by decide +kernel) ⟨Nat.le_of_ble_eq_true rfl, Nat.le_of_ble_eq_true rfl⟩) (ts_preV hK hN hW 0 (by decide) cel_st rfl) rfl rfl hl.1 rfl (lv_room (Nat.le_of_ble_eq_true rfl)) dX5_gain_2 ⟨Nat.zero_le _, Nat.zero_le _⟩) hS (fun x h => ts_Aup hS.1 h) (fun u2 H locs hp3 hW _ _ hS => ?_)
  have hp3u : u2 = u := hp3
  rw [hp3u] at hW
  refine lv_aload_n hx hb dX5_gain_5 rfl (lv_at hl 0 rfl) ?_
  refine lv_iload_n hx hb dX5_gain_6 rfl (lv_at hl 1 rfl) ?_
  refine ts_retI (va_runV (As := [.int (nI f)]) (rest := []) ⟨hx, hb, hml, hown, hts⟩ (k_X5_gainOf l D q b H.size u f hwf (by omega)) (cwV 1 hts gX5_gain_X5_gainOf rfl rfl rfl (by decide +kernel) ⟨Nat.le_of_ble_eq_true rfl, Nat.le_of_ble_eq_true rfl⟩) (ts_preV hK hN hW 0 (by decide) cel_st rfl) rfl rfl hl.1 rfl (lv_room (Nat.le_of_ble_eq_true rfl)) dX5_gain_7 ⟨Nat.zero_le _, Nat.zero_le _⟩) hS (fun x h => ts_Aup hS.1 h) (fun r4 u5 H locs hp6 hW _ _ hS => ?_)
  have hp6r : r4 = gainI u.1 u.2.2.2.2.2 f := hp6.1
  have hp6u : u5 = u := hp6.2
  rw [hp6r]
  rw [hp6u] at hW
  exact ts_iret (u := u) (v := gainI u.1 u.2.2.2.2.2 f) C0 hW hS (by exact ⟨rfl, rfl⟩) dX5_gain_10
set_option maxHeartbeats 4000000 in
set_option maxRecDepth 100000 in
theorem k_X5_next (l : Launch) (D : va_G) (q : CQ) (b sz : Nat) (u : ST)  (hwf : WP u.1) : Met l yX5_next wsX5_next ({ frames := 5, cells := 0, slots := 0, locals := 114 } : Room) (va_Pc [.ref (b + 0)] (Pr D q b sz u)) (cI D q b sz (fun r u' => r = zI (nextN u.1 u.2.2.2.2.2) ∧ ∃ F : FT, u' = (u.1, F, u.2.2))) 0 0 (ts_A b 52 sz) := by
  refine ts_met (by decide) rfl (Nat.le_of_ble_eq_true rfl) ?_
  intro p e s m below meth c C0 hX ls hl
  obtain ⟨hsz, hW, hK, hN⟩ := hX
  subst hsz
  obtain ⟨hx, hb, hml, hown, hts, -, -, -⟩ := id C0
  have hW : ts_W D b 52 (cel q b u) s.heap := hW
  have hS : va_S (ts_A b 52 s.heap.size) s.heap s.heap [] := va_S.rf
  have hB : ∀ k, k < 52 → ts_A b 52 s.heap.size (b + k) := fun k hk => ts_Ain hk
  have hl : lv_has ls 1 [(0, .ref (b + 0))] := hl
  refine lv_aload_n hx hb dX5_next_0 rfl (lv_at hl 0 rfl) ?_
  refine ts_retI (va_runV (As := []) (rest := []) ⟨hx, hb, hml, hown, hts⟩ (k_X5_nextToType l D q b s.heap.size u hwf) (cwV 0 hts gX5_next_X5_nextToType rfl rfl rfl (by decide +kernel) ⟨Nat.le_of_ble_eq_true rfl, Nat.le_of_ble_eq_true rfl⟩) (ts_preV hK hN hW 0 (by decide) cel_st rfl) rfl rfl hl.1 rfl (lv_room (Nat.le_of_ble_eq_true rfl)) dX5_next_1 ⟨Nat.zero_le _, Nat.zero_le _⟩) hS (fun x h => ts_Aup hS.1 h) (fun r1 u2 H locs hp3 hW _ _ hS => ?_)
  obtain ⟨hp3r, F4, hp3u⟩ := hp3
  have hp3r : r1 = zI (nextN u.1 u.2.2.2.2.2) := hp3r
  have hp3u : u2 = (u.1, F4, u.2.2.1, u.2.2.2) := hp3u
  rw [hp3r]
  rw [hp3u] at hW
  exact ts_iret (u := (u.1, F4, u.2.2.1, u.2.2.2)) (v := zI (nextN u.1 u.2.2.2.2.2)) C0 hW hS (by exact ⟨rfl, _, rfl⟩) dX5_next_4
set_option maxHeartbeats 4000000 in
set_option maxRecDepth 100000 in
theorem k_X5_tollAtBest (l : Launch) (D : va_G) (q : CQ) (b sz : Nat) (u : ST)  (hwf : WP u.1) : Met l yX5_tollAtBest wsX5_tollAtBest ({ frames := 4, cells := 0, slots := 0, locals := 88 } : Room) (va_Pc [.ref (b + 0)] (Pr D q b sz u)) (cI D q b sz (fun r u' => r = nI (tolA u.1 u.2.2.2.2.2 (typN u.1 (u.1.1 1))) ∧ ∃ F : FT, u' = (u.1, F, u.2.2))) 0 0 (ts_A b 52 sz) := by
  refine ts_met (by decide) rfl (Nat.le_of_ble_eq_true rfl) ?_
  intro p e s m below meth c C0 hX ls hl
  obtain ⟨hsz, hW, hK, hN⟩ := hX
  subst hsz
  obtain ⟨hx, hb, hml, hown, hts, -, -, -⟩ := id C0
  have hW : ts_W D b 52 (cel q b u) s.heap := hW
  have hS : va_S (ts_A b 52 s.heap.size) s.heap s.heap [] := va_S.rf
  have hB : ∀ k, k < 52 → ts_A b 52 s.heap.size (b + k) := fun k hk => ts_Ain hk
  have hi5 : ∀ w ∈ wsX50, w ∈ wsX5_tollAtBest := ts_lays 71 rfl
  have hl : lv_has ls 1 [(0, .ref (b + 0))] := hl
  have hs := hwf.sz
  have htn := typN_lt u.1 _ hs
  refine lv_aload_n hx hb dX5_tollAtBest_0 rfl (lv_at hl 0 rfl) ?_
  refine lv_aload_n hx hb dX5_tollAtBest_1 rfl (lv_at hl 0 rfl) ?_
  refine ts_get (C := RX5) (T := TX5) (N := 4) (v := .ref (b + 1)) hx hb hts hi5 hown hK hW 0 (by decide) cel_st rfl 0 (by decide) (List.mem_of_getElem? (i := 1) rfl) rfl dX5_tollAtBest_2 ?_
  refine ts_retI (va_runV (As := []) (rest := [.ref (b + 0)]) ⟨hx, hb, hml, hown, hts⟩ (k_X3_typable l D q b s.heap.size u hwf) (cwV 0 hts gX5_tollAtBest_X3_typable rfl rfl rfl (by decide +kernel) ⟨Nat.le_of_ble_eq_true rfl, Nat.le_of_ble_eq_true rfl⟩) (ts_preV hK hN hW 1 (by decide) cel_pr rfl) rfl rfl hl.1 rfl (lv_room (Nat.le_of_ble_eq_true rfl)) dX5_tollAtBest_5 ⟨Nat.zero_le _, Nat.zero_le _⟩) hS (fun x h => ts_Aup hS.1 h) (fun r1 u2 H locs hp3 hW _ _ hS => ?_)
  obtain ⟨hp3r, F4, hp3u⟩ := hp3
  have hp3r : r1 = nI (typN u.1 (u.1.1 1)) := hp3r
  have hp3u : u2 = (u.1, F4, u.2.2.1, u.2.2.2) := hp3u
  rw [hp3r]
  rw [hp3u] at hW
  refine ts_retI (va_runV (As := [.int (nI (typN u.1 (u.1.1 1)))]) (rest := []) ⟨hx, hb, hml, hown, hts⟩ (k_X5_tollWith l D q b H.size (u.1, F4, u.2.2.1, u.2.2.2) (typN u.1 (u.1.1 1)) hwf (by omega)) (cwV 1 hts gX5_tollAtBest_X5_tollWith rfl rfl rfl (by decide +kernel) ⟨Nat.le_of_ble_eq_true rfl, Nat.le_of_ble_eq_true rfl⟩) (ts_preV hK hN hW 0 (by decide) cel_st rfl) rfl rfl hl.1 rfl (lv_room (Nat.le_of_ble_eq_true rfl)) dX5_tollAtBest_8 ⟨Nat.zero_le _, Nat.zero_le _⟩) hS (fun x h => ts_Aup hS.1 h) (fun r5 u6 H locs hp7 hW _ _ hS => ?_)
  have hp7r : r5 = nI (tolA u.1 u.2.2.2.2.2 (typN u.1 (u.1.1 1))) := hp7.1
  have hp7u : u6 = (u.1, F4, u.2.2.1, u.2.2.2) := hp7.2
  rw [hp7r]
  rw [hp7u] at hW
  exact ts_iret (u := (u.1, F4, u.2.2.1, u.2.2.2)) (v := nI (tolA u.1 u.2.2.2.2.2 (typN u.1 (u.1.1 1)))) C0 hW hS (by exact ⟨rfl, _, rfl⟩) dX5_tollAtBest_11
set_option maxHeartbeats 4000000 in
set_option maxRecDepth 100000 in
theorem k_X5_untyped (l : Launch) (D : va_G) (q : CQ) (b sz : Nat) (u : ST) (f a o : Nat) (hwf : WP u.1) (hf : f < u.1.1 1) (ha : a ≤ 3) (ho : o ≤ 3) : Met l yX5_untyped wsX5_untyped ({ frames := 6, cells := 0, slots := 0, locals := 135 } : Room) (va_Pc [.ref (b + 0), .int (nI f), .int (nI a), .int (nI o)] (Pr D q b sz u)) (cI D q b sz (fun r u' => r = nI (cntB (dropD (hintP u.1 f a o)) 10) ∧ ∃ F : FT, u' = (u.1, F, u.2.2))) 0 0 (ts_A b 52 sz) := by
  refine ts_met (by decide) rfl (Nat.le_of_ble_eq_true rfl) ?_
  intro p e s m below meth c C0 hX ls hl
  obtain ⟨hsz, hW, hK, hN⟩ := hX
  subst hsz
  obtain ⟨hx, hb, hml, hown, hts, -, -, -⟩ := id C0
  have hW : ts_W D b 52 (cel q b u) s.heap := hW
  have hS : va_S (ts_A b 52 s.heap.size) s.heap s.heap [] := va_S.rf
  have hB : ∀ k, k < 52 → ts_A b 52 s.heap.size (b + k) := fun k hk => ts_Ain hk
  have hi5 : ∀ w ∈ wsX50, w ∈ wsX5_untyped := ts_lays 79 rfl
  have hl : lv_has ls 4 [(0, .ref (b + 0)), (1, .int (nI f)), (2, .int (nI a)), (3, .int (nI o))] := hl
  have hs := hwf.sz
  have hdr : dropD (hintP u.1 f a o) < 1024 := diffN_lt (n := 10) (hwf.hint (by omega) ha ho).ty
  refine lv_aload_n hx hb dX5_untyped_0 rfl (lv_at hl 0 rfl) ?_
  refine lv_iload_n hx hb dX5_untyped_1 rfl (lv_at hl 1 rfl) ?_
  refine ts_retV (va_runV (As := [.int (nI f)]) (rest := []) ⟨hx, hb, hml, hown, hts⟩ (k_X5_requireFunction l D q b s.heap.size u f hwf (by first | omega | (show f < u.1.1 1; omega))) (cwV 1 hts gX5_untyped_X5_requireFunction rfl rfl rfl (by decide +kernel) ⟨Nat.le_of_ble_eq_true rfl, Nat.le_of_ble_eq_true rfl⟩) (ts_preV hK hN hW 0 (by decide) cel_st rfl) rfl rfl hl.1 rfl (lv_room (Nat.le_of_ble_eq_true rfl)) dX5_untyped_2 ⟨Nat.zero_le _, Nat.zero_le _⟩) hS (fun x h => ts_Aup hS.1 h) (fun u2 H locs hp3 hW _ _ hS => ?_)
  have hp3u : u2 = u := hp3
  rw [hp3u] at hW
  refine lv_iload_n hx hb dX5_untyped_5 rfl (lv_at hl 2 rfl) ?_
  refine lv_iload_n hx hb dX5_untyped_6 rfl (lv_at hl 3 rfl) ?_
  refine ts_retV (va_runS (As := [.int (nI a), .int (nI o)]) (rest := []) ⟨hx, hb, hml, hown, hts⟩ (k_X5_requireHints l D q b H.size u a o (by omega) (by omega)) (va_cwS 2 hts gX5_untyped_X5_requireHints rfl rfl rfl (by decide +kernel) ⟨Nat.le_of_ble_eq_true rfl, Nat.le_of_ble_eq_true rfl⟩) (ts_preS hK hN hW) rfl rfl hl.1 rfl (lv_room (Nat.le_of_ble_eq_true rfl)) dX5_untyped_7 ⟨Nat.zero_le _, Nat.zero_le _⟩) hS (fun x h => ts_Aup hS.1 h) (fun u5 H locs hp6 hW _ _ hS => ?_)
  have hp6u : u5 = u := hp6
  rw [hp6u] at hW
  refine lv_aload_n hx hb dX5_untyped_10 rfl (lv_at hl 0 rfl) ?_
  refine ts_get (C := RX5) (T := TX5) (N := 4) (v := .ref (b + 1)) hx hb hts hi5 hown hK hW 0 (by decide) cel_st rfl 0 (by decide) (List.mem_of_getElem? (i := 1) rfl) rfl dX5_untyped_11 ?_
  refine lv_iload_n hx hb dX5_untyped_14 rfl (lv_at hl 1 rfl) ?_
  refine lv_iload_n hx hb dX5_untyped_15 rfl (lv_at hl 2 rfl) ?_
  refine lv_iload_n hx hb dX5_untyped_16 rfl (lv_at hl 3 rfl) ?_
  refine ts_retI (va_runV (As := [.int (nI f), .int (nI a), .int (nI o)]) (rest := []) ⟨hx, hb, hml, hown, hts⟩ (k_X3_untypableWith l D q b H.size u f a o hwf (by omega) (by omega) (by omega)) (cwV 3 hts gX5_untyped_X3_untypableWith rfl rfl rfl (by decide +kernel) ⟨Nat.le_of_ble_eq_true rfl, Nat.le_of_ble_eq_true rfl⟩) (ts_preV hK hN hW 1 (by decide) cel_pr rfl) rfl rfl hl.1 rfl (lv_room (Nat.le_of_ble_eq_true rfl)) dX5_untyped_17 ⟨Nat.zero_le _, Nat.zero_le _⟩) hS (fun x h => ts_Aup hS.1 h) (fun r7 u8 H locs hp9 hW _ _ hS => ?_)
  obtain ⟨hp9r, F10, hp9u⟩ := hp9
  have hp9r : r7 = nI (dropD (hintP u.1 f a o)) := hp9r
  have hp9u : u8 = (u.1, F10, u.2.2.1, u.2.2.2) := hp9u
  rw [hp9r]
  rw [hp9u] at hW
  refine ts_retI (va_runS (As := [.int (nI (dropD (hintP u.1 f a o)))]) (rest := []) ⟨hx, hb, hml, hown, hts⟩ (k_J6_bitCount_0f7a4 l D q b H.size (u.1, F10, u.2.2.1, u.2.2.2) (dropD (hintP u.1 f a o)) (by omega)) (va_cwS 1 hts gX5_untyped_J6_bitCount_0f7a4 rfl rfl rfl (by decide +kernel) ⟨Nat.le_of_ble_eq_true rfl, Nat.le_of_ble_eq_true rfl⟩) (ts_preS hK hN hW) rfl rfl hl.1 rfl (lv_room (Nat.le_of_ble_eq_true rfl)) dX5_untyped_20 ⟨Nat.zero_le _, Nat.zero_le _⟩) hS (fun x h => ts_Aup hS.1 h) (fun r11 u12 H locs hp13 hW _ _ hS => ?_)
  have hp13r : r11 = nI (cntB (dropD (hintP u.1 f a o)) 10) := hp13.1
  have hp13u : u12 = (u.1, F10, u.2.2.1, u.2.2.2) := hp13.2
  rw [hp13r]
  rw [hp13u] at hW
  exact ts_iret (u := (u.1, F10, u.2.2.1, u.2.2.2)) (v := nI (cntB (dropD (hintP u.1 f a o)) 10)) C0 hW hS (by exact ⟨rfl, _, rfl⟩) dX5_untyped_23
set_option maxHeartbeats 4000000 in
set_option maxRecDepth 100000 in
theorem k_X5_wouldBlame (l : Launch) (D : va_G) (q : CQ) (b sz : Nat) (u : ST) (f ty : Nat) (num : Int32) (hwf : WP u.1) (hf : f < u.1.1 1) (hv : valI ty num) : Met l yX5_wouldBlame wsX5_wouldBlame ({ frames := 43, cells := 0, slots := 0, locals := 1099 } : Room) (va_Pc [.ref (b + 0), .int (nI f), .int (nI ty), .int num] (Pr D q b sz u)) (cI D q b sz (fun r u' => r = zI ((runT u.1 f ty num (u.1.1 0)).1 8) ∧ u' = (u.1, u.2.1, runT u.1 f ty num (u.1.1 0), u.2.2.2))) 0 0 (ts_A b 52 sz) := by
  refine ts_met (by decide) rfl (Nat.le_of_ble_eq_true rfl) ?_
  intro p e s m below meth c C0 hX ls hl
  obtain ⟨hsz, hW, hK, hN⟩ := hX
  subst hsz
  obtain ⟨hx, hb, hml, hown, hts, -, -, -⟩ := id C0
  have hW : ts_W D b 52 (cel q b u) s.heap := hW
  have hS : va_S (ts_A b 52 s.heap.size) s.heap s.heap [] := va_S.rf
  have hB : ∀ k, k < 52 → ts_A b 52 s.heap.size (b + k) := fun k hk => ts_Ain hk
  have hi4 : ∀ w ∈ wsX40, w ∈ wsX5_wouldBlame := ts_lays 113 rfl
  have hi5 : ∀ w ∈ wsX50, w ∈ wsX5_wouldBlame := ts_lays 109 rfl
  have hl : lv_has ls 4 [(0, .ref (b + 0)), (1, .int (nI f)), (2, .int (nI ty)), (3, .int num)] := hl
  have hs := hwf.sz
  have hbu := hwf.bu
  have hty2 := hv.le
  refine lv_aload_n hx hb dX5_wouldBlame_0 rfl (lv_at hl 0 rfl) ?_
  refine lv_iload_n hx hb dX5_wouldBlame_1 rfl (lv_at hl 1 rfl) ?_
  refine ts_retV (va_runV (As := [.int (nI f)]) (rest := []) ⟨hx, hb, hml, hown, hts⟩ (k_X5_requireFunction l D q b s.heap.size u f hwf (by first | omega | (show f < u.1.1 1; omega))) (cwV 1 hts gX5_wouldBlame_X5_requireFunction rfl rfl rfl (by decide +kernel) ⟨Nat.le_of_ble_eq_true rfl, Nat.le_of_ble_eq_true rfl⟩) (ts_preV hK hN hW 0 (by decide) cel_st rfl) rfl rfl hl.1 rfl (lv_room (Nat.le_of_ble_eq_true rfl)) dX5_wouldBlame_2 ⟨Nat.zero_le _, Nat.zero_le _⟩) hS (fun x h => ts_Aup hS.1 h) (fun u2 H locs hp3 hW _ _ hS => ?_)
  have hp3u : u2 = u := hp3
  rw [hp3u] at hW
  refine lv_iload_n hx hb dX5_wouldBlame_5 rfl (lv_at hl 2 rfl) ?_
  refine lv_iload_n hx hb dX5_wouldBlame_6 rfl (lv_at hl 3 rfl) ?_
  refine ts_retV (va_runS (As := [.int (nI ty), .int num]) (rest := []) ⟨hx, hb, hml, hown, hts⟩ (k_X5_requireValue l D q b H.size u ty num hv) (va_cwS 2 hts gX5_wouldBlame_X5_requireValue rfl rfl rfl (by decide +kernel) ⟨Nat.le_of_ble_eq_true rfl, Nat.le_of_ble_eq_true rfl⟩) (ts_preS hK hN hW) rfl rfl hl.1 rfl (lv_room (Nat.le_of_ble_eq_true rfl)) dX5_wouldBlame_7 ⟨Nat.zero_le _, Nat.zero_le _⟩) hS (fun x h => ts_Aup hS.1 h) (fun u5 H locs hp6 hW _ _ hS => ?_)
  have hp6u : u5 = u := hp6
  rw [hp6u] at hW
  refine lv_aload_n hx hb dX5_wouldBlame_10 rfl (lv_at hl 0 rfl) ?_
  refine ts_get (C := RX5) (T := TX5) (N := 4) (v := .ref (b + 24)) hx hb hts hi5 hown hK hW 0 (by decide) cel_st rfl 1 (by decide) (List.mem_of_getElem? (i := 1) rfl) rfl dX5_wouldBlame_11 ?_
  refine lv_iload_n hx hb dX5_wouldBlame_14 rfl (lv_at hl 1 rfl) ?_
  refine lv_iload_n hx hb dX5_wouldBlame_15 rfl (lv_at hl 2 rfl) ?_
  refine lv_iload_n hx hb dX5_wouldBlame_16 rfl (lv_at hl 3 rfl) ?_
  refine lv_aload_n hx hb dX5_wouldBlame_17 rfl (lv_at hl 0 rfl) ?_
  refine ts_get (C := RX5) (T := TX5) (N := 4) (v := .int (nI (u.1.1 0))) hx hb hts hi5 hown hK hW 0 (by decide) cel_st rfl 3 (by decide) (List.mem_of_getElem? (i := 2) rfl) rfl dX5_wouldBlame_18 ?_
  refine ts_retV (va_runV (As := [.int (nI f), .int (nI ty), .int num, .int (nI (u.1.1 0))]) (rest := []) ⟨hx, hb, hml, hown, hts⟩ (k_X4_tryOut l D q b H.size u f ty num (u.1.1 0) hwf (by omega) (by omega) (by omega)) (cwV 4 hts gX5_wouldBlame_X4_tryOut rfl rfl rfl (by decide +kernel) ⟨Nat.le_of_ble_eq_true rfl, Nat.le_of_ble_eq_true rfl⟩) (ts_preV hK hN hW 24 (by decide) cel_tr rfl) rfl rfl hl.1 rfl (lv_room (Nat.le_of_ble_eq_true rfl)) dX5_wouldBlame_21 ⟨Nat.zero_le _, Nat.zero_le _⟩) hS (fun x h => ts_Aup hS.1 h) (fun u8 H locs hp9 hW _ _ hS => ?_)
  have hp9u : u8 = (u.1, u.2.1, (runT u.1 f ty num (u.1.1 0)), u.2.2.2) := hp9
  rw [hp9u] at hW
  refine lv_aload_n hx hb dX5_wouldBlame_24 rfl (lv_at hl 0 rfl) ?_
  refine ts_get (C := RX5) (T := TX5) (N := 4) (v := .ref (b + 24)) hx hb hts hi5 hown hK hW 0 (by decide) cel_st rfl 1 (by decide) (List.mem_of_getElem? (i := 1) rfl) rfl dX5_wouldBlame_25 ?_
  refine ts_get (C := RX4) (T := TX4) (N := 13) (v := .int (zI (((runT u.1 f ty num (u.1.1 0))).1 8))) hx hb hts hi4 hown hK hW 24 (by decide) cel_tr rfl 10 (by decide) (List.mem_of_getElem? (i := 3) rfl) rfl dX5_wouldBlame_28 ?_
  exact ts_iret (u := (u.1, u.2.1, (runT u.1 f ty num (u.1.1 0)), u.2.2.2)) (v := zI (((runT u.1 f ty num (u.1.1 0))).1 8)) C0 hW hS (by exact ⟨rfl, rfl⟩) dX5_wouldBlame_31
set_option maxHeartbeats 4000000 in
set_option maxRecDepth 100000 in
theorem k_X5_run (l : Launch) (D : va_G) (q : CQ) (b sz : Nat) (u : ST) (f ty : Nat) (num : Int32) (hwf : WP u.1) (hf : f < u.1.1 1) (hv : valI ty num) : Met l yX5_run wsX5_run ({ frames := 43, cells := 0, slots := 0, locals := 1099 } : Room) (va_Pc [.ref (b + 0), .int (nI f), .int (nI ty), .int num] (Pr D q b sz u)) (cI D q b sz (fun r u' => r = nI ((runT u.1 f ty num (u.1.1 0)).1 6) ∧ u' = (u.1, u.2.1, runT u.1 f ty num (u.1.1 0), bookB (runT u.1 f ty num (u.1.1 0)) u.2.2.2))) 0 0 (ts_A b 52 sz) := by
  refine ts_met (by decide) rfl (Nat.le_of_ble_eq_true rfl) ?_
  intro p e s m below meth c C0 hX ls hl
  obtain ⟨hsz, hW, hK, hN⟩ := hX
  subst hsz
  obtain ⟨hx, hb, hml, hown, hts, -, -, -⟩ := id C0
  have hW : ts_W D b 52 (cel q b u) s.heap := hW
  have hS : va_S (ts_A b 52 s.heap.size) s.heap s.heap [] := va_S.rf
  have hB : ∀ k, k < 52 → ts_A b 52 s.heap.size (b + k) := fun k hk => ts_Ain hk
  have hi4 : ∀ w ∈ wsX40, w ∈ wsX5_run := ts_lays 145 rfl
  have hi5 : ∀ w ∈ wsX50, w ∈ wsX5_run := ts_lays 141 rfl
  have hl : lv_has ls 4 [(0, .ref (b + 0)), (1, .int (nI f)), (2, .int (nI ty)), (3, .int num)] := hl
  have hs := hwf.sz
  have hbu := hwf.bu
  have hty2 := hv.le
  have hwr : WT (runT u.1 f ty num (u.1.1 0)) := WT.enter hwf 12 0 f _ (by decide) (by omega) hf (WT.t0 hbu hty2)
  refine lv_aload_n hx hb dX5_run_0 rfl (lv_at hl 0 rfl) ?_
  refine lv_iload_n hx hb dX5_run_1 rfl (lv_at hl 1 rfl) ?_
  refine ts_retV (va_runV (As := [.int (nI f)]) (rest := []) ⟨hx, hb, hml, hown, hts⟩ (k_X5_requireFunction l D q b s.heap.size u f hwf (by first | omega | (show f < u.1.1 1; omega))) (cwV 1 hts gX5_run_X5_requireFunction rfl rfl rfl (by decide +kernel) ⟨Nat.le_of_ble_eq_true rfl, Nat.le_of_ble_eq_true rfl⟩) (ts_preV hK hN hW 0 (by decide) cel_st rfl) rfl rfl hl.1 rfl (lv_room (Nat.le_of_ble_eq_true rfl)) dX5_run_2 ⟨Nat.zero_le _, Nat.zero_le _⟩) hS (fun x h => ts_Aup hS.1 h) (fun u2 H locs hp3 hW _ _ hS => ?_)
  have hp3u : u2 = u := hp3
  rw [hp3u] at hW
  refine lv_iload_n hx hb dX5_run_5 rfl (lv_at hl 2 rfl) ?_
  refine lv_iload_n hx hb dX5_run_6 rfl (lv_at hl 3 rfl) ?_
  refine ts_retV (va_runS (As := [.int (nI ty), .int num]) (rest := []) ⟨hx, hb, hml, hown, hts⟩ (k_X5_requireValue l D q b H.size u ty num hv) (va_cwS 2 hts gX5_run_X5_requireValue rfl rfl rfl (by decide +kernel) ⟨Nat.le_of_ble_eq_true rfl, Nat.le_of_ble_eq_true rfl⟩) (ts_preS hK hN hW) rfl rfl hl.1 rfl (lv_room (Nat.le_of_ble_eq_true rfl)) dX5_run_7 ⟨Nat.zero_le _, Nat.zero_le _⟩) hS (fun x h => ts_Aup hS.1 h) (fun u5 H locs hp6 hW _ _ hS => ?_)
  have hp6u : u5 = u := hp6
  rw [hp6u] at hW
  refine lv_aload_n hx hb dX5_run_10 rfl (lv_at hl 0 rfl) ?_
  refine ts_get (C := RX5) (T := TX5) (N := 4) (v := .ref (b + 24)) hx hb hts hi5 hown hK hW 0 (by decide) cel_st rfl 1 (by decide) (List.mem_of_getElem? (i := 1) rfl) rfl dX5_run_11 ?_
  refine lv_iload_n hx hb dX5_run_14 rfl (lv_at hl 1 rfl) ?_
  refine lv_iload_n hx hb dX5_run_15 rfl (lv_at hl 2 rfl) ?_
  refine lv_iload_n hx hb dX5_run_16 rfl (lv_at hl 3 rfl) ?_
  refine lv_aload_n hx hb dX5_run_17 rfl (lv_at hl 0 rfl) ?_
  refine ts_get (C := RX5) (T := TX5) (N := 4) (v := .int (nI (u.1.1 0))) hx hb hts hi5 hown hK hW 0 (by decide) cel_st rfl 3 (by decide) (List.mem_of_getElem? (i := 2) rfl) rfl dX5_run_18 ?_
  refine ts_retV (va_runV (As := [.int (nI f), .int (nI ty), .int num, .int (nI (u.1.1 0))]) (rest := []) ⟨hx, hb, hml, hown, hts⟩ (k_X4_tryOut l D q b H.size u f ty num (u.1.1 0) hwf (by omega) (by omega) (by omega)) (cwV 4 hts gX5_run_X4_tryOut rfl rfl rfl (by decide +kernel) ⟨Nat.le_of_ble_eq_true rfl, Nat.le_of_ble_eq_true rfl⟩) (ts_preV hK hN hW 24 (by decide) cel_tr rfl) rfl rfl hl.1 rfl (lv_room (Nat.le_of_ble_eq_true rfl)) dX5_run_21 ⟨Nat.zero_le _, Nat.zero_le _⟩) hS (fun x h => ts_Aup hS.1 h) (fun u8 H locs hp9 hW _ _ hS => ?_)
  have hp9u : u8 = (u.1, u.2.1, (runT u.1 f ty num (u.1.1 0)), u.2.2.2) := hp9
  rw [hp9u] at hW
  refine lv_aload_n hx hb dX5_run_24 rfl (lv_at hl 0 rfl) ?_
  refine ts_get (C := RX5) (T := TX5) (N := 4) (v := .ref (b + 37)) hx hb hts hi5 hown hK hW 0 (by decide) cel_st rfl 2 (by decide) (List.mem_of_getElem? (i := 3) rfl) rfl dX5_run_25 ?_
  refine lv_aload_n hx hb dX5_run_28 rfl (lv_at hl 0 rfl) ?_
  refine ts_get (C := RX5) (T := TX5) (N := 4) (v := .ref (b + 24)) hx hb hts hi5 hown hK hW 0 (by decide) cel_st rfl 1 (by decide) (List.mem_of_getElem? (i := 1) rfl) rfl dX5_run_29 ?_
  refine ts_retV (va_runV (As := [.ref (b + 24)]) (rest := []) ⟨hx, hb, hml, hown, hts⟩ (k_X0_enter l D q b H.size (u.1, u.2.1, (runT u.1 f ty num (u.1.1 0)), u.2.2.2) hwr) (cwV 1 hts gX5_run_X0_enter rfl rfl rfl (by decide +kernel) ⟨Nat.le_of_ble_eq_true rfl, Nat.le_of_ble_eq_true rfl⟩) (ts_preV hK hN hW 37 (by decide) cel_bk rfl) rfl rfl hl.1 rfl (lv_room (Nat.le_of_ble_eq_true rfl)) dX5_run_32 ⟨Nat.zero_le _, Nat.zero_le _⟩) hS (fun x h => ts_Aup hS.1 h) (fun u11 H locs hp12 hW _ _ hS => ?_)
  have hp12u : u11 = (u.1, u.2.1, (runT u.1 f ty num (u.1.1 0)), (bookB (runT u.1 f ty num (u.1.1 0)) u.2.2.2)) := hp12
  rw [hp12u] at hW
  refine lv_aload_n hx hb dX5_run_35 rfl (lv_at hl 0 rfl) ?_
  refine ts_get (C := RX5) (T := TX5) (N := 4) (v := .ref (b + 24)) hx hb hts hi5 hown hK hW 0 (by decide) cel_st rfl 1 (by decide) (List.mem_of_getElem? (i := 1) rfl) rfl dX5_run_36 ?_
  refine ts_get (C := RX4) (T := TX4) (N := 13) (v := .int (nI (((runT u.1 f ty num (u.1.1 0))).1 6))) hx hb hts hi4 hown hK hW 24 (by decide) cel_tr rfl 9 (by decide) (List.mem_of_getElem? (i := 4) rfl) rfl dX5_run_39 ?_
  exact ts_iret (u := (u.1, u.2.1, (runT u.1 f ty num (u.1.1 0)), (bookB (runT u.1 f ty num (u.1.1 0)) u.2.2.2))) (v := nI (((runT u.1 f ty num (u.1.1 0))).1 6)) C0 hW hS (by exact ⟨rfl, rfl⟩) dX5_run_42
