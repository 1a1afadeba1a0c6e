set_option maxHeartbeats 4000000 in
set_option maxRecDepth 100000 in
theorem x_X5_step (l : Launch) (hlt : l.stackTraces = false) (D : va_G) (q : CQ) (b sz : Nat) (u : ST) (a1 a2 a3 : Nat) (f v : Nat) (hwf : WP u.1) (hf : f < u.1.1 1) (hv : v ≤ 9 ∨ (20 ≤ v ∧ v ≤ 24) ∨ (40 ≤ v ∧ v < 40 + u.1.1 1)) (hz : u.1.1 (20 + f) = 6) : vx_Met l yX5_step wsX5_step ({ frames := 6, cells := 1, slots := 6, locals := 90 } : Room) (va_Pc [.ref (b + 0), .int (nI f), .int (nI v)] (PrE D q b sz u a1 a2 a3)) (cI D q b sz (fun _ _ => False)) (XE D q b sz u) 1 6 (ts_A b 52 sz) := by
  refine ts_metX (by decide) rfl (Nat.le_of_ble_eq_true rfl) ?_
  intro p e s m below meth c C0 hnt hX ls hl
  obtain ⟨⟨hsz, hW, hK, hN⟩, hE⟩ := hX
  subst hsz
  obtain ⟨hx, hb, hml, hown, hts, -, -, -⟩ := id C0
  have hW : ts_W D b 52 (cel q b u) s.heap := hW
  have hws0 := Ws.size hW
  have hS : va_S (ts_A b 52 s.heap.size) s.heap s.heap [] := va_S.rf
  have hB : ∀ k, k < 52 → ts_A b 52 s.heap.size (b + k) := fun k hk => ts_Ain hk
  have hi2 : ∀ w ∈ wsX20, w ∈ wsX5_step := ts_lays 99 rfl
  have hi3 : ∀ w ∈ wsX30, w ∈ wsX5_step := ts_lays 94 rfl
  have hi5 : ∀ w ∈ wsX50, w ∈ wsX5_step := ts_lays 90 rfl
  have hl : lv_has ls 4 [(0, .ref (b + 0)), (1, .int (nI f)), (2, .int (nI v))] := hl
  have hs := hwf.sz
  refine lv_aload_n hx hb dX5_step_0 rfl (lv_at hl 0 rfl) ?_
  refine lv_iload_n hx hb dX5_step_1 rfl (lv_at hl 1 rfl) ?_
  refine ts_retV (va_runV (As := [.int (nI f)]) (rest := []) ⟨hx, hb, hml, hown, hts⟩ (k_X5_requireFunction l D q b s.heap.size u f hwf (by first | omega | (show f < u.1.1 1; omega))) (cwV 1 hts gX5_step_X5_requireFunction rfl rfl rfl (by decide +kernel) ⟨Nat.le_of_ble_eq_true rfl, Nat.le_of_ble_eq_true rfl⟩) (ts_preV hK hN hW 0 (by decide) cel_st rfl) rfl rfl hl.1 rfl (lv_room (Nat.le_of_ble_eq_true rfl)) dX5_step_2 ⟨Nat.zero_le _, Nat.zero_le _⟩) hS (fun x h => ts_Aup hS.1 h) (fun u2 H locs hp3 hW _ _ hS => ?_)
  have hp3u : u2 = u := hp3
  rw [hp3u] at hW
  refine lv_aload_n hx hb dX5_step_5 rfl (lv_at hl 0 rfl) ?_
  refine ts_get (C := RX5) (T := TX5) (N := 4) (v := .ref (b + 1)) hx hb hts hi5 hown hK hW 0 (by decide) cel_st rfl 0 (by decide) (List.mem_of_getElem? (i := 5) rfl) rfl dX5_step_6 ?_
  refine lv_iload_n hx hb dX5_step_9 rfl (lv_at hl 2 rfl) ?_
  refine ts_retI (va_runV (As := [.int (nI v)]) (rest := []) ⟨hx, hb, hml, hown, hts⟩ (k_X3_isStep l D q b H.size u v hwf (by omega)) (cwV 1 hts gX5_step_X3_isStep rfl rfl rfl (by decide +kernel) ⟨Nat.le_of_ble_eq_true rfl, Nat.le_of_ble_eq_true rfl⟩) (ts_preV hK hN hW 1 (by decide) cel_pr rfl) rfl rfl hl.1 rfl (lv_room (Nat.le_of_ble_eq_true rfl)) dX5_step_10 ⟨Nat.zero_le _, Nat.zero_le _⟩) hS (fun x h => ts_Aup hS.1 h) (fun r4 u5 H locs hp6 hW _ _ hS => ?_)
  have hp6r : r4 = b2i true := hp6.1
  have hp6u : u5 = u := hp6.2
  rw [hp6r]
  rw [hp6u] at hW
  refine lv_if_ne (tgt := 26) hx hb dX5_step_13 (by decide) (fun c7 => ?_) (fun c7 => ?_)
  · skip
    have c7 := ts_bt c7
    refine lv_aload_n hx hb dX5_step_26 rfl (lv_at hl 0 rfl) ?_
    refine ts_get (C := RX5) (T := TX5) (N := 4) (v := .ref (b + 1)) hx hb hts hi5 hown hK hW 0 (by decide) cel_st rfl 0 (by decide) (List.mem_of_getElem? (i := 5) rfl) rfl dX5_step_27 ?_
    refine ts_get (C := RX3) (T := TX3) (N := 5) (v := .ref (b + 2)) hx hb hts hi3 hown hK hW 1 (by decide) cel_pr rfl 0 (by decide) (List.mem_of_getElem? (i := 6) rfl) rfl dX5_step_30 ?_
    refine lv_iload_n hx hb dX5_step_33 rfl (lv_at hl 1 rfl) ?_
    refine ts_aald (a := b + (3 + 2 * f)) hx hb hK hW 2 (by decide) 1 cel_fs rfl rfl (by omega) (by decide) rfl dX5_step_34 ?_
    refine lv_astore_n (lv' := [(3, .ref (b + (3 + 2 * f))), (0, .ref (b + 0)), (1, .int (nI f)), (2, .int (nI v))]) hx hb dX5_step_35 rfl hl (by decide) rfl (fun ls hl => ?_)
    refine lv_aload_n hx hb dX5_step_36 rfl (lv_at hl 0 rfl) ?_
    refine ts_get (C := RX2) (T := TX2) (N := 4) (v := .int (nI (u.1.1 (20 + f)))) hx hb hts hi2 hown hK hW (3 + 2 * f) (by omega) (cel_fn (by omega)) rfl 1 (by decide) (List.mem_of_getElem? (i := 7) rfl) rfl dX5_step_37 ?_
    have hq8 := hwf.fsz (i := f) (by omega)
    refine lv_bipush (v := nI 6) hx hb dX5_step_40 (by decide) ?_
    refine lv_icmp_lt (tgt := 55) hx hb dX5_step_42 (by decide) (fun c9 => ?_) (fun c9 => ?_)
    · skip
      rw [nI_ltI (by omega) (by omega)] at c9
      exfalso; omega
    rw [nI_ltI (by omega) (by omega)] at c9
    exact ts_thr (F := u.2.1) C0 rfl hlt hnt hl.1 (List.mem_of_getElem? (i := 3) rfl) (List.mem_of_getElem? (i := 4) rfl) (fun w hw => List.mem_cons_of_mem _ (List.mem_append_left _ (List.mem_append_right _ hw))) hE hE.1.1 hws0 hW hS dX5_step_45 dX5_step_48 dX5_step_49 dX5_step_51 dX5_step_54 ⟨by decide, by decide, by decide, by decide⟩
  have c7 := ts_bf c7
  exact absurd c7 (by decide)
set_option maxHeartbeats 4000000 in
set_option maxRecDepth 100000 in
theorem x_X5_unstep (l : Launch) (hlt : l.stackTraces = false) (D : va_G) (q : CQ) (b sz : Nat) (u : ST) (a1 a2 a3 : Nat) (f : Nat) (hwf : WP u.1) (hf : f < u.1.1 1) (hz : u.1.1 (20 + f) = 0) : vx_Met l yX5_unstep wsX5_unstep ({ frames := 6, cells := 1, slots := 6, locals := 90 } : Room) (va_Pc [.ref (b + 0), .int (nI f)] (PrE D q b sz u a1 a2 a3)) (cI D q b sz (fun _ _ => False)) (XE D q b sz u) 1 6 (ts_A b 52 sz) := by
  refine ts_metX (by decide) rfl (Nat.le_of_ble_eq_true rfl) ?_
  intro p e s m below meth c C0 hnt hX ls hl
  obtain ⟨⟨hsz, hW, hK, hN⟩, hE⟩ := hX
  subst hsz
  obtain ⟨hx, hb, hml, hown, hts, -, -, -⟩ := id C0
  have hW : ts_W D b 52 (cel q b u) s.heap := hW
  have hws0 := Ws.size hW
  have hS : va_S (ts_A b 52 s.heap.size) s.heap s.heap [] := va_S.rf
  have hB : ∀ k, k < 52 → ts_A b 52 s.heap.size (b + k) := fun k hk => ts_Ain hk
  have hi2 : ∀ w ∈ wsX20, w ∈ wsX5_unstep := ts_lays 93 rfl
  have hi3 : ∀ w ∈ wsX30, w ∈ wsX5_unstep := ts_lays 88 rfl
  have hi5 : ∀ w ∈ wsX50, w ∈ wsX5_unstep := ts_lays 84 rfl
  have hl : lv_has ls 3 [(0, .ref (b + 0)), (1, .int (nI f))] := hl
  have hs := hwf.sz
  refine lv_aload_n hx hb dX5_unstep_0 rfl (lv_at hl 0 rfl) ?_
  refine lv_iload_n hx hb dX5_unstep_1 rfl (lv_at hl 1 rfl) ?_
  refine ts_retV (va_runV (As := [.int (nI f)]) (rest := []) ⟨hx, hb, hml, hown, hts⟩ (k_X5_requireFunction l D q b s.heap.size u f hwf (by first | omega | (show f < u.1.1 1; omega))) (cwV 1 hts gX5_unstep_X5_requireFunction rfl rfl rfl (by decide +kernel) ⟨Nat.le_of_ble_eq_true rfl, Nat.le_of_ble_eq_true rfl⟩) (ts_preV hK hN hW 0 (by decide) cel_st rfl) rfl rfl hl.1 rfl (lv_room (Nat.le_of_ble_eq_true rfl)) dX5_unstep_2 ⟨Nat.zero_le _, Nat.zero_le _⟩) hS (fun x h => ts_Aup hS.1 h) (fun u2 H locs hp3 hW _ _ hS => ?_)
  have hp3u : u2 = u := hp3
  rw [hp3u] at hW
  refine lv_aload_n hx hb dX5_unstep_5 rfl (lv_at hl 0 rfl) ?_
  refine ts_get (C := RX5) (T := TX5) (N := 4) (v := .ref (b + 1)) hx hb hts hi5 hown hK hW 0 (by decide) cel_st rfl 0 (by decide) (List.mem_of_getElem? (i := 3) rfl) rfl dX5_unstep_6 ?_
  refine ts_get (C := RX3) (T := TX3) (N := 5) (v := .ref (b + 2)) hx hb hts hi3 hown hK hW 1 (by decide) cel_pr rfl 0 (by decide) (List.mem_of_getElem? (i := 4) rfl) rfl dX5_unstep_9 ?_
  refine lv_iload_n hx hb dX5_unstep_12 rfl (lv_at hl 1 rfl) ?_
  refine ts_aald (a := b + (3 + 2 * f)) hx hb hK hW 2 (by decide) 1 cel_fs rfl rfl (by omega) (by decide) rfl dX5_unstep_13 ?_
  refine lv_astore_n (lv' := [(2, .ref (b + (3 + 2 * f))), (0, .ref (b + 0)), (1, .int (nI f))]) hx hb dX5_unstep_14 rfl hl (by decide) rfl (fun ls hl => ?_)
  refine lv_aload_n hx hb dX5_unstep_15 rfl (lv_at hl 0 rfl) ?_
  refine ts_get (C := RX2) (T := TX2) (N := 4) (v := .int (nI (u.1.1 (20 + f)))) hx hb hts hi2 hown hK hW (3 + 2 * f) (by omega) (cel_fn (by omega)) rfl 1 (by decide) (List.mem_of_getElem? (i := 5) rfl) rfl dX5_unstep_16 ?_
  have hq4 := hwf.fsz (i := f) (by omega)
  refine lv_if_gt (tgt := 32) hx hb dX5_unstep_19 (by decide) (fun c5 => ?_) (fun c5 => ?_)
  · skip
    rw [ts_gt0 (by omega)] at c5
    exfalso; omega
  rw [ts_gt0 (by omega)] at c5
  exact ts_thr (F := u.2.1) C0 rfl hlt hnt hl.1 (List.mem_of_getElem? (i := 1) rfl) (List.mem_of_getElem? (i := 2) rfl) (fun w hw => List.mem_cons_of_mem _ (List.mem_append_left _ (List.mem_append_right _ hw))) hE hE.1.2.1 hws0 hW hS dX5_unstep_22 dX5_unstep_25 dX5_unstep_26 dX5_unstep_28 dX5_unstep_31 ⟨by decide, by decide, by decide, by decide⟩
set_option maxHeartbeats 4000000 in
set_option maxRecDepth 100000 in
theorem x_X5_type (l : Launch) (hlt : l.stackTraces = false) (D : va_G) (q : CQ) (b sz : Nat) (u : ST) (a1 a2 a3 : Nat) (f : Nat) (hwf : WP u.1) (hf : f < u.1.1 1) (hok : okF u.1 f = false) : vx_Met l yX5_type wsX5_type ({ frames := 6, cells := 1, slots := 6, locals := 90 } : Room) (va_Pc [.ref (b + 0), .int (nI f), .int (nI 1)] (PrE D q b sz u a1 a2 a3)) (cI D q b sz (fun _ _ => False)) (XE D q b sz u) 1 6 (ts_A b 52 sz) := by
  refine ts_metX (by decide) rfl (Nat.le_of_ble_eq_true rfl) ?_
  intro p e s m below meth c C0 hnt hX ls hl
  obtain ⟨⟨hsz, hW, hK, hN⟩, hE⟩ := hX
  subst hsz
  obtain ⟨hx, hb, hml, hown, hts, -, -, -⟩ := id C0
  have hW : ts_W D b 52 (cel q b u) s.heap := hW
  have hws0 := Ws.size hW
  have hS : va_S (ts_A b 52 s.heap.size) s.heap s.heap [] := va_S.rf
  have hB : ∀ k, k < 52 → ts_A b 52 s.heap.size (b + k) := fun k hk => ts_Ain hk
  have hi5 : ∀ w ∈ wsX50, w ∈ wsX5_type := ts_lays 63 rfl
  have hl : lv_has ls 4 [(0, .ref (b + 0)), (1, .int (nI f)), (2, .int (nI 1))] := hl
  have hs := hwf.sz
  refine lv_aload_n hx hb dX5_type_0 rfl (lv_at hl 0 rfl) ?_
  refine lv_iload_n hx hb dX5_type_1 rfl (lv_at hl 1 rfl) ?_
  refine ts_retV (va_runV (As := [.int (nI f)]) (rest := []) ⟨hx, hb, hml, hown, hts⟩ (k_X5_requireFunction l D q b s.heap.size u f hwf (by first | omega | (show f < u.1.1 1; omega))) (cwV 1 hts gX5_type_X5_requireFunction rfl rfl rfl (by decide +kernel) ⟨Nat.le_of_ble_eq_true rfl, Nat.le_of_ble_eq_true rfl⟩) (ts_preV hK hN hW 0 (by decide) cel_st rfl) rfl rfl hl.1 rfl (lv_room (Nat.le_of_ble_eq_true rfl)) dX5_type_2 ⟨Nat.zero_le _, Nat.zero_le _⟩) hS (fun x h => ts_Aup hS.1 h) (fun u2 H locs hp3 hW _ _ hS => ?_)
  have hp3u : u2 = u := hp3
  rw [hp3u] at hW
  refine lv_iload_n hx hb dX5_type_5 rfl (lv_at hl 2 rfl) ?_
  refine lv_if_eq (tgt := 33) hx hb dX5_type_6 (by decide) (fun c4 => ?_) (fun c4 => ?_)
  · skip
    exfalso; revert c4; decide
  refine lv_aload_n hx hb dX5_type_9 rfl (lv_at hl 0 rfl) ?_
  refine ts_get (C := RX5) (T := TX5) (N := 4) (v := .ref (b + 1)) hx hb hts hi5 hown hK hW 0 (by decide) cel_st rfl 0 (by decide) (List.mem_of_getElem? (i := 3) rfl) rfl dX5_type_10 ?_
  refine lv_iload_n hx hb dX5_type_13 rfl (lv_at hl 1 rfl) ?_
  refine ts_retR (va_runV (As := [.int (nI f)]) (rest := []) ⟨hx, hb, hml, hown, hts⟩ (k_X3_checked l D q b H.size u f hwf (by omega)) (cwV 1 hts gX5_type_X3_checked rfl rfl rfl (by decide +kernel) ⟨Nat.le_of_ble_eq_true rfl, Nat.le_of_ble_eq_true rfl⟩) (ts_preV hK hN hW 1 (by decide) cel_pr rfl) rfl rfl hl.1 rfl (lv_room (Nat.le_of_ble_eq_true rfl)) dX5_type_14 ⟨Nat.zero_le _, Nat.zero_le _⟩) hS (fun x h => ts_Aup hS.1 h) (fun u6 H locs hp7 hW _ _ hS => ?_)
  have hp7u : u6 = (u.1, (chkA u.1 f), u.2.2.1, u.2.2.2) := hp7
  rw [hp7u] at hW
  have hq8 := chkA_le hwf (f := f) (by omega)
  refine ts_retI (va_runV (As := []) (rest := []) ⟨hx, hb, hml, hown, hts⟩ (k_X1_areNone l D q b H.size (u.1, (chkA u.1 f), u.2.2.1, u.2.2.2) (by show (chkA u.1 f).1 < 1000; omega) (by show (chkA u.1 f).2.2 < 1000; omega)) (cwV 0 hts gX5_type_X1_areNone rfl rfl rfl (by decide +kernel) ⟨Nat.le_of_ble_eq_true rfl, Nat.le_of_ble_eq_true rfl⟩) (ts_preV hK hN hW 23 (by decide) cel_fi rfl) rfl rfl hl.1 rfl (lv_room (Nat.le_of_ble_eq_true rfl)) dX5_type_17 ⟨Nat.zero_le _, Nat.zero_le _⟩) hS (fun x h => ts_Aup hS.1 h) (fun r9 u10 H locs hp11 hW _ _ hS => ?_)
  have hp11r : r9 = b2i (noneF (chkA u.1 f)) := hp11.1
  have hp11u : u10 = (u.1, (chkA u.1 f), u.2.2.1, u.2.2.2) := hp11.2
  rw [hp11r]
  rw [hp11u] at hW
  refine lv_if_ne (tgt := 33) hx hb dX5_type_20 (by decide) (fun c12 => ?_) (fun c12 => ?_)
  · skip
    have c12 := ts_bt c12
    exact absurd (hok.symm.trans c12) (by decide)
  have c12 := ts_bf c12
  exact ts_thr (F := (chkA u.1 f)) C0 rfl hlt hnt hl.1 (List.mem_of_getElem? (i := 1) rfl) (List.mem_of_getElem? (i := 2) rfl) (fun w hw => List.mem_cons_of_mem _ (List.mem_append_left _ (List.mem_append_right _ hw))) hE hE.1.2.2 hws0 hW hS dX5_type_23 dX5_type_26 dX5_type_27 dX5_type_29 dX5_type_32 ⟨by decide, by decide, by decide, by decide⟩
