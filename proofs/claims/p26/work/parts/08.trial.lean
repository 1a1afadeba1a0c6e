set_option maxHeartbeats 4000000 in
set_option maxRecDepth 100000 in
theorem k_X4_cost (l : Launch) (D : va_G) (q : CQ) (b sz : Nat) (u : ST)   : Met l yX4_cost wsX4_cost ({ frames := 0, cells := 0, slots := 0, locals := 0 } : Room) (va_Pc [.ref (b + 24)] (Pr D q b sz u)) (cI D q b sz (fun r u' => r = nI (costT u.2.2.1) ∧ u' = u)) 0 0 (ts_A b 52 sz) := by
  refine ts_met (by decide) rfl (Nat.le_of_ble_eq_true rfl) ?_
  intro p e s m below meth c C0 hX ls hl
  obtain ⟨hsz, hW, hK, hN⟩ := hX
  subst hsz
  obtain ⟨hx, hb, hml, hown, hts, -, -, -⟩ := id C0
  have hW : ts_W D b 52 (cel q b u) s.heap := hW
  have hS : va_S (ts_A b 52 s.heap.size) s.heap s.heap [] := va_S.rf
  have hB : ∀ k, k < 52 → ts_A b 52 s.heap.size (b + k) := fun k hk => ts_Ain hk
  have hi4 : ∀ w ∈ wsX40, w ∈ wsX4_cost := ts_lays 3 rfl
  have hl : lv_has ls 1 [(0, .ref (b + 24))] := hl
  refine lv_aload_n hx hb dX4_cost_0 rfl (lv_at hl 0 rfl) ?_
  refine ts_get (C := RX4) (T := TX4) (N := 13) (v := .int (nI (u.2.2.1.1 2))) hx hb hts hi4 hown hK hW 24 (by decide) cel_tr rfl 5 (by decide) (List.mem_of_getElem? (i := 1) rfl) rfl dX4_cost_1 ?_
  refine lv_iconst (v := nI 2) hx hb dX4_cost_4 (by decide) ?_
  refine lv_aload_n hx hb dX4_cost_5 rfl (lv_at hl 0 rfl) ?_
  refine ts_get (C := RX4) (T := TX4) (N := 13) (v := .int (nI (u.2.2.1.1 3))) hx hb hts hi4 hown hK hW 24 (by decide) cel_tr rfl 6 (by decide) (List.mem_of_getElem? (i := 2) rfl) rfl dX4_cost_6 ?_
  refine ts_imul (v := nI (2 * (u.2.2.1.1 3))) hx hb dX4_cost_9 (pk_mul _ _) ?_
  refine ts_iadd (v := nI ((u.2.2.1.1 2) + (2 * (u.2.2.1.1 3)))) hx hb dX4_cost_10 (nI_add _ _) ?_
  exact ts_iret (u := u) (v := nI ((u.2.2.1.1 2) + (2 * (u.2.2.1.1 3)))) C0 hW hS (by exact ⟨rfl, rfl⟩) dX4_cost_11
set_option maxHeartbeats 4000000 in
set_option maxRecDepth 100000 in
theorem k_X4_fail (l : Launch) (D : va_G) (q : CQ) (b sz : Nat) (u : ST) (fl rw_ : Nat)  : Met l yX4_fail wsX4_fail ({ frames := 0, cells := 0, slots := 0, locals := 0 } : Room) (va_Pc [.ref (b + 24), .int (nI fl), .int (zI rw_)] (Pr D q b sz u)) (cV D q b sz (fun u' => u' = (u.1, u.2.1, failT fl rw_ u.2.2.1, u.2.2.2))) 0 0 (ts_A b 52 sz) := by
  refine ts_met (by decide) rfl (Nat.le_of_ble_eq_true rfl) ?_
  intro p e s m below meth c C0 hX ls hl
  obtain ⟨hsz, hW, hK, hN⟩ := hX
  subst hsz
  obtain ⟨hx, hb, hml, hown, hts, -, -, -⟩ := id C0
  have hW : ts_W D b 52 (cel q b u) s.heap := hW
  have hS : va_S (ts_A b 52 s.heap.size) s.heap s.heap [] := va_S.rf
  have hB : ∀ k, k < 52 → ts_A b 52 s.heap.size (b + k) := fun k hk => ts_Ain hk
  have hi4 : ∀ w ∈ wsX40, w ∈ wsX4_fail := ts_lays 3 rfl
  have hl : lv_has ls 3 [(0, .ref (b + 24)), (1, .int (nI fl)), (2, .int (zI rw_))] := hl
  refine lv_aload_n hx hb dX4_fail_0 rfl (lv_at hl 0 rfl) ?_
  refine lv_iload_n hx hb dX4_fail_1 rfl (lv_at hl 1 rfl) ?_
  refine ts_put (C := RX4) (T := TX4) (N := 13) (v := .int (nI fl)) hx hb hts hi4 tyX4 tyX4_ok nmX4 hown hK hW hS hB 24 (by decide) cel_tr rfl 9 (by decide) (List.mem_of_getElem? (i := 1) rfl) rfl rfl rfl (Nat.le_of_ble_eq_true rfl) (cel q b (u.1, u.2.1, (va_up u.2.2.1.1 6 fl, u.2.2.1.2.1, u.2.2.1.2.2), u.2.2.2)) rfl (cel_oT rfl rfl rfl rfl) dX4_fail_2 (fun H locs _ _ hW hS => ?_)
  refine lv_aload_n hx hb dX4_fail_5 rfl (lv_at hl 0 rfl) ?_
  refine lv_iload_n hx hb dX4_fail_6 rfl (lv_at hl 2 rfl) ?_
  refine ts_put (C := RX4) (T := TX4) (N := 13) (v := .int (zI rw_)) hx hb hts hi4 tyX4 tyX4_ok nmX4 hown hK hW hS hB 24 (by decide) cel_tr rfl 10 (by decide) (List.mem_of_getElem? (i := 2) rfl) rfl rfl rfl (Nat.le_of_ble_eq_true rfl) (cel q b (u.1, u.2.1, (va_up (va_up u.2.2.1.1 6 fl) 8 rw_, u.2.2.1.2.1, u.2.2.1.2.2), u.2.2.2)) rfl (cel_oT rfl rfl rfl rfl) dX4_fail_7 (fun H locs _ _ hW hS => ?_)
  exact ts_vret (u := (u.1, u.2.1, (va_up (va_up u.2.2.1.1 6 fl) 8 rw_, u.2.2.1.2.1, u.2.2.1.2.2), u.2.2.2)) C0 hW hS (by exact rfl) dX4_fail_10
set_option maxHeartbeats 4000000 in
set_option maxRecDepth 100000 in
theorem k_X4_guard (l : Launch) (D : va_G) (q : CQ) (b sz : Nat) (u : ST) (nd fl rw_ : Nat) (hwt : WT u.2.2.1) (hnd : nd ≤ 3) : Met l yX4_guard wsX4_guard ({ frames := 1, cells := 0, slots := 0, locals := 22 } : Room) (va_Pc [.ref (b + 24), .int (nI nd), .int (nI fl), .int (zI rw_)] (Pr D q b sz u)) (cV D q b sz (fun u' => u' = (u.1, u.2.1, guardT nd fl rw_ u.2.2.1, u.2.2.2))) 0 0 (ts_A b 52 sz) := by
  refine ts_met (by decide) rfl (Nat.le_of_ble_eq_true rfl) ?_
  intro p e s m below meth c C0 hX ls hl
  obtain ⟨hsz, hW, hK, hN⟩ := hX
  subst hsz
  obtain ⟨hx, hb, hml, hown, hts, -, -, -⟩ := id C0
  have hW : ts_W D b 52 (cel q b u) s.heap := hW
  have hS : va_S (ts_A b 52 s.heap.size) s.heap s.heap [] := va_S.rf
  have hB : ∀ k, k < 52 → ts_A b 52 s.heap.size (b + k) := fun k hk => ts_Ain hk
  have hi4 : ∀ w ∈ wsX40, w ∈ wsX4_guard := ts_lays 14 rfl
  have hl : lv_has ls 5 [(0, .ref (b + 24)), (1, .int (nI nd)), (2, .int (nI fl)), (3, .int (zI rw_))] := hl
  obtain ⟨w0, w1, w2, w3, w5, w6, w7, w8, w9⟩ := id hwt
  refine lv_iload_n hx hb dX4_guard_0 rfl (lv_at hl 1 rfl) ?_
  refine lv_aload_n hx hb dX4_guard_1 rfl (lv_at hl 0 rfl) ?_
  refine ts_get (C := RX4) (T := TX4) (N := 13) (v := .int (nI (u.2.2.1.1 1))) hx hb hts hi4 hown hK hW 24 (by decide) cel_tr rfl 3 (by decide) (List.mem_of_getElem? (i := 1) rfl) rfl dX4_guard_2 ?_
  refine lv_icmp_ne (tgt := 12) hx hb dX4_guard_5 (by decide) (fun c1 => ?_) (fun c1 => ?_)
  · skip
    rw [nI_eq (by omega) (by omega)] at c1
    refine lv_iconst (v := nI 0) hx hb dX4_guard_12 (by decide) ?_
    refine lv_istore (lv' := [(4, .int (nI 0)), (0, .ref (b + 24)), (1, .int (nI nd)), (2, .int (nI fl)), (3, .int (zI rw_))]) hx hb dX4_guard_13 hl (by decide) rfl (fun ls hl => ?_)
    refine lv_aload_n hx hb dX4_guard_15 rfl (lv_at hl 1 rfl) ?_
    refine ts_get (C := RX4) (T := TX4) (N := 13) (v := .int (nI (u.2.2.1.1 3))) hx hb hts hi4 hown hK hW 24 (by decide) cel_tr rfl 6 (by decide) (List.mem_of_getElem? (i := 2) rfl) rfl dX4_guard_16 ?_
    refine lv_aload_n hx hb dX4_guard_19 rfl (lv_at hl 1 rfl) ?_
    refine ts_get (C := RX4) (T := TX4) (N := 13) (v := .int (nI (u.2.2.1.1 0))) hx hb hts hi4 hown hK hW 24 (by decide) cel_tr rfl 2 (by decide) (List.mem_of_getElem? (i := 3) rfl) rfl dX4_guard_20 ?_
    refine lv_icmp_ge (tgt := 48) hx hb dX4_guard_23 (by decide) (fun c2 => ?_) (fun c2 => ?_)
    · skip
      rw [nI_leI (by omega) (by omega)] at c2
      refine lv_aload_n hx hb dX4_guard_48 rfl (lv_at hl 1 rfl) ?_
      refine lv_dup hx hb dX4_guard_49 rfl ?_
      refine ts_get (C := RX4) (T := TX4) (N := 13) (v := .int (nI (u.2.2.1.1 4))) hx hb hts hi4 hown hK hW 24 (by decide) cel_tr rfl 7 (by decide) (List.mem_of_getElem? (i := 4) rfl) rfl dX4_guard_50 ?_
      refine lv_iconst (v := nI 1) hx hb dX4_guard_53 (by decide) ?_
      refine ts_iadd (v := nI ((u.2.2.1.1 4) + 1)) hx hb dX4_guard_54 (nI_add _ _) ?_
      refine ts_put (C := RX4) (T := TX4) (N := 13) (v := .int (nI ((u.2.2.1.1 4) + 1))) hx hb hts hi4 tyX4 tyX4_ok nmX4 hown hK hW hS hB 24 (by decide) cel_tr rfl 7 (by decide) (List.mem_of_getElem? (i := 4) rfl) rfl rfl rfl (Nat.le_of_ble_eq_true rfl) (cel q b (u.1, u.2.1, (va_up u.2.2.1.1 4 ((u.2.2.1.1 4) + 1), u.2.2.1.2.1, u.2.2.1.2.2), u.2.2.2)) rfl (cel_oT rfl rfl rfl rfl) dX4_guard_55 (fun H locs _ _ hW hS => ?_)
      refine lv_iload hx hb dX4_guard_58 (lv_at hl 0 rfl) ?_
      refine lv_if_ne (tgt := 80) hx hb dX4_guard_60 (by decide) (fun c3 => ?_) (fun c3 => ?_)
      · skip
        exfalso; revert c3; decide
      refine lv_aload_n hx hb dX4_guard_63 rfl (lv_at hl 1 rfl) ?_
      refine ts_get (C := RX4) (T := TX4) (N := 13) (v := .int (nI (u.2.2.1.1 7))) hx hb hts hi4 hown hK hW 24 (by decide) cel_tr rfl 11 (by decide) (List.mem_of_getElem? (i := 5) rfl) rfl dX4_guard_64 ?_
      refine lv_if_ne (tgt := 80) hx hb dX4_guard_67 (by decide) (fun c4 => ?_) (fun c4 => ?_)
      · skip
        rw [ts_eq0 (by omega)] at c4
        exact ts_vret (u := (u.1, u.2.1, (va_up u.2.2.1.1 4 ((u.2.2.1.1 4) + 1), u.2.2.1.2.1, u.2.2.1.2.2), u.2.2.2)) C0 hW hS (by (show _ = (u.1, u.2.1, guardT nd fl rw_ u.2.2.1, u.2.2.2)); unfold guardT; (repeat' split) <;> first | rfl | contradiction | (exfalso; omega) | (exfalso; simp_all; done)) dX4_guard_80
      rw [ts_eq0 (by omega)] at c4
      refine lv_aload_n hx hb dX4_guard_70 rfl (lv_at hl 1 rfl) ?_
      refine lv_iconst (v := nI 1) hx hb dX4_guard_71 (by decide) ?_
      refine ts_put (C := RX4) (T := TX4) (N := 13) (v := .int (nI 1)) hx hb hts hi4 tyX4 tyX4_ok nmX4 hown hK hW hS hB 24 (by decide) cel_tr rfl 11 (by decide) (List.mem_of_getElem? (i := 5) rfl) rfl rfl rfl (Nat.le_of_ble_eq_true rfl) (cel q b (u.1, u.2.1, (va_up (va_up u.2.2.1.1 4 ((u.2.2.1.1 4) + 1)) 7 1, u.2.2.1.2.1, u.2.2.1.2.2), u.2.2.2)) rfl (cel_oT rfl rfl rfl rfl) dX4_guard_72 (fun H locs _ _ hW hS => ?_)
      refine lv_aload_n hx hb dX4_guard_75 rfl (lv_at hl 1 rfl) ?_
      refine lv_iload_n hx hb dX4_guard_76 rfl (lv_at hl 4 rfl) ?_
      refine ts_put (C := RX4) (T := TX4) (N := 13) (v := .int (zI rw_)) hx hb hts hi4 tyX4 tyX4_ok nmX4 hown hK hW hS hB 24 (by decide) cel_tr rfl 12 (by decide) (List.mem_of_getElem? (i := 6) rfl) rfl rfl rfl (Nat.le_of_ble_eq_true rfl) (cel q b (u.1, u.2.1, (va_up (va_up (va_up u.2.2.1.1 4 ((u.2.2.1.1 4) + 1)) 7 1) 9 rw_, u.2.2.1.2.1, u.2.2.1.2.2), u.2.2.2)) rfl (cel_oT rfl rfl rfl rfl) dX4_guard_77 (fun H locs _ _ hW hS => ?_)
      exact ts_vret (u := (u.1, u.2.1, (va_up (va_up (va_up u.2.2.1.1 4 ((u.2.2.1.1 4) + 1)) 7 1) 9 rw_, u.2.2.1.2.1, u.2.2.1.2.2), u.2.2.2)) C0 hW hS (by (show _ = (u.1, u.2.1, guardT nd fl rw_ u.2.2.1, u.2.2.2)); unfold guardT; (repeat' split) <;> first | rfl | contradiction | (exfalso; omega) | (exfalso; simp_all; done)) dX4_guard_80
    rw [nI_leI (by omega) (by omega)] at c2
    refine lv_aload_n hx hb dX4_guard_26 rfl (lv_at hl 1 rfl) ?_
    refine lv_dup hx hb dX4_guard_27 rfl ?_
    refine ts_get (C := RX4) (T := TX4) (N := 13) (v := .int (nI (u.2.2.1.1 3))) hx hb hts hi4 hown hK hW 24 (by decide) cel_tr rfl 6 (by decide) (List.mem_of_getElem? (i := 2) rfl) rfl dX4_guard_28 ?_
    refine lv_iconst (v := nI 1) hx hb dX4_guard_31 (by decide) ?_
    refine ts_iadd (v := nI ((u.2.2.1.1 3) + 1)) hx hb dX4_guard_32 (nI_add _ _) ?_
    refine ts_put (C := RX4) (T := TX4) (N := 13) (v := .int (nI ((u.2.2.1.1 3) + 1))) hx hb hts hi4 tyX4 tyX4_ok nmX4 hown hK hW hS hB 24 (by decide) cel_tr rfl 6 (by decide) (List.mem_of_getElem? (i := 2) rfl) rfl rfl rfl (Nat.le_of_ble_eq_true rfl) (cel q b (u.1, u.2.1, (va_up u.2.2.1.1 3 ((u.2.2.1.1 3) + 1), u.2.2.1.2.1, u.2.2.1.2.2), u.2.2.2)) rfl (cel_oT rfl rfl rfl rfl) dX4_guard_33 (fun H locs _ _ hW hS => ?_)
    refine lv_iload hx hb dX4_guard_36 (lv_at hl 0 rfl) ?_
    refine lv_if_ne (tgt := 47) hx hb dX4_guard_38 (by decide) (fun c5 => ?_) (fun c5 => ?_)
    · skip
      exfalso; revert c5; decide
    refine lv_aload_n hx hb dX4_guard_41 rfl (lv_at hl 1 rfl) ?_
    refine lv_iload_n hx hb dX4_guard_42 rfl (lv_at hl 3 rfl) ?_
    refine lv_iload_n hx hb dX4_guard_43 rfl (lv_at hl 4 rfl) ?_
    refine ts_retV (va_runV (As := [.int (nI fl), .int (zI rw_)]) (rest := []) ⟨hx, hb, hml, hown, hts⟩ (k_X4_fail l D q b H.size (u.1, u.2.1, (va_up u.2.2.1.1 3 ((u.2.2.1.1 3) + 1), u.2.2.1.2.1, u.2.2.1.2.2), u.2.2.2) fl rw_) (cwV 2 hts gX4_guard_X4_fail rfl rfl rfl (by decide +kernel) ⟨Nat.le_of_ble_eq_true rfl, Nat.le_of_ble_eq_true rfl⟩) (ts_preV hK hN hW 24 (by decide) cel_tr rfl) rfl rfl hl.1 rfl (lv_room (Nat.le_of_ble_eq_true rfl)) dX4_guard_44 ⟨Nat.zero_le _, Nat.zero_le _⟩) hS (fun x h => ts_Aup hS.1 h) (fun u7 H locs hp8 hW _ _ hS => ?_)
    have hp8u : u7 = (u.1, u.2.1, (failT fl rw_ (va_up u.2.2.1.1 3 ((u.2.2.1.1 3) + 1), u.2.2.1.2.1, u.2.2.1.2.2)), u.2.2.2) := hp8
    rw [hp8u] at hW
    exact ts_vret (u := (u.1, u.2.1, (failT fl rw_ (va_up u.2.2.1.1 3 ((u.2.2.1.1 3) + 1), u.2.2.1.2.1, u.2.2.1.2.2)), u.2.2.2)) C0 hW hS (by (show _ = (u.1, u.2.1, guardT nd fl rw_ u.2.2.1, u.2.2.2)); unfold guardT; (repeat' split) <;> first | rfl | contradiction | (exfalso; omega) | (exfalso; simp_all; done)) dX4_guard_47
  rw [nI_eq (by omega) (by omega)] at c1
  refine lv_iconst (v := nI 1) hx hb dX4_guard_8 (by decide) ?_
  refine lv_goto (tgt := 13) hx hb dX4_guard_9 (by decide) ?_
  refine lv_istore (lv' := [(4, .int (nI 1)), (0, .ref (b + 24)), (1, .int (nI nd)), (2, .int (nI fl)), (3, .int (zI rw_))]) hx hb dX4_guard_13 hl (by decide) rfl (fun ls hl => ?_)
  refine lv_aload_n hx hb dX4_guard_15 rfl (lv_at hl 1 rfl) ?_
  refine ts_get (C := RX4) (T := TX4) (N := 13) (v := .int (nI (u.2.2.1.1 3))) hx hb hts hi4 hown hK hW 24 (by decide) cel_tr rfl 6 (by decide) (List.mem_of_getElem? (i := 2) rfl) rfl dX4_guard_16 ?_
  refine lv_aload_n hx hb dX4_guard_19 rfl (lv_at hl 1 rfl) ?_
  refine ts_get (C := RX4) (T := TX4) (N := 13) (v := .int (nI (u.2.2.1.1 0))) hx hb hts hi4 hown hK hW 24 (by decide) cel_tr rfl 2 (by decide) (List.mem_of_getElem? (i := 3) rfl) rfl dX4_guard_20 ?_
  refine lv_icmp_ge (tgt := 48) hx hb dX4_guard_23 (by decide) (fun c9 => ?_) (fun c9 => ?_)
  · skip
    rw [nI_leI (by omega) (by omega)] at c9
    refine lv_aload_n hx hb dX4_guard_48 rfl (lv_at hl 1 rfl) ?_
    refine lv_dup hx hb dX4_guard_49 rfl ?_
    refine ts_get (C := RX4) (T := TX4) (N := 13) (v := .int (nI (u.2.2.1.1 4))) hx hb hts hi4 hown hK hW 24 (by decide) cel_tr rfl 7 (by decide) (List.mem_of_getElem? (i := 4) rfl) rfl dX4_guard_50 ?_
    refine lv_iconst (v := nI 1) hx hb dX4_guard_53 (by decide) ?_
    refine ts_iadd (v := nI ((u.2.2.1.1 4) + 1)) hx hb dX4_guard_54 (nI_add _ _) ?_
    refine ts_put (C := RX4) (T := TX4) (N := 13) (v := .int (nI ((u.2.2.1.1 4) + 1))) hx hb hts hi4 tyX4 tyX4_ok nmX4 hown hK hW hS hB 24 (by decide) cel_tr rfl 7 (by decide) (List.mem_of_getElem? (i := 4) rfl) rfl rfl rfl (Nat.le_of_ble_eq_true rfl) (cel q b (u.1, u.2.1, (va_up u.2.2.1.1 4 ((u.2.2.1.1 4) + 1), u.2.2.1.2.1, u.2.2.1.2.2), u.2.2.2)) rfl (cel_oT rfl rfl rfl rfl) dX4_guard_55 (fun H locs _ _ hW hS => ?_)
    refine lv_iload hx hb dX4_guard_58 (lv_at hl 0 rfl) ?_
    refine lv_if_ne (tgt := 80) hx hb dX4_guard_60 (by decide) (fun c10 => ?_) (fun c10 => ?_)
    · skip
      exact ts_vret (u := (u.1, u.2.1, (va_up u.2.2.1.1 4 ((u.2.2.1.1 4) + 1), u.2.2.1.2.1, u.2.2.1.2.2), u.2.2.2)) C0 hW hS (by (show _ = (u.1, u.2.1, guardT nd fl rw_ u.2.2.1, u.2.2.2)); unfold guardT; (repeat' split) <;> first | rfl | contradiction | (exfalso; omega) | (exfalso; simp_all; done)) dX4_guard_80
    exfalso; revert c10; decide
  rw [nI_leI (by omega) (by omega)] at c9
  refine lv_aload_n hx hb dX4_guard_26 rfl (lv_at hl 1 rfl) ?_
  refine lv_dup hx hb dX4_guard_27 rfl ?_
  refine ts_get (C := RX4) (T := TX4) (N := 13) (v := .int (nI (u.2.2.1.1 3))) hx hb hts hi4 hown hK hW 24 (by decide) cel_tr rfl 6 (by decide) (List.mem_of_getElem? (i := 2) rfl) rfl dX4_guard_28 ?_
  refine lv_iconst (v := nI 1) hx hb dX4_guard_31 (by decide) ?_
  refine ts_iadd (v := nI ((u.2.2.1.1 3) + 1)) hx hb dX4_guard_32 (nI_add _ _) ?_
  refine ts_put (C := RX4) (T := TX4) (N := 13) (v := .int (nI ((u.2.2.1.1 3) + 1))) hx hb hts hi4 tyX4 tyX4_ok nmX4 hown hK hW hS hB 24 (by decide) cel_tr rfl 6 (by decide) (List.mem_of_getElem? (i := 2) rfl) rfl rfl rfl (Nat.le_of_ble_eq_true rfl) (cel q b (u.1, u.2.1, (va_up u.2.2.1.1 3 ((u.2.2.1.1 3) + 1), u.2.2.1.2.1, u.2.2.1.2.2), u.2.2.2)) rfl (cel_oT rfl rfl rfl rfl) dX4_guard_33 (fun H locs _ _ hW hS => ?_)
  refine lv_iload hx hb dX4_guard_36 (lv_at hl 0 rfl) ?_
  refine lv_if_ne (tgt := 47) hx hb dX4_guard_38 (by decide) (fun c11 => ?_) (fun c11 => ?_)
  · skip
    exact ts_vret (u := (u.1, u.2.1, (va_up u.2.2.1.1 3 ((u.2.2.1.1 3) + 1), u.2.2.1.2.1, u.2.2.1.2.2), u.2.2.2)) C0 hW hS (by (show _ = (u.1, u.2.1, guardT nd fl rw_ u.2.2.1, u.2.2.2)); unfold guardT; (repeat' split) <;> first | rfl | contradiction | (exfalso; omega) | (exfalso; simp_all; done)) dX4_guard_47
  exfalso; revert c11; decide
set_option maxHeartbeats 4000000 in
set_option maxRecDepth 100000 in
theorem k_X4_shownLength (l : Launch) (D : va_G) (q : CQ) (b sz : Nat) (u : ST)  (hwt : WT u.2.2.1) : Met l yX4_shownLength wsX4_shownLength ({ frames := 1, cells := 0, slots := 0, locals := 24 } : Room) (va_Pc [.ref (b + 24)] (Pr D q b sz u)) (cI D q b sz (fun r u' => r = shownI (u.2.2.1.1 1) (u.2.2.1.2.1 0) ∧ u' = u)) 0 0 (ts_A b 52 sz) := by
  refine ts_met (by decide) rfl (Nat.le_of_ble_eq_true rfl) ?_
  intro p e s m below meth c C0 hX ls hl
  obtain ⟨hsz, hW, hK, hN⟩ := hX
  subst hsz
  obtain ⟨hx, hb, hml, hown, hts, -, -, -⟩ := id C0
  have hW : ts_W D b 52 (cel q b u) s.heap := hW
  have hS : va_S (ts_A b 52 s.heap.size) s.heap s.heap [] := va_S.rf
  have hB : ∀ k, k < 52 → ts_A b 52 s.heap.size (b + k) := fun k hk => ts_Ain hk
  have hi4 : ∀ w ∈ wsX40, w ∈ wsX4_shownLength := ts_lays 7 rfl
  have hl : lv_has ls 2 [(0, .ref (b + 24))] := hl
  obtain ⟨w0, w1, w2, w3, w5, w6, w7, w8, w9⟩ := id hwt
  refine lv_aload_n hx hb dX4_shownLength_0 rfl (lv_at hl 0 rfl) ?_
  refine ts_get (C := RX4) (T := TX4) (N := 13) (v := .int (nI (u.2.2.1.1 1))) hx hb hts hi4 hown hK hW 24 (by decide) cel_tr rfl 3 (by decide) (List.mem_of_getElem? (i := 1) rfl) rfl dX4_shownLength_1 ?_
  refine lv_iconst (v := nI 1) hx hb dX4_shownLength_4 (by decide) ?_
  refine lv_icmp_ne (tgt := 13) hx hb dX4_shownLength_5 (by decide) (fun c1 => ?_) (fun c1 => ?_)
  · skip
    rw [nI_eq (by omega) (by omega)] at c1
    refine lv_aload_n hx hb dX4_shownLength_13 rfl (lv_at hl 0 rfl) ?_
    refine ts_get (C := RX4) (T := TX4) (N := 13) (v := .int (nI (u.2.2.1.1 1))) hx hb hts hi4 hown hK hW 24 (by decide) cel_tr rfl 3 (by decide) (List.mem_of_getElem? (i := 1) rfl) rfl dX4_shownLength_14 ?_
    refine lv_iconst (v := nI 2) hx hb dX4_shownLength_17 (by decide) ?_
    refine lv_icmp_ne (tgt := 35) hx hb dX4_shownLength_18 (by decide) (fun c2 => ?_) (fun c2 => ?_)
    · skip
      rw [nI_eq (by omega) (by omega)] at c2
      refine lv_aload_n hx hb dX4_shownLength_35 rfl (lv_at hl 0 rfl) ?_
      refine ts_get (C := RX4) (T := TX4) (N := 13) (v := .int (u.2.2.1.2.1 0)) hx hb hts hi4 hown hK hW 24 (by decide) cel_tr rfl 4 (by decide) (List.mem_of_getElem? (i := 2) rfl) rfl dX4_shownLength_36 ?_
      refine va_mabs hx hb (hml.trans hl.1.symm) hown (hts _ (List.mem_of_getElem? (i := 3) rfl)) (hts _ (List.mem_of_getElem? (i := 4) rfl)) (hts _ (List.mem_of_getElem? (i := 5) rfl)) (hts _ (List.mem_of_getElem? (i := 6) rfl)) (Nat.le_of_ble_eq_true rfl) (Nat.le_of_ble_eq_true rfl) (Nat.zero_le _) (Nat.zero_le _) dX4_shownLength_39 ?_
      refine ts_int (y := absI (u.2.2.1.2.1 0)) rfl ?_
      refine lv_bipush (v := nI 10) hx hb dX4_shownLength_42 (by decide) ?_
      refine lv_icmp_ge (tgt := 51) hx hb dX4_shownLength_44 (by decide) (fun c3 => ?_) (fun c3 => ?_)
      · skip
        refine lv_aload_n hx hb dX4_shownLength_51 rfl (lv_at hl 0 rfl) ?_
        refine ts_get (C := RX4) (T := TX4) (N := 13) (v := .int (u.2.2.1.2.1 0)) hx hb hts hi4 hown hK hW 24 (by decide) cel_tr rfl 4 (by decide) (List.mem_of_getElem? (i := 2) rfl) rfl dX4_shownLength_52 ?_
        refine va_mabs hx hb (hml.trans hl.1.symm) hown (hts _ (List.mem_of_getElem? (i := 3) rfl)) (hts _ (List.mem_of_getElem? (i := 4) rfl)) (hts _ (List.mem_of_getElem? (i := 5) rfl)) (hts _ (List.mem_of_getElem? (i := 6) rfl)) (Nat.le_of_ble_eq_true rfl) (Nat.le_of_ble_eq_true rfl) (Nat.zero_le _) (Nat.zero_le _) dX4_shownLength_55 ?_
        refine ts_int (y := absI (u.2.2.1.2.1 0)) rfl ?_
        refine lv_bipush (v := nI 100) hx hb dX4_shownLength_58 (by decide) ?_
        refine lv_icmp_ge (tgt := 67) hx hb dX4_shownLength_60 (by decide) (fun c4 => ?_) (fun c4 => ?_)
        · skip
          refine lv_iconst (v := nI 3) hx hb dX4_shownLength_67 (by decide) ?_
          refine lv_istore_n (lv' := [(1, .int (nI 3)), (0, .ref (b + 24))]) hx hb dX4_shownLength_68 rfl hl (by decide) rfl (fun ls hl => ?_)
          refine lv_aload_n hx hb dX4_shownLength_69 rfl (lv_at hl 1 rfl) ?_
          refine ts_get (C := RX4) (T := TX4) (N := 13) (v := .int (u.2.2.1.2.1 0)) hx hb hts hi4 hown hK hW 24 (by decide) cel_tr rfl 4 (by decide) (List.mem_of_getElem? (i := 2) rfl) rfl dX4_shownLength_70 ?_
          refine lv_if_ge (tgt := 82) hx hb dX4_shownLength_73 (by decide) (fun c5 => ?_) (fun c5 => ?_)
          · skip
            refine lv_iload_n hx hb dX4_shownLength_82 rfl (lv_at hl 0 rfl) ?_
            exact ts_iret (u := u) (v := nI 3) C0 hW hS (by refine ⟨?_, rfl⟩; unfold shownI digI; (repeat' split) <;> first | rfl | contradiction | (exfalso; omega) | (exfalso; simp_all; done)) dX4_shownLength_83
          refine lv_iload_n hx hb dX4_shownLength_76 rfl (lv_at hl 0 rfl) ?_
          refine lv_iconst (v := nI 1) hx hb dX4_shownLength_77 (by decide) ?_
          refine ts_iadd (v := (nI 3) + nI 1) hx hb dX4_shownLength_78 rfl ?_
          refine lv_goto (tgt := 83) hx hb dX4_shownLength_79 (by decide) ?_
          exact ts_iret (u := u) (v := (nI 3) + nI 1) C0 hW hS (by refine ⟨?_, rfl⟩; unfold shownI digI; (repeat' split) <;> first | rfl | contradiction | (exfalso; omega) | (exfalso; simp_all; done)) dX4_shownLength_83
        refine lv_iconst (v := nI 2) hx hb dX4_shownLength_63 (by decide) ?_
        refine lv_goto (tgt := 68) hx hb dX4_shownLength_64 (by decide) ?_
        refine lv_istore_n (lv' := [(1, .int (nI 2)), (0, .ref (b + 24))]) hx hb dX4_shownLength_68 rfl hl (by decide) rfl (fun ls hl => ?_)
        refine lv_aload_n hx hb dX4_shownLength_69 rfl (lv_at hl 1 rfl) ?_
        refine ts_get (C := RX4) (T := TX4) (N := 13) (v := .int (u.2.2.1.2.1 0)) hx hb hts hi4 hown hK hW 24 (by decide) cel_tr rfl 4 (by decide) (List.mem_of_getElem? (i := 2) rfl) rfl dX4_shownLength_70 ?_
        refine lv_if_ge (tgt := 82) hx hb dX4_shownLength_73 (by decide) (fun c6 => ?_) (fun c6 => ?_)
        · skip
          refine lv_iload_n hx hb dX4_shownLength_82 rfl (lv_at hl 0 rfl) ?_
          exact ts_iret (u := u) (v := nI 2) C0 hW hS (by refine ⟨?_, rfl⟩; unfold shownI digI; (repeat' split) <;> first | rfl | contradiction | (exfalso; omega) | (exfalso; simp_all; done)) dX4_shownLength_83
        refine lv_iload_n hx hb dX4_shownLength_76 rfl (lv_at hl 0 rfl) ?_
        refine lv_iconst (v := nI 1) hx hb dX4_shownLength_77 (by decide) ?_
        refine ts_iadd (v := (nI 2) + nI 1) hx hb dX4_shownLength_78 rfl ?_
        refine lv_goto (tgt := 83) hx hb dX4_shownLength_79 (by decide) ?_
        exact ts_iret (u := u) (v := (nI 2) + nI 1) C0 hW hS (by refine ⟨?_, rfl⟩; unfold shownI digI; (repeat' split) <;> first | rfl | contradiction | (exfalso; omega) | (exfalso; simp_all; done)) dX4_shownLength_83
      refine lv_iconst (v := nI 1) hx hb dX4_shownLength_47 (by decide) ?_
      refine lv_goto (tgt := 68) hx hb dX4_shownLength_48 (by decide) ?_
      refine lv_istore_n (lv' := [(1, .int (nI 1)), (0, .ref (b + 24))]) hx hb dX4_shownLength_68 rfl hl (by decide) rfl (fun ls hl => ?_)
      refine lv_aload_n hx hb dX4_shownLength_69 rfl (lv_at hl 1 rfl) ?_
      refine ts_get (C := RX4) (T := TX4) (N := 13) (v := .int (u.2.2.1.2.1 0)) hx hb hts hi4 hown hK hW 24 (by decide) cel_tr rfl 4 (by decide) (List.mem_of_getElem? (i := 2) rfl) rfl dX4_shownLength_70 ?_
      refine lv_if_ge (tgt := 82) hx hb dX4_shownLength_73 (by decide) (fun c7 => ?_) (fun c7 => ?_)
      · skip
        refine lv_iload_n hx hb dX4_shownLength_82 rfl (lv_at hl 0 rfl) ?_
        exact ts_iret (u := u) (v := nI 1) C0 hW hS (by refine ⟨?_, rfl⟩; unfold shownI digI; (repeat' split) <;> first | rfl | contradiction | (exfalso; omega) | (exfalso; simp_all; done)) dX4_shownLength_83
      refine lv_iload_n hx hb dX4_shownLength_76 rfl (lv_at hl 0 rfl) ?_
      refine lv_iconst (v := nI 1) hx hb dX4_shownLength_77 (by decide) ?_
      refine ts_iadd (v := (nI 1) + nI 1) hx hb dX4_shownLength_78 rfl ?_
      refine lv_goto (tgt := 83) hx hb dX4_shownLength_79 (by decide) ?_
      exact ts_iret (u := u) (v := (nI 1) + nI 1) C0 hW hS (by refine ⟨?_, rfl⟩; unfold shownI digI; (repeat' split) <;> first | rfl | contradiction | (exfalso; omega) | (exfalso; simp_all; done)) dX4_shownLength_83
    rw [nI_eq (by omega) (by omega)] at c2
    refine lv_aload_n hx hb dX4_shownLength_21 rfl (lv_at hl 0 rfl) ?_
    refine ts_get (C := RX4) (T := TX4) (N := 13) (v := .int (u.2.2.1.2.1 0)) hx hb hts hi4 hown hK hW 24 (by decide) cel_tr rfl 4 (by decide) (List.mem_of_getElem? (i := 2) rfl) rfl dX4_shownLength_22 ?_
    refine lv_iconst (v := nI 1) hx hb dX4_shownLength_25 (by decide) ?_
    refine lv_icmp_ne (tgt := 33) hx hb dX4_shownLength_26 (by decide) (fun c8 => ?_) (fun c8 => ?_)
    · skip
      refine lv_iconst (v := nI 5) hx hb dX4_shownLength_33 (by decide) ?_
      exact ts_iret (u := u) (v := nI 5) C0 hW hS (by refine ⟨?_, rfl⟩; unfold shownI digI; (repeat' split) <;> first | rfl | contradiction | (exfalso; omega) | (exfalso; simp_all; done)) dX4_shownLength_34
    refine lv_iconst (v := nI 4) hx hb dX4_shownLength_29 (by decide) ?_
    refine lv_goto (tgt := 34) hx hb dX4_shownLength_30 (by decide) ?_
    exact ts_iret (u := u) (v := nI 4) C0 hW hS (by refine ⟨?_, rfl⟩; unfold shownI digI; (repeat' split) <;> first | rfl | contradiction | (exfalso; omega) | (exfalso; simp_all; done)) dX4_shownLength_34
  rw [nI_eq (by omega) (by omega)] at c1
  refine lv_aload_n hx hb dX4_shownLength_8 rfl (lv_at hl 0 rfl) ?_
  refine ts_get (C := RX4) (T := TX4) (N := 13) (v := .int (u.2.2.1.2.1 0)) hx hb hts hi4 hown hK hW 24 (by decide) cel_tr rfl 4 (by decide) (List.mem_of_getElem? (i := 2) rfl) rfl dX4_shownLength_9 ?_
  exact ts_iret (u := u) (v := u.2.2.1.2.1 0) C0 hW hS (by refine ⟨?_, rfl⟩; unfold shownI digI; (repeat' split) <;> first | rfl | contradiction | (exfalso; omega) | (exfalso; simp_all; done)) dX4_shownLength_12
set_option maxHeartbeats 4000000 in
set_option maxRecDepth 100000 in
theorem k_X4_made (l : Launch) (D : va_G) (q : CQ) (b sz : Nat) (u : ST) (v : Nat) (hwt : WT u.2.2.1) (hv : v < 1000) : Met l yX4_made wsX4_made ({ frames := 2, cells := 0, slots := 0, locals := 45 } : Room) (va_Pc [.ref (b + 24), .int (nI v)] (Pr D q b sz u)) (cI D q b sz (fun r u' => r = madeI (u.2.2.1.1 1) v (u.2.2.1.2.1 0) ∧ u' = u)) 0 0 (ts_A b 52 sz) := by
  refine ts_met (by decide) rfl (Nat.le_of_ble_eq_true rfl) ?_
  intro p e s m below meth c C0 hX ls hl
  obtain ⟨hsz, hW, hK, hN⟩ := hX
  subst hsz
  obtain ⟨hx, hb, hml, hown, hts, -, -, -⟩ := id C0
  have hW : ts_W D b 52 (cel q b u) s.heap := hW
  have hS : va_S (ts_A b 52 s.heap.size) s.heap s.heap [] := va_S.rf
  have hB : ∀ k, k < 52 → ts_A b 52 s.heap.size (b + k) := fun k hk => ts_Ain hk
  have hi4 : ∀ w ∈ wsX40, w ∈ wsX4_made := ts_lays 18 rfl
  have hl : lv_has ls 2 [(0, .ref (b + 24)), (1, .int (nI v))] := hl
  obtain ⟨w0, w1, w2, w3, w5, w6, w7, w8, w9⟩ := id hwt
  refine lv_iload_n hx hb dX4_made_0 rfl (lv_at hl 1 rfl) ?_
  by_cases c1 : v = 20
  · skip
    refine lv_tableIn (tgt := 36) hx hb dX4_made_1 (by rw [c1]; decide) (by rw [c1]; decide) (by rw [c1]; rfl) (by decide) ?_
    refine lv_aload_n hx hb dX4_made_36 rfl (lv_at hl 0 rfl) ?_
    refine ts_get (C := RX4) (T := TX4) (N := 13) (v := .int (u.2.2.1.2.1 0)) hx hb hts hi4 hown hK hW 24 (by decide) cel_tr rfl 4 (by decide) (List.mem_of_getElem? (i := 1) rfl) rfl dX4_made_37 ?_
    exact ts_iret (u := u) (v := u.2.2.1.2.1 0) C0 hW hS (by refine ⟨?_, rfl⟩; unfold madeI; (repeat' split) <;> first | rfl | contradiction | (exfalso; omega) | (exfalso; simp_all; done)) dX4_made_40
  by_cases c2 : v = 21
  · skip
    refine lv_tableIn (tgt := 41) hx hb dX4_made_1 (by rw [c2]; decide) (by rw [c2]; decide) (by rw [c2]; rfl) (by decide) ?_
    refine lv_aload_n hx hb dX4_made_41 rfl (lv_at hl 0 rfl) ?_
    refine ts_retI (va_runV (As := []) (rest := []) ⟨hx, hb, hml, hown, hts⟩ (k_X4_shownLength l D q b s.heap.size u hwt) (cwV 0 hts gX4_made_X4_shownLength rfl rfl rfl (by decide +kernel) ⟨Nat.le_of_ble_eq_true rfl, Nat.le_of_ble_eq_true rfl⟩) (ts_preV hK hN hW 24 (by decide) cel_tr rfl) rfl rfl hl.1 rfl (lv_room (Nat.le_of_ble_eq_true rfl)) dX4_made_42 ⟨Nat.zero_le _, Nat.zero_le _⟩) hS (fun x h => ts_Aup hS.1 h) (fun r3 u4 H locs hp5 hW _ _ hS => ?_)
    have hp5r : r3 = shownI (u.2.2.1.1 1) (u.2.2.1.2.1 0) := hp5.1
    have hp5u : u4 = u := hp5.2
    rw [hp5r]
    rw [hp5u] at hW
    exact ts_iret (u := u) (v := shownI (u.2.2.1.1 1) (u.2.2.1.2.1 0)) C0 hW hS (by refine ⟨?_, rfl⟩; unfold madeI; (repeat' split) <;> first | rfl | contradiction | (exfalso; omega) | (exfalso; simp_all; done)) dX4_made_45
  by_cases c6 : v = 22
  · skip
    refine lv_tableIn (tgt := 46) hx hb dX4_made_1 (by rw [c6]; decide) (by rw [c6]; decide) (by rw [c6]; rfl) (by decide) ?_
    refine lv_aload_n hx hb dX4_made_46 rfl (lv_at hl 0 rfl) ?_
    refine ts_get (C := RX4) (T := TX4) (N := 13) (v := .int (u.2.2.1.2.1 0)) hx hb hts hi4 hown hK hW 24 (by decide) cel_tr rfl 4 (by decide) (List.mem_of_getElem? (i := 1) rfl) rfl dX4_made_47 ?_
    refine lv_if_le (tgt := 57) hx hb dX4_made_50 (by decide) (fun c7 => ?_) (fun c7 => ?_)
    · skip
      refine lv_iconst (v := nI 0) hx hb dX4_made_57 (by decide) ?_
      exact ts_iret (u := u) (v := nI 0) C0 hW hS (by refine ⟨?_, rfl⟩; unfold madeI; (repeat' split) <;> first | rfl | contradiction | (exfalso; omega) | (exfalso; simp_all; done)) dX4_made_58
    refine lv_iconst (v := nI 1) hx hb dX4_made_53 (by decide) ?_
    refine lv_goto (tgt := 58) hx hb dX4_made_54 (by decide) ?_
    exact ts_iret (u := u) (v := nI 1) C0 hW hS (by refine ⟨?_, rfl⟩; unfold madeI; (repeat' split) <;> first | rfl | contradiction | (exfalso; omega) | (exfalso; simp_all; done)) dX4_made_58
  by_cases c8 : v = 23
  · skip
    refine lv_tableIn (tgt := 59) hx hb dX4_made_1 (by rw [c8]; decide) (by rw [c8]; decide) (by rw [c8]; rfl) (by decide) ?_
    refine lv_iconst (v := nI 1) hx hb dX4_made_59 (by decide) ?_
    refine lv_aload_n hx hb dX4_made_60 rfl (lv_at hl 0 rfl) ?_
    refine ts_get (C := RX4) (T := TX4) (N := 13) (v := .int (u.2.2.1.2.1 0)) hx hb hts hi4 hown hK hW 24 (by decide) cel_tr rfl 4 (by decide) (List.mem_of_getElem? (i := 1) rfl) rfl dX4_made_61 ?_
    refine ts_isub (v := (nI 1) - (u.2.2.1.2.1 0)) hx hb dX4_made_64 rfl ?_
    exact ts_iret (u := u) (v := (nI 1) - (u.2.2.1.2.1 0)) C0 hW hS (by refine ⟨?_, rfl⟩; unfold madeI; (repeat' split) <;> first | rfl | contradiction | (exfalso; omega) | (exfalso; simp_all; done)) dX4_made_65
  by_cases c9 : v = 24
  · skip
    refine lv_tableIn (tgt := 66) hx hb dX4_made_1 (by rw [c9]; decide) (by rw [c9]; decide) (by rw [c9]; rfl) (by decide) ?_
    refine lv_sipush (v := (-999)) hx hb dX4_made_66 (by decide) ?_
    refine lv_aload_n hx hb dX4_made_69 rfl (lv_at hl 0 rfl) ?_
    refine ts_get (C := RX4) (T := TX4) (N := 13) (v := .int (u.2.2.1.2.1 0)) hx hb hts hi4 hown hK hW 24 (by decide) cel_tr rfl 4 (by decide) (List.mem_of_getElem? (i := 1) rfl) rfl dX4_made_70 ?_
    refine lv_iconst (v := nI 5) hx hb dX4_made_73 (by decide) ?_
    refine ts_isub (v := (u.2.2.1.2.1 0) - (nI 5)) hx hb dX4_made_74 rfl ?_
    refine va_mmax hx hb (hml.trans hl.1.symm) hown (hts _ (List.mem_of_getElem? (i := 2) rfl)) (hts _ (List.mem_of_getElem? (i := 3) rfl)) (hts _ (List.mem_of_getElem? (i := 4) rfl)) (hts _ (List.mem_of_getElem? (i := 5) rfl)) (Nat.le_of_ble_eq_true rfl) (Nat.le_of_ble_eq_true rfl) (Nat.zero_le _) (Nat.zero_le _) dX4_made_75 ?_
    refine ts_int (y := maxI (-999) ((u.2.2.1.2.1 0) - (nI 5))) rfl ?_
    exact ts_iret (u := u) (v := maxI (-999) ((u.2.2.1.2.1 0) - (nI 5))) C0 hW hS (by refine ⟨?_, rfl⟩; unfold madeI; (repeat' split) <;> first | rfl | contradiction | (exfalso; omega) | (exfalso; simp_all; done)) dX4_made_78
  refine lv_tableOut (tgt := 79) hx hb dX4_made_1 (by rw [nI_toInt (by omega)]; omega) (by decide) ?_
  refine lv_sipush (v := nI 999) hx hb dX4_made_79 (by decide) ?_
  refine lv_aload_n hx hb dX4_made_82 rfl (lv_at hl 0 rfl) ?_
  refine ts_get (C := RX4) (T := TX4) (N := 13) (v := .int (u.2.2.1.2.1 0)) hx hb hts hi4 hown hK hW 24 (by decide) cel_tr rfl 4 (by decide) (List.mem_of_getElem? (i := 1) rfl) rfl dX4_made_83 ?_
  refine lv_iload_n hx hb dX4_made_86 rfl (lv_at hl 1 rfl) ?_
  refine ts_iadd (v := (u.2.2.1.2.1 0) + (nI v)) hx hb dX4_made_87 rfl ?_
  refine va_mmin hx hb (hml.trans hl.1.symm) hown (hts _ (List.mem_of_getElem? (i := 6) rfl)) (hts _ (List.mem_of_getElem? (i := 7) rfl)) (hts _ (List.mem_of_getElem? (i := 4) rfl)) (hts _ (List.mem_of_getElem? (i := 8) rfl)) (Nat.le_of_ble_eq_true rfl) (Nat.le_of_ble_eq_true rfl) (Nat.zero_le _) (Nat.zero_le _) dX4_made_88 ?_
  refine ts_int (y := minI (nI 999) ((u.2.2.1.2.1 0) + (nI v))) rfl ?_
  exact ts_iret (u := u) (v := minI (nI 999) ((u.2.2.1.2.1 0) + (nI v))) C0 hW hS (by refine ⟨?_, rfl⟩; unfold madeI; (repeat' split) <;> first | rfl | contradiction | (exfalso; omega) | (exfalso; simp_all; done)) dX4_made_91
set_option maxHeartbeats 4000000 in
set_option maxRecDepth 100000 in
theorem k_X4_begin (l : Launch) (D : va_G) (q : CQ) (b sz : Nat) (u : ST) (n : Nat) (hE : EnterOK l D q b n) (f : Nat) (v : Nat) (d : Nat) (hwf : WP u.1) (hwt : WT u.2.2.1) (hf : f < 10) (hv : v ≤ 9 ∨ (20 ≤ v ∧ v ≤ 24) ∨ (40 ≤ v ∧ v < 40 + u.1.1 1)) (hd : d + 1 + n = 13) : Met l yX4_begin wsX4_begin ({ frames := 3 * n + 6, cells := 0, slots := 0, locals := 71 * n + 223 } : Room) (va_Pc [.ref (b + 24), .int (nI f), .int (nI v), .int (nI d)] (Pr D q b sz u)) (cV D q b sz (fun u' => u' = (u.1, u.2.1, beginT u.1 (enterT u.1 n) f v u.2.2.1, u.2.2.2))) 0 0 (ts_A b 52 sz) := by
  refine ts_met (by decide) rfl (Nat.le_of_ble_eq_true rfl) ?_
  intro p e s m below meth c C0 hX ls hl
  obtain ⟨hsz, hW, hK, hN⟩ := hX
  subst hsz
  obtain ⟨hx, hb, hml, hown, hts, -, -, -⟩ := id C0
  have hW : ts_W D b 52 (cel q b u) s.heap := hW
  have hS : va_S (ts_A b 52 s.heap.size) s.heap s.heap [] := va_S.rf
  have hB : ∀ k, k < 52 → ts_A b 52 s.heap.size (b + k) := fun k hk => ts_Ain hk
  have hi3 : ∀ w ∈ wsX30, w ∈ wsX4_begin := ts_lays 94 rfl
  have hi4 : ∀ w ∈ wsX40, w ∈ wsX4_begin := ts_lays 81 rfl
  have hl : lv_has ls 5 [(0, .ref (b + 24)), (1, .int (nI f)), (2, .int (nI v)), (3, .int (nI d))] := hl
  have hs := hwf.sz
  have hty := hwf.ty
  obtain ⟨w0, w1, w2, w3, w5, w6, w7, w8, w9⟩ := id hwt
  refine lv_aload_n hx hb dX4_begin_0 rfl (lv_at hl 0 rfl) ?_
  refine ts_get (C := RX4) (T := TX4) (N := 13) (v := .int (nI (u.2.2.1.1 2))) hx hb hts hi4 hown hK hW 24 (by decide) cel_tr rfl 5 (by decide) (List.mem_of_getElem? (i := 1) rfl) rfl dX4_begin_1 ?_
  refine lv_sipush (v := nI 200) hx hb dX4_begin_4 (by decide) ?_
  refine lv_icmp_lt (tgt := 17) hx hb dX4_begin_7 (by decide) (fun c1 => ?_) (fun c1 => ?_)
  · skip
    rw [nI_ltI (by omega) (by omega)] at c1
    refine lv_aload_n hx hb dX4_begin_17 rfl (lv_at hl 0 rfl) ?_
    refine lv_dup hx hb dX4_begin_18 rfl ?_
    refine ts_get (C := RX4) (T := TX4) (N := 13) (v := .int (nI (u.2.2.1.1 2))) hx hb hts hi4 hown hK hW 24 (by decide) cel_tr rfl 5 (by decide) (List.mem_of_getElem? (i := 1) rfl) rfl dX4_begin_19 ?_
    refine lv_iconst (v := nI 1) hx hb dX4_begin_22 (by decide) ?_
    refine ts_iadd (v := nI ((u.2.2.1.1 2) + 1)) hx hb dX4_begin_23 (nI_add _ _) ?_
    refine ts_put (C := RX4) (T := TX4) (N := 13) (v := .int (nI ((u.2.2.1.1 2) + 1))) hx hb hts hi4 tyX4 tyX4_ok nmX4 hown hK hW hS hB 24 (by decide) cel_tr rfl 5 (by decide) (List.mem_of_getElem? (i := 1) rfl) rfl rfl rfl (Nat.le_of_ble_eq_true rfl) (cel q b (u.1, u.2.1, (va_up u.2.2.1.1 2 ((u.2.2.1.1 2) + 1), u.2.2.1.2.1, u.2.2.1.2.2), u.2.2.2)) rfl (cel_oT rfl rfl rfl rfl) dX4_begin_24 (fun H locs _ _ hW hS => ?_)
    refine lv_iload_n hx hb dX4_begin_27 rfl (lv_at hl 2 rfl) ?_
    refine ts_retI (va_runSN (As := [.int (nI v)]) (rest := []) ⟨hx, hb, hml, hown, hts⟩ (k_X5_isCall l D q b H.size (u.1, u.2.1, (va_up u.2.2.1.1 2 ((u.2.2.1.1 2) + 1), u.2.2.1.2.1, u.2.2.1.2.2), u.2.2.2) v (by omega)) ⟨va_cnB 1 hts gX4_begin_X5_isCall_n119 rfl rfl rfl (hN _ (List.mem_of_getElem? (i := 9) rfl)) (hts _ (List.mem_of_getElem? (i := 15) rfl)) (by decide +kernel) ⟨by show _ ≤ _; dsimp only [rE]; omega, by show _ ≤ _; dsimp only [rE]; omega⟩, hts _ (List.mem_of_getElem? (i := 14) rfl), trivial⟩ (ts_preS hK hN hW) rfl rfl hl.1 rfl (lv_room (Nat.le_of_ble_eq_true rfl)) dX4_begin_28 ⟨Nat.zero_le _, Nat.zero_le _⟩) hS (fun x h => ts_Aup hS.1 h) (fun r2 u3 H locs hp4 hW _ _ hS => ?_)
    have hp4r : r2 = b2i (decide (40 ≤ v)) := hp4.1
    have hp4u : u3 = (u.1, u.2.1, (va_up u.2.2.1.1 2 ((u.2.2.1.1 2) + 1), u.2.2.1.2.1, u.2.2.1.2.2), u.2.2.2) := hp4.2
    rw [hp4r]
    rw [hp4u] at hW
    refine lv_if_eq (tgt := 47) hx hb dX4_begin_31 (by decide) (fun c5 => ?_) (fun c5 => ?_)
    · skip
      have c5 := ts_df c5
      refine lv_iload_n hx hb dX4_begin_47 rfl (lv_at hl 2 rfl) ?_
      refine ts_retI (va_runSN (As := [.int (nI v)]) (rest := []) ⟨hx, hb, hml, hown, hts⟩ (k_X5_plainNeed l D q b H.size (u.1, u.2.1, (va_up u.2.2.1.1 2 ((u.2.2.1.1 2) + 1), u.2.2.1.2.1, u.2.2.1.2.2), u.2.2.2) v (by omega)) ⟨va_cnB 1 hts gX4_begin_X5_plainNeed_n123 rfl rfl rfl (hN _ (List.mem_of_getElem? (i := 10) rfl)) (hts _ (List.mem_of_getElem? (i := 15) rfl)) (by decide +kernel) ⟨by show _ ≤ _; dsimp only [rE]; omega, by show _ ≤ _; dsimp only [rE]; omega⟩, hts _ (List.mem_of_getElem? (i := 20) rfl), trivial⟩ (ts_preS hK hN hW) rfl rfl hl.1 rfl (lv_room (Nat.le_of_ble_eq_true rfl)) dX4_begin_48 ⟨Nat.zero_le _, Nat.zero_le _⟩) hS (fun x h => ts_Aup hS.1 h) (fun r6 u7 H locs hp8 hW _ _ hS => ?_)
      have hp8r : r6 = nI (plainN v) := hp8.1
      have hp8u : u7 = (u.1, u.2.1, (va_up u.2.2.1.1 2 ((u.2.2.1.1 2) + 1), u.2.2.1.2.1, u.2.2.1.2.2), u.2.2.2) := hp8.2
      rw [hp8r]
      rw [hp8u] at hW
      have hq9 := plainN_le v
      refine lv_istore (lv' := [(4, .int (nI (plainN v))), (0, .ref (b + 24)), (1, .int (nI f)), (2, .int (nI v)), (3, .int (nI d))]) hx hb dX4_begin_51 hl (by decide) rfl (fun ls hl => ?_)
      refine lv_iload hx hb dX4_begin_53 (lv_at hl 0 rfl) ?_
      refine lv_iconst (v := nI 3) hx hb dX4_begin_55 (by decide) ?_
      refine lv_icmp_eq (tgt := 96) hx hb dX4_begin_56 (by decide) (fun c10 => ?_) (fun c10 => ?_)
      · skip
        rw [nI_eq (by omega) (by omega)] at c10
        refine lv_aload_n hx hb dX4_begin_96 rfl (lv_at hl 1 rfl) ?_
        refine lv_aload_n hx hb dX4_begin_97 rfl (lv_at hl 1 rfl) ?_
        refine lv_iload_n hx hb dX4_begin_98 rfl (lv_at hl 3 rfl) ?_
        refine ts_retI (va_runV (As := [.int (nI v)]) (rest := [.ref (b + 24)]) ⟨hx, hb, hml, hown, hts⟩ (k_X4_made l D q b H.size (u.1, u.2.1, (va_up u.2.2.1.1 2 ((u.2.2.1.1 2) + 1), u.2.2.1.2.1, u.2.2.1.2.2), u.2.2.2) v (hwt.beg (by omega)) (by omega)) (cwV 1 hts gX4_begin_X4_made rfl rfl rfl (by decide +kernel) ⟨by show _ ≤ _; dsimp only [rE]; omega, by show _ ≤ _; dsimp only [rE]; omega⟩) (ts_preV hK hN hW 24 (by decide) cel_tr rfl) rfl rfl hl.1 rfl (lv_room (Nat.le_of_ble_eq_true rfl)) dX4_begin_99 ⟨Nat.zero_le _, Nat.zero_le _⟩) hS (fun x h => ts_Aup hS.1 h) (fun r11 u12 H locs hp13 hW _ _ hS => ?_)
        have hp13r : r11 = madeI (u.2.2.1.1 1) v (u.2.2.1.2.1 0) := hp13.1
        have hp13u : u12 = (u.1, u.2.1, (va_up u.2.2.1.1 2 ((u.2.2.1.1 2) + 1), u.2.2.1.2.1, u.2.2.1.2.2), u.2.2.2) := hp13.2
        rw [hp13r]
        rw [hp13u] at hW
        refine ts_put (C := RX4) (T := TX4) (N := 13) (v := .int (madeI (u.2.2.1.1 1) v (u.2.2.1.2.1 0))) hx hb hts hi4 tyX4 tyX4_ok nmX4 hown hK hW hS hB 24 (by decide) cel_tr rfl 4 (by decide) (List.mem_of_getElem? (i := 6) rfl) rfl rfl rfl (Nat.le_of_ble_eq_true rfl) (cel q b (u.1, u.2.1, (va_up u.2.2.1.1 2 ((u.2.2.1.1 2) + 1), va_up u.2.2.1.2.1 0 (madeI (u.2.2.1.1 1) v (u.2.2.1.2.1 0)), u.2.2.1.2.2), u.2.2.2)) rfl (cel_oT rfl rfl rfl rfl) dX4_begin_102 (fun H locs _ _ hW hS => ?_)
        refine lv_aload_n hx hb dX4_begin_105 rfl (lv_at hl 1 rfl) ?_
        refine lv_iload_n hx hb dX4_begin_106 rfl (lv_at hl 3 rfl) ?_
        refine ts_retI (va_runSN (As := [.int (nI v)]) (rest := [.ref (b + 24)]) ⟨hx, hb, hml, hown, hts⟩ (k_X5_plainGift l D q b H.size (u.1, u.2.1, (va_up u.2.2.1.1 2 ((u.2.2.1.1 2) + 1), va_up u.2.2.1.2.1 0 (madeI (u.2.2.1.1 1) v (u.2.2.1.2.1 0)), u.2.2.1.2.2), u.2.2.2) v (by omega)) ⟨va_cnB 1 hts gX4_begin_X5_plainGift_n133 rfl rfl rfl (hN _ (List.mem_of_getElem? (i := 12) rfl)) (hts _ (List.mem_of_getElem? (i := 15) rfl)) (by decide +kernel) ⟨by show _ ≤ _; dsimp only [rE]; omega, by show _ ≤ _; dsimp only [rE]; omega⟩, hts _ (List.mem_of_getElem? (i := 42) rfl), trivial⟩ (ts_preS hK hN hW) rfl rfl hl.1 rfl (lv_room (Nat.le_of_ble_eq_true rfl)) dX4_begin_107 ⟨Nat.zero_le _, Nat.zero_le _⟩) hS (fun x h => ts_Aup hS.1 h) (fun r14 u15 H locs hp16 hW _ _ hS => ?_)
        have hp16r : r14 = nI (plainG v) := hp16.1
        have hp16u : u15 = (u.1, u.2.1, (va_up u.2.2.1.1 2 ((u.2.2.1.1 2) + 1), va_up u.2.2.1.2.1 0 (madeI (u.2.2.1.1 1) v (u.2.2.1.2.1 0)), u.2.2.1.2.2), u.2.2.2) := hp16.2
        rw [hp16r]
        rw [hp16u] at hW
        have hq17 := plainG_le v
        refine ts_put (C := RX4) (T := TX4) (N := 13) (v := .int (nI (plainG v))) hx hb hts hi4 tyX4 tyX4_ok nmX4 hown hK hW hS hB 24 (by decide) cel_tr rfl 3 (by decide) (List.mem_of_getElem? (i := 2) rfl) rfl rfl rfl (Nat.le_of_ble_eq_true rfl) (cel q b (u.1, u.2.1, (va_up (va_up u.2.2.1.1 2 ((u.2.2.1.1 2) + 1)) 1 (plainG v), va_up u.2.2.1.2.1 0 (madeI (u.2.2.1.1 1) v (u.2.2.1.2.1 0)), u.2.2.1.2.2), u.2.2.2)) rfl (cel_oT rfl rfl rfl rfl) dX4_begin_110 (fun H locs _ _ hW hS => ?_)
        exact ts_vret (u := (u.1, u.2.1, (va_up (va_up u.2.2.1.1 2 ((u.2.2.1.1 2) + 1)) 1 (plainG v), va_up u.2.2.1.2.1 0 (madeI (u.2.2.1.1 1) v (u.2.2.1.2.1 0)), u.2.2.1.2.2), u.2.2.2)) C0 hW hS (by (show _ = (u.1, u.2.1, beginT u.1 (enterT u.1 n) f v u.2.2.1, u.2.2.2)); unfold beginT; (repeat' split) <;> first | rfl | contradiction | (exfalso; omega) | (exfalso; simp_all; done)) dX4_begin_113
      rw [nI_eq (by omega) (by omega)] at c10
      refine lv_iload hx hb dX4_begin_59 (lv_at hl 0 rfl) ?_
      refine lv_aload_n hx hb dX4_begin_61 rfl (lv_at hl 1 rfl) ?_
      refine ts_get (C := RX4) (T := TX4) (N := 13) (v := .int (nI (u.2.2.1.1 1))) hx hb hts hi4 hown hK hW 24 (by decide) cel_tr rfl 3 (by decide) (List.mem_of_getElem? (i := 2) rfl) rfl dX4_begin_62 ?_
      refine lv_icmp_eq (tgt := 96) hx hb dX4_begin_65 (by decide) (fun c18 => ?_) (fun c18 => ?_)
      · skip
        rw [nI_eq (by omega) (by omega)] at c18
        refine lv_aload_n hx hb dX4_begin_96 rfl (lv_at hl 1 rfl) ?_
        refine lv_aload_n hx hb dX4_begin_97 rfl (lv_at hl 1 rfl) ?_
        refine lv_iload_n hx hb dX4_begin_98 rfl (lv_at hl 3 rfl) ?_
        refine ts_retI (va_runV (As := [.int (nI v)]) (rest := [.ref (b + 24)]) ⟨hx, hb, hml, hown, hts⟩ (k_X4_made l D q b H.size (u.1, u.2.1, (va_up u.2.2.1.1 2 ((u.2.2.1.1 2) + 1), u.2.2.1.2.1, u.2.2.1.2.2), u.2.2.2) v (hwt.beg (by omega)) (by omega)) (cwV 1 hts gX4_begin_X4_made rfl rfl rfl (by decide +kernel) ⟨by show _ ≤ _; dsimp only [rE]; omega, by show _ ≤ _; dsimp only [rE]; omega⟩) (ts_preV hK hN hW 24 (by decide) cel_tr rfl) rfl rfl hl.1 rfl (lv_room (Nat.le_of_ble_eq_true rfl)) dX4_begin_99 ⟨Nat.zero_le _, Nat.zero_le _⟩) hS (fun x h => ts_Aup hS.1 h) (fun r19 u20 H locs hp21 hW _ _ hS => ?_)
        have hp21r : r19 = madeI (u.2.2.1.1 1) v (u.2.2.1.2.1 0) := hp21.1
        have hp21u : u20 = (u.1, u.2.1, (va_up u.2.2.1.1 2 ((u.2.2.1.1 2) + 1), u.2.2.1.2.1, u.2.2.1.2.2), u.2.2.2) := hp21.2
        rw [hp21r]
        rw [hp21u] at hW
        refine ts_put (C := RX4) (T := TX4) (N := 13) (v := .int (madeI (u.2.2.1.1 1) v (u.2.2.1.2.1 0))) hx hb hts hi4 tyX4 tyX4_ok nmX4 hown hK hW hS hB 24 (by decide) cel_tr rfl 4 (by decide) (List.mem_of_getElem? (i := 6) rfl) rfl rfl rfl (Nat.le_of_ble_eq_true rfl) (cel q b (u.1, u.2.1, (va_up u.2.2.1.1 2 ((u.2.2.1.1 2) + 1), va_up u.2.2.1.2.1 0 (madeI (u.2.2.1.1 1) v (u.2.2.1.2.1 0)), u.2.2.1.2.2), u.2.2.2)) rfl (cel_oT rfl rfl rfl rfl) dX4_begin_102 (fun H locs _ _ hW hS => ?_)
        refine lv_aload_n hx hb dX4_begin_105 rfl (lv_at hl 1 rfl) ?_
        refine lv_iload_n hx hb dX4_begin_106 rfl (lv_at hl 3 rfl) ?_
        refine ts_retI (va_runSN (As := [.int (nI v)]) (rest := [.ref (b + 24)]) ⟨hx, hb, hml, hown, hts⟩ (k_X5_plainGift l D q b H.size (u.1, u.2.1, (va_up u.2.2.1.1 2 ((u.2.2.1.1 2) + 1), va_up u.2.2.1.2.1 0 (madeI (u.2.2.1.1 1) v (u.2.2.1.2.1 0)), u.2.2.1.2.2), u.2.2.2) v (by omega)) ⟨va_cnB 1 hts gX4_begin_X5_plainGift_n133 rfl rfl rfl (hN _ (List.mem_of_getElem? (i := 12) rfl)) (hts _ (List.mem_of_getElem? (i := 15) rfl)) (by decide +kernel) ⟨by show _ ≤ _; dsimp only [rE]; omega, by show _ ≤ _; dsimp only [rE]; omega⟩, hts _ (List.mem_of_getElem? (i := 42) rfl), trivial⟩ (ts_preS hK hN hW) rfl rfl hl.1 rfl (lv_room (Nat.le_of_ble_eq_true rfl)) dX4_begin_107 ⟨Nat.zero_le _, Nat.zero_le _⟩) hS (fun x h => ts_Aup hS.1 h) (fun r22 u23 H locs hp24 hW _ _ hS => ?_)
        have hp24r : r22 = nI (plainG v) := hp24.1
        have hp24u : u23 = (u.1, u.2.1, (va_up u.2.2.1.1 2 ((u.2.2.1.1 2) + 1), va_up u.2.2.1.2.1 0 (madeI (u.2.2.1.1 1) v (u.2.2.1.2.1 0)), u.2.2.1.2.2), u.2.2.2) := hp24.2
        rw [hp24r]
        rw [hp24u] at hW
        have hq25 := plainG_le v
        refine ts_put (C := RX4) (T := TX4) (N := 13) (v := .int (nI (plainG v))) hx hb hts hi4 tyX4 tyX4_ok nmX4 hown hK hW hS hB 24 (by decide) cel_tr rfl 3 (by decide) (List.mem_of_getElem? (i := 2) rfl) rfl rfl rfl (Nat.le_of_ble_eq_true rfl) (cel q b (u.1, u.2.1, (va_up (va_up u.2.2.1.1 2 ((u.2.2.1.1 2) + 1)) 1 (plainG v), va_up u.2.2.1.2.1 0 (madeI (u.2.2.1.1 1) v (u.2.2.1.2.1 0)), u.2.2.1.2.2), u.2.2.2)) rfl (cel_oT rfl rfl rfl rfl) dX4_begin_110 (fun H locs _ _ hW hS => ?_)
        exact ts_vret (u := (u.1, u.2.1, (va_up (va_up u.2.2.1.1 2 ((u.2.2.1.1 2) + 1)) 1 (plainG v), va_up u.2.2.1.2.1 0 (madeI (u.2.2.1.1 1) v (u.2.2.1.2.1 0)), u.2.2.1.2.2), u.2.2.2)) C0 hW hS (by (show _ = (u.1, u.2.1, beginT u.1 (enterT u.1 n) f v u.2.2.1, u.2.2.2)); unfold beginT; (repeat' split) <;> first | rfl | contradiction | (exfalso; omega) | (exfalso; simp_all; done)) dX4_begin_113
      rw [nI_eq (by omega) (by omega)] at c18
      refine lv_aload_n hx hb dX4_begin_68 rfl (lv_at hl 1 rfl) ?_
      refine lv_iconst (v := nI 1) hx hb dX4_begin_69 (by decide) ?_
      refine lv_aload_n hx hb dX4_begin_70 rfl (lv_at hl 1 rfl) ?_
      refine ts_get (C := RX4) (T := TX4) (N := 13) (v := .ref (b + 1)) hx hb hts hi4 hown hK hW 24 (by decide) cel_tr rfl 0 (by decide) (List.mem_of_getElem? (i := 3) rfl) rfl dX4_begin_71 ?_
      refine ts_get (C := RX3) (T := TX3) (N := 5) (v := .int (nI (u.1.1 2))) hx hb hts hi3 hown hK hW 1 (by decide) cel_pr rfl 3 (by decide) (List.mem_of_getElem? (i := 4) rfl) rfl dX4_begin_74 ?_
      refine lv_iload_n hx hb dX4_begin_77 rfl (lv_at hl 2 rfl) ?_
      refine ts_retI (va_runSN (As := [.int (nI (u.1.1 2)), .int (nI f)]) (rest := [.int (nI 1), .ref (b + 24)]) ⟨hx, hb, hml, hown, hts⟩ (k_X5_has l D q b H.size (u.1, u.2.1, (va_up u.2.2.1.1 2 ((u.2.2.1.1 2) + 1), u.2.2.1.2.1, u.2.2.1.2.2), u.2.2.2) (u.1.1 2) f (by omega) (by omega)) ⟨va_cnB 2 hts gX4_begin_X5_has_n126 rfl rfl rfl (hN _ (List.mem_of_getElem? (i := 11) rfl)) (hts _ (List.mem_of_getElem? (i := 15) rfl)) (by decide +kernel) ⟨by show _ ≤ _; dsimp only [rE]; omega, by show _ ≤ _; dsimp only [rE]; omega⟩, hts _ (List.mem_of_getElem? (i := 22) rfl), trivial⟩ (ts_preS hK hN hW) rfl rfl hl.1 rfl (lv_room (Nat.le_of_ble_eq_true rfl)) dX4_begin_78 ⟨Nat.zero_le _, Nat.zero_le _⟩) hS (fun x h => ts_Aup hS.1 h) (fun r26 u27 H locs hp28 hW _ _ hS => ?_)
      have hp28r : r26 = b2i (hasB (u.1.1 2) f) := hp28.1
      have hp28u : u27 = (u.1, u.2.1, (va_up u.2.2.1.1 2 ((u.2.2.1.1 2) + 1), u.2.2.1.2.1, u.2.2.1.2.2), u.2.2.2) := hp28.2
      rw [hp28r]
      rw [hp28u] at hW
      refine lv_if_eq (tgt := 91) hx hb dX4_begin_81 (by decide) (fun c29 => ?_) (fun c29 => ?_)
      · skip
        have c29 := ts_bf c29
        refine lv_iload_n hx hb dX4_begin_91 rfl (lv_at hl 2 rfl) ?_
        refine ts_retV (va_runV (As := [.int (nI 1), .int (nI f)]) (rest := []) ⟨hx, hb, hml, hown, hts⟩ (k_X4_fail l D q b H.size (u.1, u.2.1, (va_up u.2.2.1.1 2 ((u.2.2.1.1 2) + 1), u.2.2.1.2.1, u.2.2.1.2.2), u.2.2.2) 1 (f + 1)) (cwV 2 hts gX4_begin_X4_fail rfl rfl rfl (by decide +kernel) ⟨by show _ ≤ _; dsimp only [rE]; omega, by show _ ≤ _; dsimp only [rE]; omega⟩) (ts_preV hK hN hW 24 (by decide) cel_tr rfl) rfl rfl hl.1 rfl (lv_room (Nat.le_of_ble_eq_true rfl)) dX4_begin_92 ⟨Nat.zero_le _, Nat.zero_le _⟩) hS (fun x h => ts_Aup hS.1 h) (fun u31 H locs hp32 hW _ _ hS => ?_)
        have hp32u : u31 = (u.1, u.2.1, (failT 1 (f + 1) (va_up u.2.2.1.1 2 ((u.2.2.1.1 2) + 1), u.2.2.1.2.1, u.2.2.1.2.2)), u.2.2.2) := hp32
        rw [hp32u] at hW
        exact ts_vret (u := (u.1, u.2.1, (failT 1 (f + 1) (va_up u.2.2.1.1 2 ((u.2.2.1.1 2) + 1), u.2.2.1.2.1, u.2.2.1.2.2)), u.2.2.2)) C0 hW hS (by (show _ = (u.1, u.2.1, beginT u.1 (enterT u.1 n) f v u.2.2.1, u.2.2.2)); unfold beginT; (repeat' split) <;> first | rfl | contradiction | (exfalso; omega) | (exfalso; simp_all; done)) dX4_begin_95
      have c29 := ts_bt c29
      refine lv_aload_n hx hb dX4_begin_84 rfl (lv_at hl 1 rfl) ?_
      refine ts_get (C := RX4) (T := TX4) (N := 13) (v := .int (zI (u.2.2.1.1 9))) hx hb hts hi4 hown hK hW 24 (by decide) cel_tr rfl 12 (by decide) (List.mem_of_getElem? (i := 5) rfl) rfl dX4_begin_85 ?_
      refine lv_goto (tgt := 92) hx hb dX4_begin_88 (by decide) ?_
      refine ts_retV (va_runV (As := [.int (nI 1), .int (zI (u.2.2.1.1 9))]) (rest := []) ⟨hx, hb, hml, hown, hts⟩ (k_X4_fail l D q b H.size (u.1, u.2.1, (va_up u.2.2.1.1 2 ((u.2.2.1.1 2) + 1), u.2.2.1.2.1, u.2.2.1.2.2), u.2.2.2) 1 (u.2.2.1.1 9)) (cwV 2 hts gX4_begin_X4_fail rfl rfl rfl (by decide +kernel) ⟨by show _ ≤ _; dsimp only [rE]; omega, by show _ ≤ _; dsimp only [rE]; omega⟩) (ts_preV hK hN hW 24 (by decide) cel_tr rfl) rfl rfl hl.1 rfl (lv_room (Nat.le_of_ble_eq_true rfl)) dX4_begin_92 ⟨Nat.zero_le _, Nat.zero_le _⟩) hS (fun x h => ts_Aup hS.1 h) (fun u34 H locs hp35 hW _ _ hS => ?_)
      have hp35u : u34 = (u.1, u.2.1, (failT 1 (u.2.2.1.1 9) (va_up u.2.2.1.1 2 ((u.2.2.1.1 2) + 1), u.2.2.1.2.1, u.2.2.1.2.2)), u.2.2.2) := hp35
      rw [hp35u] at hW
      exact ts_vret (u := (u.1, u.2.1, (failT 1 (u.2.2.1.1 9) (va_up u.2.2.1.1 2 ((u.2.2.1.1 2) + 1), u.2.2.1.2.1, u.2.2.1.2.2)), u.2.2.2)) C0 hW hS (by (show _ = (u.1, u.2.1, beginT u.1 (enterT u.1 n) f v u.2.2.1, u.2.2.2)); unfold beginT; (repeat' split) <;> first | rfl | contradiction | (exfalso; omega) | (exfalso; simp_all; done)) dX4_begin_95
    have c5 := ts_dt c5
    refine lv_aload_n hx hb dX4_begin_34 rfl (lv_at hl 0 rfl) ?_
    refine lv_iload_n hx hb dX4_begin_35 rfl (lv_at hl 1 rfl) ?_
    refine lv_iload_n hx hb dX4_begin_36 rfl (lv_at hl 2 rfl) ?_
    refine lv_bipush (v := nI 40) hx hb dX4_begin_37 (by decide) ?_
    refine ts_isub (v := nI (v - 40)) hx hb dX4_begin_39 (pk_sub (by omega)) ?_
    refine lv_iload_n hx hb dX4_begin_40 rfl (lv_at hl 3 rfl) ?_
    refine lv_iconst (v := nI 1) hx hb dX4_begin_41 (by decide) ?_
    refine ts_iadd (v := nI (d + 1)) hx hb dX4_begin_42 (nI_add _ _) ?_
    refine ts_retV (va_runV (As := [.int (nI f), .int (nI (v - 40)), .int (nI (d + 1))]) (rest := []) ⟨hx, hb, hml, hown, hts⟩ (hE H.size (u.1, u.2.1, (va_up u.2.2.1.1 2 ((u.2.2.1.1 2) + 1), u.2.2.1.2.1, u.2.2.1.2.2), u.2.2.2) (f + 1) (v - 40) (d + 1) hwf (hwt.beg (by omega)) (by omega) (by show v - 40 < u.1.1 1; omega) (by omega)) (cwV 3 hts gX4_begin_X4_enter rfl rfl rfl (by decide +kernel) ⟨by show _ ≤ _; dsimp only [rE]; omega, by show _ ≤ _; dsimp only [rE]; omega⟩) (ts_preV hK hN hW 24 (by decide) cel_tr rfl) rfl rfl hl.1 rfl (lv_room (Nat.le_of_ble_eq_true rfl)) dX4_begin_43 ⟨Nat.zero_le _, Nat.zero_le _⟩) hS (fun x h => ts_Aup hS.1 h) (fun u37 H locs hp38 hW _ _ hS => ?_)
    have hp38u : u37 = (u.1, u.2.1, (enterT u.1 n (f + 1) (v - 40) (va_up u.2.2.1.1 2 ((u.2.2.1.1 2) + 1), u.2.2.1.2.1, u.2.2.1.2.2)), u.2.2.2) := hp38
    rw [hp38u] at hW
    exact ts_vret (u := (u.1, u.2.1, (enterT u.1 n (f + 1) (v - 40) (va_up u.2.2.1.1 2 ((u.2.2.1.1 2) + 1), u.2.2.1.2.1, u.2.2.1.2.2)), u.2.2.2)) C0 hW hS (by (show _ = (u.1, u.2.1, beginT u.1 (enterT u.1 n) f v u.2.2.1, u.2.2.2)); unfold beginT; (repeat' split) <;> first | rfl | contradiction | (exfalso; omega) | (exfalso; simp_all; done)) dX4_begin_46
  rw [nI_ltI (by omega) (by omega)] at c1
  refine lv_aload_n hx hb dX4_begin_10 rfl (lv_at hl 0 rfl) ?_
  refine lv_iconst (v := nI 5) hx hb dX4_begin_11 (by decide) ?_
  refine lv_iconst (v := (-1)) hx hb dX4_begin_12 (by decide) ?_
  refine ts_retV (va_runV (As := [.int (nI 5), .int (-1)]) (rest := []) ⟨hx, hb, hml, hown, hts⟩ (k_X4_fail l D q b s.heap.size u 5 0) (cwV 2 hts gX4_begin_X4_fail rfl rfl rfl (by decide +kernel) ⟨by show _ ≤ _; dsimp only [rE]; omega, by show _ ≤ _; dsimp only [rE]; omega⟩) (ts_preV hK hN hW 24 (by decide) cel_tr rfl) rfl rfl hl.1 rfl (lv_room (Nat.le_of_ble_eq_true rfl)) dX4_begin_13 ⟨Nat.zero_le _, Nat.zero_le _⟩) hS (fun x h => ts_Aup hS.1 h) (fun u40 H locs hp41 hW _ _ hS => ?_)
  have hp41u : u40 = (u.1, u.2.1, (failT 5 0 u.2.2.1), u.2.2.2) := hp41
  rw [hp41u] at hW
  exact ts_vret (u := (u.1, u.2.1, (failT 5 0 u.2.2.1), u.2.2.2)) C0 hW hS (by (show _ = (u.1, u.2.1, beginT u.1 (enterT u.1 n) f v u.2.2.1, u.2.2.2)); unfold beginT; (repeat' split) <;> first | rfl | contradiction | (exfalso; omega) | (exfalso; simp_all; done)) dX4_begin_16
set_option maxHeartbeats 4000000 in
set_option maxRecDepth 100000 in
theorem k_X4_goThrough (l : Launch) (D : va_G) (q : CQ) (b sz : Nat) (u : ST) (n : Nat) (hE : EnterOK l D q b n) (f : Nat) (d : Nat) (hwf : WP u.1) (hwt : WT u.2.2.1) (hf : f < 10) (hd : d + 1 + n = 13) : Met l yX4_goThrough wsX4_goThrough ({ frames := 3 * n + 7, cells := 0, slots := 0, locals := 71 * n + 247 } : Room) (va_Pc [.ref (b + 24), .int (nI f), .int (nI d)] (Pr D q b sz u)) (cV D q b sz (fun u' => u' = (u.1, u.2.1, goT u.1 (enterT u.1 n) f (u.1.1 (20 + f)) u.2.2.1, u.2.2.2))) 0 0 (ts_A b 52 sz) := by
  refine ts_met (by decide) rfl (Nat.le_of_ble_eq_true rfl) ?_
  intro p e s m below meth c C0 hX ls hl
  obtain ⟨hsz, hW, hK, hN⟩ := hX
  subst hsz
  obtain ⟨hx, hb, hml, hown, hts, -, -, -⟩ := id C0
  have hW : ts_W D b 52 (cel q b u) s.heap := hW
  have hS : va_S (ts_A b 52 s.heap.size) s.heap s.heap [] := va_S.rf
  have hB : ∀ k, k < 52 → ts_A b 52 s.heap.size (b + k) := fun k hk => ts_Ain hk
  have hi2 : ∀ w ∈ wsX20, w ∈ wsX4_goThrough := ts_lays 99 rfl
  have hi3 : ∀ w ∈ wsX30, w ∈ wsX4_goThrough := ts_lays 94 rfl
  have hi4 : ∀ w ∈ wsX40, w ∈ wsX4_goThrough := ts_lays 81 rfl
  have hl : lv_has ls 5 [(0, .ref (b + 24)), (1, .int (nI f)), (2, .int (nI d))] := hl
  have hs := hwf.sz
  have hEW : ∀ r c T, r ≤ 10 → c < u.1.1 1 → WT T → WT (enterT u.1 n r c T) := fun r c T h1 h2 h3 => WT.enter hwf n r c T (by omega) h1 h2 h3
  refine lv_aload_n hx hb dX4_goThrough_0 rfl (lv_at hl 0 rfl) ?_
  refine ts_get (C := RX4) (T := TX4) (N := 13) (v := .ref (b + 1)) hx hb hts hi4 hown hK hW 24 (by decide) cel_tr rfl 0 (by decide) (List.mem_of_getElem? (i := 1) rfl) rfl dX4_goThrough_1 ?_
  refine ts_get (C := RX3) (T := TX3) (N := 5) (v := .ref (b + 2)) hx hb hts hi3 hown hK hW 1 (by decide) cel_pr rfl 0 (by decide) (List.mem_of_getElem? (i := 2) rfl) rfl dX4_goThrough_4 ?_
  refine lv_iload_n hx hb dX4_goThrough_7 rfl (lv_at hl 1 rfl) ?_
  refine ts_aald (a := b + (3 + 2 * f)) hx hb hK hW 2 (by decide) 1 cel_fs rfl rfl (by omega) (by decide) rfl dX4_goThrough_8 ?_
  refine lv_astore_n (lv' := [(3, .ref (b + (3 + 2 * f))), (0, .ref (b + 24)), (1, .int (nI f)), (2, .int (nI d))]) hx hb dX4_goThrough_9 rfl hl (by decide) rfl (fun ls hl => ?_)
  refine lv_iconst (v := nI 0) hx hb dX4_goThrough_10 (by decide) ?_
  refine lv_istore (lv' := [(4, .int (nI 0)), (3, .ref (b + (3 + 2 * f))), (0, .ref (b + 24)), (1, .int (nI f)), (2, .int (nI d))]) hx hb dX4_goThrough_11 hl (by decide) rfl (fun ls hl => ?_)
  have key1 : ∀ (fu : Nat) (k : Nat), (k ≤ u.1.1 (20 + f)) → (u.1.1 (20 + f) - k) < fu → ∀ (H : Heap) (locs : List Loc), ts_W D b 52 (cel q b (u.1, u.2.1, (goT u.1 (enterT u.1 n) f k u.2.2.1), u.2.2.2)) H → va_S (ts_A b 52 s.heap.size) s.heap H locs → ∀ ls : Array Slot, lv_has ls 5 [(4, .int (nI k)), (3, .ref (b + (3 + 2 * f))), (0, .ref (b + 24)), (1, .int (nI f)), (2, .int (nI d))] → W p l e ({ frames := 3 * n + 7, cells := 0, slots := 0, locals := 71 * n + 247 } : Room) s m [.ref (b + 24), .int (nI f), .int (nI d)].toArray below meth c H locs 0 0 (MQ below (cV D q b s.heap.size (fun u' => u' = (u.1, u.2.1, goT u.1 (enterT u.1 n) f (u.1.1 (20 + f)) u.2.2.1, u.2.2.2))) [.ref (b + 24), .int (nI f), .int (nI d)].toArray s 0 0 (ts_A b 52 s.heap.size)) (F0 m 13 ls []) := by
    intro fu
    induction fu with
    | zero => intro k _ hn; exact absurd hn (Nat.not_lt_zero _)
    | succ fu ih2 =>
      intro k hk hn H locs hW hS ls hl
      have hwk := WT.go hwf hEW hf hwt k hk
      have hw6 := hwk.2.2.2.2.2.1
      have hq1 := hwf.fsz hf
      refine lv_iload hx hb dX4_goThrough_13 (lv_at hl 0 rfl) ?_
      refine lv_aload_n hx hb dX4_goThrough_15 rfl (lv_at hl 1 rfl) ?_
      refine ts_get (C := RX2) (T := TX2) (N := 4) (v := .int (nI (u.1.1 (20 + f)))) hx hb hts hi2 hown hK hW (3 + 2 * f) (by omega) (cel_fn (by omega)) rfl 1 (by decide) (List.mem_of_getElem? (i := 3) rfl) rfl dX4_goThrough_16 ?_
      have hq3 := hwf.fsz (i := f) (by omega)
      refine lv_icmp_ge (tgt := 48) hx hb dX4_goThrough_19 (by decide) (fun c4 => ?_) (fun c4 => ?_)
      · skip
        rw [nI_leI (by omega) (by omega)] at c4
        exact ts_vret (u := (u.1, u.2.1, (goT u.1 (enterT u.1 n) f k u.2.2.1), u.2.2.2)) C0 hW hS (by first | (rw [show u.1.1 (20 + f) = k by omega]; done) | (rw [show u.1.1 (20 + f) = k + (u.1.1 (20 + f) - k) by omega, goT_stop (by omega)])) dX4_goThrough_48
      rw [nI_leI (by omega) (by omega)] at c4
      refine lv_aload_n hx hb dX4_goThrough_22 rfl (lv_at hl 2 rfl) ?_
      refine ts_get (C := RX4) (T := TX4) (N := 13) (v := .int (nI (((goT u.1 (enterT u.1 n) f k u.2.2.1)).1 6))) hx hb hts hi4 hown hK hW 24 (by decide) cel_tr rfl 9 (by decide) (List.mem_of_getElem? (i := 4) rfl) rfl dX4_goThrough_23 ?_
      refine lv_if_ne (tgt := 48) hx hb dX4_goThrough_26 (by decide) (fun c5 => ?_) (fun c5 => ?_)
      · skip
        rw [ts_eq0 (by omega)] at c5
        exact ts_vret (u := (u.1, u.2.1, (goT u.1 (enterT u.1 n) f k u.2.2.1), u.2.2.2)) C0 hW hS (by first | (rw [show u.1.1 (20 + f) = k by omega]; done) | (rw [show u.1.1 (20 + f) = k + (u.1.1 (20 + f) - k) by omega, goT_stop (by omega)])) dX4_goThrough_48
      rw [ts_eq0 (by omega)] at c5
      refine lv_aload_n hx hb dX4_goThrough_29 rfl (lv_at hl 2 rfl) ?_
      refine lv_iload_n hx hb dX4_goThrough_30 rfl (lv_at hl 3 rfl) ?_
      refine lv_aload_n hx hb dX4_goThrough_31 rfl (lv_at hl 1 rfl) ?_
      refine ts_get (C := RX2) (T := TX2) (N := 4) (v := .ref (b + (4 + 2 * f))) hx hb hts hi2 hown hK hW (3 + 2 * f) (by omega) (cel_fn (by omega)) rfl 0 (by decide) (List.mem_of_getElem? (i := 5) rfl) rfl dX4_goThrough_32 ?_
      refine lv_iload hx hb dX4_goThrough_35 (lv_at hl 0 rfl) ?_
      refine ts_iald (v := nI (u.1.2 f k)) hx hb hK hW (4 + 2 * f) (by omega) 0 (cel_sp (by omega)) rfl (by omega) (by decide) rfl dX4_goThrough_37 ?_
      have hq6 := hwf.stp (i := f) (j := k) (by omega) (by omega)
      refine lv_iload_n hx hb dX4_goThrough_38 rfl (lv_at hl 4 rfl) ?_
      refine ts_retV (va_runV (As := [.int (nI f), .int (nI (u.1.2 f k)), .int (nI d)]) (rest := []) ⟨hx, hb, hml, hown, hts⟩ (k_X4_begin l D q b H.size (u.1, u.2.1, (goT u.1 (enterT u.1 n) f k u.2.2.1), u.2.2.2) n hE f (u.1.2 f k) d hwf hwk (by omega) (by omega) (by omega)) (cwV 3 hts gX4_goThrough_X4_begin rfl rfl rfl (by decide +kernel) ⟨by show _ ≤ _; dsimp only [rE]; omega, by show _ ≤ _; dsimp only [rE]; omega⟩) (ts_preV hK hN hW 24 (by decide) cel_tr rfl) rfl rfl hl.1 rfl (lv_room (Nat.le_of_ble_eq_true rfl)) dX4_goThrough_39 ⟨Nat.zero_le _, Nat.zero_le _⟩) hS (fun x h => ts_Aup hS.1 h) (fun u8 H locs hp9 hW _ _ hS => ?_)
      have hp9u : u8 = (u.1, u.2.1, (beginT u.1 (enterT u.1 n) f (u.1.2 f k) (goT u.1 (enterT u.1 n) f k u.2.2.1)), u.2.2.2) := hp9
      rw [hp9u] at hW
      refine lv_iinc (v := nI (k + 1)) (lv' := [(4, .int (nI (k + 1))), (3, .ref (b + (3 + 2 * f))), (0, .ref (b + 24)), (1, .int (nI f)), (2, .int (nI d))]) hx hb dX4_goThrough_42 hl (k := 0) rfl (nI_add k 1) (by decide) rfl (fun ls hl => ?_)
      refine lv_goto (tgt := 13) hx hb dX4_goThrough_45 (by decide) ?_
      have e10 : (u.1, u.2.1, (goT u.1 (enterT u.1 n) f (k + 1) u.2.2.1), u.2.2.2) = (u.1, u.2.1, (beginT u.1 (enterT u.1 n) f (u.1.2 f k) (goT u.1 (enterT u.1 n) f k u.2.2.1)), u.2.2.2) := by rw [show goT u.1 (enterT u.1 n) f (k + 1) u.2.2.1 = beginT u.1 (enterT u.1 n) f (u.1.2 f k) (goT u.1 (enterT u.1 n) f k u.2.2.1) from if_pos (by omega)]
      exact ih2 (k + 1) (by omega) (by omega) H locs (by rw [e10]; exact hW) hS ls (lv_sub hl [0, 1, 2, 3, 4] rfl)
  exact key1 _ 0 (by omega) (Nat.lt_succ_self _) _ _ hW hS ls (lv_sub hl [0, 1, 2, 3, 4] rfl)
set_option maxHeartbeats 4000000 in
set_option maxRecDepth 100000 in
theorem k_X4_enter0 (l : Launch) (D : va_G) (q : CQ) (b sz : Nat) (u : ST) (r_ c_ d : Nat) (hd : d = 13) : Met l yX4_enter wsX4_enter (rE 0) (va_Pc [.ref (b + 24), .int (zI r_), .int (nI c_), .int (nI d)] (Pr D q b sz u)) (cV D q b sz (fun u' => u' = (u.1, u.2.1, failT 4 0 u.2.2.1, u.2.2.2))) 0 0 (ts_A b 52 sz) := by
  refine ts_met (by decide) rfl (Nat.le_of_ble_eq_true rfl) ?_
  intro p e s m below meth c C0 hX ls hl
  obtain ⟨hsz, hW, hK, hN⟩ := hX
  subst hsz
  obtain ⟨hx, hb, hml, hown, hts, -, -, -⟩ := id C0
  have hW : ts_W D b 52 (cel q b u) s.heap := hW
  have hS : va_S (ts_A b 52 s.heap.size) s.heap s.heap [] := va_S.rf
  have hB : ∀ k, k < 52 → ts_A b 52 s.heap.size (b + k) := fun k hk => ts_Ain hk
  have hl : lv_has ls 4 [(0, .ref (b + 24)), (1, .int (zI r_)), (2, .int (nI c_)), (3, .int (nI d))] := hl
  refine lv_iload_n hx hb dX4_enter_0 rfl (lv_at hl 3 rfl) ?_
  refine lv_bipush (v := nI 12) hx hb dX4_enter_1 (by decide) ?_
  refine lv_icmp_le (tgt := 13) hx hb dX4_enter_3 (by decide) (fun c1 => ?_) (fun c1 => ?_)
  · skip
    rw [nI_leI (by omega) (by omega)] at c1
    exfalso; omega
  rw [nI_leI (by omega) (by omega)] at c1
  refine lv_aload_n hx hb dX4_enter_6 rfl (lv_at hl 0 rfl) ?_
  refine lv_iconst (v := nI 4) hx hb dX4_enter_7 (by decide) ?_
  refine lv_iconst (v := (-1)) hx hb dX4_enter_8 (by decide) ?_
  refine ts_retV (va_runV (As := [.int (nI 4), .int (-1)]) (rest := []) ⟨hx, hb, hml, hown, hts⟩ (k_X4_fail l D q b s.heap.size u 4 0) (cwV 2 hts gX4_enter_X4_fail rfl rfl rfl (by decide +kernel) ⟨by show _ ≤ _; dsimp only [rE]; omega, by show _ ≤ _; dsimp only [rE]; omega⟩) (ts_preV hK hN hW 24 (by decide) cel_tr rfl) rfl rfl hl.1 rfl (lv_room (Nat.le_of_ble_eq_true rfl)) dX4_enter_9 ⟨Nat.zero_le _, Nat.zero_le _⟩) hS (fun x h => ts_Aup hS.1 h) (fun u3 H locs hp4 hW _ _ hS => ?_)
  have hp4u : u3 = (u.1, u.2.1, (failT 4 0 u.2.2.1), u.2.2.2) := hp4
  rw [hp4u] at hW
  exact ts_vret (u := (u.1, u.2.1, (failT 4 0 u.2.2.1), u.2.2.2)) C0 hW hS (by exact rfl) dX4_enter_12
set_option maxHeartbeats 4000000 in
set_option maxRecDepth 100000 in
theorem k_X4_enterS (l : Launch) (D : va_G) (q : CQ) (b sz : Nat) (u : ST) (n : Nat) (hE : EnterOK l D q b n) (r_ : Nat) (c_ : Nat) (d : Nat) (hwf : WP u.1) (hwt : WT u.2.2.1) (hr : r_ ≤ 10) (hc : c_ < u.1.1 1) (hd : d + (n + 1) = 13) : Met l yX4_enter wsX4_enter (rE (n + 1)) (va_Pc [.ref (b + 24), .int (zI r_), .int (nI c_), .int (nI d)] (Pr D q b sz u)) (cV D q b sz (fun u' => u' = (u.1, u.2.1, enterT u.1 (n + 1) r_ c_ u.2.2.1, u.2.2.2))) 0 0 (ts_A b 52 sz) := by
  refine ts_met (by decide) rfl (Nat.le_of_ble_eq_true rfl) ?_
  intro p e s m below meth c C0 hX ls hl
  obtain ⟨hsz, hW, hK, hN⟩ := hX
  subst hsz
  obtain ⟨hx, hb, hml, hown, hts, -, -, -⟩ := id C0
  have hW : ts_W D b 52 (cel q b u) s.heap := hW
  have hS : va_S (ts_A b 52 s.heap.size) s.heap s.heap [] := va_S.rf
  have hB : ∀ k, k < 52 → ts_A b 52 s.heap.size (b + k) := fun k hk => ts_Ain hk
  have hi2 : ∀ w ∈ wsX20, w ∈ wsX4_enter := ts_lays 99 rfl
  have hi3 : ∀ w ∈ wsX30, w ∈ wsX4_enter := ts_lays 94 rfl
  have hi4 : ∀ w ∈ wsX40, w ∈ wsX4_enter := ts_lays 81 rfl
  have hl : lv_has ls 4 [(0, .ref (b + 24)), (1, .int (zI r_)), (2, .int (nI c_)), (3, .int (nI d))] := hl
  have hs := hwf.sz
  have hty := hwf.ty
  obtain ⟨w0, w1, w2, w3, w5, w6, w7, w8, w9⟩ := id hwt
  have hEW : ∀ r c T, r ≤ 10 → c < u.1.1 1 → WT T → WT (enterT u.1 n r c T) := fun r c T h1 h2 h3 => WT.enter hwf n r c T (by omega) h1 h2 h3
  refine lv_iload_n hx hb dX4_enter_0 rfl (lv_at hl 3 rfl) ?_
  refine lv_bipush (v := nI 12) hx hb dX4_enter_1 (by decide) ?_
  refine lv_icmp_le (tgt := 13) hx hb dX4_enter_3 (by decide) (fun c1 => ?_) (fun c1 => ?_)
  · skip
    rw [nI_leI (by omega) (by omega)] at c1
    refine lv_aload_n hx hb dX4_enter_13 rfl (lv_at hl 0 rfl) ?_
    refine lv_aload_n hx hb dX4_enter_14 rfl (lv_at hl 0 rfl) ?_
    refine ts_get (C := RX4) (T := TX4) (N := 13) (v := .int (nI (u.2.2.1.1 5))) hx hb hts hi4 hown hK hW 24 (by decide) cel_tr rfl 8 (by decide) (List.mem_of_getElem? (i := 1) rfl) rfl dX4_enter_15 ?_
    refine lv_iload_n hx hb dX4_enter_18 rfl (lv_at hl 3 rfl) ?_
    refine va_mmax hx hb (hml.trans hl.1.symm) hown (hts _ (List.mem_of_getElem? (i := 2) rfl)) (hts _ (List.mem_of_getElem? (i := 3) rfl)) (hts _ (List.mem_of_getElem? (i := 4) rfl)) (hts _ (List.mem_of_getElem? (i := 5) rfl)) (by show _ ≤ _; dsimp only [rE]; omega) (by show _ ≤ _; dsimp only [rE]; first | (simp [Value.category]; done) | (simp [Value.category]; omega)) (Nat.zero_le _) (Nat.zero_le _) dX4_enter_19 ?_
    refine ts_int (y := nI (maxN (u.2.2.1.1 5) d)) (ts_maxN (by omega) (by omega)) ?_
    refine ts_put (C := RX4) (T := TX4) (N := 13) (v := .int (nI (maxN (u.2.2.1.1 5) d))) hx hb hts hi4 tyX4 tyX4_ok nmX4 hown hK hW hS hB 24 (by decide) cel_tr rfl 8 (by decide) (List.mem_of_getElem? (i := 1) rfl) rfl rfl rfl (Nat.le_of_ble_eq_true rfl) (cel q b (u.1, u.2.1, (va_up u.2.2.1.1 5 (maxN (u.2.2.1.1 5) d), u.2.2.1.2.1, u.2.2.1.2.2), u.2.2.2)) rfl (cel_oT rfl rfl rfl rfl) dX4_enter_22 (fun H locs _ _ hW hS => ?_)
    refine lv_aload_n hx hb dX4_enter_25 rfl (lv_at hl 0 rfl) ?_
    refine ts_get (C := RX4) (T := TX4) (N := 13) (v := .ref (b + 25)) hx hb hts hi4 hown hK hW 24 (by decide) cel_tr rfl 1 (by decide) (List.mem_of_getElem? (i := 6) rfl) rfl dX4_enter_26 ?_
    refine lv_iload_n hx hb dX4_enter_29 rfl (lv_at hl 1 rfl) ?_
    refine ts_retI (va_runSN (As := [.int (zI r_)]) (rest := [.ref (b + 25)]) ⟨hx, hb, hml, hown, hts⟩ (k_X5_rowOf l D q b H.size (u.1, u.2.1, (va_up u.2.2.1.1 5 (maxN (u.2.2.1.1 5) d), u.2.2.1.2.1, u.2.2.1.2.2), u.2.2.2) r_) ⟨va_cnB 1 hts gX4_enter_X5_rowOf_n75 rfl rfl rfl (hN _ (List.mem_of_getElem? (i := 8) rfl)) (hts _ (List.mem_of_getElem? (i := 20) rfl)) (by decide +kernel) ⟨by show _ ≤ _; dsimp only [rE]; omega, by show _ ≤ _; dsimp only [rE]; omega⟩, hts _ (List.mem_of_getElem? (i := 19) rfl), trivial⟩ (ts_preS hK hN hW) rfl rfl hl.1 rfl (lv_room (Nat.le_of_ble_eq_true rfl)) dX4_enter_30 ⟨Nat.zero_le _, Nat.zero_le _⟩) hS (fun x h => ts_Aup hS.1 h) (fun r2 u3 H locs hp4 hW _ _ hS => ?_)
    have hp4r : r2 = nI r_ := hp4.1
    have hp4u : u3 = (u.1, u.2.1, (va_up u.2.2.1.1 5 (maxN (u.2.2.1.1 5) d), u.2.2.1.2.1, u.2.2.1.2.2), u.2.2.2) := hp4.2
    rw [hp4r]
    rw [hp4u] at hW
    refine ts_aald (a := b + (26 + r_)) hx hb hK hW 25 (by decide) 2 cel_tc rfl rfl (by omega) (by decide) rfl dX4_enter_33 ?_
    refine lv_iload_n hx hb dX4_enter_34 rfl (lv_at hl 2 rfl) ?_
    refine lv_dup2_11 hx hb dX4_enter_35 rfl rfl ?_
    refine ts_iald (v := nI (u.2.2.1.2.2 r_ c_)) hx hb hK hW (26 + r_) (by omega) 0 (cel_tw (by omega)) rfl (by omega) (by decide) rfl dX4_enter_36 ?_
    refine lv_iconst (v := nI 1) hx hb dX4_enter_37 (by decide) ?_
    refine ts_iadd (v := nI ((u.2.2.1.2.2 r_ c_) + 1)) hx hb dX4_enter_38 (nI_add _ _) ?_
    refine ts_iast (v := nI ((u.2.2.1.2.2 r_ c_) + 1)) hx hb hK hW hS hB (26 + r_) (by omega) 0 (cel_tw (by omega)) rfl (by omega) (by decide) (cel q b (u.1, u.2.1, (va_up u.2.2.1.1 5 (maxN (u.2.2.1.1 5) d), u.2.2.1.2.1, ts_u2 u.2.2.1.2.2 r_ c_ ((u.2.2.1.2.2 r_ c_) + 1)), u.2.2.2)) (cel_tw (by omega)) (fun j _ => ts_u2_row _ _ _ _ _) (cel_oTw (by omega) rfl rfl rfl rfl (fun j hj => ts_u2_ne _ _ _ hj) rfl) dX4_enter_39 (fun H locs _ _ hW hS => ?_)
    refine lv_aload_n hx hb dX4_enter_40 rfl (lv_at hl 0 rfl) ?_
    refine ts_get (C := RX4) (T := TX4) (N := 13) (v := .ref (b + 1)) hx hb hts hi4 hown hK hW 24 (by decide) cel_tr rfl 0 (by decide) (List.mem_of_getElem? (i := 7) rfl) rfl dX4_enter_41 ?_
    refine lv_iload_n hx hb dX4_enter_44 rfl (lv_at hl 1 rfl) ?_
    refine lv_iload_n hx hb dX4_enter_45 rfl (lv_at hl 2 rfl) ?_
    refine lv_aload_n hx hb dX4_enter_46 rfl (lv_at hl 0 rfl) ?_
    refine ts_get (C := RX4) (T := TX4) (N := 13) (v := .ref (b + 1)) hx hb hts hi4 hown hK hW 24 (by decide) cel_tr rfl 0 (by decide) (List.mem_of_getElem? (i := 7) rfl) rfl dX4_enter_47 ?_
    refine ts_get (C := RX3) (T := TX3) (N := 5) (v := .int (nI (u.1.1 2))) hx hb hts hi3 hown hK hW 1 (by decide) cel_pr rfl 3 (by decide) (List.mem_of_getElem? (i := 8) rfl) rfl dX4_enter_50 ?_
    refine ts_retI (va_runV (As := [.int (zI r_), .int (nI c_), .int (nI (u.1.1 2))]) (rest := []) ⟨hx, hb, hml, hown, hts⟩ (k_X3_guardsCall l D q b H.size (u.1, u.2.1, (va_up u.2.2.1.1 5 (maxN (u.2.2.1.1 5) d), u.2.2.1.2.1, ts_u2 u.2.2.1.2.2 r_ c_ ((u.2.2.1.2.2 r_ c_) + 1)), u.2.2.2) r_ c_ (u.1.1 2) hwf (by omega) (by omega) (by omega)) (cwV 3 hts gX4_enter_X3_guardsCall rfl rfl rfl (by decide +kernel) ⟨by show _ ≤ _; dsimp only [rE]; omega, by show _ ≤ _; dsimp only [rE]; omega⟩) (ts_preV hK hN hW 1 (by decide) cel_pr rfl) rfl rfl hl.1 rfl (lv_room (Nat.le_of_ble_eq_true rfl)) dX4_enter_53 ⟨Nat.zero_le _, Nat.zero_le _⟩) hS (fun x h => ts_Aup hS.1 h) (fun r5 u6 H locs hp7 hW _ _ hS => ?_)
    have hp7r : r5 = b2i (gcB u.1 r_ c_ (u.1.1 2)) := hp7.1
    have hp7u : u6 = (u.1, u.2.1, (va_up u.2.2.1.1 5 (maxN (u.2.2.1.1 5) d), u.2.2.1.2.1, ts_u2 u.2.2.1.2.2 r_ c_ ((u.2.2.1.2.2 r_ c_) + 1)), u.2.2.2) := hp7.2
    rw [hp7r]
    rw [hp7u] at hW
    refine lv_if_eq (tgt := 77) hx hb dX4_enter_56 (by decide) (fun c8 => ?_) (fun c8 => ?_)
    · skip
      have c8 := ts_bf c8
      have hg1 := c8
      have hwf1 : WT (va_up u.2.2.1.1 5 (maxN (u.2.2.1.1 5) d), u.2.2.1.2.1, ts_u2 u.2.2.1.2.2 r_ c_ ((u.2.2.1.2.2 r_ c_) + 1)) := (hwt.deep (by omega)).cnt r_ c_
      refine lv_aload_n hx hb dX4_enter_77 rfl (lv_at hl 0 rfl) ?_
      refine lv_iload_n hx hb dX4_enter_78 rfl (lv_at hl 2 rfl) ?_
      refine lv_iload_n hx hb dX4_enter_79 rfl (lv_at hl 3 rfl) ?_
      refine ts_retV (va_runV (As := [.int (nI c_), .int (nI d)]) (rest := []) ⟨hx, hb, hml, hown, hts⟩ (k_X4_goThrough l D q b H.size (u.1, u.2.1, (va_up u.2.2.1.1 5 (maxN (u.2.2.1.1 5) d), u.2.2.1.2.1, ts_u2 u.2.2.1.2.2 r_ c_ ((u.2.2.1.2.2 r_ c_) + 1)), u.2.2.2) n hE c_ d hwf hwf1 (by omega) (by omega)) (cwV 2 hts gX4_enter_X4_goThrough rfl rfl rfl (by decide +kernel) ⟨by show _ ≤ _; dsimp only [rE]; omega, by show _ ≤ _; dsimp only [rE]; omega⟩) (ts_preV hK hN hW 24 (by decide) cel_tr rfl) rfl rfl hl.1 rfl (lv_room (Nat.le_of_ble_eq_true rfl)) dX4_enter_80 ⟨Nat.zero_le _, Nat.zero_le _⟩) hS (fun x h => ts_Aup hS.1 h) (fun u10 H locs hp11 hW _ _ hS => ?_)
      have hp11u : u10 = (u.1, u.2.1, (goT u.1 (enterT u.1 n) c_ (u.1.1 (20 + c_)) (va_up u.2.2.1.1 5 (maxN (u.2.2.1.1 5) d), u.2.2.1.2.1, ts_u2 u.2.2.1.2.2 r_ c_ ((u.2.2.1.2.2 r_ c_) + 1))), u.2.2.2) := hp11
      rw [hp11u] at hW
      have hwg : WT (goT u.1 (enterT u.1 n) c_ (u.1.1 (20 + c_)) (va_up u.2.2.1.1 5 (maxN (u.2.2.1.1 5) d), u.2.2.1.2.1, ts_u2 u.2.2.1.2.2 r_ c_ ((u.2.2.1.2.2 r_ c_) + 1))) := WT.go hwf hEW (by omega) hwf1 _ (Nat.le_refl _)
      have hw6 := hwg.2.2.2.2.2.1
      refine lv_aload_n hx hb dX4_enter_83 rfl (lv_at hl 0 rfl) ?_
      refine ts_get (C := RX4) (T := TX4) (N := 13) (v := .int (nI (((goT u.1 (enterT u.1 n) c_ (u.1.1 (20 + c_)) (va_up u.2.2.1.1 5 (maxN (u.2.2.1.1 5) d), u.2.2.1.2.1, ts_u2 u.2.2.1.2.2 r_ c_ ((u.2.2.1.2.2 r_ c_) + 1)))).1 6))) hx hb hts hi4 hown hK hW 24 (by decide) cel_tr rfl 9 (by decide) (List.mem_of_getElem? (i := 11) rfl) rfl dX4_enter_84 ?_
      refine lv_if_ne (tgt := 127) hx hb dX4_enter_87 (by decide) (fun c12 => ?_) (fun c12 => ?_)
      · skip
        rw [ts_eq0 (by omega)] at c12
        have hq6 := c12
        exact ts_vret (u := (u.1, u.2.1, (goT u.1 (enterT u.1 n) c_ (u.1.1 (20 + c_)) (va_up u.2.2.1.1 5 (maxN (u.2.2.1.1 5) d), u.2.2.1.2.1, ts_u2 u.2.2.1.2.2 r_ c_ ((u.2.2.1.2.2 r_ c_) + 1))), u.2.2.2)) C0 hW hS (by (show _ = (u.1, u.2.1, enterT u.1 (n + 1) r_ c_ u.2.2.1, u.2.2.2)); rw [show enterT u.1 (n + 1) r_ c_ u.2.2.1 = lastT u.1 r_ c_ (goT u.1 (enterT u.1 n) c_ (u.1.1 (20 + c_)) (firstT u.1 r_ c_ (cntT r_ c_ (deepT (12 - n) u.2.2.1)))) from rfl, show 12 - n = d by omega]; rw [show firstT u.1 r_ c_ (cntT r_ c_ (deepT d u.2.2.1)) = cntT r_ c_ (deepT d u.2.2.1) from if_neg (by rw [hg1]; decide)]; unfold lastT; first | (rw [if_neg (fun h => hq6 h.1)]; rfl) | (rw [if_neg (fun h => by rw [hg2] at h; exact absurd h.2 (by decide))]; rfl)) dX4_enter_127
      rw [ts_eq0 (by omega)] at c12
      have hq6 := c12
      refine lv_aload_n hx hb dX4_enter_90 rfl (lv_at hl 0 rfl) ?_
      refine ts_get (C := RX4) (T := TX4) (N := 13) (v := .ref (b + 1)) hx hb hts hi4 hown hK hW 24 (by decide) cel_tr rfl 0 (by decide) (List.mem_of_getElem? (i := 7) rfl) rfl dX4_enter_91 ?_
      refine lv_iload_n hx hb dX4_enter_94 rfl (lv_at hl 1 rfl) ?_
      refine lv_iload_n hx hb dX4_enter_95 rfl (lv_at hl 2 rfl) ?_
      refine lv_aload_n hx hb dX4_enter_96 rfl (lv_at hl 0 rfl) ?_
      refine ts_get (C := RX4) (T := TX4) (N := 13) (v := .ref (b + 1)) hx hb hts hi4 hown hK hW 24 (by decide) cel_tr rfl 0 (by decide) (List.mem_of_getElem? (i := 7) rfl) rfl dX4_enter_97 ?_
      refine ts_get (C := RX3) (T := TX3) (N := 5) (v := .int (nI (u.1.1 2))) hx hb hts hi3 hown hK hW 1 (by decide) cel_pr rfl 3 (by decide) (List.mem_of_getElem? (i := 8) rfl) rfl dX4_enter_100 ?_
      refine ts_retI (va_runV (As := [.int (zI r_), .int (nI c_), .int (nI (u.1.1 2))]) (rest := []) ⟨hx, hb, hml, hown, hts⟩ (k_X3_guardsGive l D q b H.size (u.1, u.2.1, (goT u.1 (enterT u.1 n) c_ (u.1.1 (20 + c_)) (va_up u.2.2.1.1 5 (maxN (u.2.2.1.1 5) d), u.2.2.1.2.1, ts_u2 u.2.2.1.2.2 r_ c_ ((u.2.2.1.2.2 r_ c_) + 1))), u.2.2.2) r_ c_ (u.1.1 2) hwf (by omega) (by omega) (by omega)) (cwV 3 hts gX4_enter_X3_guardsGive rfl rfl rfl (by decide +kernel) ⟨by show _ ≤ _; dsimp only [rE]; omega, by show _ ≤ _; dsimp only [rE]; omega⟩) (ts_preV hK hN hW 1 (by decide) cel_pr rfl) rfl rfl hl.1 rfl (lv_room (Nat.le_of_ble_eq_true rfl)) dX4_enter_103 ⟨Nat.zero_le _, Nat.zero_le _⟩) hS (fun x h => ts_Aup hS.1 h) (fun r13 u14 H locs hp15 hW _ _ hS => ?_)
      have hp15r : r13 = b2i (ggB u.1 r_ c_ (u.1.1 2)) := hp15.1
      have hp15u : u14 = (u.1, u.2.1, (goT u.1 (enterT u.1 n) c_ (u.1.1 (20 + c_)) (va_up u.2.2.1.1 5 (maxN (u.2.2.1.1 5) d), u.2.2.1.2.1, ts_u2 u.2.2.1.2.2 r_ c_ ((u.2.2.1.2.2 r_ c_) + 1))), u.2.2.2) := hp15.2
      rw [hp15r]
      rw [hp15u] at hW
      refine lv_if_eq (tgt := 127) hx hb dX4_enter_106 (by decide) (fun c16 => ?_) (fun c16 => ?_)
      · skip
        have c16 := ts_bf c16
        have hg2 := c16
        exact ts_vret (u := (u.1, u.2.1, (goT u.1 (enterT u.1 n) c_ (u.1.1 (20 + c_)) (va_up u.2.2.1.1 5 (maxN (u.2.2.1.1 5) d), u.2.2.1.2.1, ts_u2 u.2.2.1.2.2 r_ c_ ((u.2.2.1.2.2 r_ c_) + 1))), u.2.2.2)) C0 hW hS (by (show _ = (u.1, u.2.1, enterT u.1 (n + 1) r_ c_ u.2.2.1, u.2.2.2)); rw [show enterT u.1 (n + 1) r_ c_ u.2.2.1 = lastT u.1 r_ c_ (goT u.1 (enterT u.1 n) c_ (u.1.1 (20 + c_)) (firstT u.1 r_ c_ (cntT r_ c_ (deepT (12 - n) u.2.2.1)))) from rfl, show 12 - n = d by omega]; rw [show firstT u.1 r_ c_ (cntT r_ c_ (deepT d u.2.2.1)) = cntT r_ c_ (deepT d u.2.2.1) from if_neg (by rw [hg1]; decide)]; unfold lastT; first | (rw [if_neg (fun h => hq6 h.1)]; rfl) | (rw [if_neg (fun h => by rw [hg2] at h; exact absurd h.2 (by decide))]; rfl)) dX4_enter_127
      have c16 := ts_bt c16
      have hg2 := c16
      refine lv_aload_n hx hb dX4_enter_109 rfl (lv_at hl 0 rfl) ?_
      refine lv_aload_n hx hb dX4_enter_110 rfl (lv_at hl 0 rfl) ?_
      refine ts_get (C := RX4) (T := TX4) (N := 13) (v := .ref (b + 1)) hx hb hts hi4 hown hK hW 24 (by decide) cel_tr rfl 0 (by decide) (List.mem_of_getElem? (i := 7) rfl) rfl dX4_enter_111 ?_
      refine ts_get (C := RX3) (T := TX3) (N := 5) (v := .ref (b + 2)) hx hb hts hi3 hown hK hW 1 (by decide) cel_pr rfl 0 (by decide) (List.mem_of_getElem? (i := 9) rfl) rfl dX4_enter_114 ?_
      refine lv_iload_n hx hb dX4_enter_117 rfl (lv_at hl 2 rfl) ?_
      refine ts_aald (a := b + (3 + 2 * c_)) hx hb hK hW 2 (by decide) 1 cel_fs rfl rfl (by omega) (by decide) rfl dX4_enter_118 ?_
      refine ts_get (C := RX2) (T := TX2) (N := 4) (v := .int (nI (u.1.1 (40 + c_)))) hx hb hts hi2 hown hK hW (3 + 2 * c_) (by omega) (cel_fn (by omega)) rfl 3 (by decide) (List.mem_of_getElem? (i := 12) rfl) rfl dX4_enter_119 ?_
      have hq17 := hwf.fout (i := c_) (by omega)
      refine lv_iconst (v := nI 3) hx hb dX4_enter_122 (by decide) ?_
      refine lv_iload_n hx hb dX4_enter_123 rfl (lv_at hl 2 rfl) ?_
      refine ts_retV (va_runV (As := [.int (nI (u.1.1 (40 + c_))), .int (nI 3), .int (nI c_)]) (rest := []) ⟨hx, hb, hml, hown, hts⟩ (k_X4_guard l D q b H.size (u.1, u.2.1, (goT u.1 (enterT u.1 n) c_ (u.1.1 (20 + c_)) (va_up u.2.2.1.1 5 (maxN (u.2.2.1.1 5) d), u.2.2.1.2.1, ts_u2 u.2.2.1.2.2 r_ c_ ((u.2.2.1.2.2 r_ c_) + 1))), u.2.2.2) (u.1.1 (40 + c_)) 3 (c_ + 1) hwg (by omega)) (cwV 3 hts gX4_enter_X4_guard rfl rfl rfl (by decide +kernel) ⟨by show _ ≤ _; dsimp only [rE]; omega, by show _ ≤ _; dsimp only [rE]; omega⟩) (ts_preV hK hN hW 24 (by decide) cel_tr rfl) rfl rfl hl.1 rfl (lv_room (Nat.le_of_ble_eq_true rfl)) dX4_enter_124 ⟨Nat.zero_le _, Nat.zero_le _⟩) hS (fun x h => ts_Aup hS.1 h) (fun u19 H locs hp20 hW _ _ hS => ?_)
      have hp20u : u19 = (u.1, u.2.1, (guardT (u.1.1 (40 + c_)) 3 (c_ + 1) (goT u.1 (enterT u.1 n) c_ (u.1.1 (20 + c_)) (va_up u.2.2.1.1 5 (maxN (u.2.2.1.1 5) d), u.2.2.1.2.1, ts_u2 u.2.2.1.2.2 r_ c_ ((u.2.2.1.2.2 r_ c_) + 1)))), u.2.2.2) := hp20
      rw [hp20u] at hW
      exact ts_vret (u := (u.1, u.2.1, (guardT (u.1.1 (40 + c_)) 3 (c_ + 1) (goT u.1 (enterT u.1 n) c_ (u.1.1 (20 + c_)) (va_up u.2.2.1.1 5 (maxN (u.2.2.1.1 5) d), u.2.2.1.2.1, ts_u2 u.2.2.1.2.2 r_ c_ ((u.2.2.1.2.2 r_ c_) + 1)))), u.2.2.2)) C0 hW hS (by (show _ = (u.1, u.2.1, enterT u.1 (n + 1) r_ c_ u.2.2.1, u.2.2.2)); rw [show enterT u.1 (n + 1) r_ c_ u.2.2.1 = lastT u.1 r_ c_ (goT u.1 (enterT u.1 n) c_ (u.1.1 (20 + c_)) (firstT u.1 r_ c_ (cntT r_ c_ (deepT (12 - n) u.2.2.1)))) from rfl, show 12 - n = d by omega]; rw [show firstT u.1 r_ c_ (cntT r_ c_ (deepT d u.2.2.1)) = cntT r_ c_ (deepT d u.2.2.1) from if_neg (by rw [hg1]; decide)]; unfold lastT; rw [if_pos ⟨hq6, hg2⟩]; rfl) dX4_enter_127
    have c8 := ts_bt c8
    have hg1 := c8
    refine lv_aload_n hx hb dX4_enter_59 rfl (lv_at hl 0 rfl) ?_
    refine lv_aload_n hx hb dX4_enter_60 rfl (lv_at hl 0 rfl) ?_
    refine ts_get (C := RX4) (T := TX4) (N := 13) (v := .ref (b + 1)) hx hb hts hi4 hown hK hW 24 (by decide) cel_tr rfl 0 (by decide) (List.mem_of_getElem? (i := 7) rfl) rfl dX4_enter_61 ?_
    refine ts_get (C := RX3) (T := TX3) (N := 5) (v := .ref (b + 2)) hx hb hts hi3 hown hK hW 1 (by decide) cel_pr rfl 0 (by decide) (List.mem_of_getElem? (i := 9) rfl) rfl dX4_enter_64 ?_
    refine lv_iload_n hx hb dX4_enter_67 rfl (lv_at hl 2 rfl) ?_
    refine ts_aald (a := b + (3 + 2 * c_)) hx hb hK hW 2 (by decide) 1 cel_fs rfl rfl (by omega) (by decide) rfl dX4_enter_68 ?_
    refine ts_get (C := RX2) (T := TX2) (N := 4) (v := .int (nI (u.1.1 (30 + c_)))) hx hb hts hi2 hown hK hW (3 + 2 * c_) (by omega) (cel_fn (by omega)) rfl 2 (by decide) (List.mem_of_getElem? (i := 10) rfl) rfl dX4_enter_69 ?_
    have hq21 := hwf.fin (i := c_) (by omega)
    refine lv_iconst (v := nI 2) hx hb dX4_enter_72 (by decide) ?_
    refine lv_iload_n hx hb dX4_enter_73 rfl (lv_at hl 1 rfl) ?_
    refine ts_retV (va_runV (As := [.int (nI (u.1.1 (30 + c_))), .int (nI 2), .int (zI r_)]) (rest := []) ⟨hx, hb, hml, hown, hts⟩ (k_X4_guard l D q b H.size (u.1, u.2.1, (va_up u.2.2.1.1 5 (maxN (u.2.2.1.1 5) d), u.2.2.1.2.1, ts_u2 u.2.2.1.2.2 r_ c_ ((u.2.2.1.2.2 r_ c_) + 1)), u.2.2.2) (u.1.1 (30 + c_)) 2 r_ ((hwt.deep (by omega)).cnt r_ c_) (by omega)) (cwV 3 hts gX4_enter_X4_guard rfl rfl rfl (by decide +kernel) ⟨by show _ ≤ _; dsimp only [rE]; omega, by show _ ≤ _; dsimp only [rE]; omega⟩) (ts_preV hK hN hW 24 (by decide) cel_tr rfl) rfl rfl hl.1 rfl (lv_room (Nat.le_of_ble_eq_true rfl)) dX4_enter_74 ⟨Nat.zero_le _, Nat.zero_le _⟩) hS (fun x h => ts_Aup hS.1 h) (fun u23 H locs hp24 hW _ _ hS => ?_)
    have hp24u : u23 = (u.1, u.2.1, (guardT (u.1.1 (30 + c_)) 2 r_ (va_up u.2.2.1.1 5 (maxN (u.2.2.1.1 5) d), u.2.2.1.2.1, ts_u2 u.2.2.1.2.2 r_ c_ ((u.2.2.1.2.2 r_ c_) + 1))), u.2.2.2) := hp24
    rw [hp24u] at hW
    have hwf1 : WT (guardT (u.1.1 (30 + c_)) 2 r_ (va_up u.2.2.1.1 5 (maxN (u.2.2.1.1 5) d), u.2.2.1.2.1, ts_u2 u.2.2.1.2.2 r_ c_ ((u.2.2.1.2.2 r_ c_) + 1))) := ((hwt.deep (by omega)).cnt r_ c_).guard (by omega) (by omega)
    refine lv_aload_n hx hb dX4_enter_77 rfl (lv_at hl 0 rfl) ?_
    refine lv_iload_n hx hb dX4_enter_78 rfl (lv_at hl 2 rfl) ?_
    refine lv_iload_n hx hb dX4_enter_79 rfl (lv_at hl 3 rfl) ?_
    refine ts_retV (va_runV (As := [.int (nI c_), .int (nI d)]) (rest := []) ⟨hx, hb, hml, hown, hts⟩ (k_X4_goThrough l D q b H.size (u.1, u.2.1, (guardT (u.1.1 (30 + c_)) 2 r_ (va_up u.2.2.1.1 5 (maxN (u.2.2.1.1 5) d), u.2.2.1.2.1, ts_u2 u.2.2.1.2.2 r_ c_ ((u.2.2.1.2.2 r_ c_) + 1))), u.2.2.2) n hE c_ d hwf hwf1 (by omega) (by omega)) (cwV 2 hts gX4_enter_X4_goThrough rfl rfl rfl (by decide +kernel) ⟨by show _ ≤ _; dsimp only [rE]; omega, by show _ ≤ _; dsimp only [rE]; omega⟩) (ts_preV hK hN hW 24 (by decide) cel_tr rfl) rfl rfl hl.1 rfl (lv_room (Nat.le_of_ble_eq_true rfl)) dX4_enter_80 ⟨Nat.zero_le _, Nat.zero_le _⟩) hS (fun x h => ts_Aup hS.1 h) (fun u26 H locs hp27 hW _ _ hS => ?_)
    have hp27u : u26 = (u.1, u.2.1, (goT u.1 (enterT u.1 n) c_ (u.1.1 (20 + c_)) (guardT (u.1.1 (30 + c_)) 2 r_ (va_up u.2.2.1.1 5 (maxN (u.2.2.1.1 5) d), u.2.2.1.2.1, ts_u2 u.2.2.1.2.2 r_ c_ ((u.2.2.1.2.2 r_ c_) + 1)))), u.2.2.2) := hp27
    rw [hp27u] at hW
    have hwg : WT (goT u.1 (enterT u.1 n) c_ (u.1.1 (20 + c_)) (guardT (u.1.1 (30 + c_)) 2 r_ (va_up u.2.2.1.1 5 (maxN (u.2.2.1.1 5) d), u.2.2.1.2.1, ts_u2 u.2.2.1.2.2 r_ c_ ((u.2.2.1.2.2 r_ c_) + 1)))) := WT.go hwf hEW (by omega) hwf1 _ (Nat.le_refl _)
    have hw6 := hwg.2.2.2.2.2.1
    refine lv_aload_n hx hb dX4_enter_83 rfl (lv_at hl 0 rfl) ?_
    refine ts_get (C := RX4) (T := TX4) (N := 13) (v := .int (nI (((goT u.1 (enterT u.1 n) c_ (u.1.1 (20 + c_)) (guardT (u.1.1 (30 + c_)) 2 r_ (va_up u.2.2.1.1 5 (maxN (u.2.2.1.1 5) d), u.2.2.1.2.1, ts_u2 u.2.2.1.2.2 r_ c_ ((u.2.2.1.2.2 r_ c_) + 1))))).1 6))) hx hb hts hi4 hown hK hW 24 (by decide) cel_tr rfl 9 (by decide) (List.mem_of_getElem? (i := 11) rfl) rfl dX4_enter_84 ?_
    refine lv_if_ne (tgt := 127) hx hb dX4_enter_87 (by decide) (fun c28 => ?_) (fun c28 => ?_)
    · skip
      rw [ts_eq0 (by omega)] at c28
      have hq6 := c28
      exact ts_vret (u := (u.1, u.2.1, (goT u.1 (enterT u.1 n) c_ (u.1.1 (20 + c_)) (guardT (u.1.1 (30 + c_)) 2 r_ (va_up u.2.2.1.1 5 (maxN (u.2.2.1.1 5) d), u.2.2.1.2.1, ts_u2 u.2.2.1.2.2 r_ c_ ((u.2.2.1.2.2 r_ c_) + 1)))), u.2.2.2)) C0 hW hS (by (show _ = (u.1, u.2.1, enterT u.1 (n + 1) r_ c_ u.2.2.1, u.2.2.2)); rw [show enterT u.1 (n + 1) r_ c_ u.2.2.1 = lastT u.1 r_ c_ (goT u.1 (enterT u.1 n) c_ (u.1.1 (20 + c_)) (firstT u.1 r_ c_ (cntT r_ c_ (deepT (12 - n) u.2.2.1)))) from rfl, show 12 - n = d by omega]; rw [show firstT u.1 r_ c_ (cntT r_ c_ (deepT d u.2.2.1)) = guardT (u.1.1 (30 + c_)) 2 r_ (cntT r_ c_ (deepT d u.2.2.1)) from if_pos hg1]; unfold lastT; first | (rw [if_neg (fun h => hq6 h.1)]; rfl) | (rw [if_neg (fun h => by rw [hg2] at h; exact absurd h.2 (by decide))]; rfl)) dX4_enter_127
    rw [ts_eq0 (by omega)] at c28
    have hq6 := c28
    refine lv_aload_n hx hb dX4_enter_90 rfl (lv_at hl 0 rfl) ?_
    refine ts_get (C := RX4) (T := TX4) (N := 13) (v := .ref (b + 1)) hx hb hts hi4 hown hK hW 24 (by decide) cel_tr rfl 0 (by decide) (List.mem_of_getElem? (i := 7) rfl) rfl dX4_enter_91 ?_
    refine lv_iload_n hx hb dX4_enter_94 rfl (lv_at hl 1 rfl) ?_
    refine lv_iload_n hx hb dX4_enter_95 rfl (lv_at hl 2 rfl) ?_
    refine lv_aload_n hx hb dX4_enter_96 rfl (lv_at hl 0 rfl) ?_
    refine ts_get (C := RX4) (T := TX4) (N := 13) (v := .ref (b + 1)) hx hb hts hi4 hown hK hW 24 (by decide) cel_tr rfl 0 (by decide) (List.mem_of_getElem? (i := 7) rfl) rfl dX4_enter_97 ?_
    refine ts_get (C := RX3) (T := TX3) (N := 5) (v := .int (nI (u.1.1 2))) hx hb hts hi3 hown hK hW 1 (by decide) cel_pr rfl 3 (by decide) (List.mem_of_getElem? (i := 8) rfl) rfl dX4_enter_100 ?_
    refine ts_retI (va_runV (As := [.int (zI r_), .int (nI c_), .int (nI (u.1.1 2))]) (rest := []) ⟨hx, hb, hml, hown, hts⟩ (k_X3_guardsGive l D q b H.size (u.1, u.2.1, (goT u.1 (enterT u.1 n) c_ (u.1.1 (20 + c_)) (guardT (u.1.1 (30 + c_)) 2 r_ (va_up u.2.2.1.1 5 (maxN (u.2.2.1.1 5) d), u.2.2.1.2.1, ts_u2 u.2.2.1.2.2 r_ c_ ((u.2.2.1.2.2 r_ c_) + 1)))), u.2.2.2) r_ c_ (u.1.1 2) hwf (by omega) (by omega) (by omega)) (cwV 3 hts gX4_enter_X3_guardsGive rfl rfl rfl (by decide +kernel) ⟨by show _ ≤ _; dsimp only [rE]; omega, by show _ ≤ _; dsimp only [rE]; omega⟩) (ts_preV hK hN hW 1 (by decide) cel_pr rfl) rfl rfl hl.1 rfl (lv_room (Nat.le_of_ble_eq_true rfl)) dX4_enter_103 ⟨Nat.zero_le _, Nat.zero_le _⟩) hS (fun x h => ts_Aup hS.1 h) (fun r29 u30 H locs hp31 hW _ _ hS => ?_)
    have hp31r : r29 = b2i (ggB u.1 r_ c_ (u.1.1 2)) := hp31.1
    have hp31u : u30 = (u.1, u.2.1, (goT u.1 (enterT u.1 n) c_ (u.1.1 (20 + c_)) (guardT (u.1.1 (30 + c_)) 2 r_ (va_up u.2.2.1.1 5 (maxN (u.2.2.1.1 5) d), u.2.2.1.2.1, ts_u2 u.2.2.1.2.2 r_ c_ ((u.2.2.1.2.2 r_ c_) + 1)))), u.2.2.2) := hp31.2
    rw [hp31r]
    rw [hp31u] at hW
    refine lv_if_eq (tgt := 127) hx hb dX4_enter_106 (by decide) (fun c32 => ?_) (fun c32 => ?_)
    · skip
      have c32 := ts_bf c32
      have hg2 := c32
      exact ts_vret (u := (u.1, u.2.1, (goT u.1 (enterT u.1 n) c_ (u.1.1 (20 + c_)) (guardT (u.1.1 (30 + c_)) 2 r_ (va_up u.2.2.1.1 5 (maxN (u.2.2.1.1 5) d), u.2.2.1.2.1, ts_u2 u.2.2.1.2.2 r_ c_ ((u.2.2.1.2.2 r_ c_) + 1)))), u.2.2.2)) C0 hW hS (by (show _ = (u.1, u.2.1, enterT u.1 (n + 1) r_ c_ u.2.2.1, u.2.2.2)); rw [show enterT u.1 (n + 1) r_ c_ u.2.2.1 = lastT u.1 r_ c_ (goT u.1 (enterT u.1 n) c_ (u.1.1 (20 + c_)) (firstT u.1 r_ c_ (cntT r_ c_ (deepT (12 - n) u.2.2.1)))) from rfl, show 12 - n = d by omega]; rw [show firstT u.1 r_ c_ (cntT r_ c_ (deepT d u.2.2.1)) = guardT (u.1.1 (30 + c_)) 2 r_ (cntT r_ c_ (deepT d u.2.2.1)) from if_pos hg1]; unfold lastT; first | (rw [if_neg (fun h => hq6 h.1)]; rfl) | (rw [if_neg (fun h => by rw [hg2] at h; exact absurd h.2 (by decide))]; rfl)) dX4_enter_127
    have c32 := ts_bt c32
    have hg2 := c32
    refine lv_aload_n hx hb dX4_enter_109 rfl (lv_at hl 0 rfl) ?_
    refine lv_aload_n hx hb dX4_enter_110 rfl (lv_at hl 0 rfl) ?_
    refine ts_get (C := RX4) (T := TX4) (N := 13) (v := .ref (b + 1)) hx hb hts hi4 hown hK hW 24 (by decide) cel_tr rfl 0 (by decide) (List.mem_of_getElem? (i := 7) rfl) rfl dX4_enter_111 ?_
    refine ts_get (C := RX3) (T := TX3) (N := 5) (v := .ref (b + 2)) hx hb hts hi3 hown hK hW 1 (by decide) cel_pr rfl 0 (by decide) (List.mem_of_getElem? (i := 9) rfl) rfl dX4_enter_114 ?_
    refine lv_iload_n hx hb dX4_enter_117 rfl (lv_at hl 2 rfl) ?_
    refine ts_aald (a := b + (3 + 2 * c_)) hx hb hK hW 2 (by decide) 1 cel_fs rfl rfl (by omega) (by decide) rfl dX4_enter_118 ?_
    refine ts_get (C := RX2) (T := TX2) (N := 4) (v := .int (nI (u.1.1 (40 + c_)))) hx hb hts hi2 hown hK hW (3 + 2 * c_) (by omega) (cel_fn (by omega)) rfl 3 (by decide) (List.mem_of_getElem? (i := 12) rfl) rfl dX4_enter_119 ?_
    have hq33 := hwf.fout (i := c_) (by omega)
    refine lv_iconst (v := nI 3) hx hb dX4_enter_122 (by decide) ?_
    refine lv_iload_n hx hb dX4_enter_123 rfl (lv_at hl 2 rfl) ?_
    refine ts_retV (va_runV (As := [.int (nI (u.1.1 (40 + c_))), .int (nI 3), .int (nI c_)]) (rest := []) ⟨hx, hb, hml, hown, hts⟩ (k_X4_guard l D q b H.size (u.1, u.2.1, (goT u.1 (enterT u.1 n) c_ (u.1.1 (20 + c_)) (guardT (u.1.1 (30 + c_)) 2 r_ (va_up u.2.2.1.1 5 (maxN (u.2.2.1.1 5) d), u.2.2.1.2.1, ts_u2 u.2.2.1.2.2 r_ c_ ((u.2.2.1.2.2 r_ c_) + 1)))), u.2.2.2) (u.1.1 (40 + c_)) 3 (c_ + 1) hwg (by omega)) (cwV 3 hts gX4_enter_X4_guard rfl rfl rfl (by decide +kernel) ⟨by show _ ≤ _; dsimp only [rE]; omega, by show _ ≤ _; dsimp only [rE]; omega⟩) (ts_preV hK hN hW 24 (by decide) cel_tr rfl) rfl rfl hl.1 rfl (lv_room (Nat.le_of_ble_eq_true rfl)) dX4_enter_124 ⟨Nat.zero_le _, Nat.zero_le _⟩) hS (fun x h => ts_Aup hS.1 h) (fun u35 H locs hp36 hW _ _ hS => ?_)
    have hp36u : u35 = (u.1, u.2.1, (guardT (u.1.1 (40 + c_)) 3 (c_ + 1) (goT u.1 (enterT u.1 n) c_ (u.1.1 (20 + c_)) (guardT (u.1.1 (30 + c_)) 2 r_ (va_up u.2.2.1.1 5 (maxN (u.2.2.1.1 5) d), u.2.2.1.2.1, ts_u2 u.2.2.1.2.2 r_ c_ ((u.2.2.1.2.2 r_ c_) + 1))))), u.2.2.2) := hp36
    rw [hp36u] at hW
    exact ts_vret (u := (u.1, u.2.1, (guardT (u.1.1 (40 + c_)) 3 (c_ + 1) (goT u.1 (enterT u.1 n) c_ (u.1.1 (20 + c_)) (guardT (u.1.1 (30 + c_)) 2 r_ (va_up u.2.2.1.1 5 (maxN (u.2.2.1.1 5) d), u.2.2.1.2.1, ts_u2 u.2.2.1.2.2 r_ c_ ((u.2.2.1.2.2 r_ c_) + 1))))), u.2.2.2)) C0 hW hS (by (show _ = (u.1, u.2.1, enterT u.1 (n + 1) r_ c_ u.2.2.1, u.2.2.2)); rw [show enterT u.1 (n + 1) r_ c_ u.2.2.1 = lastT u.1 r_ c_ (goT u.1 (enterT u.1 n) c_ (u.1.1 (20 + c_)) (firstT u.1 r_ c_ (cntT r_ c_ (deepT (12 - n) u.2.2.1)))) from rfl, show 12 - n = d by omega]; rw [show firstT u.1 r_ c_ (cntT r_ c_ (deepT d u.2.2.1)) = guardT (u.1.1 (30 + c_)) 2 r_ (cntT r_ c_ (deepT d u.2.2.1)) from if_pos hg1]; unfold lastT; rw [if_pos ⟨hq6, hg2⟩]; rfl) dX4_enter_127
  rw [nI_leI (by omega) (by omega)] at c1
  exfalso; omega
theorem k_X4_enter (l : Launch) (D : va_G) (q : CQ) (b : Nat) : ∀ n, n ≤ 12 → EnterOK l D q b n
  | 0, _ => fun sz u r c d _ _ _ _ hd => k_X4_enter0 l D q b sz u r c d hd
  | n + 1, h => fun sz u r c d hwf hwt hr hc hd => k_X4_enterS l D q b sz u n (k_X4_enter l D q b n (by omega)) r c d hwf hwt hr hc hd
set_option maxHeartbeats 4000000 in
set_option maxRecDepth 100000 in
theorem k_X4_clear (l : Launch) (D : va_G) (q : CQ) (b sz : Nat) (u : ST)   : Met l yX4_clear wsX4_clear ({ frames := 0, cells := 0, slots := 0, locals := 0 } : Room) (va_Pc [.ref (b + 24)] (Pr D q b sz u)) (cV D q b sz (fun u' => u' = (u.1, u.2.1, T0 (u.2.2.1.1 0) (u.2.2.1.1 1) (u.2.2.1.2.1 0), u.2.2.2))) 0 0 (ts_A b 52 sz) := by
  refine ts_met (by decide) rfl (Nat.le_of_ble_eq_true rfl) ?_
  intro p e s m below meth c C0 hX ls hl
  obtain ⟨hsz, hW, hK, hN⟩ := hX
  subst hsz
  obtain ⟨hx, hb, hml, hown, hts, -, -, -⟩ := id C0
  have hW : ts_W D b 52 (cel q b u) s.heap := hW
  have hS : va_S (ts_A b 52 s.heap.size) s.heap s.heap [] := va_S.rf
  have hB : ∀ k, k < 52 → ts_A b 52 s.heap.size (b + k) := fun k hk => ts_Ain hk
  have hi4 : ∀ w ∈ wsX40, w ∈ wsX4_clear := ts_lays 10 rfl
  have hl : lv_has ls 3 [(0, .ref (b + 24))] := hl
  refine lv_iconst (v := nI 0) hx hb dX4_clear_0 (by decide) ?_
  refine lv_istore_n (lv' := [(1, .int (nI 0)), (0, .ref (b + 24))]) hx hb dX4_clear_1 rfl hl (by decide) rfl (fun ls hl => ?_)
  have key1 : ∀ (fu : Nat) (k : Nat), (k ≤ 11) → (11 - k) < fu → ∀ (H : Heap) (locs : List Loc), ts_W D b 52 (cel q b (u.1, u.2.1, (u.2.2.1.1, u.2.2.1.2.1, clrN u.2.2.1.2.2 k 0), u.2.2.2)) H → va_S (ts_A b 52 s.heap.size) s.heap H locs → ∀ ls : Array Slot, lv_has ls 3 [(1, .int (nI k)), (0, .ref (b + 24))] → W p l e ({ frames := 0, cells := 0, slots := 0, locals := 0 } : Room) s m [.ref (b + 24)].toArray below meth c H locs 0 0 (MQ below (cV D q b s.heap.size (fun u' => u' = (u.1, u.2.1, T0 (u.2.2.1.1 0) (u.2.2.1.1 1) (u.2.2.1.2.1 0), u.2.2.2))) [.ref (b + 24)].toArray s 0 0 (ts_A b 52 s.heap.size)) (F0 m 2 ls []) := by
    intro fu
    induction fu with
    | zero => intro k _ hn; exact absurd hn (Nat.not_lt_zero _)
    | succ fu ih2 =>
      intro k hk hn H locs hW hS ls hl
      refine lv_iload_n hx hb dX4_clear_2 rfl (lv_at hl 0 rfl) ?_
      refine lv_bipush (v := nI 10) hx hb dX4_clear_3 (by decide) ?_
      refine lv_icmp_gt (tgt := 37) hx hb dX4_clear_5 (by decide) (fun c3 => ?_) (fun c3 => ?_)
      · skip
        rw [nI_ltI (by omega) (by omega)] at c3
        refine lv_aload_n hx hb dX4_clear_37 rfl (lv_at hl 1 rfl) ?_
        refine lv_iconst (v := nI 0) hx hb dX4_clear_38 (by decide) ?_
        refine ts_put (C := RX4) (T := TX4) (N := 13) (v := .int (nI 0)) hx hb hts hi4 tyX4 tyX4_ok nmX4 hown hK hW hS hB 24 (by decide) cel_tr rfl 5 (by decide) (List.mem_of_getElem? (i := 2) rfl) rfl rfl rfl (Nat.le_of_ble_eq_true rfl) (cel q b (u.1, u.2.1, (va_up u.2.2.1.1 2 0, u.2.2.1.2.1, clrN u.2.2.1.2.2 k 0), u.2.2.2)) rfl (cel_oT rfl rfl rfl rfl) dX4_clear_39 (fun H locs _ _ hW hS => ?_)
        refine lv_aload_n hx hb dX4_clear_42 rfl (lv_at hl 1 rfl) ?_
        refine lv_iconst (v := nI 0) hx hb dX4_clear_43 (by decide) ?_
        refine ts_put (C := RX4) (T := TX4) (N := 13) (v := .int (nI 0)) hx hb hts hi4 tyX4 tyX4_ok nmX4 hown hK hW hS hB 24 (by decide) cel_tr rfl 6 (by decide) (List.mem_of_getElem? (i := 3) rfl) rfl rfl rfl (Nat.le_of_ble_eq_true rfl) (cel q b (u.1, u.2.1, (va_up (va_up u.2.2.1.1 2 0) 3 0, u.2.2.1.2.1, clrN u.2.2.1.2.2 k 0), u.2.2.2)) rfl (cel_oT rfl rfl rfl rfl) dX4_clear_44 (fun H locs _ _ hW hS => ?_)
        refine lv_aload_n hx hb dX4_clear_47 rfl (lv_at hl 1 rfl) ?_
        refine lv_iconst (v := nI 0) hx hb dX4_clear_48 (by decide) ?_
        refine ts_put (C := RX4) (T := TX4) (N := 13) (v := .int (nI 0)) hx hb hts hi4 tyX4 tyX4_ok nmX4 hown hK hW hS hB 24 (by decide) cel_tr rfl 7 (by decide) (List.mem_of_getElem? (i := 4) rfl) rfl rfl rfl (Nat.le_of_ble_eq_true rfl) (cel q b (u.1, u.2.1, (va_up (va_up (va_up u.2.2.1.1 2 0) 3 0) 4 0, u.2.2.1.2.1, clrN u.2.2.1.2.2 k 0), u.2.2.2)) rfl (cel_oT rfl rfl rfl rfl) dX4_clear_49 (fun H locs _ _ hW hS => ?_)
        refine lv_aload_n hx hb dX4_clear_52 rfl (lv_at hl 1 rfl) ?_
        refine lv_iconst (v := nI 0) hx hb dX4_clear_53 (by decide) ?_
        refine ts_put (C := RX4) (T := TX4) (N := 13) (v := .int (nI 0)) hx hb hts hi4 tyX4 tyX4_ok nmX4 hown hK hW hS hB 24 (by decide) cel_tr rfl 8 (by decide) (List.mem_of_getElem? (i := 5) rfl) rfl rfl rfl (Nat.le_of_ble_eq_true rfl) (cel q b (u.1, u.2.1, (va_up (va_up (va_up (va_up u.2.2.1.1 2 0) 3 0) 4 0) 5 0, u.2.2.1.2.1, clrN u.2.2.1.2.2 k 0), u.2.2.2)) rfl (cel_oT rfl rfl rfl rfl) dX4_clear_54 (fun H locs _ _ hW hS => ?_)
        refine lv_aload_n hx hb dX4_clear_57 rfl (lv_at hl 1 rfl) ?_
        refine lv_iconst (v := nI 0) hx hb dX4_clear_58 (by decide) ?_
        refine ts_put (C := RX4) (T := TX4) (N := 13) (v := .int (nI 0)) hx hb hts hi4 tyX4 tyX4_ok nmX4 hown hK hW hS hB 24 (by decide) cel_tr rfl 9 (by decide) (List.mem_of_getElem? (i := 6) rfl) rfl rfl rfl (Nat.le_of_ble_eq_true rfl) (cel q b (u.1, u.2.1, (va_up (va_up (va_up (va_up (va_up u.2.2.1.1 2 0) 3 0) 4 0) 5 0) 6 0, u.2.2.1.2.1, clrN u.2.2.1.2.2 k 0), u.2.2.2)) rfl (cel_oT rfl rfl rfl rfl) dX4_clear_59 (fun H locs _ _ hW hS => ?_)
        refine lv_aload_n hx hb dX4_clear_62 rfl (lv_at hl 1 rfl) ?_
        refine lv_iconst (v := (-1)) hx hb dX4_clear_63 (by decide) ?_
        refine ts_put (C := RX4) (T := TX4) (N := 13) (v := .int (zI 0)) hx hb hts hi4 tyX4 tyX4_ok nmX4 hown hK hW hS hB 24 (by decide) cel_tr rfl 10 (by decide) (List.mem_of_getElem? (i := 7) rfl) rfl rfl rfl (Nat.le_of_ble_eq_true rfl) (cel q b (u.1, u.2.1, (va_up (va_up (va_up (va_up (va_up (va_up u.2.2.1.1 2 0) 3 0) 4 0) 5 0) 6 0) 8 0, u.2.2.1.2.1, clrN u.2.2.1.2.2 k 0), u.2.2.2)) rfl (cel_oT rfl rfl rfl rfl) dX4_clear_64 (fun H locs _ _ hW hS => ?_)
        refine lv_aload_n hx hb dX4_clear_67 rfl (lv_at hl 1 rfl) ?_
        refine lv_iconst (v := nI 0) hx hb dX4_clear_68 (by decide) ?_
        refine ts_put (C := RX4) (T := TX4) (N := 13) (v := .int (nI 0)) hx hb hts hi4 tyX4 tyX4_ok nmX4 hown hK hW hS hB 24 (by decide) cel_tr rfl 11 (by decide) (List.mem_of_getElem? (i := 8) rfl) rfl rfl rfl (Nat.le_of_ble_eq_true rfl) (cel q b (u.1, u.2.1, (va_up (va_up (va_up (va_up (va_up (va_up (va_up u.2.2.1.1 2 0) 3 0) 4 0) 5 0) 6 0) 8 0) 7 0, u.2.2.1.2.1, clrN u.2.2.1.2.2 k 0), u.2.2.2)) rfl (cel_oT rfl rfl rfl rfl) dX4_clear_69 (fun H locs _ _ hW hS => ?_)
        refine lv_aload_n hx hb dX4_clear_72 rfl (lv_at hl 1 rfl) ?_
        refine lv_iconst (v := (-1)) hx hb dX4_clear_73 (by decide) ?_
        refine ts_put (C := RX4) (T := TX4) (N := 13) (v := .int (zI 0)) hx hb hts hi4 tyX4 tyX4_ok nmX4 hown hK hW hS hB 24 (by decide) cel_tr rfl 12 (by decide) (List.mem_of_getElem? (i := 9) rfl) rfl rfl rfl (Nat.le_of_ble_eq_true rfl) (cel q b (u.1, u.2.1, (va_up (va_up (va_up (va_up (va_up (va_up (va_up (va_up u.2.2.1.1 2 0) 3 0) 4 0) 5 0) 6 0) 8 0) 7 0) 9 0, u.2.2.1.2.1, clrN u.2.2.1.2.2 k 0), u.2.2.2)) rfl (cel_oT rfl rfl rfl rfl) dX4_clear_74 (fun H locs _ _ hW hS => ?_)
        exact ts_vret (u := (u.1, u.2.1, T0 (u.2.2.1.1 0) (u.2.2.1.1 1) (u.2.2.1.2.1 0), u.2.2.2)) C0 (ts_eqv (u := (u.1, u.2.1, (va_up (va_up (va_up (va_up (va_up (va_up (va_up (va_up u.2.2.1.1 2 0) 3 0) 4 0) 5 0) 6 0) 8 0) 7 0) 9 0, u.2.2.1.2.1, clrN u.2.2.1.2.2 k 0), u.2.2.2)) rfl rfl rfl (fun k hk => by have : k = 0 ∨ k = 1 ∨ k = 2 ∨ k = 3 ∨ k = 4 ∨ k = 5 ∨ k = 6 ∨ k = 7 ∨ k = 8 ∨ k = 9 := (by omega); rcases this with rfl | rfl | rfl | rfl | rfl | rfl | rfl | rfl | rfl | rfl <;> rfl) rfl (fun r c hr hc => by show (0 : Nat) = clrN _ _ _ _ _; unfold clrN; rw [if_pos (by omega)]) hW) hS rfl dX4_clear_77
      rw [nI_ltI (by omega) (by omega)] at c3
      refine lv_iconst (v := nI 0) hx hb dX4_clear_8 (by decide) ?_
      refine lv_istore_n (lv' := [(2, .int (nI 0)), (1, .int (nI k)), (0, .ref (b + 24))]) hx hb dX4_clear_9 rfl hl (by decide) rfl (fun ls hl => ?_)
      have key4 : ∀ (fu : Nat) (j : Nat), (j ≤ 10) → (10 - j) < fu → ∀ (H : Heap) (locs : List Loc), ts_W D b 52 (cel q b (u.1, u.2.1, (u.2.2.1.1, u.2.2.1.2.1, clrN u.2.2.1.2.2 k j), u.2.2.2)) H → va_S (ts_A b 52 s.heap.size) s.heap H locs → ∀ ls : Array Slot, lv_has ls 3 [(2, .int (nI j)), (1, .int (nI k)), (0, .ref (b + 24))] → W p l e ({ frames := 0, cells := 0, slots := 0, locals := 0 } : Room) s m [.ref (b + 24)].toArray below meth c H locs 0 0 (MQ below (cV D q b s.heap.size (fun u' => u' = (u.1, u.2.1, T0 (u.2.2.1.1 0) (u.2.2.1.1 1) (u.2.2.1.2.1 0), u.2.2.2))) [.ref (b + 24)].toArray s 0 0 (ts_A b 52 s.heap.size)) (F0 m 10 ls []) := by
        intro fu
        induction fu with
        | zero => intro j _ hn; exact absurd hn (Nat.not_lt_zero _)
        | succ fu ih5 =>
          intro j hj hn H locs hW hS ls hl
          refine lv_iload_n hx hb dX4_clear_10 rfl (lv_at hl 0 rfl) ?_
          refine lv_bipush (v := nI 10) hx hb dX4_clear_11 (by decide) ?_
          refine lv_icmp_ge (tgt := 31) hx hb dX4_clear_13 (by decide) (fun c6 => ?_) (fun c6 => ?_)
          · skip
            rw [nI_leI (by omega) (by omega)] at c6
            refine lv_iinc (v := nI (k + 1)) (lv' := [(1, .int (nI (k + 1))), (2, .int (nI j)), (0, .ref (b + 24))]) hx hb dX4_clear_31 hl (k := 1) rfl (nI_add k 1) (by decide) rfl (fun ls hl => ?_)
            refine lv_goto (tgt := 2) hx hb dX4_clear_34 (by decide) ?_
            have e7 : (u.1, u.2.1, (u.2.2.1.1, u.2.2.1.2.1, clrN u.2.2.1.2.2 (k + 1) 0), u.2.2.2) = (u.1, u.2.1, (u.2.2.1.1, u.2.2.1.2.1, clrN u.2.2.1.2.2 k j), u.2.2.2) := by rw [show j = 10 by omega, clrN_n]
            exact ih2 (k + 1) (by omega) (by omega) H locs (by rw [e7]; exact hW) hS ls (lv_sub hl [0, 2] rfl)
          rw [nI_leI (by omega) (by omega)] at c6
          refine lv_aload_n hx hb dX4_clear_16 rfl (lv_at hl 2 rfl) ?_
          refine ts_get (C := RX4) (T := TX4) (N := 13) (v := .ref (b + 25)) hx hb hts hi4 hown hK hW 24 (by decide) cel_tr rfl 1 (by decide) (List.mem_of_getElem? (i := 1) rfl) rfl dX4_clear_17 ?_
          refine lv_iload_n hx hb dX4_clear_20 rfl (lv_at hl 1 rfl) ?_
          refine ts_aald (a := b + (26 + k)) hx hb hK hW 25 (by decide) 2 cel_tc rfl rfl (by omega) (by decide) rfl dX4_clear_21 ?_
          refine lv_iload_n hx hb dX4_clear_22 rfl (lv_at hl 0 rfl) ?_
          refine lv_iconst (v := nI 0) hx hb dX4_clear_23 (by decide) ?_
          refine ts_iast (v := nI 0) hx hb hK hW hS hB (26 + k) (by omega) 0 (cel_tw (by omega)) rfl (by omega) (by decide) (cel q b (u.1, u.2.1, (u.2.2.1.1, u.2.2.1.2.1, ts_u2 (clrN u.2.2.1.2.2 k j) k j 0), u.2.2.2)) (cel_tw (by omega)) (fun j _ => ts_u2_row _ _ _ _ _) (cel_oTw (by omega) rfl rfl rfl rfl (fun j hj => ts_u2_ne _ _ _ hj) rfl) dX4_clear_24 (fun H locs _ _ hW hS => ?_)
          refine lv_iinc (v := nI (j + 1)) (lv' := [(2, .int (nI (j + 1))), (1, .int (nI k)), (0, .ref (b + 24))]) hx hb dX4_clear_25 hl (k := 0) rfl (nI_add j 1) (by decide) rfl (fun ls hl => ?_)
          refine lv_goto (tgt := 10) hx hb dX4_clear_28 (by decide) ?_
          have e8 : (u.1, u.2.1, (u.2.2.1.1, u.2.2.1.2.1, clrN u.2.2.1.2.2 k (j + 1)), u.2.2.2) = (u.1, u.2.1, (u.2.2.1.1, u.2.2.1.2.1, ts_u2 (clrN u.2.2.1.2.2 k j) k j 0), u.2.2.2) := by rw [clrN_s]
          exact ih5 (j + 1) (by omega) (by omega) H locs (by rw [e8]; exact hW) hS ls (lv_sub hl [0, 1, 2] rfl)
      exact key4 _ 0 (by omega) (Nat.lt_succ_self _) _ _ hW hS ls (lv_sub hl [0, 1, 2] rfl)
  have e9 : (u.1, u.2.1, (u.2.2.1.1, u.2.2.1.2.1, clrN u.2.2.1.2.2 0 0), u.2.2.2) = u := by rw [clrN_0]
  exact key1 _ 0 (by omega) (Nat.lt_succ_self _) _ _ (by rw [e9]; exact hW) hS ls (lv_sub hl [0, 1] rfl)
set_option maxHeartbeats 4000000 in
set_option maxRecDepth 100000 in
theorem k_X4_tryOut (l : Launch) (D : va_G) (q : CQ) (b sz : Nat) (u : ST) (f ty : Nat) (num : Int32) (bud : Nat) (hwf : WP u.1) (hf : f < u.1.1 1) (hty : ty ≤ 2) (hbud : bud ≤ 20) : Met l yX4_tryOut wsX4_tryOut ({ frames := 42, cells := 0, slots := 0, locals := 1075 } : Room) (va_Pc [.ref (b + 24), .int (nI f), .int (nI ty), .int num, .int (nI bud)] (Pr D q b sz u)) (cV D q b sz (fun u' => u' = (u.1, u.2.1, runT u.1 f ty num bud, u.2.2.2))) 0 0 (ts_A b 52 sz) := by
  refine ts_met (by decide) rfl (Nat.le_of_ble_eq_true rfl) ?_
  intro p e s m below meth c C0 hX ls hl
  obtain ⟨hsz, hW, hK, hN⟩ := hX
  subst hsz
  obtain ⟨hx, hb, hml, hown, hts, -, -, -⟩ := id C0
  have hW : ts_W D b 52 (cel q b u) s.heap := hW
  have hS : va_S (ts_A b 52 s.heap.size) s.heap s.heap [] := va_S.rf
  have hB : ∀ k, k < 52 → ts_A b 52 s.heap.size (b + k) := fun k hk => ts_Ain hk
  have hi4 : ∀ w ∈ wsX40, w ∈ wsX4_tryOut := ts_lays 86 rfl
  have hl : lv_has ls 5 [(0, .ref (b + 24)), (1, .int (nI f)), (2, .int (nI ty)), (3, .int num), (4, .int (nI bud))] := hl
  have hs := hwf.sz
  refine lv_aload_n hx hb dX4_tryOut_0 rfl (lv_at hl 0 rfl) ?_
  refine ts_retV (va_runV (As := []) (rest := []) ⟨hx, hb, hml, hown, hts⟩ (k_X4_clear l D q b s.heap.size u ) (cwV 0 hts gX4_tryOut_X4_clear rfl rfl rfl (by decide +kernel) ⟨Nat.le_of_ble_eq_true rfl, Nat.le_of_ble_eq_true rfl⟩) (ts_preV hK hN hW 24 (by decide) cel_tr rfl) rfl rfl hl.1 rfl (lv_room (Nat.le_of_ble_eq_true rfl)) dX4_tryOut_1 ⟨Nat.zero_le _, Nat.zero_le _⟩) hS (fun x h => ts_Aup hS.1 h) (fun u2 H locs hp3 hW _ _ hS => ?_)
  have hp3u : u2 = (u.1, u.2.1, (T0 (u.2.2.1.1 0) (u.2.2.1.1 1) (u.2.2.1.2.1 0)), u.2.2.2) := hp3
  rw [hp3u] at hW
  refine lv_aload_n hx hb dX4_tryOut_4 rfl (lv_at hl 0 rfl) ?_
  refine lv_iload hx hb dX4_tryOut_5 (lv_at hl 4 rfl) ?_
  refine ts_put (C := RX4) (T := TX4) (N := 13) (v := .int (nI bud)) hx hb hts hi4 tyX4 tyX4_ok nmX4 hown hK hW hS hB 24 (by decide) cel_tr rfl 2 (by decide) (List.mem_of_getElem? (i := 1) rfl) rfl rfl rfl (Nat.le_of_ble_eq_true rfl) (cel q b (u.1, u.2.1, (va_up (((T0 (u.2.2.1.1 0) (u.2.2.1.1 1) (u.2.2.1.2.1 0))).1) 0 bud, ((T0 (u.2.2.1.1 0) (u.2.2.1.1 1) (u.2.2.1.2.1 0))).2.1, ((T0 (u.2.2.1.1 0) (u.2.2.1.1 1) (u.2.2.1.2.1 0))).2.2), u.2.2.2)) rfl (cel_oT rfl rfl rfl rfl) dX4_tryOut_7 (fun H locs _ _ hW hS => ?_)
  refine lv_aload_n hx hb dX4_tryOut_10 rfl (lv_at hl 0 rfl) ?_
  refine lv_iload_n hx hb dX4_tryOut_11 rfl (lv_at hl 2 rfl) ?_
  refine ts_put (C := RX4) (T := TX4) (N := 13) (v := .int (nI ty)) hx hb hts hi4 tyX4 tyX4_ok nmX4 hown hK hW hS hB 24 (by decide) cel_tr rfl 3 (by decide) (List.mem_of_getElem? (i := 2) rfl) rfl rfl rfl (Nat.le_of_ble_eq_true rfl) (cel q b (u.1, u.2.1, (va_up (va_up (((T0 (u.2.2.1.1 0) (u.2.2.1.1 1) (u.2.2.1.2.1 0))).1) 0 bud) 1 ty, ((T0 (u.2.2.1.1 0) (u.2.2.1.1 1) (u.2.2.1.2.1 0))).2.1, ((T0 (u.2.2.1.1 0) (u.2.2.1.1 1) (u.2.2.1.2.1 0))).2.2), u.2.2.2)) rfl (cel_oT rfl rfl rfl rfl) dX4_tryOut_12 (fun H locs _ _ hW hS => ?_)
  refine lv_aload_n hx hb dX4_tryOut_15 rfl (lv_at hl 0 rfl) ?_
  refine lv_iload_n hx hb dX4_tryOut_16 rfl (lv_at hl 3 rfl) ?_
  refine ts_put (C := RX4) (T := TX4) (N := 13) (v := .int num) hx hb hts hi4 tyX4 tyX4_ok nmX4 hown hK hW hS hB 24 (by decide) cel_tr rfl 4 (by decide) (List.mem_of_getElem? (i := 3) rfl) rfl rfl rfl (Nat.le_of_ble_eq_true rfl) (cel q b (u.1, u.2.1, (va_up (va_up (((T0 (u.2.2.1.1 0) (u.2.2.1.1 1) (u.2.2.1.2.1 0))).1) 0 bud) 1 ty, va_up (((T0 (u.2.2.1.1 0) (u.2.2.1.1 1) (u.2.2.1.2.1 0))).2.1) 0 num, ((T0 (u.2.2.1.1 0) (u.2.2.1.1 1) (u.2.2.1.2.1 0))).2.2), u.2.2.2)) rfl (cel_oT rfl rfl rfl rfl) dX4_tryOut_17 (fun H locs _ _ hW hS => ?_)
  have hW : ts_W D b 52 (cel q b (u.1, u.2.1, (T0 bud ty num), u.2.2.2)) H := ts_eqv rfl rfl rfl (fun k hk => by have : k = 0 ∨ k = 1 ∨ k = 2 ∨ k = 3 ∨ k = 4 ∨ k = 5 ∨ k = 6 ∨ k = 7 ∨ k = 8 ∨ k = 9 := (by omega); rcases this with rfl | rfl | rfl | rfl | rfl | rfl | rfl | rfl | rfl | rfl <;> rfl) rfl (fun r c hr hc => rfl) hW
  refine lv_aload_n hx hb dX4_tryOut_20 rfl (lv_at hl 0 rfl) ?_
  refine lv_iconst (v := (-1)) hx hb dX4_tryOut_21 (by decide) ?_
  refine lv_iload_n hx hb dX4_tryOut_22 rfl (lv_at hl 1 rfl) ?_
  refine lv_iconst (v := nI 1) hx hb dX4_tryOut_23 (by decide) ?_
  refine ts_retV (va_runV (As := [.int (-1), .int (nI f), .int (nI 1)]) (rest := []) ⟨hx, hb, hml, hown, hts⟩ (k_X4_enter l D q b 12 (by decide) H.size (u.1, u.2.1, (T0 bud ty num), u.2.2.2) 0 f 1 hwf (WT.t0 hbud hty) (by omega) (by omega) (by omega)) (cwV 3 hts gX4_tryOut_X4_enter rfl rfl rfl (by decide +kernel) ⟨Nat.le_of_ble_eq_true rfl, Nat.le_of_ble_eq_true rfl⟩) (ts_preV hK hN hW 24 (by decide) cel_tr rfl) rfl rfl hl.1 rfl (lv_room (Nat.le_of_ble_eq_true rfl)) dX4_tryOut_24 ⟨Nat.zero_le _, Nat.zero_le _⟩) hS (fun x h => ts_Aup hS.1 h) (fun u5 H locs hp6 hW _ _ hS => ?_)
  have hp6u : u5 = (u.1, u.2.1, (runT u.1 f ty num bud), u.2.2.2) := hp6
  rw [hp6u] at hW
  exact ts_vret (u := (u.1, u.2.1, (runT u.1 f ty num bud), u.2.2.2)) C0 hW hS (by exact rfl) dX4_tryOut_27
