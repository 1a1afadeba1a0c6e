set_option maxHeartbeats 4000000 in
set_option maxRecDepth 100000 in
theorem k_X0_addCalls (l : Launch) (D : va_G) (q : CQ) (b sz : Nat) (u : ST)   : Met l yX0_addCalls wsX0_addCalls ({ frames := 0, cells := 0, slots := 0, locals := 0 } : Room) (va_Pc [.ref (b + 37), .ref (b + 24)] (Pr D q b sz u)) (cV D q b sz (fun u' => u' = (u.1, u.2.1, u.2.2.1, (u.2.2.2.1, u.2.2.2.2.1, addN u.2.2.2.2.2 u.2.2.1.2.2 11 0)))) 0 0 (ts_A b 52 sz) := by
  refine ts_met (by decide) rfl (Nat.le_of_ble_eq_true rfl) ?_
  intro p e s m below meth c C0 hX ls hl
  obtain ⟨hsz, hW, hK, hN⟩ := hX
  subst hsz
  obtain ⟨hx, hb, hml, hown, hts, -, -, -⟩ := id C0
  have hW : ts_W D b 52 (cel q b u) s.heap := hW
  have hS : va_S (ts_A b 52 s.heap.size) s.heap s.heap [] := va_S.rf
  have hB : ∀ k, k < 52 → ts_A b 52 s.heap.size (b + k) := fun k hk => ts_Ain hk
  have hi0 : ∀ w ∈ wsX00, w ∈ wsX0_addCalls := ts_lays 3 rfl
  have hi4 : ∀ w ∈ wsX40, w ∈ wsX0_addCalls := ts_lays 9 rfl
  have hl : lv_has ls 4 [(0, .ref (b + 37)), (1, .ref (b + 24))] := hl
  refine lv_iconst (v := nI 0) hx hb dX0_addCalls_0 (by decide) ?_
  refine lv_istore_n (lv' := [(2, .int (nI 0)), (0, .ref (b + 37)), (1, .ref (b + 24))]) hx hb dX0_addCalls_1 rfl hl (by decide) rfl (fun ls hl => ?_)
  have key1 : ∀ (fu : Nat) (k : Nat), (k ≤ 11) → (11 - k) < fu → ∀ (H : Heap) (locs : List Loc), ts_W D b 52 (cel q b (u.1, u.2.1, u.2.2.1, (u.2.2.2.1, u.2.2.2.2.1, addN u.2.2.2.2.2 u.2.2.1.2.2 k 0))) H → va_S (ts_A b 52 s.heap.size) s.heap H locs → ∀ ls : Array Slot, lv_has ls 4 [(2, .int (nI k)), (0, .ref (b + 37)), (1, .ref (b + 24))] → W p l e ({ frames := 0, cells := 0, slots := 0, locals := 0 } : Room) s m [.ref (b + 37), .ref (b + 24)].toArray below meth c H locs 0 0 (MQ below (cV D q b s.heap.size (fun u' => u' = (u.1, u.2.1, u.2.2.1, (u.2.2.2.1, u.2.2.2.2.1, addN u.2.2.2.2.2 u.2.2.1.2.2 11 0)))) [.ref (b + 37), .ref (b + 24)].toArray s 0 0 (ts_A b 52 s.heap.size)) (F0 m 2 ls []) := by
    intro fu
    induction fu with
    | zero => intro k _ hn; exact absurd hn (Nat.not_lt_zero _)
    | succ fu ih2 =>
      intro k hk hn H locs hW hS ls hl
      refine lv_iload_n hx hb dX0_addCalls_2 rfl (lv_at hl 0 rfl) ?_
      refine lv_bipush (v := nI 10) hx hb dX0_addCalls_3 (by decide) ?_
      refine lv_icmp_gt (tgt := 47) hx hb dX0_addCalls_5 (by decide) (fun c3 => ?_) (fun c3 => ?_)
      · skip
        rw [nI_ltI (by omega) (by omega)] at c3
        exact ts_vret (u := (u.1, u.2.1, u.2.2.1, (u.2.2.2.1, u.2.2.2.2.1, addN u.2.2.2.2.2 u.2.2.1.2.2 k 0))) C0 hW hS (by rw [show k = 11 by omega]) dX0_addCalls_47
      rw [nI_ltI (by omega) (by omega)] at c3
      refine lv_iconst (v := nI 0) hx hb dX0_addCalls_8 (by decide) ?_
      refine lv_istore_n (lv' := [(3, .int (nI 0)), (2, .int (nI k)), (0, .ref (b + 37)), (1, .ref (b + 24))]) hx hb dX0_addCalls_9 rfl hl (by decide) rfl (fun ls hl => ?_)
      have key4 : ∀ (fu : Nat) (j : Nat), (j ≤ 10) → (10 - j) < fu → ∀ (H : Heap) (locs : List Loc), ts_W D b 52 (cel q b (u.1, u.2.1, u.2.2.1, (u.2.2.2.1, u.2.2.2.2.1, addN u.2.2.2.2.2 u.2.2.1.2.2 k j))) H → va_S (ts_A b 52 s.heap.size) s.heap H locs → ∀ ls : Array Slot, lv_has ls 4 [(3, .int (nI j)), (2, .int (nI k)), (0, .ref (b + 37)), (1, .ref (b + 24))] → W p l e ({ frames := 0, cells := 0, slots := 0, locals := 0 } : Room) s m [.ref (b + 37), .ref (b + 24)].toArray below meth c H locs 0 0 (MQ below (cV D q b s.heap.size (fun u' => u' = (u.1, u.2.1, u.2.2.1, (u.2.2.2.1, u.2.2.2.2.1, addN u.2.2.2.2.2 u.2.2.1.2.2 11 0)))) [.ref (b + 37), .ref (b + 24)].toArray s 0 0 (ts_A b 52 s.heap.size)) (F0 m 10 ls []) := by
        intro fu
        induction fu with
        | zero => intro j _ hn; exact absurd hn (Nat.not_lt_zero _)
        | succ fu ih5 =>
          intro j hj hn H locs hW hS ls hl
          refine lv_iload_n hx hb dX0_addCalls_10 rfl (lv_at hl 0 rfl) ?_
          refine lv_bipush (v := nI 10) hx hb dX0_addCalls_11 (by decide) ?_
          refine lv_icmp_ge (tgt := 41) hx hb dX0_addCalls_13 (by decide) (fun c6 => ?_) (fun c6 => ?_)
          · skip
            rw [nI_leI (by omega) (by omega)] at c6
            refine lv_iinc (v := nI (k + 1)) (lv' := [(2, .int (nI (k + 1))), (3, .int (nI j)), (0, .ref (b + 37)), (1, .ref (b + 24))]) hx hb dX0_addCalls_41 hl (k := 1) rfl (nI_add k 1) (by decide) rfl (fun ls hl => ?_)
            refine lv_goto (tgt := 2) hx hb dX0_addCalls_44 (by decide) ?_
            have e7 : (u.1, u.2.1, u.2.2.1, (u.2.2.2.1, u.2.2.2.2.1, addN u.2.2.2.2.2 u.2.2.1.2.2 (k + 1) 0)) = (u.1, u.2.1, u.2.2.1, (u.2.2.2.1, u.2.2.2.2.1, addN u.2.2.2.2.2 u.2.2.1.2.2 k j)) := by rw [show j = 10 by omega, addN_n]
            exact ih2 (k + 1) (by omega) (by omega) H locs (by rw [e7]; exact hW) hS ls (lv_sub hl [0, 2, 3] rfl)
          rw [nI_leI (by omega) (by omega)] at c6
          refine lv_aload_n hx hb dX0_addCalls_16 rfl (lv_at hl 2 rfl) ?_
          refine ts_get (C := RX0) (T := TX0) (N := 6) (v := .ref (b + 38)) hx hb hts hi0 hown hK hW 37 (by decide) cel_bk rfl 0 (by decide) (List.mem_of_getElem? (i := 1) rfl) rfl dX0_addCalls_17 ?_
          refine lv_iload_n hx hb dX0_addCalls_20 rfl (lv_at hl 1 rfl) ?_
          refine ts_aald (a := b + (39 + k)) hx hb hK hW 38 (by decide) 2 cel_bc rfl rfl (by omega) (by decide) rfl dX0_addCalls_21 ?_
          refine lv_iload_n hx hb dX0_addCalls_22 rfl (lv_at hl 0 rfl) ?_
          refine lv_dup2_11 hx hb dX0_addCalls_23 rfl rfl ?_
          refine ts_iald (v := nI ((addN u.2.2.2.2.2 u.2.2.1.2.2 k j) k j)) hx hb hK hW (39 + k) (by omega) 0 (cel_bw (by omega)) rfl (by omega) (by decide) rfl dX0_addCalls_24 ?_
          refine lv_aload_n hx hb dX0_addCalls_25 rfl (lv_at hl 3 rfl) ?_
          refine ts_get (C := RX4) (T := TX4) (N := 13) (v := .ref (b + 25)) hx hb hts hi4 hown hK hW 24 (by decide) cel_tr rfl 1 (by decide) (List.mem_of_getElem? (i := 2) rfl) rfl dX0_addCalls_26 ?_
          refine lv_iload_n hx hb dX0_addCalls_29 rfl (lv_at hl 1 rfl) ?_
          refine ts_aald (a := b + (26 + k)) hx hb hK hW 25 (by decide) 2 cel_tc rfl rfl (by omega) (by decide) rfl dX0_addCalls_30 ?_
          refine lv_iload_n hx hb dX0_addCalls_31 rfl (lv_at hl 0 rfl) ?_
          refine ts_iald (v := nI (u.2.2.1.2.2 k j)) hx hb hK hW (26 + k) (by omega) 0 (cel_tw (by omega)) rfl (by omega) (by decide) rfl dX0_addCalls_32 ?_
          refine ts_iadd (v := nI (((addN u.2.2.2.2.2 u.2.2.1.2.2 k j) k j) + (u.2.2.1.2.2 k j))) hx hb dX0_addCalls_33 (nI_add _ _) ?_
          refine ts_iast (v := nI (((addN u.2.2.2.2.2 u.2.2.1.2.2 k j) k j) + (u.2.2.1.2.2 k j))) hx hb hK hW hS hB (39 + k) (by omega) 0 (cel_bw (by omega)) rfl (by omega) (by decide) (cel q b (u.1, u.2.1, u.2.2.1, (u.2.2.2.1, u.2.2.2.2.1, ts_u2 (addN u.2.2.2.2.2 u.2.2.1.2.2 k j) k j (((addN u.2.2.2.2.2 u.2.2.1.2.2 k j) k j) + (u.2.2.1.2.2 k j))))) (cel_bw (by omega)) (fun j _ => ts_u2_row _ _ _ _ _) (cel_oBw (i := k) (by omega) (by rw [if_neg (by omega)]) rfl rfl rfl rfl rfl (fun j hj => ts_u2_ne _ _ _ hj)) dX0_addCalls_34 (fun H locs _ _ hW hS => ?_)
          refine lv_iinc (v := nI (j + 1)) (lv' := [(3, .int (nI (j + 1))), (2, .int (nI k)), (0, .ref (b + 37)), (1, .ref (b + 24))]) hx hb dX0_addCalls_35 hl (k := 0) rfl (nI_add j 1) (by decide) rfl (fun ls hl => ?_)
          refine lv_goto (tgt := 10) hx hb dX0_addCalls_38 (by decide) ?_
          have e8 : (u.1, u.2.1, u.2.2.1, (u.2.2.2.1, u.2.2.2.2.1, addN u.2.2.2.2.2 u.2.2.1.2.2 k (j + 1))) = (u.1, u.2.1, u.2.2.1, (u.2.2.2.1, u.2.2.2.2.1, ts_u2 (addN u.2.2.2.2.2 u.2.2.1.2.2 k j) k j (((addN u.2.2.2.2.2 u.2.2.1.2.2 k j) k j) + (u.2.2.1.2.2 k j)))) := by rw [addN_s]
          exact ih5 (j + 1) (by omega) (by omega) H locs (by rw [e8]; exact hW) hS ls (lv_sub hl [0, 1, 2, 3] rfl)
      exact key4 _ 0 (by omega) (Nat.lt_succ_self _) _ _ hW hS ls (lv_sub hl [0, 1, 2, 3] rfl)
  have e9 : (u.1, u.2.1, u.2.2.1, (u.2.2.2.1, u.2.2.2.2.1, addN u.2.2.2.2.2 u.2.2.1.2.2 0 0)) = u := by rw [addN_0]
  exact key1 _ 0 (by omega) (Nat.lt_succ_self _) _ _ (by rw [e9]; exact hW) hS ls (lv_sub hl [0, 1, 2] rfl)
set_option maxHeartbeats 4000000 in
set_option maxRecDepth 100000 in
theorem k_X0_keepLatest (l : Launch) (D : va_G) (q : CQ) (b sz : Nat) (u : ST)  (hwt : WT u.2.2.1) : Met l yX0_keepLatest wsX0_keepLatest ({ frames := 1, cells := 0, slots := 0, locals := 20 } : Room) (va_Pc [.ref (b + 37), .ref (b + 24)] (Pr D q b sz u)) (cV D q b sz (fun u' => u' = (u.1, u.2.1, u.2.2.1, (u.2.2.2.1, latB u.2.2.1 u.2.2.2.2.1, u.2.2.2.2.2)))) 0 0 (ts_A b 52 sz) := by
  refine ts_met (by decide) rfl (Nat.le_of_ble_eq_true rfl) ?_
  intro p e s m below meth c C0 hX ls hl
  obtain ⟨hsz, hW, hK, hN⟩ := hX
  subst hsz
  obtain ⟨hx, hb, hml, hown, hts, -, -, -⟩ := id C0
  have hW : ts_W D b 52 (cel q b u) s.heap := hW
  have hS : va_S (ts_A b 52 s.heap.size) s.heap s.heap [] := va_S.rf
  have hB : ∀ k, k < 52 → ts_A b 52 s.heap.size (b + k) := fun k hk => ts_Ain hk
  have hi0 : ∀ w ∈ wsX00, w ∈ wsX0_keepLatest := ts_lays 29 rfl
  have hi4 : ∀ w ∈ wsX40, w ∈ wsX0_keepLatest := ts_lays 16 rfl
  have hl : lv_has ls 3 [(0, .ref (b + 37)), (1, .ref (b + 24))] := hl
  obtain ⟨w0, w1, w2, w3, w5, w6, w7, w8, w9⟩ := id hwt
  refine lv_aload_n hx hb dX0_keepLatest_0 rfl (lv_at hl 1 rfl) ?_
  refine ts_get (C := RX4) (T := TX4) (N := 13) (v := .int (nI (u.2.2.1.1 6))) hx hb hts hi4 hown hK hW 24 (by decide) cel_tr rfl 9 (by decide) (List.mem_of_getElem? (i := 1) rfl) rfl dX0_keepLatest_1 ?_
  refine lv_if_eq (tgt := 11) hx hb dX0_keepLatest_4 (by decide) (fun c1 => ?_) (fun c1 => ?_)
  · skip
    rw [ts_eq0 (by omega)] at c1
    have hfa := c1
    refine lv_iconst (v := nI 0) hx hb dX0_keepLatest_11 (by decide) ?_
    refine lv_istore_n (lv' := [(2, .int (nI 0)), (0, .ref (b + 37)), (1, .ref (b + 24))]) hx hb dX0_keepLatest_12 rfl hl (by decide) rfl (fun ls hl => ?_)
    refine lv_aload_n hx hb dX0_keepLatest_13 rfl (lv_at hl 1 rfl) ?_
    refine ts_get (C := RX0) (T := TX0) (N := 6) (v := .ref (b + 51)) hx hb hts hi0 hown hK hW 37 (by decide) cel_bk rfl 2 (by decide) (List.mem_of_getElem? (i := 2) rfl) rfl dX0_keepLatest_14 ?_
    refine lv_iconst (v := nI 0) hx hb dX0_keepLatest_17 (by decide) ?_
    refine lv_aload_n hx hb dX0_keepLatest_18 rfl (lv_at hl 2 rfl) ?_
    refine ts_get (C := RX4) (T := TX4) (N := 13) (v := .int (nI (u.2.2.1.1 6))) hx hb hts hi4 hown hK hW 24 (by decide) cel_tr rfl 9 (by decide) (List.mem_of_getElem? (i := 1) rfl) rfl dX0_keepLatest_19 ?_
    refine ts_iast (v := nI (u.2.2.1.1 6)) hx hb hK hW hS hB 51 (by decide) 0 cel_bl rfl (by decide) (by decide) (cel q b (u.1, u.2.1, u.2.2.1, (u.2.2.2.1, va_up u.2.2.2.2.1 0 (nI (u.2.2.1.1 6)), u.2.2.2.2.2))) rfl (fun j _ => rfl) (cel_oBl rfl rfl rfl rfl rfl) dX0_keepLatest_22 (fun H locs _ _ hW hS => ?_)
    refine lv_aload_n hx hb dX0_keepLatest_23 rfl (lv_at hl 1 rfl) ?_
    refine ts_get (C := RX0) (T := TX0) (N := 6) (v := .ref (b + 51)) hx hb hts hi0 hown hK hW 37 (by decide) cel_bk rfl 2 (by decide) (List.mem_of_getElem? (i := 2) rfl) rfl dX0_keepLatest_24 ?_
    refine lv_iconst (v := nI 1) hx hb dX0_keepLatest_27 (by decide) ?_
    refine lv_aload_n hx hb dX0_keepLatest_28 rfl (lv_at hl 2 rfl) ?_
    refine ts_get (C := RX4) (T := TX4) (N := 13) (v := .int (zI (u.2.2.1.1 8))) hx hb hts hi4 hown hK hW 24 (by decide) cel_tr rfl 10 (by decide) (List.mem_of_getElem? (i := 3) rfl) rfl dX0_keepLatest_29 ?_
    refine ts_iast (v := zI (u.2.2.1.1 8)) hx hb hK hW hS hB 51 (by decide) 0 cel_bl rfl (by decide) (by decide) (cel q b (u.1, u.2.1, u.2.2.1, (u.2.2.2.1, va_up (va_up u.2.2.2.2.1 0 (nI (u.2.2.1.1 6))) 1 (zI (u.2.2.1.1 8)), u.2.2.2.2.2))) rfl (fun j _ => rfl) (cel_oBl rfl rfl rfl rfl rfl) dX0_keepLatest_32 (fun H locs _ _ hW hS => ?_)
    refine lv_aload_n hx hb dX0_keepLatest_33 rfl (lv_at hl 1 rfl) ?_
    refine ts_get (C := RX0) (T := TX0) (N := 6) (v := .ref (b + 51)) hx hb hts hi0 hown hK hW 37 (by decide) cel_bk rfl 2 (by decide) (List.mem_of_getElem? (i := 2) rfl) rfl dX0_keepLatest_34 ?_
    refine lv_iconst (v := nI 2) hx hb dX0_keepLatest_37 (by decide) ?_
    refine lv_aload_n hx hb dX0_keepLatest_38 rfl (lv_at hl 2 rfl) ?_
    refine ts_retI (va_runV (As := []) (rest := [.int (nI 2), .ref (b + 51)]) ⟨hx, hb, hml, hown, hts⟩ (k_X4_cost l D q b H.size (u.1, u.2.1, u.2.2.1, (u.2.2.2.1, va_up (va_up u.2.2.2.2.1 0 (nI (u.2.2.1.1 6))) 1 (zI (u.2.2.1.1 8)), u.2.2.2.2.2)) ) (cwV 0 hts gX0_keepLatest_X4_cost rfl rfl rfl (by decide +kernel) ⟨Nat.le_of_ble_eq_true rfl, Nat.le_of_ble_eq_true rfl⟩) (ts_preV hK hN hW 24 (by decide) cel_tr rfl) rfl rfl hl.1 rfl (lv_room (Nat.le_of_ble_eq_true rfl)) dX0_keepLatest_39 ⟨Nat.zero_le _, Nat.zero_le _⟩) hS (fun x h => ts_Aup hS.1 h) (fun r2 u3 H locs hp4 hW _ _ hS => ?_)
    have hp4r : r2 = nI (costT u.2.2.1) := hp4.1
    have hp4u : u3 = (u.1, u.2.1, u.2.2.1, (u.2.2.2.1, va_up (va_up u.2.2.2.2.1 0 (nI (u.2.2.1.1 6))) 1 (zI (u.2.2.1.1 8)), u.2.2.2.2.2)) := hp4.2
    rw [hp4r]
    rw [hp4u] at hW
    refine ts_iast (v := nI (costT u.2.2.1)) hx hb hK hW hS hB 51 (by decide) 0 cel_bl rfl (by decide) (by decide) (cel q b (u.1, u.2.1, u.2.2.1, (u.2.2.2.1, va_up (va_up (va_up u.2.2.2.2.1 0 (nI (u.2.2.1.1 6))) 1 (zI (u.2.2.1.1 8))) 2 (nI (costT u.2.2.1)), u.2.2.2.2.2))) rfl (fun j _ => rfl) (cel_oBl rfl rfl rfl rfl rfl) dX0_keepLatest_42 (fun H locs _ _ hW hS => ?_)
    refine lv_aload_n hx hb dX0_keepLatest_43 rfl (lv_at hl 1 rfl) ?_
    refine ts_get (C := RX0) (T := TX0) (N := 6) (v := .ref (b + 51)) hx hb hts hi0 hown hK hW 37 (by decide) cel_bk rfl 2 (by decide) (List.mem_of_getElem? (i := 2) rfl) rfl dX0_keepLatest_44 ?_
    refine lv_iconst (v := nI 3) hx hb dX0_keepLatest_47 (by decide) ?_
    refine lv_aload_n hx hb dX0_keepLatest_48 rfl (lv_at hl 2 rfl) ?_
    refine ts_get (C := RX4) (T := TX4) (N := 13) (v := .int (nI (u.2.2.1.1 3))) hx hb hts hi4 hown hK hW 24 (by decide) cel_tr rfl 6 (by decide) (List.mem_of_getElem? (i := 4) rfl) rfl dX0_keepLatest_49 ?_
    refine ts_iast (v := nI (u.2.2.1.1 3)) hx hb hK hW hS hB 51 (by decide) 0 cel_bl rfl (by decide) (by decide) (cel q b (u.1, u.2.1, u.2.2.1, (u.2.2.2.1, va_up (va_up (va_up (va_up u.2.2.2.2.1 0 (nI (u.2.2.1.1 6))) 1 (zI (u.2.2.1.1 8))) 2 (nI (costT u.2.2.1))) 3 (nI (u.2.2.1.1 3)), u.2.2.2.2.2))) rfl (fun j _ => rfl) (cel_oBl rfl rfl rfl rfl rfl) dX0_keepLatest_52 (fun H locs _ _ hW hS => ?_)
    refine lv_aload_n hx hb dX0_keepLatest_53 rfl (lv_at hl 1 rfl) ?_
    refine ts_get (C := RX0) (T := TX0) (N := 6) (v := .ref (b + 51)) hx hb hts hi0 hown hK hW 37 (by decide) cel_bk rfl 2 (by decide) (List.mem_of_getElem? (i := 2) rfl) rfl dX0_keepLatest_54 ?_
    refine lv_iconst (v := nI 4) hx hb dX0_keepLatest_57 (by decide) ?_
    refine lv_aload_n hx hb dX0_keepLatest_58 rfl (lv_at hl 2 rfl) ?_
    refine ts_get (C := RX4) (T := TX4) (N := 13) (v := .int (nI (u.2.2.1.1 4))) hx hb hts hi4 hown hK hW 24 (by decide) cel_tr rfl 7 (by decide) (List.mem_of_getElem? (i := 5) rfl) rfl dX0_keepLatest_59 ?_
    refine ts_iast (v := nI (u.2.2.1.1 4)) hx hb hK hW hS hB 51 (by decide) 0 cel_bl rfl (by decide) (by decide) (cel q b (u.1, u.2.1, u.2.2.1, (u.2.2.2.1, va_up (va_up (va_up (va_up (va_up u.2.2.2.2.1 0 (nI (u.2.2.1.1 6))) 1 (zI (u.2.2.1.1 8))) 2 (nI (costT u.2.2.1))) 3 (nI (u.2.2.1.1 3))) 4 (nI (u.2.2.1.1 4)), u.2.2.2.2.2))) rfl (fun j _ => rfl) (cel_oBl rfl rfl rfl rfl rfl) dX0_keepLatest_62 (fun H locs _ _ hW hS => ?_)
    refine lv_aload_n hx hb dX0_keepLatest_63 rfl (lv_at hl 1 rfl) ?_
    refine ts_get (C := RX0) (T := TX0) (N := 6) (v := .ref (b + 51)) hx hb hts hi0 hown hK hW 37 (by decide) cel_bk rfl 2 (by decide) (List.mem_of_getElem? (i := 2) rfl) rfl dX0_keepLatest_64 ?_
    refine lv_iconst (v := nI 5) hx hb dX0_keepLatest_67 (by decide) ?_
    refine lv_iload_n hx hb dX0_keepLatest_68 rfl (lv_at hl 0 rfl) ?_
    refine lv_if_eq (tgt := 76) hx hb dX0_keepLatest_69 (by decide) (fun c5 => ?_) (fun c5 => ?_)
    · skip
      refine lv_aload_n hx hb dX0_keepLatest_76 rfl (lv_at hl 2 rfl) ?_
      refine ts_get (C := RX4) (T := TX4) (N := 13) (v := .int (nI (u.2.2.1.1 1))) hx hb hts hi4 hown hK hW 24 (by decide) cel_tr rfl 3 (by decide) (List.mem_of_getElem? (i := 6) rfl) rfl dX0_keepLatest_77 ?_
      refine ts_iast (v := nI (u.2.2.1.1 1)) hx hb hK hW hS hB 51 (by decide) 0 cel_bl rfl (by decide) (by decide) (cel q b (u.1, u.2.1, u.2.2.1, (u.2.2.2.1, va_up (va_up (va_up (va_up (va_up (va_up u.2.2.2.2.1 0 (nI (u.2.2.1.1 6))) 1 (zI (u.2.2.1.1 8))) 2 (nI (costT u.2.2.1))) 3 (nI (u.2.2.1.1 3))) 4 (nI (u.2.2.1.1 4))) 5 (nI (u.2.2.1.1 1)), u.2.2.2.2.2))) rfl (fun j _ => rfl) (cel_oBl rfl rfl rfl rfl rfl) dX0_keepLatest_80 (fun H locs _ _ hW hS => ?_)
      refine lv_aload_n hx hb dX0_keepLatest_81 rfl (lv_at hl 1 rfl) ?_
      refine ts_get (C := RX0) (T := TX0) (N := 6) (v := .ref (b + 51)) hx hb hts hi0 hown hK hW 37 (by decide) cel_bk rfl 2 (by decide) (List.mem_of_getElem? (i := 2) rfl) rfl dX0_keepLatest_82 ?_
      refine lv_bipush (v := nI 6) hx hb dX0_keepLatest_85 (by decide) ?_
      refine lv_iload_n hx hb dX0_keepLatest_87 rfl (lv_at hl 0 rfl) ?_
      refine lv_if_eq (tgt := 95) hx hb dX0_keepLatest_88 (by decide) (fun c6 => ?_) (fun c6 => ?_)
      · skip
        refine lv_aload_n hx hb dX0_keepLatest_95 rfl (lv_at hl 2 rfl) ?_
        refine ts_get (C := RX4) (T := TX4) (N := 13) (v := .int (u.2.2.1.2.1 0)) hx hb hts hi4 hown hK hW 24 (by decide) cel_tr rfl 4 (by decide) (List.mem_of_getElem? (i := 7) rfl) rfl dX0_keepLatest_96 ?_
        refine ts_iast (v := u.2.2.1.2.1 0) hx hb hK hW hS hB 51 (by decide) 0 cel_bl rfl (by decide) (by decide) (cel q b (u.1, u.2.1, u.2.2.1, (u.2.2.2.1, va_up (va_up (va_up (va_up (va_up (va_up (va_up u.2.2.2.2.1 0 (nI (u.2.2.1.1 6))) 1 (zI (u.2.2.1.1 8))) 2 (nI (costT u.2.2.1))) 3 (nI (u.2.2.1.1 3))) 4 (nI (u.2.2.1.1 4))) 5 (nI (u.2.2.1.1 1))) 6 (u.2.2.1.2.1 0), u.2.2.2.2.2))) rfl (fun j _ => rfl) (cel_oBl rfl rfl rfl rfl rfl) dX0_keepLatest_99 (fun H locs _ _ hW hS => ?_)
        refine lv_aload_n hx hb dX0_keepLatest_100 rfl (lv_at hl 1 rfl) ?_
        refine ts_get (C := RX0) (T := TX0) (N := 6) (v := .ref (b + 51)) hx hb hts hi0 hown hK hW 37 (by decide) cel_bk rfl 2 (by decide) (List.mem_of_getElem? (i := 2) rfl) rfl dX0_keepLatest_101 ?_
        refine lv_bipush (v := nI 7) hx hb dX0_keepLatest_104 (by decide) ?_
        refine lv_aload_n hx hb dX0_keepLatest_106 rfl (lv_at hl 2 rfl) ?_
        refine ts_get (C := RX4) (T := TX4) (N := 13) (v := .int (nI (u.2.2.1.1 5))) hx hb hts hi4 hown hK hW 24 (by decide) cel_tr rfl 8 (by decide) (List.mem_of_getElem? (i := 8) rfl) rfl dX0_keepLatest_107 ?_
        refine ts_iast (v := nI (u.2.2.1.1 5)) hx hb hK hW hS hB 51 (by decide) 0 cel_bl rfl (by decide) (by decide) (cel q b (u.1, u.2.1, u.2.2.1, (u.2.2.2.1, va_up (va_up (va_up (va_up (va_up (va_up (va_up (va_up u.2.2.2.2.1 0 (nI (u.2.2.1.1 6))) 1 (zI (u.2.2.1.1 8))) 2 (nI (costT u.2.2.1))) 3 (nI (u.2.2.1.1 3))) 4 (nI (u.2.2.1.1 4))) 5 (nI (u.2.2.1.1 1))) 6 (u.2.2.1.2.1 0)) 7 (nI (u.2.2.1.1 5)), u.2.2.2.2.2))) rfl (fun j _ => rfl) (cel_oBl rfl rfl rfl rfl rfl) dX0_keepLatest_110 (fun H locs _ _ hW hS => ?_)
        exact ts_vret (u := (u.1, u.2.1, u.2.2.1, (u.2.2.2.1, va_up (va_up (va_up (va_up (va_up (va_up (va_up (va_up u.2.2.2.2.1 0 (nI (u.2.2.1.1 6))) 1 (zI (u.2.2.1.1 8))) 2 (nI (costT u.2.2.1))) 3 (nI (u.2.2.1.1 3))) 4 (nI (u.2.2.1.1 4))) 5 (nI (u.2.2.1.1 1))) 6 (u.2.2.1.2.1 0)) 7 (nI (u.2.2.1.1 5)), u.2.2.2.2.2))) C0 hW hS (by (show _ = (u.1, u.2.1, u.2.2.1, (u.2.2.2.1, latB u.2.2.1 u.2.2.2.2.1, u.2.2.2.2.2))); unfold latB; first | (rw [if_pos hfa, if_pos hfa]; done) | (rw [if_neg hfa, if_neg hfa]; done)) dX0_keepLatest_111
      exfalso; revert c6; decide
    exfalso; revert c5; decide
  rw [ts_eq0 (by omega)] at c1
  have hfa := c1
  refine lv_iconst (v := nI 1) hx hb dX0_keepLatest_7 (by decide) ?_
  refine lv_goto (tgt := 12) hx hb dX0_keepLatest_8 (by decide) ?_
  refine lv_istore_n (lv' := [(2, .int (nI 1)), (0, .ref (b + 37)), (1, .ref (b + 24))]) hx hb dX0_keepLatest_12 rfl hl (by decide) rfl (fun ls hl => ?_)
  refine lv_aload_n hx hb dX0_keepLatest_13 rfl (lv_at hl 1 rfl) ?_
  refine ts_get (C := RX0) (T := TX0) (N := 6) (v := .ref (b + 51)) hx hb hts hi0 hown hK hW 37 (by decide) cel_bk rfl 2 (by decide) (List.mem_of_getElem? (i := 2) rfl) rfl dX0_keepLatest_14 ?_
  refine lv_iconst (v := nI 0) hx hb dX0_keepLatest_17 (by decide) ?_
  refine lv_aload_n hx hb dX0_keepLatest_18 rfl (lv_at hl 2 rfl) ?_
  refine ts_get (C := RX4) (T := TX4) (N := 13) (v := .int (nI (u.2.2.1.1 6))) hx hb hts hi4 hown hK hW 24 (by decide) cel_tr rfl 9 (by decide) (List.mem_of_getElem? (i := 1) rfl) rfl dX0_keepLatest_19 ?_
  refine ts_iast (v := nI (u.2.2.1.1 6)) hx hb hK hW hS hB 51 (by decide) 0 cel_bl rfl (by decide) (by decide) (cel q b (u.1, u.2.1, u.2.2.1, (u.2.2.2.1, va_up u.2.2.2.2.1 0 (nI (u.2.2.1.1 6)), u.2.2.2.2.2))) rfl (fun j _ => rfl) (cel_oBl rfl rfl rfl rfl rfl) dX0_keepLatest_22 (fun H locs _ _ hW hS => ?_)
  refine lv_aload_n hx hb dX0_keepLatest_23 rfl (lv_at hl 1 rfl) ?_
  refine ts_get (C := RX0) (T := TX0) (N := 6) (v := .ref (b + 51)) hx hb hts hi0 hown hK hW 37 (by decide) cel_bk rfl 2 (by decide) (List.mem_of_getElem? (i := 2) rfl) rfl dX0_keepLatest_24 ?_
  refine lv_iconst (v := nI 1) hx hb dX0_keepLatest_27 (by decide) ?_
  refine lv_aload_n hx hb dX0_keepLatest_28 rfl (lv_at hl 2 rfl) ?_
  refine ts_get (C := RX4) (T := TX4) (N := 13) (v := .int (zI (u.2.2.1.1 8))) hx hb hts hi4 hown hK hW 24 (by decide) cel_tr rfl 10 (by decide) (List.mem_of_getElem? (i := 3) rfl) rfl dX0_keepLatest_29 ?_
  refine ts_iast (v := zI (u.2.2.1.1 8)) hx hb hK hW hS hB 51 (by decide) 0 cel_bl rfl (by decide) (by decide) (cel q b (u.1, u.2.1, u.2.2.1, (u.2.2.2.1, va_up (va_up u.2.2.2.2.1 0 (nI (u.2.2.1.1 6))) 1 (zI (u.2.2.1.1 8)), u.2.2.2.2.2))) rfl (fun j _ => rfl) (cel_oBl rfl rfl rfl rfl rfl) dX0_keepLatest_32 (fun H locs _ _ hW hS => ?_)
  refine lv_aload_n hx hb dX0_keepLatest_33 rfl (lv_at hl 1 rfl) ?_
  refine ts_get (C := RX0) (T := TX0) (N := 6) (v := .ref (b + 51)) hx hb hts hi0 hown hK hW 37 (by decide) cel_bk rfl 2 (by decide) (List.mem_of_getElem? (i := 2) rfl) rfl dX0_keepLatest_34 ?_
  refine lv_iconst (v := nI 2) hx hb dX0_keepLatest_37 (by decide) ?_
  refine lv_aload_n hx hb dX0_keepLatest_38 rfl (lv_at hl 2 rfl) ?_
  refine ts_retI (va_runV (As := []) (rest := [.int (nI 2), .ref (b + 51)]) ⟨hx, hb, hml, hown, hts⟩ (k_X4_cost l D q b H.size (u.1, u.2.1, u.2.2.1, (u.2.2.2.1, va_up (va_up u.2.2.2.2.1 0 (nI (u.2.2.1.1 6))) 1 (zI (u.2.2.1.1 8)), u.2.2.2.2.2)) ) (cwV 0 hts gX0_keepLatest_X4_cost rfl rfl rfl (by decide +kernel) ⟨Nat.le_of_ble_eq_true rfl, Nat.le_of_ble_eq_true rfl⟩) (ts_preV hK hN hW 24 (by decide) cel_tr rfl) rfl rfl hl.1 rfl (lv_room (Nat.le_of_ble_eq_true rfl)) dX0_keepLatest_39 ⟨Nat.zero_le _, Nat.zero_le _⟩) hS (fun x h => ts_Aup hS.1 h) (fun r7 u8 H locs hp9 hW _ _ hS => ?_)
  have hp9r : r7 = nI (costT u.2.2.1) := hp9.1
  have hp9u : u8 = (u.1, u.2.1, u.2.2.1, (u.2.2.2.1, va_up (va_up u.2.2.2.2.1 0 (nI (u.2.2.1.1 6))) 1 (zI (u.2.2.1.1 8)), u.2.2.2.2.2)) := hp9.2
  rw [hp9r]
  rw [hp9u] at hW
  refine ts_iast (v := nI (costT u.2.2.1)) hx hb hK hW hS hB 51 (by decide) 0 cel_bl rfl (by decide) (by decide) (cel q b (u.1, u.2.1, u.2.2.1, (u.2.2.2.1, va_up (va_up (va_up u.2.2.2.2.1 0 (nI (u.2.2.1.1 6))) 1 (zI (u.2.2.1.1 8))) 2 (nI (costT u.2.2.1)), u.2.2.2.2.2))) rfl (fun j _ => rfl) (cel_oBl rfl rfl rfl rfl rfl) dX0_keepLatest_42 (fun H locs _ _ hW hS => ?_)
  refine lv_aload_n hx hb dX0_keepLatest_43 rfl (lv_at hl 1 rfl) ?_
  refine ts_get (C := RX0) (T := TX0) (N := 6) (v := .ref (b + 51)) hx hb hts hi0 hown hK hW 37 (by decide) cel_bk rfl 2 (by decide) (List.mem_of_getElem? (i := 2) rfl) rfl dX0_keepLatest_44 ?_
  refine lv_iconst (v := nI 3) hx hb dX0_keepLatest_47 (by decide) ?_
  refine lv_aload_n hx hb dX0_keepLatest_48 rfl (lv_at hl 2 rfl) ?_
  refine ts_get (C := RX4) (T := TX4) (N := 13) (v := .int (nI (u.2.2.1.1 3))) hx hb hts hi4 hown hK hW 24 (by decide) cel_tr rfl 6 (by decide) (List.mem_of_getElem? (i := 4) rfl) rfl dX0_keepLatest_49 ?_
  refine ts_iast (v := nI (u.2.2.1.1 3)) hx hb hK hW hS hB 51 (by decide) 0 cel_bl rfl (by decide) (by decide) (cel q b (u.1, u.2.1, u.2.2.1, (u.2.2.2.1, va_up (va_up (va_up (va_up u.2.2.2.2.1 0 (nI (u.2.2.1.1 6))) 1 (zI (u.2.2.1.1 8))) 2 (nI (costT u.2.2.1))) 3 (nI (u.2.2.1.1 3)), u.2.2.2.2.2))) rfl (fun j _ => rfl) (cel_oBl rfl rfl rfl rfl rfl) dX0_keepLatest_52 (fun H locs _ _ hW hS => ?_)
  refine lv_aload_n hx hb dX0_keepLatest_53 rfl (lv_at hl 1 rfl) ?_
  refine ts_get (C := RX0) (T := TX0) (N := 6) (v := .ref (b + 51)) hx hb hts hi0 hown hK hW 37 (by decide) cel_bk rfl 2 (by decide) (List.mem_of_getElem? (i := 2) rfl) rfl dX0_keepLatest_54 ?_
  refine lv_iconst (v := nI 4) hx hb dX0_keepLatest_57 (by decide) ?_
  refine lv_aload_n hx hb dX0_keepLatest_58 rfl (lv_at hl 2 rfl) ?_
  refine ts_get (C := RX4) (T := TX4) (N := 13) (v := .int (nI (u.2.2.1.1 4))) hx hb hts hi4 hown hK hW 24 (by decide) cel_tr rfl 7 (by decide) (List.mem_of_getElem? (i := 5) rfl) rfl dX0_keepLatest_59 ?_
  refine ts_iast (v := nI (u.2.2.1.1 4)) hx hb hK hW hS hB 51 (by decide) 0 cel_bl rfl (by decide) (by decide) (cel q b (u.1, u.2.1, u.2.2.1, (u.2.2.2.1, va_up (va_up (va_up (va_up (va_up u.2.2.2.2.1 0 (nI (u.2.2.1.1 6))) 1 (zI (u.2.2.1.1 8))) 2 (nI (costT u.2.2.1))) 3 (nI (u.2.2.1.1 3))) 4 (nI (u.2.2.1.1 4)), u.2.2.2.2.2))) rfl (fun j _ => rfl) (cel_oBl rfl rfl rfl rfl rfl) dX0_keepLatest_62 (fun H locs _ _ hW hS => ?_)
  refine lv_aload_n hx hb dX0_keepLatest_63 rfl (lv_at hl 1 rfl) ?_
  refine ts_get (C := RX0) (T := TX0) (N := 6) (v := .ref (b + 51)) hx hb hts hi0 hown hK hW 37 (by decide) cel_bk rfl 2 (by decide) (List.mem_of_getElem? (i := 2) rfl) rfl dX0_keepLatest_64 ?_
  refine lv_iconst (v := nI 5) hx hb dX0_keepLatest_67 (by decide) ?_
  refine lv_iload_n hx hb dX0_keepLatest_68 rfl (lv_at hl 0 rfl) ?_
  refine lv_if_eq (tgt := 76) hx hb dX0_keepLatest_69 (by decide) (fun c10 => ?_) (fun c10 => ?_)
  · skip
    exfalso; revert c10; decide
  refine lv_iconst (v := nI 3) hx hb dX0_keepLatest_72 (by decide) ?_
  refine lv_goto (tgt := 80) hx hb dX0_keepLatest_73 (by decide) ?_
  refine ts_iast (v := nI 3) hx hb hK hW hS hB 51 (by decide) 0 cel_bl rfl (by decide) (by decide) (cel q b (u.1, u.2.1, u.2.2.1, (u.2.2.2.1, va_up (va_up (va_up (va_up (va_up (va_up u.2.2.2.2.1 0 (nI (u.2.2.1.1 6))) 1 (zI (u.2.2.1.1 8))) 2 (nI (costT u.2.2.1))) 3 (nI (u.2.2.1.1 3))) 4 (nI (u.2.2.1.1 4))) 5 (nI 3), u.2.2.2.2.2))) rfl (fun j _ => rfl) (cel_oBl rfl rfl rfl rfl rfl) dX0_keepLatest_80 (fun H locs _ _ hW hS => ?_)
  refine lv_aload_n hx hb dX0_keepLatest_81 rfl (lv_at hl 1 rfl) ?_
  refine ts_get (C := RX0) (T := TX0) (N := 6) (v := .ref (b + 51)) hx hb hts hi0 hown hK hW 37 (by decide) cel_bk rfl 2 (by decide) (List.mem_of_getElem? (i := 2) rfl) rfl dX0_keepLatest_82 ?_
  refine lv_bipush (v := nI 6) hx hb dX0_keepLatest_85 (by decide) ?_
  refine lv_iload_n hx hb dX0_keepLatest_87 rfl (lv_at hl 0 rfl) ?_
  refine lv_if_eq (tgt := 95) hx hb dX0_keepLatest_88 (by decide) (fun c11 => ?_) (fun c11 => ?_)
  · skip
    exfalso; revert c11; decide
  refine lv_iconst (v := nI 0) hx hb dX0_keepLatest_91 (by decide) ?_
  refine lv_goto (tgt := 99) hx hb dX0_keepLatest_92 (by decide) ?_
  refine ts_iast (v := nI 0) hx hb hK hW hS hB 51 (by decide) 0 cel_bl rfl (by decide) (by decide) (cel q b (u.1, u.2.1, u.2.2.1, (u.2.2.2.1, va_up (va_up (va_up (va_up (va_up (va_up (va_up u.2.2.2.2.1 0 (nI (u.2.2.1.1 6))) 1 (zI (u.2.2.1.1 8))) 2 (nI (costT u.2.2.1))) 3 (nI (u.2.2.1.1 3))) 4 (nI (u.2.2.1.1 4))) 5 (nI 3)) 6 (nI 0), u.2.2.2.2.2))) rfl (fun j _ => rfl) (cel_oBl rfl rfl rfl rfl rfl) dX0_keepLatest_99 (fun H locs _ _ hW hS => ?_)
  refine lv_aload_n hx hb dX0_keepLatest_100 rfl (lv_at hl 1 rfl) ?_
  refine ts_get (C := RX0) (T := TX0) (N := 6) (v := .ref (b + 51)) hx hb hts hi0 hown hK hW 37 (by decide) cel_bk rfl 2 (by decide) (List.mem_of_getElem? (i := 2) rfl) rfl dX0_keepLatest_101 ?_
  refine lv_bipush (v := nI 7) hx hb dX0_keepLatest_104 (by decide) ?_
  refine lv_aload_n hx hb dX0_keepLatest_106 rfl (lv_at hl 2 rfl) ?_
  refine ts_get (C := RX4) (T := TX4) (N := 13) (v := .int (nI (u.2.2.1.1 5))) hx hb hts hi4 hown hK hW 24 (by decide) cel_tr rfl 8 (by decide) (List.mem_of_getElem? (i := 8) rfl) rfl dX0_keepLatest_107 ?_
  refine ts_iast (v := nI (u.2.2.1.1 5)) hx hb hK hW hS hB 51 (by decide) 0 cel_bl rfl (by decide) (by decide) (cel q b (u.1, u.2.1, u.2.2.1, (u.2.2.2.1, va_up (va_up (va_up (va_up (va_up (va_up (va_up (va_up u.2.2.2.2.1 0 (nI (u.2.2.1.1 6))) 1 (zI (u.2.2.1.1 8))) 2 (nI (costT u.2.2.1))) 3 (nI (u.2.2.1.1 3))) 4 (nI (u.2.2.1.1 4))) 5 (nI 3)) 6 (nI 0)) 7 (nI (u.2.2.1.1 5)), u.2.2.2.2.2))) rfl (fun j _ => rfl) (cel_oBl rfl rfl rfl rfl rfl) dX0_keepLatest_110 (fun H locs _ _ hW hS => ?_)
  exact ts_vret (u := (u.1, u.2.1, u.2.2.1, (u.2.2.2.1, va_up (va_up (va_up (va_up (va_up (va_up (va_up (va_up u.2.2.2.2.1 0 (nI (u.2.2.1.1 6))) 1 (zI (u.2.2.1.1 8))) 2 (nI (costT u.2.2.1))) 3 (nI (u.2.2.1.1 3))) 4 (nI (u.2.2.1.1 4))) 5 (nI 3)) 6 (nI 0)) 7 (nI (u.2.2.1.1 5)), u.2.2.2.2.2))) C0 hW hS (by (show _ = (u.1, u.2.1, u.2.2.1, (u.2.2.2.1, latB u.2.2.1 u.2.2.2.2.1, u.2.2.2.2.2))); unfold latB; first | (rw [if_pos hfa, if_pos hfa]; done) | (rw [if_neg hfa, if_neg hfa]; done)) dX0_keepLatest_111
set_option maxHeartbeats 4000000 in
set_option maxRecDepth 100000 in
theorem k_X0_enter (l : Launch) (D : va_G) (q : CQ) (b sz : Nat) (u : ST)  (hwt : WT u.2.2.1) : Met l yX0_enter wsX0_enter ({ frames := 2, cells := 0, slots := 0, locals := 42 } : Room) (va_Pc [.ref (b + 37), .ref (b + 24)] (Pr D q b sz u)) (cV D q b sz (fun u' => u' = (u.1, u.2.1, u.2.2.1, bookB u.2.2.1 u.2.2.2))) 0 0 (ts_A b 52 sz) := by
  refine ts_met (by decide) rfl (Nat.le_of_ble_eq_true rfl) ?_
  intro p e s m below meth c C0 hX ls hl
  obtain ⟨hsz, hW, hK, hN⟩ := hX
  subst hsz
  obtain ⟨hx, hb, hml, hown, hts, -, -, -⟩ := id C0
  have hW : ts_W D b 52 (cel q b u) s.heap := hW
  have hS : va_S (ts_A b 52 s.heap.size) s.heap s.heap [] := va_S.rf
  have hB : ∀ k, k < 52 → ts_A b 52 s.heap.size (b + k) := fun k hk => ts_Ain hk
  have hi0 : ∀ w ∈ wsX00, w ∈ wsX0_enter := ts_lays 31 rfl
  have hi4 : ∀ w ∈ wsX40, w ∈ wsX0_enter := ts_lays 37 rfl
  have hl : lv_has ls 2 [(0, .ref (b + 37)), (1, .ref (b + 24))] := hl
  obtain ⟨w0, w1, w2, w3, w5, w6, w7, w8, w9⟩ := id hwt
  refine lv_aload_n hx hb dX0_enter_0 rfl (lv_at hl 0 rfl) ?_
  refine lv_dup hx hb dX0_enter_1 rfl ?_
  refine ts_get (C := RX0) (T := TX0) (N := 6) (v := .int (nI (u.2.2.2.1 0))) hx hb hts hi0 hown hK hW 37 (by decide) cel_bk rfl 3 (by decide) (List.mem_of_getElem? (i := 1) rfl) rfl dX0_enter_2 ?_
  refine lv_iconst (v := nI 1) hx hb dX0_enter_5 (by decide) ?_
  refine ts_iadd (v := nI ((u.2.2.2.1 0) + 1)) hx hb dX0_enter_6 (nI_add _ _) ?_
  refine ts_put (C := RX0) (T := TX0) (N := 6) (v := .int (nI ((u.2.2.2.1 0) + 1))) hx hb hts hi0 tyX0 tyX0_ok nmX0 hown hK hW hS hB 37 (by decide) cel_bk rfl 3 (by decide) (List.mem_of_getElem? (i := 1) rfl) rfl rfl rfl (Nat.le_of_ble_eq_true rfl) (cel q b (u.1, u.2.1, u.2.2.1, (va_up u.2.2.2.1 0 ((u.2.2.2.1 0) + 1), u.2.2.2.2.1, u.2.2.2.2.2))) rfl (cel_oB rfl rfl rfl rfl) dX0_enter_7 (fun H locs _ _ hW hS => ?_)
  refine lv_aload_n hx hb dX0_enter_10 rfl (lv_at hl 1 rfl) ?_
  refine ts_get (C := RX4) (T := TX4) (N := 13) (v := .int (nI (u.2.2.1.1 6))) hx hb hts hi4 hown hK hW 24 (by decide) cel_tr rfl 9 (by decide) (List.mem_of_getElem? (i := 2) rfl) rfl dX0_enter_11 ?_
  refine lv_if_eq (tgt := 27) hx hb dX0_enter_14 (by decide) (fun c1 => ?_) (fun c1 => ?_)
  · skip
    rw [ts_eq0 (by omega)] at c1
    have hfa := c1
    refine lv_aload_n hx hb dX0_enter_27 rfl (lv_at hl 1 rfl) ?_
    refine ts_get (C := RX4) (T := TX4) (N := 13) (v := .int (zI (u.2.2.1.1 8))) hx hb hts hi4 hown hK hW 24 (by decide) cel_tr rfl 10 (by decide) (List.mem_of_getElem? (i := 4) rfl) rfl dX0_enter_28 ?_
    refine lv_iconst (v := (-1)) hx hb dX0_enter_31 (by decide) ?_
    refine lv_icmp_eq (tgt := 48) hx hb dX0_enter_32 (by decide) (fun c2 => ?_) (fun c2 => ?_)
    · skip
      rw [zI_m1 (by omega)] at c2
      have hbl := c2
      refine lv_aload_n hx hb dX0_enter_48 rfl (lv_at hl 0 rfl) ?_
      refine lv_dup hx hb dX0_enter_49 rfl ?_
      refine ts_get (C := RX0) (T := TX0) (N := 6) (v := .int (nI (u.2.2.2.1 2))) hx hb hts hi0 hown hK hW 37 (by decide) cel_bk rfl 5 (by decide) (List.mem_of_getElem? (i := 6) rfl) rfl dX0_enter_50 ?_
      refine lv_aload_n hx hb dX0_enter_53 rfl (lv_at hl 1 rfl) ?_
      refine ts_retI (va_runV (As := []) (rest := [.int (nI (u.2.2.2.1 2)), .ref (b + 37)]) ⟨hx, hb, hml, hown, hts⟩ (k_X4_cost l D q b H.size (u.1, u.2.1, u.2.2.1, (va_up u.2.2.2.1 0 ((u.2.2.2.1 0) + 1), u.2.2.2.2.1, u.2.2.2.2.2)) ) (cwV 0 hts gX0_enter_X4_cost rfl rfl rfl (by decide +kernel) ⟨Nat.le_of_ble_eq_true rfl, Nat.le_of_ble_eq_true rfl⟩) (ts_preV hK hN hW 24 (by decide) cel_tr rfl) rfl rfl hl.1 rfl (lv_room (Nat.le_of_ble_eq_true rfl)) dX0_enter_54 ⟨Nat.zero_le _, Nat.zero_le _⟩) hS (fun x h => ts_Aup hS.1 h) (fun r3 u4 H locs hp5 hW _ _ hS => ?_)
      have hp5r : r3 = nI (costT u.2.2.1) := hp5.1
      have hp5u : u4 = (u.1, u.2.1, u.2.2.1, (va_up u.2.2.2.1 0 ((u.2.2.2.1 0) + 1), u.2.2.2.2.1, u.2.2.2.2.2)) := hp5.2
      rw [hp5r]
      rw [hp5u] at hW
      refine ts_iadd (v := nI ((u.2.2.2.1 2) + (costT u.2.2.1))) hx hb dX0_enter_57 (nI_add _ _) ?_
      refine ts_put (C := RX0) (T := TX0) (N := 6) (v := .int (nI ((u.2.2.2.1 2) + (costT u.2.2.1)))) hx hb hts hi0 tyX0 tyX0_ok nmX0 hown hK hW hS hB 37 (by decide) cel_bk rfl 5 (by decide) (List.mem_of_getElem? (i := 6) rfl) rfl rfl rfl (Nat.le_of_ble_eq_true rfl) (cel q b (u.1, u.2.1, u.2.2.1, (va_up (va_up u.2.2.2.1 0 ((u.2.2.2.1 0) + 1)) 2 ((u.2.2.2.1 2) + (costT u.2.2.1)), u.2.2.2.2.1, u.2.2.2.2.2))) rfl (cel_oB rfl rfl rfl rfl) dX0_enter_58 (fun H locs _ _ hW hS => ?_)
      refine lv_aload_n hx hb dX0_enter_61 rfl (lv_at hl 0 rfl) ?_
      refine lv_aload_n hx hb dX0_enter_62 rfl (lv_at hl 1 rfl) ?_
      refine ts_retV (va_runV (As := [.ref (b + 24)]) (rest := []) ⟨hx, hb, hml, hown, hts⟩ (k_X0_addCalls l D q b H.size (u.1, u.2.1, u.2.2.1, (va_up (va_up u.2.2.2.1 0 ((u.2.2.2.1 0) + 1)) 2 ((u.2.2.2.1 2) + (costT u.2.2.1)), u.2.2.2.2.1, u.2.2.2.2.2)) ) (cwV 1 hts gX0_enter_X0_addCalls rfl rfl rfl (by decide +kernel) ⟨Nat.le_of_ble_eq_true rfl, Nat.le_of_ble_eq_true rfl⟩) (ts_preV hK hN hW 37 (by decide) cel_bk rfl) rfl rfl hl.1 rfl (lv_room (Nat.le_of_ble_eq_true rfl)) dX0_enter_63 ⟨Nat.zero_le _, Nat.zero_le _⟩) hS (fun x h => ts_Aup hS.1 h) (fun u7 H locs hp8 hW _ _ hS => ?_)
      have hp8u : u7 = (u.1, u.2.1, u.2.2.1, (va_up (va_up u.2.2.2.1 0 ((u.2.2.2.1 0) + 1)) 2 ((u.2.2.2.1 2) + (costT u.2.2.1)), u.2.2.2.2.1, addN u.2.2.2.2.2 u.2.2.1.2.2 11 0)) := hp8
      rw [hp8u] at hW
      refine lv_aload_n hx hb dX0_enter_66 rfl (lv_at hl 0 rfl) ?_
      refine lv_aload_n hx hb dX0_enter_67 rfl (lv_at hl 1 rfl) ?_
      refine ts_retV (va_runV (As := [.ref (b + 24)]) (rest := []) ⟨hx, hb, hml, hown, hts⟩ (k_X0_keepLatest l D q b H.size (u.1, u.2.1, u.2.2.1, (va_up (va_up u.2.2.2.1 0 ((u.2.2.2.1 0) + 1)) 2 ((u.2.2.2.1 2) + (costT u.2.2.1)), u.2.2.2.2.1, addN u.2.2.2.2.2 u.2.2.1.2.2 11 0)) hwt) (cwV 1 hts gX0_enter_X0_keepLatest rfl rfl rfl (by decide +kernel) ⟨Nat.le_of_ble_eq_true rfl, Nat.le_of_ble_eq_true rfl⟩) (ts_preV hK hN hW 37 (by decide) cel_bk rfl) rfl rfl hl.1 rfl (lv_room (Nat.le_of_ble_eq_true rfl)) dX0_enter_68 ⟨Nat.zero_le _, Nat.zero_le _⟩) hS (fun x h => ts_Aup hS.1 h) (fun u10 H locs hp11 hW _ _ hS => ?_)
      have hp11u : u10 = (u.1, u.2.1, u.2.2.1, (va_up (va_up u.2.2.2.1 0 ((u.2.2.2.1 0) + 1)) 2 ((u.2.2.2.1 2) + (costT u.2.2.1)), latB u.2.2.1 u.2.2.2.2.1, addN u.2.2.2.2.2 u.2.2.1.2.2 11 0)) := hp11
      rw [hp11u] at hW
      exact ts_vret (u := (u.1, u.2.1, u.2.2.1, (va_up (va_up u.2.2.2.1 0 ((u.2.2.2.1 0) + 1)) 2 ((u.2.2.2.1 2) + (costT u.2.2.1)), latB u.2.2.1 u.2.2.2.2.1, addN u.2.2.2.2.2 u.2.2.1.2.2 11 0))) C0 hW hS (by (show _ = (u.1, u.2.1, u.2.2.1, bookB u.2.2.1 u.2.2.2)); unfold bookB; first | (rw [if_pos hfa, if_pos hbl]; done) | (rw [if_pos hfa, if_neg hbl]; done) | (rw [if_neg hfa, if_pos hbl]; done) | (rw [if_neg hfa, if_neg hbl]; done)) dX0_enter_71
    rw [zI_m1 (by omega)] at c2
    have hbl := c2
    refine lv_aload_n hx hb dX0_enter_35 rfl (lv_at hl 0 rfl) ?_
    refine ts_get (C := RX0) (T := TX0) (N := 6) (v := .ref (b + 50)) hx hb hts hi0 hown hK hW 37 (by decide) cel_bk rfl 1 (by decide) (List.mem_of_getElem? (i := 5) rfl) rfl dX0_enter_36 ?_
    refine lv_aload_n hx hb dX0_enter_39 rfl (lv_at hl 1 rfl) ?_
    refine ts_get (C := RX4) (T := TX4) (N := 13) (v := .int (zI (u.2.2.1.1 8))) hx hb hts hi4 hown hK hW 24 (by decide) cel_tr rfl 10 (by decide) (List.mem_of_getElem? (i := 4) rfl) rfl dX0_enter_40 ?_
    refine ts_int (y := nI ((u.2.2.1.1 8) - 1)) (zI_pred hbl) ?_
    refine lv_dup2_11 hx hb dX0_enter_43 rfl rfl ?_
    refine ts_iald (v := nI (u.2.2.2.2.2 11 ((u.2.2.1.1 8) - 1))) hx hb hK hW 50 (by decide) 0 cel_bb rfl (by omega) (by decide) rfl dX0_enter_44 ?_
    refine lv_iconst (v := nI 1) hx hb dX0_enter_45 (by decide) ?_
    refine ts_iadd (v := nI ((u.2.2.2.2.2 11 ((u.2.2.1.1 8) - 1)) + 1)) hx hb dX0_enter_46 (nI_add _ _) ?_
    refine ts_iast (v := nI ((u.2.2.2.2.2 11 ((u.2.2.1.1 8) - 1)) + 1)) hx hb hK hW hS hB 50 (by decide) 0 cel_bb rfl (by omega) (by decide) (cel q b (u.1, u.2.1, u.2.2.1, (va_up u.2.2.2.1 0 ((u.2.2.2.1 0) + 1), u.2.2.2.2.1, ts_u2 u.2.2.2.2.2 11 ((u.2.2.1.1 8) - 1) ((u.2.2.2.2.2 11 ((u.2.2.1.1 8) - 1)) + 1)))) rfl (fun j _ => ts_u2_row u.2.2.2.2.2 11 ((u.2.2.1.1 8) - 1) ((u.2.2.2.2.2 11 ((u.2.2.1.1 8) - 1)) + 1) j) (cel_oBw (i := 11) (by decide) rfl rfl rfl rfl rfl rfl (fun j hj => ts_u2_ne _ _ _ hj)) dX0_enter_47 (fun H locs _ _ hW hS => ?_)
    refine lv_aload_n hx hb dX0_enter_48 rfl (lv_at hl 0 rfl) ?_
    refine lv_dup hx hb dX0_enter_49 rfl ?_
    refine ts_get (C := RX0) (T := TX0) (N := 6) (v := .int (nI (u.2.2.2.1 2))) hx hb hts hi0 hown hK hW 37 (by decide) cel_bk rfl 5 (by decide) (List.mem_of_getElem? (i := 6) rfl) rfl dX0_enter_50 ?_
    refine lv_aload_n hx hb dX0_enter_53 rfl (lv_at hl 1 rfl) ?_
    refine ts_retI (va_runV (As := []) (rest := [.int (nI (u.2.2.2.1 2)), .ref (b + 37)]) ⟨hx, hb, hml, hown, hts⟩ (k_X4_cost l D q b H.size (u.1, u.2.1, u.2.2.1, (va_up u.2.2.2.1 0 ((u.2.2.2.1 0) + 1), u.2.2.2.2.1, ts_u2 u.2.2.2.2.2 11 ((u.2.2.1.1 8) - 1) ((u.2.2.2.2.2 11 ((u.2.2.1.1 8) - 1)) + 1))) ) (cwV 0 hts gX0_enter_X4_cost rfl rfl rfl (by decide +kernel) ⟨Nat.le_of_ble_eq_true rfl, Nat.le_of_ble_eq_true rfl⟩) (ts_preV hK hN hW 24 (by decide) cel_tr rfl) rfl rfl hl.1 rfl (lv_room (Nat.le_of_ble_eq_true rfl)) dX0_enter_54 ⟨Nat.zero_le _, Nat.zero_le _⟩) hS (fun x h => ts_Aup hS.1 h) (fun r12 u13 H locs hp14 hW _ _ hS => ?_)
    have hp14r : r12 = nI (costT u.2.2.1) := hp14.1
    have hp14u : u13 = (u.1, u.2.1, u.2.2.1, (va_up u.2.2.2.1 0 ((u.2.2.2.1 0) + 1), u.2.2.2.2.1, ts_u2 u.2.2.2.2.2 11 ((u.2.2.1.1 8) - 1) ((u.2.2.2.2.2 11 ((u.2.2.1.1 8) - 1)) + 1))) := hp14.2
    rw [hp14r]
    rw [hp14u] at hW
    refine ts_iadd (v := nI ((u.2.2.2.1 2) + (costT u.2.2.1))) hx hb dX0_enter_57 (nI_add _ _) ?_
    refine ts_put (C := RX0) (T := TX0) (N := 6) (v := .int (nI ((u.2.2.2.1 2) + (costT u.2.2.1)))) hx hb hts hi0 tyX0 tyX0_ok nmX0 hown hK hW hS hB 37 (by decide) cel_bk rfl 5 (by decide) (List.mem_of_getElem? (i := 6) rfl) rfl rfl rfl (Nat.le_of_ble_eq_true rfl) (cel q b (u.1, u.2.1, u.2.2.1, (va_up (va_up u.2.2.2.1 0 ((u.2.2.2.1 0) + 1)) 2 ((u.2.2.2.1 2) + (costT u.2.2.1)), u.2.2.2.2.1, ts_u2 u.2.2.2.2.2 11 ((u.2.2.1.1 8) - 1) ((u.2.2.2.2.2 11 ((u.2.2.1.1 8) - 1)) + 1)))) rfl (cel_oB rfl rfl rfl rfl) dX0_enter_58 (fun H locs _ _ hW hS => ?_)
    refine lv_aload_n hx hb dX0_enter_61 rfl (lv_at hl 0 rfl) ?_
    refine lv_aload_n hx hb dX0_enter_62 rfl (lv_at hl 1 rfl) ?_
    refine ts_retV (va_runV (As := [.ref (b + 24)]) (rest := []) ⟨hx, hb, hml, hown, hts⟩ (k_X0_addCalls l D q b H.size (u.1, u.2.1, u.2.2.1, (va_up (va_up u.2.2.2.1 0 ((u.2.2.2.1 0) + 1)) 2 ((u.2.2.2.1 2) + (costT u.2.2.1)), u.2.2.2.2.1, ts_u2 u.2.2.2.2.2 11 ((u.2.2.1.1 8) - 1) ((u.2.2.2.2.2 11 ((u.2.2.1.1 8) - 1)) + 1))) ) (cwV 1 hts gX0_enter_X0_addCalls rfl rfl rfl (by decide +kernel) ⟨Nat.le_of_ble_eq_true rfl, Nat.le_of_ble_eq_true rfl⟩) (ts_preV hK hN hW 37 (by decide) cel_bk rfl) rfl rfl hl.1 rfl (lv_room (Nat.le_of_ble_eq_true rfl)) dX0_enter_63 ⟨Nat.zero_le _, Nat.zero_le _⟩) hS (fun x h => ts_Aup hS.1 h) (fun u16 H locs hp17 hW _ _ hS => ?_)
    have hp17u : u16 = (u.1, u.2.1, u.2.2.1, (va_up (va_up u.2.2.2.1 0 ((u.2.2.2.1 0) + 1)) 2 ((u.2.2.2.1 2) + (costT u.2.2.1)), u.2.2.2.2.1, addN (ts_u2 u.2.2.2.2.2 11 ((u.2.2.1.1 8) - 1) ((u.2.2.2.2.2 11 ((u.2.2.1.1 8) - 1)) + 1)) u.2.2.1.2.2 11 0)) := hp17
    rw [hp17u] at hW
    refine lv_aload_n hx hb dX0_enter_66 rfl (lv_at hl 0 rfl) ?_
    refine lv_aload_n hx hb dX0_enter_67 rfl (lv_at hl 1 rfl) ?_
    refine ts_retV (va_runV (As := [.ref (b + 24)]) (rest := []) ⟨hx, hb, hml, hown, hts⟩ (k_X0_keepLatest l D q b H.size (u.1, u.2.1, u.2.2.1, (va_up (va_up u.2.2.2.1 0 ((u.2.2.2.1 0) + 1)) 2 ((u.2.2.2.1 2) + (costT u.2.2.1)), u.2.2.2.2.1, addN (ts_u2 u.2.2.2.2.2 11 ((u.2.2.1.1 8) - 1) ((u.2.2.2.2.2 11 ((u.2.2.1.1 8) - 1)) + 1)) u.2.2.1.2.2 11 0)) hwt) (cwV 1 hts gX0_enter_X0_keepLatest rfl rfl rfl (by decide +kernel) ⟨Nat.le_of_ble_eq_true rfl, Nat.le_of_ble_eq_true rfl⟩) (ts_preV hK hN hW 37 (by decide) cel_bk rfl) rfl rfl hl.1 rfl (lv_room (Nat.le_of_ble_eq_true rfl)) dX0_enter_68 ⟨Nat.zero_le _, Nat.zero_le _⟩) hS (fun x h => ts_Aup hS.1 h) (fun u19 H locs hp20 hW _ _ hS => ?_)
    have hp20u : u19 = (u.1, u.2.1, u.2.2.1, (va_up (va_up u.2.2.2.1 0 ((u.2.2.2.1 0) + 1)) 2 ((u.2.2.2.1 2) + (costT u.2.2.1)), latB u.2.2.1 u.2.2.2.2.1, addN (ts_u2 u.2.2.2.2.2 11 ((u.2.2.1.1 8) - 1) ((u.2.2.2.2.2 11 ((u.2.2.1.1 8) - 1)) + 1)) u.2.2.1.2.2 11 0)) := hp20
    rw [hp20u] at hW
    exact ts_vret (u := (u.1, u.2.1, u.2.2.1, (va_up (va_up u.2.2.2.1 0 ((u.2.2.2.1 0) + 1)) 2 ((u.2.2.2.1 2) + (costT u.2.2.1)), latB u.2.2.1 u.2.2.2.2.1, addN (ts_u2 u.2.2.2.2.2 11 ((u.2.2.1.1 8) - 1) ((u.2.2.2.2.2 11 ((u.2.2.1.1 8) - 1)) + 1)) u.2.2.1.2.2 11 0))) C0 hW hS (by (show _ = (u.1, u.2.1, u.2.2.1, bookB u.2.2.1 u.2.2.2)); unfold bookB; first | (rw [if_pos hfa, if_pos hbl]; done) | (rw [if_pos hfa, if_neg hbl]; done) | (rw [if_neg hfa, if_pos hbl]; done) | (rw [if_neg hfa, if_neg hbl]; done)) dX0_enter_71
  rw [ts_eq0 (by omega)] at c1
  have hfa := c1
  refine lv_aload_n hx hb dX0_enter_17 rfl (lv_at hl 0 rfl) ?_
  refine lv_dup hx hb dX0_enter_18 rfl ?_
  refine ts_get (C := RX0) (T := TX0) (N := 6) (v := .int (nI (u.2.2.2.1 1))) hx hb hts hi0 hown hK hW 37 (by decide) cel_bk rfl 4 (by decide) (List.mem_of_getElem? (i := 3) rfl) rfl dX0_enter_19 ?_
  refine lv_iconst (v := nI 1) hx hb dX0_enter_22 (by decide) ?_
  refine ts_iadd (v := nI ((u.2.2.2.1 1) + 1)) hx hb dX0_enter_23 (nI_add _ _) ?_
  refine ts_put (C := RX0) (T := TX0) (N := 6) (v := .int (nI ((u.2.2.2.1 1) + 1))) hx hb hts hi0 tyX0 tyX0_ok nmX0 hown hK hW hS hB 37 (by decide) cel_bk rfl 4 (by decide) (List.mem_of_getElem? (i := 3) rfl) rfl rfl rfl (Nat.le_of_ble_eq_true rfl) (cel q b (u.1, u.2.1, u.2.2.1, (va_up (va_up u.2.2.2.1 0 ((u.2.2.2.1 0) + 1)) 1 ((u.2.2.2.1 1) + 1), u.2.2.2.2.1, u.2.2.2.2.2))) rfl (cel_oB rfl rfl rfl rfl) dX0_enter_24 (fun H locs _ _ hW hS => ?_)
  refine lv_aload_n hx hb dX0_enter_27 rfl (lv_at hl 1 rfl) ?_
  refine ts_get (C := RX4) (T := TX4) (N := 13) (v := .int (zI (u.2.2.1.1 8))) hx hb hts hi4 hown hK hW 24 (by decide) cel_tr rfl 10 (by decide) (List.mem_of_getElem? (i := 4) rfl) rfl dX0_enter_28 ?_
  refine lv_iconst (v := (-1)) hx hb dX0_enter_31 (by decide) ?_
  refine lv_icmp_eq (tgt := 48) hx hb dX0_enter_32 (by decide) (fun c21 => ?_) (fun c21 => ?_)
  · skip
    rw [zI_m1 (by omega)] at c21
    have hbl := c21
    refine lv_aload_n hx hb dX0_enter_48 rfl (lv_at hl 0 rfl) ?_
    refine lv_dup hx hb dX0_enter_49 rfl ?_
    refine ts_get (C := RX0) (T := TX0) (N := 6) (v := .int (nI (u.2.2.2.1 2))) hx hb hts hi0 hown hK hW 37 (by decide) cel_bk rfl 5 (by decide) (List.mem_of_getElem? (i := 6) rfl) rfl dX0_enter_50 ?_
    refine lv_aload_n hx hb dX0_enter_53 rfl (lv_at hl 1 rfl) ?_
    refine ts_retI (va_runV (As := []) (rest := [.int (nI (u.2.2.2.1 2)), .ref (b + 37)]) ⟨hx, hb, hml, hown, hts⟩ (k_X4_cost l D q b H.size (u.1, u.2.1, u.2.2.1, (va_up (va_up u.2.2.2.1 0 ((u.2.2.2.1 0) + 1)) 1 ((u.2.2.2.1 1) + 1), u.2.2.2.2.1, u.2.2.2.2.2)) ) (cwV 0 hts gX0_enter_X4_cost rfl rfl rfl (by decide +kernel) ⟨Nat.le_of_ble_eq_true rfl, Nat.le_of_ble_eq_true rfl⟩) (ts_preV hK hN hW 24 (by decide) cel_tr rfl) rfl rfl hl.1 rfl (lv_room (Nat.le_of_ble_eq_true rfl)) dX0_enter_54 ⟨Nat.zero_le _, Nat.zero_le _⟩) hS (fun x h => ts_Aup hS.1 h) (fun r22 u23 H locs hp24 hW _ _ hS => ?_)
    have hp24r : r22 = nI (costT u.2.2.1) := hp24.1
    have hp24u : u23 = (u.1, u.2.1, u.2.2.1, (va_up (va_up u.2.2.2.1 0 ((u.2.2.2.1 0) + 1)) 1 ((u.2.2.2.1 1) + 1), u.2.2.2.2.1, u.2.2.2.2.2)) := hp24.2
    rw [hp24r]
    rw [hp24u] at hW
    refine ts_iadd (v := nI ((u.2.2.2.1 2) + (costT u.2.2.1))) hx hb dX0_enter_57 (nI_add _ _) ?_
    refine ts_put (C := RX0) (T := TX0) (N := 6) (v := .int (nI ((u.2.2.2.1 2) + (costT u.2.2.1)))) hx hb hts hi0 tyX0 tyX0_ok nmX0 hown hK hW hS hB 37 (by decide) cel_bk rfl 5 (by decide) (List.mem_of_getElem? (i := 6) rfl) rfl rfl rfl (Nat.le_of_ble_eq_true rfl) (cel q b (u.1, u.2.1, u.2.2.1, (va_up (va_up (va_up u.2.2.2.1 0 ((u.2.2.2.1 0) + 1)) 1 ((u.2.2.2.1 1) + 1)) 2 ((u.2.2.2.1 2) + (costT u.2.2.1)), u.2.2.2.2.1, u.2.2.2.2.2))) rfl (cel_oB rfl rfl rfl rfl) dX0_enter_58 (fun H locs _ _ hW hS => ?_)
    refine lv_aload_n hx hb dX0_enter_61 rfl (lv_at hl 0 rfl) ?_
    refine lv_aload_n hx hb dX0_enter_62 rfl (lv_at hl 1 rfl) ?_
    refine ts_retV (va_runV (As := [.ref (b + 24)]) (rest := []) ⟨hx, hb, hml, hown, hts⟩ (k_X0_addCalls l D q b H.size (u.1, u.2.1, u.2.2.1, (va_up (va_up (va_up u.2.2.2.1 0 ((u.2.2.2.1 0) + 1)) 1 ((u.2.2.2.1 1) + 1)) 2 ((u.2.2.2.1 2) + (costT u.2.2.1)), u.2.2.2.2.1, u.2.2.2.2.2)) ) (cwV 1 hts gX0_enter_X0_addCalls rfl rfl rfl (by decide +kernel) ⟨Nat.le_of_ble_eq_true rfl, Nat.le_of_ble_eq_true rfl⟩) (ts_preV hK hN hW 37 (by decide) cel_bk rfl) rfl rfl hl.1 rfl (lv_room (Nat.le_of_ble_eq_true rfl)) dX0_enter_63 ⟨Nat.zero_le _, Nat.zero_le _⟩) hS (fun x h => ts_Aup hS.1 h) (fun u26 H locs hp27 hW _ _ hS => ?_)
    have hp27u : u26 = (u.1, u.2.1, u.2.2.1, (va_up (va_up (va_up u.2.2.2.1 0 ((u.2.2.2.1 0) + 1)) 1 ((u.2.2.2.1 1) + 1)) 2 ((u.2.2.2.1 2) + (costT u.2.2.1)), u.2.2.2.2.1, addN u.2.2.2.2.2 u.2.2.1.2.2 11 0)) := hp27
    rw [hp27u] at hW
    refine lv_aload_n hx hb dX0_enter_66 rfl (lv_at hl 0 rfl) ?_
    refine lv_aload_n hx hb dX0_enter_67 rfl (lv_at hl 1 rfl) ?_
    refine ts_retV (va_runV (As := [.ref (b + 24)]) (rest := []) ⟨hx, hb, hml, hown, hts⟩ (k_X0_keepLatest l D q b H.size (u.1, u.2.1, u.2.2.1, (va_up (va_up (va_up u.2.2.2.1 0 ((u.2.2.2.1 0) + 1)) 1 ((u.2.2.2.1 1) + 1)) 2 ((u.2.2.2.1 2) + (costT u.2.2.1)), u.2.2.2.2.1, addN u.2.2.2.2.2 u.2.2.1.2.2 11 0)) hwt) (cwV 1 hts gX0_enter_X0_keepLatest rfl rfl rfl (by decide +kernel) ⟨Nat.le_of_ble_eq_true rfl, Nat.le_of_ble_eq_true rfl⟩) (ts_preV hK hN hW 37 (by decide) cel_bk rfl) rfl rfl hl.1 rfl (lv_room (Nat.le_of_ble_eq_true rfl)) dX0_enter_68 ⟨Nat.zero_le _, Nat.zero_le _⟩) hS (fun x h => ts_Aup hS.1 h) (fun u29 H locs hp30 hW _ _ hS => ?_)
    have hp30u : u29 = (u.1, u.2.1, u.2.2.1, (va_up (va_up (va_up u.2.2.2.1 0 ((u.2.2.2.1 0) + 1)) 1 ((u.2.2.2.1 1) + 1)) 2 ((u.2.2.2.1 2) + (costT u.2.2.1)), latB u.2.2.1 u.2.2.2.2.1, addN u.2.2.2.2.2 u.2.2.1.2.2 11 0)) := hp30
    rw [hp30u] at hW
    exact ts_vret (u := (u.1, u.2.1, u.2.2.1, (va_up (va_up (va_up u.2.2.2.1 0 ((u.2.2.2.1 0) + 1)) 1 ((u.2.2.2.1 1) + 1)) 2 ((u.2.2.2.1 2) + (costT u.2.2.1)), latB u.2.2.1 u.2.2.2.2.1, addN u.2.2.2.2.2 u.2.2.1.2.2 11 0))) C0 hW hS (by (show _ = (u.1, u.2.1, u.2.2.1, bookB u.2.2.1 u.2.2.2)); unfold bookB; first | (rw [if_pos hfa, if_pos hbl]; done) | (rw [if_pos hfa, if_neg hbl]; done) | (rw [if_neg hfa, if_pos hbl]; done) | (rw [if_neg hfa, if_neg hbl]; done)) dX0_enter_71
  rw [zI_m1 (by omega)] at c21
  have hbl := c21
  refine lv_aload_n hx hb dX0_enter_35 rfl (lv_at hl 0 rfl) ?_
  refine ts_get (C := RX0) (T := TX0) (N := 6) (v := .ref (b + 50)) hx hb hts hi0 hown hK hW 37 (by decide) cel_bk rfl 1 (by decide) (List.mem_of_getElem? (i := 5) rfl) rfl dX0_enter_36 ?_
  refine lv_aload_n hx hb dX0_enter_39 rfl (lv_at hl 1 rfl) ?_
  refine ts_get (C := RX4) (T := TX4) (N := 13) (v := .int (zI (u.2.2.1.1 8))) hx hb hts hi4 hown hK hW 24 (by decide) cel_tr rfl 10 (by decide) (List.mem_of_getElem? (i := 4) rfl) rfl dX0_enter_40 ?_
  refine ts_int (y := nI ((u.2.2.1.1 8) - 1)) (zI_pred hbl) ?_
  refine lv_dup2_11 hx hb dX0_enter_43 rfl rfl ?_
  refine ts_iald (v := nI (u.2.2.2.2.2 11 ((u.2.2.1.1 8) - 1))) hx hb hK hW 50 (by decide) 0 cel_bb rfl (by omega) (by decide) rfl dX0_enter_44 ?_
  refine lv_iconst (v := nI 1) hx hb dX0_enter_45 (by decide) ?_
  refine ts_iadd (v := nI ((u.2.2.2.2.2 11 ((u.2.2.1.1 8) - 1)) + 1)) hx hb dX0_enter_46 (nI_add _ _) ?_
  refine ts_iast (v := nI ((u.2.2.2.2.2 11 ((u.2.2.1.1 8) - 1)) + 1)) hx hb hK hW hS hB 50 (by decide) 0 cel_bb rfl (by omega) (by decide) (cel q b (u.1, u.2.1, u.2.2.1, (va_up (va_up u.2.2.2.1 0 ((u.2.2.2.1 0) + 1)) 1 ((u.2.2.2.1 1) + 1), u.2.2.2.2.1, ts_u2 u.2.2.2.2.2 11 ((u.2.2.1.1 8) - 1) ((u.2.2.2.2.2 11 ((u.2.2.1.1 8) - 1)) + 1)))) rfl (fun j _ => ts_u2_row u.2.2.2.2.2 11 ((u.2.2.1.1 8) - 1) ((u.2.2.2.2.2 11 ((u.2.2.1.1 8) - 1)) + 1) j) (cel_oBw (i := 11) (by decide) rfl rfl rfl rfl rfl rfl (fun j hj => ts_u2_ne _ _ _ hj)) dX0_enter_47 (fun H locs _ _ hW hS => ?_)
  refine lv_aload_n hx hb dX0_enter_48 rfl (lv_at hl 0 rfl) ?_
  refine lv_dup hx hb dX0_enter_49 rfl ?_
  refine ts_get (C := RX0) (T := TX0) (N := 6) (v := .int (nI (u.2.2.2.1 2))) hx hb hts hi0 hown hK hW 37 (by decide) cel_bk rfl 5 (by decide) (List.mem_of_getElem? (i := 6) rfl) rfl dX0_enter_50 ?_
  refine lv_aload_n hx hb dX0_enter_53 rfl (lv_at hl 1 rfl) ?_
  refine ts_retI (va_runV (As := []) (rest := [.int (nI (u.2.2.2.1 2)), .ref (b + 37)]) ⟨hx, hb, hml, hown, hts⟩ (k_X4_cost l D q b H.size (u.1, u.2.1, u.2.2.1, (va_up (va_up u.2.2.2.1 0 ((u.2.2.2.1 0) + 1)) 1 ((u.2.2.2.1 1) + 1), u.2.2.2.2.1, ts_u2 u.2.2.2.2.2 11 ((u.2.2.1.1 8) - 1) ((u.2.2.2.2.2 11 ((u.2.2.1.1 8) - 1)) + 1))) ) (cwV 0 hts gX0_enter_X4_cost rfl rfl rfl (by decide +kernel) ⟨Nat.le_of_ble_eq_true rfl, Nat.le_of_ble_eq_true rfl⟩) (ts_preV hK hN hW 24 (by decide) cel_tr rfl) rfl rfl hl.1 rfl (lv_room (Nat.le_of_ble_eq_true rfl)) dX0_enter_54 ⟨Nat.zero_le _, Nat.zero_le _⟩) hS (fun x h => ts_Aup hS.1 h) (fun r31 u32 H locs hp33 hW _ _ hS => ?_)
  have hp33r : r31 = nI (costT u.2.2.1) := hp33.1
  have hp33u : u32 = (u.1, u.2.1, u.2.2.1, (va_up (va_up u.2.2.2.1 0 ((u.2.2.2.1 0) + 1)) 1 ((u.2.2.2.1 1) + 1), u.2.2.2.2.1, ts_u2 u.2.2.2.2.2 11 ((u.2.2.1.1 8) - 1) ((u.2.2.2.2.2 11 ((u.2.2.1.1 8) - 1)) + 1))) := hp33.2
  rw [hp33r]
  rw [hp33u] at hW
  refine ts_iadd (v := nI ((u.2.2.2.1 2) + (costT u.2.2.1))) hx hb dX0_enter_57 (nI_add _ _) ?_
  refine ts_put (C := RX0) (T := TX0) (N := 6) (v := .int (nI ((u.2.2.2.1 2) + (costT u.2.2.1)))) hx hb hts hi0 tyX0 tyX0_ok nmX0 hown hK hW hS hB 37 (by decide) cel_bk rfl 5 (by decide) (List.mem_of_getElem? (i := 6) rfl) rfl rfl rfl (Nat.le_of_ble_eq_true rfl) (cel q b (u.1, u.2.1, u.2.2.1, (va_up (va_up (va_up u.2.2.2.1 0 ((u.2.2.2.1 0) + 1)) 1 ((u.2.2.2.1 1) + 1)) 2 ((u.2.2.2.1 2) + (costT u.2.2.1)), u.2.2.2.2.1, ts_u2 u.2.2.2.2.2 11 ((u.2.2.1.1 8) - 1) ((u.2.2.2.2.2 11 ((u.2.2.1.1 8) - 1)) + 1)))) rfl (cel_oB rfl rfl rfl rfl) dX0_enter_58 (fun H locs _ _ hW hS => ?_)
  refine lv_aload_n hx hb dX0_enter_61 rfl (lv_at hl 0 rfl) ?_
  refine lv_aload_n hx hb dX0_enter_62 rfl (lv_at hl 1 rfl) ?_
  refine ts_retV (va_runV (As := [.ref (b + 24)]) (rest := []) ⟨hx, hb, hml, hown, hts⟩ (k_X0_addCalls l D q b H.size (u.1, u.2.1, u.2.2.1, (va_up (va_up (va_up u.2.2.2.1 0 ((u.2.2.2.1 0) + 1)) 1 ((u.2.2.2.1 1) + 1)) 2 ((u.2.2.2.1 2) + (costT u.2.2.1)), u.2.2.2.2.1, ts_u2 u.2.2.2.2.2 11 ((u.2.2.1.1 8) - 1) ((u.2.2.2.2.2 11 ((u.2.2.1.1 8) - 1)) + 1))) ) (cwV 1 hts gX0_enter_X0_addCalls rfl rfl rfl (by decide +kernel) ⟨Nat.le_of_ble_eq_true rfl, Nat.le_of_ble_eq_true rfl⟩) (ts_preV hK hN hW 37 (by decide) cel_bk rfl) rfl rfl hl.1 rfl (lv_room (Nat.le_of_ble_eq_true rfl)) dX0_enter_63 ⟨Nat.zero_le _, Nat.zero_le _⟩) hS (fun x h => ts_Aup hS.1 h) (fun u35 H locs hp36 hW _ _ hS => ?_)
  have hp36u : u35 = (u.1, u.2.1, u.2.2.1, (va_up (va_up (va_up u.2.2.2.1 0 ((u.2.2.2.1 0) + 1)) 1 ((u.2.2.2.1 1) + 1)) 2 ((u.2.2.2.1 2) + (costT u.2.2.1)), u.2.2.2.2.1, addN (ts_u2 u.2.2.2.2.2 11 ((u.2.2.1.1 8) - 1) ((u.2.2.2.2.2 11 ((u.2.2.1.1 8) - 1)) + 1)) u.2.2.1.2.2 11 0)) := hp36
  rw [hp36u] at hW
  refine lv_aload_n hx hb dX0_enter_66 rfl (lv_at hl 0 rfl) ?_
  refine lv_aload_n hx hb dX0_enter_67 rfl (lv_at hl 1 rfl) ?_
  refine ts_retV (va_runV (As := [.ref (b + 24)]) (rest := []) ⟨hx, hb, hml, hown, hts⟩ (k_X0_keepLatest l D q b H.size (u.1, u.2.1, u.2.2.1, (va_up (va_up (va_up u.2.2.2.1 0 ((u.2.2.2.1 0) + 1)) 1 ((u.2.2.2.1 1) + 1)) 2 ((u.2.2.2.1 2) + (costT u.2.2.1)), u.2.2.2.2.1, addN (ts_u2 u.2.2.2.2.2 11 ((u.2.2.1.1 8) - 1) ((u.2.2.2.2.2 11 ((u.2.2.1.1 8) - 1)) + 1)) u.2.2.1.2.2 11 0)) hwt) (cwV 1 hts gX0_enter_X0_keepLatest rfl rfl rfl (by decide +kernel) ⟨Nat.le_of_ble_eq_true rfl, Nat.le_of_ble_eq_true rfl⟩) (ts_preV hK hN hW 37 (by decide) cel_bk rfl) rfl rfl hl.1 rfl (lv_room (Nat.le_of_ble_eq_true rfl)) dX0_enter_68 ⟨Nat.zero_le _, Nat.zero_le _⟩) hS (fun x h => ts_Aup hS.1 h) (fun u38 H locs hp39 hW _ _ hS => ?_)
  have hp39u : u38 = (u.1, u.2.1, u.2.2.1, (va_up (va_up (va_up u.2.2.2.1 0 ((u.2.2.2.1 0) + 1)) 1 ((u.2.2.2.1 1) + 1)) 2 ((u.2.2.2.1 2) + (costT u.2.2.1)), latB u.2.2.1 u.2.2.2.2.1, addN (ts_u2 u.2.2.2.2.2 11 ((u.2.2.1.1 8) - 1) ((u.2.2.2.2.2 11 ((u.2.2.1.1 8) - 1)) + 1)) u.2.2.1.2.2 11 0)) := hp39
  rw [hp39u] at hW
  exact ts_vret (u := (u.1, u.2.1, u.2.2.1, (va_up (va_up (va_up u.2.2.2.1 0 ((u.2.2.2.1 0) + 1)) 1 ((u.2.2.2.1 1) + 1)) 2 ((u.2.2.2.1 2) + (costT u.2.2.1)), latB u.2.2.1 u.2.2.2.2.1, addN (ts_u2 u.2.2.2.2.2 11 ((u.2.2.1.1 8) - 1) ((u.2.2.2.2.2 11 ((u.2.2.1.1 8) - 1)) + 1)) u.2.2.1.2.2 11 0))) C0 hW hS (by (show _ = (u.1, u.2.1, u.2.2.1, bookB u.2.2.1 u.2.2.2)); unfold bookB; first | (rw [if_pos hfa, if_pos hbl]; done) | (rw [if_pos hfa, if_neg hbl]; done) | (rw [if_neg hfa, if_pos hbl]; done) | (rw [if_neg hfa, if_neg hbl]; done)) dX0_enter_71
set_option maxHeartbeats 4000000 in
set_option maxRecDepth 100000 in
theorem k_X0_timesCalled (l : Launch) (D : va_G) (q : CQ) (b sz : Nat) (u : ST) (f : Nat) (hf : f < 10) : Met l yX0_timesCalled wsX0_timesCalled ({ frames := 0, cells := 0, slots := 0, locals := 0 } : Room) (va_Pc [.ref (b + 37), .int (nI f)] (Pr D q b sz u)) (cI D q b sz (fun r u' => r = nI (sumN u.2.2.2.2.2 f 11) ∧ u' = u)) 0 0 (ts_A b 52 sz) := by
  refine ts_met (by decide) rfl (Nat.le_of_ble_eq_true rfl) ?_
  intro p e s m below meth c C0 hX ls hl
  obtain ⟨hsz, hW, hK, hN⟩ := hX
  subst hsz
  obtain ⟨hx, hb, hml, hown, hts, -, -, -⟩ := id C0
  have hW : ts_W D b 52 (cel q b u) s.heap := hW
  have hS : va_S (ts_A b 52 s.heap.size) s.heap s.heap [] := va_S.rf
  have hB : ∀ k, k < 52 → ts_A b 52 s.heap.size (b + k) := fun k hk => ts_Ain hk
  have hi0 : ∀ w ∈ wsX00, w ∈ wsX0_timesCalled := ts_lays 2 rfl
  have hl : lv_has ls 4 [(0, .ref (b + 37)), (1, .int (nI f))] := hl
  refine lv_iconst (v := nI 0) hx hb dX0_timesCalled_0 (by decide) ?_
  refine lv_istore_n (lv' := [(2, .int (nI 0)), (0, .ref (b + 37)), (1, .int (nI f))]) hx hb dX0_timesCalled_1 rfl hl (by decide) rfl (fun ls hl => ?_)
  refine lv_iconst (v := nI 0) hx hb dX0_timesCalled_2 (by decide) ?_
  refine lv_istore_n (lv' := [(3, .int (nI 0)), (2, .int (nI 0)), (0, .ref (b + 37)), (1, .int (nI f))]) hx hb dX0_timesCalled_3 rfl hl (by decide) rfl (fun ls hl => ?_)
  have key1 : ∀ (fu : Nat) (k : Nat), (k ≤ 11) → (11 - k) < fu → ∀ (H : Heap) (locs : List Loc), ts_W D b 52 (cel q b u) H → va_S (ts_A b 52 s.heap.size) s.heap H locs → ∀ ls : Array Slot, lv_has ls 4 [(3, .int (nI k)), (2, .int (nI (sumN u.2.2.2.2.2 f k))), (0, .ref (b + 37)), (1, .int (nI f))] → W p l e ({ frames := 0, cells := 0, slots := 0, locals := 0 } : Room) s m [.ref (b + 37), .int (nI f)].toArray below meth c H locs 0 0 (MQ below (cI D q b s.heap.size (fun r u' => r = nI (sumN u.2.2.2.2.2 f 11) ∧ u' = u)) [.ref (b + 37), .int (nI f)].toArray s 0 0 (ts_A b 52 s.heap.size)) (F0 m 4 ls []) := by
    intro fu
    induction fu with
    | zero => intro k _ hn; exact absurd hn (Nat.not_lt_zero _)
    | succ fu ih2 =>
      intro k hk hn H locs hW hS ls hl
      refine lv_iload_n hx hb dX0_timesCalled_4 rfl (lv_at hl 0 rfl) ?_
      refine lv_bipush (v := nI 10) hx hb dX0_timesCalled_5 (by decide) ?_
      refine lv_icmp_gt (tgt := 27) hx hb dX0_timesCalled_7 (by decide) (fun c3 => ?_) (fun c3 => ?_)
      · skip
        rw [nI_ltI (by omega) (by omega)] at c3
        refine lv_iload_n hx hb dX0_timesCalled_27 rfl (lv_at hl 1 rfl) ?_
        exact ts_iret (u := u) (v := nI (sumN u.2.2.2.2.2 f k)) C0 hW hS (by rw [show 11 = k by omega]; exact ⟨rfl, rfl⟩) dX0_timesCalled_28
      rw [nI_ltI (by omega) (by omega)] at c3
      refine lv_iload_n hx hb dX0_timesCalled_10 rfl (lv_at hl 1 rfl) ?_
      refine lv_aload_n hx hb dX0_timesCalled_11 rfl (lv_at hl 2 rfl) ?_
      refine ts_get (C := RX0) (T := TX0) (N := 6) (v := .ref (b + 38)) hx hb hts hi0 hown hK hW 37 (by decide) cel_bk rfl 0 (by decide) (List.mem_of_getElem? (i := 1) rfl) rfl dX0_timesCalled_12 ?_
      refine lv_iload_n hx hb dX0_timesCalled_15 rfl (lv_at hl 0 rfl) ?_
      refine ts_aald (a := b + (39 + k)) hx hb hK hW 38 (by decide) 2 cel_bc rfl rfl (by omega) (by decide) rfl dX0_timesCalled_16 ?_
      refine lv_iload_n hx hb dX0_timesCalled_17 rfl (lv_at hl 3 rfl) ?_
      refine ts_iald (v := nI (u.2.2.2.2.2 k f)) hx hb hK hW (39 + k) (by omega) 0 (cel_bw (by omega)) rfl (by omega) (by decide) rfl dX0_timesCalled_18 ?_
      refine ts_iadd (v := nI ((sumN u.2.2.2.2.2 f k) + (u.2.2.2.2.2 k f))) hx hb dX0_timesCalled_19 (nI_add _ _) ?_
      refine lv_istore_n (lv' := [(2, .int (nI ((sumN u.2.2.2.2.2 f k) + (u.2.2.2.2.2 k f)))), (3, .int (nI k)), (0, .ref (b + 37)), (1, .int (nI f))]) hx hb dX0_timesCalled_20 rfl hl (by decide) rfl (fun ls hl => ?_)
      refine lv_iinc (v := nI (k + 1)) (lv' := [(3, .int (nI (k + 1))), (2, .int (nI ((sumN u.2.2.2.2.2 f k) + (u.2.2.2.2.2 k f)))), (0, .ref (b + 37)), (1, .int (nI f))]) hx hb dX0_timesCalled_21 hl (k := 1) rfl (nI_add k 1) (by decide) rfl (fun ls hl => ?_)
      refine lv_goto (tgt := 4) hx hb dX0_timesCalled_24 (by decide) ?_
      have e4 : sumN u.2.2.2.2.2 f (k + 1) = (sumN u.2.2.2.2.2 f k) + (u.2.2.2.2.2 k f) := by rfl
      exact ih2 (k + 1) (by omega) (by omega) H locs hW hS ls (show lv_has ls 4 [(3, .int (nI (k + 1))), (2, .int (nI (sumN u.2.2.2.2.2 f (k + 1)))), (0, .ref (b + 37)), (1, .int (nI f))] from by rw [e4]; exact lv_sub hl [0, 1, 2, 3] rfl)
  have e5 : sumN u.2.2.2.2.2 f 0 = 0 := by rfl
  exact key1 _ 0 (by omega) (Nat.lt_succ_self _) _ _ hW hS ls (show lv_has ls 4 [(3, .int (nI 0)), (2, .int (nI (sumN u.2.2.2.2.2 f 0))), (0, .ref (b + 37)), (1, .int (nI f))] from by rw [e5]; exact lv_sub hl [0, 1, 2, 3] rfl)
set_option maxHeartbeats 4000000 in
set_option maxRecDepth 100000 in
theorem k_X5_requireFunction (l : Launch) (D : va_G) (q : CQ) (b sz : Nat) (u : ST) (f : Nat) (hwf : WP u.1) (hf : f < u.1.1 1) : Met l yX5_requireFunction wsX5_requireFunction ({ frames := 0, cells := 0, slots := 0, locals := 0 } : Room) (va_Pc [.ref (b + 0), .int (nI f)] (Pr D q b sz u)) (cV D q b sz (fun u' => u' = u)) 0 0 (ts_A b 52 sz) := by
  refine ts_met (by decide) rfl (Nat.le_of_ble_eq_true rfl) ?_
  intro p e s m below meth c C0 hX ls hl
  obtain ⟨hsz, hW, hK, hN⟩ := hX
  subst hsz
  obtain ⟨hx, hb, hml, hown, hts, -, -, -⟩ := id C0
  have hW : ts_W D b 52 (cel q b u) s.heap := hW
  have hS : va_S (ts_A b 52 s.heap.size) s.heap s.heap [] := va_S.rf
  have hB : ∀ k, k < 52 → ts_A b 52 s.heap.size (b + k) := fun k hk => ts_Ain hk
  have hi3 : ∀ w ∈ wsX30, w ∈ wsX5_requireFunction := ts_lays 9 rfl
  have hi5 : ∀ w ∈ wsX50, w ∈ wsX5_requireFunction := ts_lays 5 rfl
  have hl : lv_has ls 2 [(0, .ref (b + 0)), (1, .int (nI f))] := hl
  have hs := hwf.sz
  refine lv_iload_n hx hb dX5_requireFunction_0 rfl (lv_at hl 1 rfl) ?_
  refine lv_if_lt (tgt := 15) hx hb dX5_requireFunction_1 (by decide) (fun c1 => ?_) (fun c1 => ?_)
  · skip
    rw [ts_lt0 (by omega)] at c1
    exfalso; omega
  rw [ts_lt0 (by omega)] at c1
  refine lv_iload_n hx hb dX5_requireFunction_4 rfl (lv_at hl 1 rfl) ?_
  refine lv_aload_n hx hb dX5_requireFunction_5 rfl (lv_at hl 0 rfl) ?_
  refine ts_get (C := RX5) (T := TX5) (N := 4) (v := .ref (b + 1)) hx hb hts hi5 hown hK hW 0 (by decide) cel_st rfl 0 (by decide) (List.mem_of_getElem? (i := 3) rfl) rfl dX5_requireFunction_6 ?_
  refine ts_get (C := RX3) (T := TX3) (N := 5) (v := .int (nI (u.1.1 1))) hx hb hts hi3 hown hK hW 1 (by decide) cel_pr rfl 2 (by decide) (List.mem_of_getElem? (i := 4) rfl) rfl dX5_requireFunction_9 ?_
  refine lv_icmp_lt (tgt := 26) hx hb dX5_requireFunction_12 (by decide) (fun c2 => ?_) (fun c2 => ?_)
  · skip
    rw [nI_ltI (by omega) (by omega)] at c2
    exact ts_vret (u := u) C0 hW hS (by exact rfl) dX5_requireFunction_26
  rw [nI_ltI (by omega) (by omega)] at c2
  exfalso; omega
set_option maxHeartbeats 4000000 in
set_option maxRecDepth 100000 in
theorem k_X5_requireHints (l : Launch) (D : va_G) (q : CQ) (b sz : Nat) (u : ST) (a o : Nat) (ha : a ≤ 3) (ho : o ≤ 3) : Met l yX5_requireHints wsX5_requireHints ({ frames := 0, cells := 0, slots := 0, locals := 0 } : Room) (va_Pc [.int (nI a), .int (nI o)] (Pr D q b sz u)) (cV D q b sz (fun u' => u' = u)) 0 0 (ts_A b 52 sz) := by
  refine ts_met (by decide) rfl (Nat.le_of_ble_eq_true rfl) ?_
  intro p e s m below meth c C0 hX ls hl
  obtain ⟨hsz, hW, hK, hN⟩ := hX
  subst hsz
  obtain ⟨hx, hb, hml, hown, hts, -, -, -⟩ := id C0
  have hW : ts_W D b 52 (cel q b u) s.heap := hW
  have hS : va_S (ts_A b 52 s.heap.size) s.heap s.heap [] := va_S.rf
  have hB : ∀ k, k < 52 → ts_A b 52 s.heap.size (b + k) := fun k hk => ts_Ain hk
  have hl : lv_has ls 2 [(0, .int (nI a)), (1, .int (nI o))] := hl
  refine lv_iload_n hx hb dX5_requireHints_0 rfl (lv_at hl 0 rfl) ?_
  refine lv_if_lt (tgt := 18) hx hb dX5_requireHints_1 (by decide) (fun c1 => ?_) (fun c1 => ?_)
  · skip
    rw [ts_lt0 (by omega)] at c1
    exfalso; omega
  rw [ts_lt0 (by omega)] at c1
  refine lv_iload_n hx hb dX5_requireHints_4 rfl (lv_at hl 0 rfl) ?_
  refine lv_iconst (v := nI 3) hx hb dX5_requireHints_5 (by decide) ?_
  refine lv_icmp_gt (tgt := 18) hx hb dX5_requireHints_6 (by decide) (fun c2 => ?_) (fun c2 => ?_)
  · skip
    rw [nI_ltI (by omega) (by omega)] at c2
    exfalso; omega
  rw [nI_ltI (by omega) (by omega)] at c2
  refine lv_iload_n hx hb dX5_requireHints_9 rfl (lv_at hl 1 rfl) ?_
  refine lv_if_lt (tgt := 18) hx hb dX5_requireHints_10 (by decide) (fun c3 => ?_) (fun c3 => ?_)
  · skip
    rw [ts_lt0 (by omega)] at c3
    exfalso; omega
  rw [ts_lt0 (by omega)] at c3
  refine lv_iload_n hx hb dX5_requireHints_13 rfl (lv_at hl 1 rfl) ?_
  refine lv_iconst (v := nI 3) hx hb dX5_requireHints_14 (by decide) ?_
  refine lv_icmp_le (tgt := 29) hx hb dX5_requireHints_15 (by decide) (fun c4 => ?_) (fun c4 => ?_)
  · skip
    rw [nI_leI (by omega) (by omega)] at c4
    exact ts_vret (u := u) C0 hW hS (by exact rfl) dX5_requireHints_29
  rw [nI_leI (by omega) (by omega)] at c4
  exfalso; omega
set_option maxHeartbeats 4000000 in
set_option maxRecDepth 100000 in
theorem k_X5_requireWhat (l : Launch) (D : va_G) (q : CQ) (b sz : Nat) (u : ST) (a o : Nat) (ha : a ≤ o) (ho : o ≤ 10) : Met l yX5_requireWhat wsX5_requireWhat ({ frames := 0, cells := 0, slots := 0, locals := 0 } : Room) (va_Pc [.int (nI a), .int (nI o)] (Pr D q b sz u)) (cV D q b sz (fun u' => u' = u)) 0 0 (ts_A b 52 sz) := by
  refine ts_met (by decide) rfl (Nat.le_of_ble_eq_true rfl) ?_
  intro p e s m below meth c C0 hX ls hl
  obtain ⟨hsz, hW, hK, hN⟩ := hX
  subst hsz
  obtain ⟨hx, hb, hml, hown, hts, -, -, -⟩ := id C0
  have hW : ts_W D b 52 (cel q b u) s.heap := hW
  have hS : va_S (ts_A b 52 s.heap.size) s.heap s.heap [] := va_S.rf
  have hB : ∀ k, k < 52 → ts_A b 52 s.heap.size (b + k) := fun k hk => ts_Ain hk
  have hl : lv_has ls 2 [(0, .int (nI a)), (1, .int (nI o))] := hl
  refine lv_iload_n hx hb dX5_requireWhat_0 rfl (lv_at hl 0 rfl) ?_
  refine lv_if_lt (tgt := 9) hx hb dX5_requireWhat_1 (by decide) (fun c1 => ?_) (fun c1 => ?_)
  · skip
    rw [ts_lt0 (by omega)] at c1
    exfalso; omega
  rw [ts_lt0 (by omega)] at c1
  refine lv_iload_n hx hb dX5_requireWhat_4 rfl (lv_at hl 0 rfl) ?_
  refine lv_iload_n hx hb dX5_requireWhat_5 rfl (lv_at hl 1 rfl) ?_
  refine lv_icmp_le (tgt := 20) hx hb dX5_requireWhat_6 (by decide) (fun c2 => ?_) (fun c2 => ?_)
  · skip
    rw [nI_leI (by omega) (by omega)] at c2
    exact ts_vret (u := u) C0 hW hS (by exact rfl) dX5_requireWhat_20
  rw [nI_leI (by omega) (by omega)] at c2
  exfalso; omega
set_option maxHeartbeats 4000000 in
set_option maxRecDepth 100000 in
theorem k_X5_requireBudget (l : Launch) (D : va_G) (q : CQ) (b sz : Nat) (u : ST) (a : Nat) (ha : a ≤ 20) : Met l yX5_requireBudget wsX5_requireBudget ({ frames := 0, cells := 0, slots := 0, locals := 0 } : Room) (va_Pc [.int (nI a)] (Pr D q b sz u)) (cV D q b sz (fun u' => u' = u)) 0 0 (ts_A b 52 sz) := by
  refine ts_met (by decide) rfl (Nat.le_of_ble_eq_true rfl) ?_
  intro p e s m below meth c C0 hX ls hl
  obtain ⟨hsz, hW, hK, hN⟩ := hX
  subst hsz
  obtain ⟨hx, hb, hml, hown, hts, -, -, -⟩ := id C0
  have hW : ts_W D b 52 (cel q b u) s.heap := hW
  have hS : va_S (ts_A b 52 s.heap.size) s.heap s.heap [] := va_S.rf
  have hB : ∀ k, k < 52 → ts_A b 52 s.heap.size (b + k) := fun k hk => ts_Ain hk
  have hl : lv_has ls 1 [(0, .int (nI a))] := hl
  refine lv_iload_n hx hb dX5_requireBudget_0 rfl (lv_at hl 0 rfl) ?_
  refine lv_if_lt (tgt := 10) hx hb dX5_requireBudget_1 (by decide) (fun c1 => ?_) (fun c1 => ?_)
  · skip
    rw [ts_lt0 (by omega)] at c1
    exfalso; omega
  rw [ts_lt0 (by omega)] at c1
  refine lv_iload_n hx hb dX5_requireBudget_4 rfl (lv_at hl 0 rfl) ?_
  refine lv_bipush (v := nI 20) hx hb dX5_requireBudget_5 (by decide) ?_
  refine lv_icmp_le (tgt := 21) hx hb dX5_requireBudget_7 (by decide) (fun c2 => ?_) (fun c2 => ?_)
  · skip
    rw [nI_leI (by omega) (by omega)] at c2
    exact ts_vret (u := u) C0 hW hS (by exact rfl) dX5_requireBudget_21
  rw [nI_leI (by omega) (by omega)] at c2
  exfalso; omega
set_option maxHeartbeats 4000000 in
set_option maxRecDepth 100000 in
theorem k_X5_isValue (l : Launch) (D : va_G) (q : CQ) (b sz : Nat) (u : ST) (ty : Nat) (num : Int32) (hv : valI ty num) : Met l yX5_isValue wsX5_isValue ({ frames := 0, cells := 0, slots := 0, locals := 0 } : Room) (va_Pc [.int (nI ty), .int num] (Pr D q b sz u)) (cI D q b sz (fun r u' => r = b2i true ∧ u' = u)) 0 0 (ts_A b 52 sz) := by
  refine ts_met (by decide) rfl (Nat.le_of_ble_eq_true rfl) ?_
  intro p e s m below meth c C0 hX ls hl
  obtain ⟨hsz, hW, hK, hN⟩ := hX
  subst hsz
  obtain ⟨hx, hb, hml, hown, hts, -, -, -⟩ := id C0
  have hW : ts_W D b 52 (cel q b u) s.heap := hW
  have hS : va_S (ts_A b 52 s.heap.size) s.heap s.heap [] := va_S.rf
  have hB : ∀ k, k < 52 → ts_A b 52 s.heap.size (b + k) := fun k hk => ts_Ain hk
  have hl : lv_has ls 2 [(0, .int (nI ty)), (1, .int num)] := hl
  have hty := hv.le
  refine lv_iload_n hx hb dX5_isValue_0 rfl (lv_at hl 0 rfl) ?_
  by_cases c1 : ty = 0
  · skip
    refine lv_tableIn (tgt := 28) hx hb dX5_isValue_1 (by rw [c1]; decide) (by rw [c1]; decide) (by rw [c1]; rfl) (by decide) ?_
    refine lv_iload_n hx hb dX5_isValue_28 rfl (lv_at hl 1 rfl) ?_
    refine lv_sipush (v := (-999)) hx hb dX5_isValue_29 (by decide) ?_
    refine lv_icmp_lt (tgt := 46) hx hb dX5_isValue_32 (by decide) (fun c2 => ?_) (fun c2 => ?_)
    · skip
      exfalso; rcases hv with ⟨h, h1, h2⟩ | ⟨h, h1, h2⟩ | ⟨h, h1 | h1, -⟩ <;> first | contradiction | omega
    refine lv_iload_n hx hb dX5_isValue_35 rfl (lv_at hl 1 rfl) ?_
    refine lv_sipush (v := nI 999) hx hb dX5_isValue_36 (by decide) ?_
    refine lv_icmp_gt (tgt := 46) hx hb dX5_isValue_39 (by decide) (fun c3 => ?_) (fun c3 => ?_)
    · skip
      exfalso; rcases hv with ⟨h, h1, h2⟩ | ⟨h, h1, h2⟩ | ⟨h, h1 | h1, -⟩ <;> first | contradiction | omega
    refine lv_iconst (v := nI 1) hx hb dX5_isValue_42 (by decide) ?_
    refine lv_goto (tgt := 47) hx hb dX5_isValue_43 (by decide) ?_
    exact ts_zret (u := u) (v := nI 1) C0 rfl hW hS (by exact ⟨rfl, rfl⟩) dX5_isValue_47
  by_cases c4 : ty = 1
  · skip
    refine lv_tableIn (tgt := 48) hx hb dX5_isValue_1 (by rw [c4]; decide) (by rw [c4]; decide) (by rw [c4]; rfl) (by decide) ?_
    refine lv_iload_n hx hb dX5_isValue_48 rfl (lv_at hl 1 rfl) ?_
    refine lv_if_lt (tgt := 63) hx hb dX5_isValue_49 (by decide) (fun c5 => ?_) (fun c5 => ?_)
    · skip
      exfalso; rcases hv with ⟨h, h1, h2⟩ | ⟨h, h1, h2⟩ | ⟨h, h1 | h1, -⟩ <;> first | contradiction | omega
    refine lv_iload_n hx hb dX5_isValue_52 rfl (lv_at hl 1 rfl) ?_
    refine lv_sipush (v := nI 999) hx hb dX5_isValue_53 (by decide) ?_
    refine lv_icmp_gt (tgt := 63) hx hb dX5_isValue_56 (by decide) (fun c6 => ?_) (fun c6 => ?_)
    · skip
      exfalso; rcases hv with ⟨h, h1, h2⟩ | ⟨h, h1, h2⟩ | ⟨h, h1 | h1, -⟩ <;> first | contradiction | omega
    refine lv_iconst (v := nI 1) hx hb dX5_isValue_59 (by decide) ?_
    refine lv_goto (tgt := 64) hx hb dX5_isValue_60 (by decide) ?_
    exact ts_zret (u := u) (v := nI 1) C0 rfl hW hS (by exact ⟨rfl, rfl⟩) dX5_isValue_64
  by_cases c7 : ty = 2
  · skip
    refine lv_tableIn (tgt := 65) hx hb dX5_isValue_1 (by rw [c7]; decide) (by rw [c7]; decide) (by rw [c7]; rfl) (by decide) ?_
    refine lv_iload_n hx hb dX5_isValue_65 rfl (lv_at hl 1 rfl) ?_
    refine lv_if_eq (tgt := 74) hx hb dX5_isValue_66 (by decide) (fun c8 => ?_) (fun c8 => ?_)
    · skip
      refine lv_iconst (v := nI 1) hx hb dX5_isValue_74 (by decide) ?_
      refine lv_goto (tgt := 79) hx hb dX5_isValue_75 (by decide) ?_
      exact ts_zret (u := u) (v := nI 1) C0 rfl hW hS (by exact ⟨rfl, rfl⟩) dX5_isValue_79
    refine lv_iload_n hx hb dX5_isValue_69 rfl (lv_at hl 1 rfl) ?_
    refine lv_iconst (v := nI 1) hx hb dX5_isValue_70 (by decide) ?_
    refine lv_icmp_ne (tgt := 78) hx hb dX5_isValue_71 (by decide) (fun c9 => ?_) (fun c9 => ?_)
    · skip
      exfalso; rcases hv with ⟨h, h1, h2⟩ | ⟨h, h1, h2⟩ | ⟨h, h1 | h1, -⟩ <;> first | contradiction | omega
    refine lv_iconst (v := nI 1) hx hb dX5_isValue_74 (by decide) ?_
    refine lv_goto (tgt := 79) hx hb dX5_isValue_75 (by decide) ?_
    exact ts_zret (u := u) (v := nI 1) C0 rfl hW hS (by exact ⟨rfl, rfl⟩) dX5_isValue_79
  exfalso; omega
set_option maxHeartbeats 4000000 in
set_option maxRecDepth 100000 in
theorem k_X5_requireValue (l : Launch) (D : va_G) (q : CQ) (b sz : Nat) (u : ST) (ty : Nat) (num : Int32) (hv : valI ty num) : Met l yX5_requireValue wsX5_requireValue ({ frames := 1, cells := 0, slots := 0, locals := 21 } : Room) (va_Pc [.int (nI ty), .int num] (Pr D q b sz u)) (cV D q b sz (fun u' => u' = u)) 0 0 (ts_A b 52 sz) := by
  refine ts_met (by decide) rfl (Nat.le_of_ble_eq_true rfl) ?_
  intro p e s m below meth c C0 hX ls hl
  obtain ⟨hsz, hW, hK, hN⟩ := hX
  subst hsz
  obtain ⟨hx, hb, hml, hown, hts, -, -, -⟩ := id C0
  have hW : ts_W D b 52 (cel q b u) s.heap := hW
  have hS : va_S (ts_A b 52 s.heap.size) s.heap s.heap [] := va_S.rf
  have hB : ∀ k, k < 52 → ts_A b 52 s.heap.size (b + k) := fun k hk => ts_Ain hk
  have hl : lv_has ls 2 [(0, .int (nI ty)), (1, .int num)] := hl
  refine lv_iload_n hx hb dX5_requireValue_0 rfl (lv_at hl 0 rfl) ?_
  refine lv_iload_n hx hb dX5_requireValue_1 rfl (lv_at hl 1 rfl) ?_
  refine ts_retI (va_runS (As := [.int (nI ty), .int num]) (rest := []) ⟨hx, hb, hml, hown, hts⟩ (k_X5_isValue l D q b s.heap.size u ty num hv) (va_cwS 2 hts gX5_requireValue_X5_isValue rfl rfl rfl (by decide +kernel) ⟨Nat.le_of_ble_eq_true rfl, Nat.le_of_ble_eq_true rfl⟩) (ts_preS hK hN hW) rfl rfl hl.1 rfl (lv_room (Nat.le_of_ble_eq_true rfl)) dX5_requireValue_2 ⟨Nat.zero_le _, Nat.zero_le _⟩) hS (fun x h => ts_Aup hS.1 h) (fun r1 u2 H locs hp3 hW _ _ hS => ?_)
  have hp3r : r1 = b2i true := hp3.1
  have hp3u : u2 = u := hp3.2
  rw [hp3r]
  rw [hp3u] at hW
  refine lv_if_ne (tgt := 19) hx hb dX5_requireValue_5 (by decide) (fun c4 => ?_) (fun c4 => ?_)
  · skip
    have c4 := ts_bt c4
    exact ts_vret (u := u) C0 hW hS (by exact rfl) dX5_requireValue_19
  have c4 := ts_bf c4
  exact absurd c4 (by decide)
set_option maxHeartbeats 4000000 in
set_option maxRecDepth 100000 in
theorem k_X5_tollWith (l : Launch) (D : va_G) (q : CQ) (b sz : Nat) (u : ST) (s_ : Nat) (hwf : WP u.1) (hs_ : s_ < 1024) : Met l yX5_tollWith wsX5_tollWith ({ frames := 2, cells := 0, slots := 0, locals := 44 } : Room) (va_Pc [.ref (b + 0), .int (nI s_)] (Pr D q b sz u)) (cI D q b sz (fun r u' => r = nI (tolA u.1 u.2.2.2.2.2 s_) ∧ u' = u)) 0 0 (ts_A b 52 sz) := by
  refine ts_met (by decide) rfl (Nat.le_of_ble_eq_true rfl) ?_
  intro p e s m below meth c C0 hX ls hl
  obtain ⟨hsz, hW, hK, hN⟩ := hX
  subst hsz
  obtain ⟨hx, hb, hml, hown, hts, -, -, -⟩ := id C0
  have hW : ts_W D b 52 (cel q b u) s.heap := hW
  have hS : va_S (ts_A b 52 s.heap.size) s.heap s.heap [] := va_S.rf
  have hB : ∀ k, k < 52 → ts_A b 52 s.heap.size (b + k) := fun k hk => ts_Ain hk
  have hi0 : ∀ w ∈ wsX00, w ∈ wsX5_tollWith := ts_lays 32 rfl
  have hi3 : ∀ w ∈ wsX30, w ∈ wsX5_tollWith := ts_lays 27 rfl
  have hi5 : ∀ w ∈ wsX50, w ∈ wsX5_tollWith := ts_lays 23 rfl
  have hl : lv_has ls 5 [(0, .ref (b + 0)), (1, .int (nI s_))] := hl
  have hs := hwf.sz
  refine lv_iconst (v := nI 0) hx hb dX5_tollWith_0 (by decide) ?_
  refine lv_istore_n (lv' := [(2, .int (nI 0)), (0, .ref (b + 0)), (1, .int (nI s_))]) hx hb dX5_tollWith_1 rfl hl (by decide) rfl (fun ls hl => ?_)
  refine lv_iconst (v := (-1)) hx hb dX5_tollWith_2 (by decide) ?_
  refine lv_istore_n (lv' := [(3, .int (-1)), (2, .int (nI 0)), (0, .ref (b + 0)), (1, .int (nI s_))]) hx hb dX5_tollWith_3 rfl hl (by decide) rfl (fun ls hl => ?_)
  have key1 : ∀ (fu : Nat) (k : Nat), (k ≤ u.1.1 1 + 1) → (u.1.1 1 + 1 - k) < fu → ∀ (H : Heap) (locs : List Loc), ts_W D b 52 (cel q b u) H → va_S (ts_A b 52 s.heap.size) s.heap H locs → ∀ ls : Array Slot, lv_has ls 5 [(3, .int (zI k)), (2, .int (nI (tolN u.1 u.2.2.2.2.2 s_ k))), (0, .ref (b + 0)), (1, .int (nI s_))] → W p l e ({ frames := 2, cells := 0, slots := 0, locals := 44 } : Room) s m [.ref (b + 0), .int (nI s_)].toArray below meth c H locs 0 0 (MQ below (cI D q b s.heap.size (fun r u' => r = nI (tolA u.1 u.2.2.2.2.2 s_) ∧ u' = u)) [.ref (b + 0), .int (nI s_)].toArray s 0 0 (ts_A b 52 s.heap.size)) (F0 m 4 ls []) := by
    intro fu
    induction fu with
    | zero => intro k _ hn; exact absurd hn (Nat.not_lt_zero _)
    | succ fu ih2 =>
      intro k hk hn H locs hW hS ls hl
      refine lv_iload_n hx hb dX5_tollWith_4 rfl (lv_at hl 0 rfl) ?_
      refine lv_aload_n hx hb dX5_tollWith_5 rfl (lv_at hl 2 rfl) ?_
      refine ts_get (C := RX5) (T := TX5) (N := 4) (v := .ref (b + 1)) hx hb hts hi5 hown hK hW 0 (by decide) cel_st rfl 0 (by decide) (List.mem_of_getElem? (i := 1) rfl) rfl dX5_tollWith_6 ?_
      refine ts_get (C := RX3) (T := TX3) (N := 5) (v := .int (nI (u.1.1 1))) hx hb hts hi3 hown hK hW 1 (by decide) cel_pr rfl 2 (by decide) (List.mem_of_getElem? (i := 2) rfl) rfl dX5_tollWith_9 ?_
      refine lv_icmp_ge (tgt := 90) hx hb dX5_tollWith_12 (by decide) (fun c3 => ?_) (fun c3 => ?_)
      · skip
        rw [zI_le (by omega) (by omega)] at c3
        refine lv_iload_n hx hb dX5_tollWith_90 rfl (lv_at hl 1 rfl) ?_
        exact ts_iret (u := u) (v := nI (tolN u.1 u.2.2.2.2.2 s_ k)) C0 hW hS (by unfold tolA; rw [show u.1.1 1 + 1 = k by omega]; exact ⟨rfl, rfl⟩) dX5_tollWith_91
      rw [zI_le (by omega) (by omega)] at c3
      refine lv_iconst (v := nI 0) hx hb dX5_tollWith_15 (by decide) ?_
      refine lv_istore (lv' := [(4, .int (nI 0)), (3, .int (zI k)), (2, .int (nI (tolN u.1 u.2.2.2.2.2 s_ k))), (0, .ref (b + 0)), (1, .int (nI s_))]) hx hb dX5_tollWith_16 hl (by decide) rfl (fun ls hl => ?_)
      have key4 : ∀ (fu : Nat) (j : Nat), (j ≤ u.1.1 1) → (u.1.1 1 - j) < fu → ∀ (H : Heap) (locs : List Loc), ts_W D b 52 (cel q b u) H → va_S (ts_A b 52 s.heap.size) s.heap H locs → ∀ ls : Array Slot, lv_has ls 5 [(4, .int (nI j)), (3, .int (zI k)), (2, .int (nI (tolN u.1 u.2.2.2.2.2 s_ k + tolR u.1 u.2.2.2.2.2 s_ k j))), (0, .ref (b + 0)), (1, .int (nI s_))] → W p l e ({ frames := 2, cells := 0, slots := 0, locals := 44 } : Room) s m [.ref (b + 0), .int (nI s_)].toArray below meth c H locs 0 0 (MQ below (cI D q b s.heap.size (fun r u' => r = nI (tolA u.1 u.2.2.2.2.2 s_) ∧ u' = u)) [.ref (b + 0), .int (nI s_)].toArray s 0 0 (ts_A b 52 s.heap.size)) (F0 m 18 ls []) := by
        intro fu
        induction fu with
        | zero => intro j _ hn; exact absurd hn (Nat.not_lt_zero _)
        | succ fu ih5 =>
          intro j hj hn H locs hW hS ls hl
          refine lv_iload hx hb dX5_tollWith_18 (lv_at hl 0 rfl) ?_
          refine lv_aload_n hx hb dX5_tollWith_20 rfl (lv_at hl 3 rfl) ?_
          refine ts_get (C := RX5) (T := TX5) (N := 4) (v := .ref (b + 1)) hx hb hts hi5 hown hK hW 0 (by decide) cel_st rfl 0 (by decide) (List.mem_of_getElem? (i := 1) rfl) rfl dX5_tollWith_21 ?_
          refine ts_get (C := RX3) (T := TX3) (N := 5) (v := .int (nI (u.1.1 1))) hx hb hts hi3 hown hK hW 1 (by decide) cel_pr rfl 2 (by decide) (List.mem_of_getElem? (i := 2) rfl) rfl dX5_tollWith_24 ?_
          refine lv_icmp_ge (tgt := 84) hx hb dX5_tollWith_27 (by decide) (fun c6 => ?_) (fun c6 => ?_)
          · skip
            rw [nI_leI (by omega) (by omega)] at c6
            refine lv_iinc (v := zI (k + 1)) (lv' := [(3, .int (zI (k + 1))), (4, .int (nI j)), (2, .int (nI (tolN u.1 u.2.2.2.2.2 s_ k + tolR u.1 u.2.2.2.2.2 s_ k j))), (0, .ref (b + 0)), (1, .int (nI s_))]) hx hb dX5_tollWith_84 hl (k := 1) rfl (zI_succ _) (by decide) rfl (fun ls hl => ?_)
            refine lv_goto (tgt := 4) hx hb dX5_tollWith_87 (by decide) ?_
            have e7 : tolN u.1 u.2.2.2.2.2 s_ (k + 1) = tolN u.1 u.2.2.2.2.2 s_ k + tolR u.1 u.2.2.2.2.2 s_ k j := by first | rfl | (show tolN u.1 _ s_ k + tolR u.1 _ s_ k (u.1.1 1) = _; rw [show u.1.1 1 = j by omega])
            exact ih2 (k + 1) (by omega) (by omega) H locs hW hS ls (show lv_has ls 5 [(3, .int (zI (k + 1))), (2, .int (nI (tolN u.1 u.2.2.2.2.2 s_ (k + 1)))), (0, .ref (b + 0)), (1, .int (nI s_))] from by rw [e7]; exact lv_sub hl [0, 2, 3, 4] rfl)
          rw [nI_leI (by omega) (by omega)] at c6
          refine lv_aload_n hx hb dX5_tollWith_30 rfl (lv_at hl 3 rfl) ?_
          refine ts_get (C := RX5) (T := TX5) (N := 4) (v := .ref (b + 1)) hx hb hts hi5 hown hK hW 0 (by decide) cel_st rfl 0 (by decide) (List.mem_of_getElem? (i := 1) rfl) rfl dX5_tollWith_31 ?_
          refine lv_iload_n hx hb dX5_tollWith_34 rfl (lv_at hl 1 rfl) ?_
          refine lv_iload hx hb dX5_tollWith_35 (lv_at hl 0 rfl) ?_
          refine lv_iload_n hx hb dX5_tollWith_37 rfl (lv_at hl 4 rfl) ?_
          refine ts_retI (va_runV (As := [.int (zI k), .int (nI j), .int (nI s_)]) (rest := []) ⟨hx, hb, hml, hown, hts⟩ (k_X3_guardsCall l D q b H.size u k j s_ hwf (by omega) (by omega) (by omega)) (cwV 3 hts gX5_tollWith_X3_guardsCall rfl rfl rfl (by decide +kernel) ⟨Nat.le_of_ble_eq_true rfl, Nat.le_of_ble_eq_true rfl⟩) (ts_preV hK hN hW 1 (by decide) cel_pr rfl) rfl rfl hl.1 rfl (lv_room (Nat.le_of_ble_eq_true rfl)) dX5_tollWith_38 ⟨Nat.zero_le _, Nat.zero_le _⟩) hS (fun x h => ts_Aup hS.1 h) (fun r8 u9 H locs hp10 hW _ _ hS => ?_)
          have hp10r : r8 = b2i (gcB u.1 k j s_) := hp10.1
          have hp10u : u9 = u := hp10.2
          rw [hp10r]
          rw [hp10u] at hW
          refine lv_if_ne (tgt := 58) hx hb dX5_tollWith_41 (by decide) (fun c11 => ?_) (fun c11 => ?_)
          · skip
            have c11 := ts_bt c11
            refine lv_iload_n hx hb dX5_tollWith_58 rfl (lv_at hl 2 rfl) ?_
            refine lv_iconst (v := nI 2) hx hb dX5_tollWith_59 (by decide) ?_
            refine lv_aload_n hx hb dX5_tollWith_60 rfl (lv_at hl 3 rfl) ?_
            refine ts_get (C := RX5) (T := TX5) (N := 4) (v := .ref (b + 37)) hx hb hts hi5 hown hK hW 0 (by decide) cel_st rfl 2 (by decide) (List.mem_of_getElem? (i := 3) rfl) rfl dX5_tollWith_61 ?_
            refine ts_get (C := RX0) (T := TX0) (N := 6) (v := .ref (b + 38)) hx hb hts hi0 hown hK hW 37 (by decide) cel_bk rfl 0 (by decide) (List.mem_of_getElem? (i := 4) rfl) rfl dX5_tollWith_64 ?_
            refine lv_iload_n hx hb dX5_tollWith_67 rfl (lv_at hl 1 rfl) ?_
            refine ts_retI (va_runS (As := [.int (zI k)]) (rest := [.ref (b + 38), .int (nI 2), .int (nI (tolN u.1 u.2.2.2.2.2 s_ k + tolR u.1 u.2.2.2.2.2 s_ k j))]) ⟨hx, hb, hml, hown, hts⟩ (k_X5_rowOf l D q b H.size u k) (va_cwS 1 hts gX5_tollWith_X5_rowOf rfl rfl rfl (by decide +kernel) ⟨Nat.le_of_ble_eq_true rfl, Nat.le_of_ble_eq_true rfl⟩) (ts_preS hK hN hW) rfl rfl hl.1 rfl (lv_room (Nat.le_of_ble_eq_true rfl)) dX5_tollWith_68 ⟨Nat.zero_le _, Nat.zero_le _⟩) hS (fun x h => ts_Aup hS.1 h) (fun r12 u13 H locs hp14 hW _ _ hS => ?_)
            have hp14r : r12 = nI k := hp14.1
            have hp14u : u13 = u := hp14.2
            rw [hp14r]
            rw [hp14u] at hW
            refine ts_aald (a := b + (39 + k)) hx hb hK hW 38 (by decide) 2 cel_bc rfl rfl (by omega) (by decide) rfl dX5_tollWith_71 ?_
            refine lv_iload hx hb dX5_tollWith_72 (lv_at hl 0 rfl) ?_
            refine ts_iald (v := nI (u.2.2.2.2.2 k j)) hx hb hK hW (39 + k) (by omega) 0 (cel_bw (by omega)) rfl (by omega) (by decide) rfl dX5_tollWith_74 ?_
            refine ts_imul (v := nI (2 * (u.2.2.2.2.2 k j))) hx hb dX5_tollWith_75 (pk_mul _ _) ?_
            refine ts_iadd (v := nI ((tolN u.1 u.2.2.2.2.2 s_ k + tolR u.1 u.2.2.2.2.2 s_ k j) + (2 * (u.2.2.2.2.2 k j)))) hx hb dX5_tollWith_76 (nI_add _ _) ?_
            refine lv_istore_n (lv' := [(2, .int (nI ((tolN u.1 u.2.2.2.2.2 s_ k + tolR u.1 u.2.2.2.2.2 s_ k j) + (2 * (u.2.2.2.2.2 k j))))), (4, .int (nI j)), (3, .int (zI k)), (0, .ref (b + 0)), (1, .int (nI s_))]) hx hb dX5_tollWith_77 rfl hl (by decide) rfl (fun ls hl => ?_)
            refine lv_iinc (v := nI (j + 1)) (lv' := [(4, .int (nI (j + 1))), (2, .int (nI ((tolN u.1 u.2.2.2.2.2 s_ k + tolR u.1 u.2.2.2.2.2 s_ k j) + (2 * (u.2.2.2.2.2 k j))))), (3, .int (zI k)), (0, .ref (b + 0)), (1, .int (nI s_))]) hx hb dX5_tollWith_78 hl (k := 1) rfl (nI_add j 1) (by decide) rfl (fun ls hl => ?_)
            refine lv_goto (tgt := 18) hx hb dX5_tollWith_81 (by decide) ?_
            have e15 : tolN u.1 u.2.2.2.2.2 s_ k + tolR u.1 u.2.2.2.2.2 s_ k (j + 1) = (tolN u.1 u.2.2.2.2.2 s_ k + tolR u.1 u.2.2.2.2.2 s_ k j) + (2 * (u.2.2.2.2.2 k j)) := by first | rfl | (simp [tolR, *]; done) | (simp [tolR, *]; omega)
            exact ih5 (j + 1) (by omega) (by omega) H locs hW hS ls (show lv_has ls 5 [(4, .int (nI (j + 1))), (3, .int (zI k)), (2, .int (nI (tolN u.1 u.2.2.2.2.2 s_ k + tolR u.1 u.2.2.2.2.2 s_ k (j + 1)))), (0, .ref (b + 0)), (1, .int (nI s_))] from by rw [e15]; exact lv_sub hl [0, 2, 1, 3, 4] rfl)
          have c11 := ts_bf c11
          refine lv_aload_n hx hb dX5_tollWith_44 rfl (lv_at hl 3 rfl) ?_
          refine ts_get (C := RX5) (T := TX5) (N := 4) (v := .ref (b + 1)) hx hb hts hi5 hown hK hW 0 (by decide) cel_st rfl 0 (by decide) (List.mem_of_getElem? (i := 1) rfl) rfl dX5_tollWith_45 ?_
          refine lv_iload_n hx hb dX5_tollWith_48 rfl (lv_at hl 1 rfl) ?_
          refine lv_iload hx hb dX5_tollWith_49 (lv_at hl 0 rfl) ?_
          refine lv_iload_n hx hb dX5_tollWith_51 rfl (lv_at hl 4 rfl) ?_
          refine ts_retI (va_runV (As := [.int (zI k), .int (nI j), .int (nI s_)]) (rest := []) ⟨hx, hb, hml, hown, hts⟩ (k_X3_guardsGive l D q b H.size u k j s_ hwf (by omega) (by omega) (by omega)) (cwV 3 hts gX5_tollWith_X3_guardsGive rfl rfl rfl (by decide +kernel) ⟨Nat.le_of_ble_eq_true rfl, Nat.le_of_ble_eq_true rfl⟩) (ts_preV hK hN hW 1 (by decide) cel_pr rfl) rfl rfl hl.1 rfl (lv_room (Nat.le_of_ble_eq_true rfl)) dX5_tollWith_52 ⟨Nat.zero_le _, Nat.zero_le _⟩) hS (fun x h => ts_Aup hS.1 h) (fun r16 u17 H locs hp18 hW _ _ hS => ?_)
          have hp18r : r16 = b2i (ggB u.1 k j s_) := hp18.1
          have hp18u : u17 = u := hp18.2
          rw [hp18r]
          rw [hp18u] at hW
          refine lv_if_eq (tgt := 78) hx hb dX5_tollWith_55 (by decide) (fun c19 => ?_) (fun c19 => ?_)
          · skip
            have c19 := ts_bf c19
            refine lv_iinc (v := nI (j + 1)) (lv' := [(4, .int (nI (j + 1))), (3, .int (zI k)), (2, .int (nI (tolN u.1 u.2.2.2.2.2 s_ k + tolR u.1 u.2.2.2.2.2 s_ k j))), (0, .ref (b + 0)), (1, .int (nI s_))]) hx hb dX5_tollWith_78 hl (k := 0) rfl (nI_add j 1) (by decide) rfl (fun ls hl => ?_)
            refine lv_goto (tgt := 18) hx hb dX5_tollWith_81 (by decide) ?_
            have e20 : tolN u.1 u.2.2.2.2.2 s_ k + tolR u.1 u.2.2.2.2.2 s_ k (j + 1) = tolN u.1 u.2.2.2.2.2 s_ k + tolR u.1 u.2.2.2.2.2 s_ k j := by first | rfl | (simp [tolR, *]; done) | (simp [tolR, *]; omega)
            exact ih5 (j + 1) (by omega) (by omega) H locs hW hS ls (show lv_has ls 5 [(4, .int (nI (j + 1))), (3, .int (zI k)), (2, .int (nI (tolN u.1 u.2.2.2.2.2 s_ k + tolR u.1 u.2.2.2.2.2 s_ k (j + 1)))), (0, .ref (b + 0)), (1, .int (nI s_))] from by rw [e20]; exact lv_sub hl [0, 1, 2, 3, 4] rfl)
          have c19 := ts_bt c19
          refine lv_iload_n hx hb dX5_tollWith_58 rfl (lv_at hl 2 rfl) ?_
          refine lv_iconst (v := nI 2) hx hb dX5_tollWith_59 (by decide) ?_
          refine lv_aload_n hx hb dX5_tollWith_60 rfl (lv_at hl 3 rfl) ?_
          refine ts_get (C := RX5) (T := TX5) (N := 4) (v := .ref (b + 37)) hx hb hts hi5 hown hK hW 0 (by decide) cel_st rfl 2 (by decide) (List.mem_of_getElem? (i := 3) rfl) rfl dX5_tollWith_61 ?_
          refine ts_get (C := RX0) (T := TX0) (N := 6) (v := .ref (b + 38)) hx hb hts hi0 hown hK hW 37 (by decide) cel_bk rfl 0 (by decide) (List.mem_of_getElem? (i := 4) rfl) rfl dX5_tollWith_64 ?_
          refine lv_iload_n hx hb dX5_tollWith_67 rfl (lv_at hl 1 rfl) ?_
          refine ts_retI (va_runS (As := [.int (zI k)]) (rest := [.ref (b + 38), .int (nI 2), .int (nI (tolN u.1 u.2.2.2.2.2 s_ k + tolR u.1 u.2.2.2.2.2 s_ k j))]) ⟨hx, hb, hml, hown, hts⟩ (k_X5_rowOf l D q b H.size u k) (va_cwS 1 hts gX5_tollWith_X5_rowOf rfl rfl rfl (by decide +kernel) ⟨Nat.le_of_ble_eq_true rfl, Nat.le_of_ble_eq_true rfl⟩) (ts_preS hK hN hW) rfl rfl hl.1 rfl (lv_room (Nat.le_of_ble_eq_true rfl)) dX5_tollWith_68 ⟨Nat.zero_le _, Nat.zero_le _⟩) hS (fun x h => ts_Aup hS.1 h) (fun r21 u22 H locs hp23 hW _ _ hS => ?_)
          have hp23r : r21 = nI k := hp23.1
          have hp23u : u22 = u := hp23.2
          rw [hp23r]
          rw [hp23u] at hW
          refine ts_aald (a := b + (39 + k)) hx hb hK hW 38 (by decide) 2 cel_bc rfl rfl (by omega) (by decide) rfl dX5_tollWith_71 ?_
          refine lv_iload hx hb dX5_tollWith_72 (lv_at hl 0 rfl) ?_
          refine ts_iald (v := nI (u.2.2.2.2.2 k j)) hx hb hK hW (39 + k) (by omega) 0 (cel_bw (by omega)) rfl (by omega) (by decide) rfl dX5_tollWith_74 ?_
          refine ts_imul (v := nI (2 * (u.2.2.2.2.2 k j))) hx hb dX5_tollWith_75 (pk_mul _ _) ?_
          refine ts_iadd (v := nI ((tolN u.1 u.2.2.2.2.2 s_ k + tolR u.1 u.2.2.2.2.2 s_ k j) + (2 * (u.2.2.2.2.2 k j)))) hx hb dX5_tollWith_76 (nI_add _ _) ?_
          refine lv_istore_n (lv' := [(2, .int (nI ((tolN u.1 u.2.2.2.2.2 s_ k + tolR u.1 u.2.2.2.2.2 s_ k j) + (2 * (u.2.2.2.2.2 k j))))), (4, .int (nI j)), (3, .int (zI k)), (0, .ref (b + 0)), (1, .int (nI s_))]) hx hb dX5_tollWith_77 rfl hl (by decide) rfl (fun ls hl => ?_)
          refine lv_iinc (v := nI (j + 1)) (lv' := [(4, .int (nI (j + 1))), (2, .int (nI ((tolN u.1 u.2.2.2.2.2 s_ k + tolR u.1 u.2.2.2.2.2 s_ k j) + (2 * (u.2.2.2.2.2 k j))))), (3, .int (zI k)), (0, .ref (b + 0)), (1, .int (nI s_))]) hx hb dX5_tollWith_78 hl (k := 1) rfl (nI_add j 1) (by decide) rfl (fun ls hl => ?_)
          refine lv_goto (tgt := 18) hx hb dX5_tollWith_81 (by decide) ?_
          have e24 : tolN u.1 u.2.2.2.2.2 s_ k + tolR u.1 u.2.2.2.2.2 s_ k (j + 1) = (tolN u.1 u.2.2.2.2.2 s_ k + tolR u.1 u.2.2.2.2.2 s_ k j) + (2 * (u.2.2.2.2.2 k j)) := by first | rfl | (simp [tolR, *]; done) | (simp [tolR, *]; omega)
          exact ih5 (j + 1) (by omega) (by omega) H locs hW hS ls (show lv_has ls 5 [(4, .int (nI (j + 1))), (3, .int (zI k)), (2, .int (nI (tolN u.1 u.2.2.2.2.2 s_ k + tolR u.1 u.2.2.2.2.2 s_ k (j + 1)))), (0, .ref (b + 0)), (1, .int (nI s_))] from by rw [e24]; exact lv_sub hl [0, 2, 1, 3, 4] rfl)
      have e25 : tolN u.1 u.2.2.2.2.2 s_ k + tolR u.1 u.2.2.2.2.2 s_ k 0 = tolN u.1 u.2.2.2.2.2 s_ k := by first | rfl | (simp [tolR, *]; done) | (simp [tolR, *]; omega)
      exact key4 _ 0 (by omega) (Nat.lt_succ_self _) _ _ hW hS ls (show lv_has ls 5 [(4, .int (nI 0)), (3, .int (zI k)), (2, .int (nI (tolN u.1 u.2.2.2.2.2 s_ k + tolR u.1 u.2.2.2.2.2 s_ k 0))), (0, .ref (b + 0)), (1, .int (nI s_))] from by rw [e25]; exact lv_sub hl [0, 1, 2, 3, 4] rfl)
  have e26 : zI 0 = (-1) := by first | rfl | (show tolN u.1 _ s_ k + tolR u.1 _ s_ k (u.1.1 1) = _; rw [show u.1.1 1 = j by omega])
  have e27 : tolN u.1 u.2.2.2.2.2 s_ 0 = 0 := by first | rfl | (show tolN u.1 _ s_ k + tolR u.1 _ s_ k (u.1.1 1) = _; rw [show u.1.1 1 = j by omega])
  exact key1 _ 0 (by omega) (Nat.lt_succ_self _) _ _ hW hS ls (show lv_has ls 5 [(3, .int (zI 0)), (2, .int (nI (tolN u.1 u.2.2.2.2.2 s_ 0))), (0, .ref (b + 0)), (1, .int (nI s_))] from by rw [e26, e27]; exact lv_sub hl [0, 1, 2, 3] rfl)
set_option maxHeartbeats 4000000 in
set_option maxRecDepth 100000 in
theorem k_X5_gainOf (l : Launch) (D : va_G) (q : CQ) (b sz : Nat) (u : ST) (f : Nat) (hwf : WP u.1) (hf : f < 10) : Met l yX5_gainOf wsX5_gainOf ({ frames := 3, cells := 0, slots := 0, locals := 68 } : Room) (va_Pc [.ref (b + 0), .int (nI f)] (Pr D q b sz u)) (cI D q b sz (fun r u' => r = gainI u.1 u.2.2.2.2.2 f ∧ u' = u)) 0 0 (ts_A b 52 sz) := by
  refine ts_met (by decide) rfl (Nat.le_of_ble_eq_true rfl) ?_
  intro p e s m below meth c C0 hX ls hl
  obtain ⟨hsz, hW, hK, hN⟩ := hX
  subst hsz
  obtain ⟨hx, hb, hml, hown, hts, -, -, -⟩ := id C0
  have hW : ts_W D b 52 (cel q b u) s.heap := hW
  have hS : va_S (ts_A b 52 s.heap.size) s.heap s.heap [] := va_S.rf
  have hB : ∀ k, k < 52 → ts_A b 52 s.heap.size (b + k) := fun k hk => ts_Ain hk
  have hi3 : ∀ w ∈ wsX30, w ∈ wsX5_gainOf := ts_lays 35 rfl
  have hi5 : ∀ w ∈ wsX50, w ∈ wsX5_gainOf := ts_lays 31 rfl
  have hl : lv_has ls 2 [(0, .ref (b + 0)), (1, .int (nI f))] := hl
  have hs := hwf.sz
  have hty := hwf.ty
  have hset := setB_lt hty hf
  refine lv_aload_n hx hb dX5_gainOf_0 rfl (lv_at hl 0 rfl) ?_
  refine lv_aload_n hx hb dX5_gainOf_1 rfl (lv_at hl 0 rfl) ?_
  refine ts_get (C := RX5) (T := TX5) (N := 4) (v := .ref (b + 1)) hx hb hts hi5 hown hK hW 0 (by decide) cel_st rfl 0 (by decide) (List.mem_of_getElem? (i := 1) rfl) rfl dX5_gainOf_2 ?_
  refine ts_get (C := RX3) (T := TX3) (N := 5) (v := .int (nI (u.1.1 2))) hx hb hts hi3 hown hK hW 1 (by decide) cel_pr rfl 3 (by decide) (List.mem_of_getElem? (i := 2) rfl) rfl dX5_gainOf_5 ?_
  refine ts_retI (va_runV (As := [.int (nI (u.1.1 2))]) (rest := []) ⟨hx, hb, hml, hown, hts⟩ (k_X5_tollWith l D q b s.heap.size u (u.1.1 2) hwf (by omega)) (cwV 1 hts gX5_gainOf_X5_tollWith rfl rfl rfl (by decide +kernel) ⟨Nat.le_of_ble_eq_true rfl, Nat.le_of_ble_eq_true rfl⟩) (ts_preV hK hN hW 0 (by decide) cel_st rfl) rfl rfl hl.1 rfl (lv_room (Nat.le_of_ble_eq_true rfl)) dX5_gainOf_8 ⟨Nat.zero_le _, Nat.zero_le _⟩) hS (fun x h => ts_Aup hS.1 h) (fun r1 u2 H locs hp3 hW _ _ hS => ?_)
  have hp3r : r1 = nI (tolA u.1 u.2.2.2.2.2 (u.1.1 2)) := hp3.1
  have hp3u : u2 = u := hp3.2
  rw [hp3r]
  rw [hp3u] at hW
  refine lv_aload_n hx hb dX5_gainOf_11 rfl (lv_at hl 0 rfl) ?_
  refine lv_aload_n hx hb dX5_gainOf_12 rfl (lv_at hl 0 rfl) ?_
  refine ts_get (C := RX5) (T := TX5) (N := 4) (v := .ref (b + 1)) hx hb hts hi5 hown hK hW 0 (by decide) cel_st rfl 0 (by decide) (List.mem_of_getElem? (i := 1) rfl) rfl dX5_gainOf_13 ?_
  refine ts_get (C := RX3) (T := TX3) (N := 5) (v := .int (nI (u.1.1 2))) hx hb hts hi3 hown hK hW 1 (by decide) cel_pr rfl 3 (by decide) (List.mem_of_getElem? (i := 2) rfl) rfl dX5_gainOf_16 ?_
  refine lv_iload_n hx hb dX5_gainOf_19 rfl (lv_at hl 1 rfl) ?_
  refine ts_retI (va_runS (As := [.int (nI (u.1.1 2)), .int (nI f)]) (rest := [.ref (b + 0), .int (nI (tolA u.1 u.2.2.2.2.2 (u.1.1 2)))]) ⟨hx, hb, hml, hown, hts⟩ (k_X5_with l D q b H.size u (u.1.1 2) f (by omega)) (va_cwS 2 hts gX5_gainOf_X5_with rfl rfl rfl (by decide +kernel) ⟨Nat.le_of_ble_eq_true rfl, Nat.le_of_ble_eq_true rfl⟩) (ts_preS hK hN hW) rfl rfl hl.1 rfl (lv_room (Nat.le_of_ble_eq_true rfl)) dX5_gainOf_20 ⟨Nat.zero_le _, Nat.zero_le _⟩) hS (fun x h => ts_Aup hS.1 h) (fun r4 u5 H locs hp6 hW _ _ hS => ?_)
  have hp6r : r4 = nI (setB (u.1.1 2) f) := hp6.1
  have hp6u : u5 = u := hp6.2
  rw [hp6r]
  rw [hp6u] at hW
  refine ts_retI (va_runV (As := [.int (nI (setB (u.1.1 2) f))]) (rest := [.int (nI (tolA u.1 u.2.2.2.2.2 (u.1.1 2)))]) ⟨hx, hb, hml, hown, hts⟩ (k_X5_tollWith l D q b H.size u (setB (u.1.1 2) f) hwf (by omega)) (cwV 1 hts gX5_gainOf_X5_tollWith rfl rfl rfl (by decide +kernel) ⟨Nat.le_of_ble_eq_true rfl, Nat.le_of_ble_eq_true rfl⟩) (ts_preV hK hN hW 0 (by decide) cel_st rfl) rfl rfl hl.1 rfl (lv_room (Nat.le_of_ble_eq_true rfl)) dX5_gainOf_23 ⟨Nat.zero_le _, Nat.zero_le _⟩) hS (fun x h => ts_Aup hS.1 h) (fun r7 u8 H locs hp9 hW _ _ hS => ?_)
  have hp9r : r7 = nI (tolA u.1 u.2.2.2.2.2 (setB (u.1.1 2) f)) := hp9.1
  have hp9u : u8 = u := hp9.2
  rw [hp9r]
  rw [hp9u] at hW
  refine ts_isub (v := (nI (tolA u.1 u.2.2.2.2.2 (u.1.1 2))) - (nI (tolA u.1 u.2.2.2.2.2 (setB (u.1.1 2) f)))) hx hb dX5_gainOf_26 rfl ?_
  exact ts_iret (u := u) (v := (nI (tolA u.1 u.2.2.2.2.2 (u.1.1 2))) - (nI (tolA u.1 u.2.2.2.2.2 (setB (u.1.1 2) f)))) C0 hW hS (by exact ⟨rfl, rfl⟩) dX5_gainOf_27
set_option maxHeartbeats 4000000 in
set_option maxRecDepth 100000 in
theorem k_X5_nextToType (l : Launch) (D : va_G) (q : CQ) (b sz : Nat) (u : ST)  (hwf : WP u.1) : Met l yX5_nextToType wsX5_nextToType ({ frames := 4, cells := 0, slots := 0, locals := 89 } : Room) (va_Pc [.ref (b + 0)] (Pr D q b sz u)) (cI D q b sz (fun r u' => r = zI (nextN u.1 u.2.2.2.2.2) ∧ ∃ F : FT, u' = (u.1, F, u.2.2))) 0 0 (ts_A b 52 sz) := by
  refine ts_met (by decide) rfl (Nat.le_of_ble_eq_true rfl) ?_
  intro p e s m below meth c C0 hX ls hl
  obtain ⟨hsz, hW, hK, hN⟩ := hX
  subst hsz
  obtain ⟨hx, hb, hml, hown, hts, -, -, -⟩ := id C0
  have hW : ts_W D b 52 (cel q b u) s.heap := hW
  have hS : va_S (ts_A b 52 s.heap.size) s.heap s.heap [] := va_S.rf
  have hB : ∀ k, k < 52 → ts_A b 52 s.heap.size (b + k) := fun k hk => ts_Ain hk
  have hi3 : ∀ w ∈ wsX30, w ∈ wsX5_nextToType := ts_lays 82 rfl
  have hi5 : ∀ w ∈ wsX50, w ∈ wsX5_nextToType := ts_lays 78 rfl
  have hl : lv_has ls 6 [(0, .ref (b + 0))] := hl
  have hs := hwf.sz
  have hty := hwf.ty
  have hop : openN u.1 < 1024 := diffN_lt (n := 10) (typN_lt u.1 _ hs)
  refine lv_aload_n hx hb dX5_nextToType_0 rfl (lv_at hl 0 rfl) ?_
  refine ts_get (C := RX5) (T := TX5) (N := 4) (v := .ref (b + 1)) hx hb hts hi5 hown hK hW 0 (by decide) cel_st rfl 0 (by decide) (List.mem_of_getElem? (i := 1) rfl) rfl dX5_nextToType_1 ?_
  refine ts_retI (va_runV (As := []) (rest := []) ⟨hx, hb, hml, hown, hts⟩ (k_X3_typable l D q b s.heap.size u hwf) (cwV 0 hts gX5_nextToType_X3_typable rfl rfl rfl (by decide +kernel) ⟨Nat.le_of_ble_eq_true rfl, Nat.le_of_ble_eq_true rfl⟩) (ts_preV hK hN hW 1 (by decide) cel_pr rfl) rfl rfl hl.1 rfl (lv_room (Nat.le_of_ble_eq_true rfl)) dX5_nextToType_4 ⟨Nat.zero_le _, Nat.zero_le _⟩) hS (fun x h => ts_Aup hS.1 h) (fun r1 u2 H locs hp3 hW _ _ hS => ?_)
  obtain ⟨hp3r, F4, hp3u⟩ := hp3
  have hp3r : r1 = nI (typN u.1 (u.1.1 1)) := hp3r
  have hp3u : u2 = (u.1, F4, u.2.2.1, u.2.2.2) := hp3u
  rw [hp3r]
  rw [hp3u] at hW
  refine lv_aload_n hx hb dX5_nextToType_7 rfl (lv_at hl 0 rfl) ?_
  refine ts_get (C := RX5) (T := TX5) (N := 4) (v := .ref (b + 1)) hx hb hts hi5 hown hK hW 0 (by decide) cel_st rfl 0 (by decide) (List.mem_of_getElem? (i := 1) rfl) rfl dX5_nextToType_8 ?_
  refine ts_get (C := RX3) (T := TX3) (N := 5) (v := .int (nI (u.1.1 2))) hx hb hts hi3 hown hK hW 1 (by decide) cel_pr rfl 3 (by decide) (List.mem_of_getElem? (i := 2) rfl) rfl dX5_nextToType_11 ?_
  refine lv_iconst (v := (-1)) hx hb dX5_nextToType_14 (by decide) ?_
  refine ts_ixor (v := (nI (u.1.1 2)) ^^^ (-1)) hx hb dX5_nextToType_15 rfl ?_
  refine ts_iand (v := nI (openN u.1)) hx hb dX5_nextToType_16 (ts_diff _ _) ?_
  refine lv_istore_n (lv' := [(1, .int (nI (openN u.1))), (0, .ref (b + 0))]) hx hb dX5_nextToType_17 rfl hl (by decide) rfl (fun ls hl => ?_)
  refine lv_iconst (v := (-1)) hx hb dX5_nextToType_18 (by decide) ?_
  refine lv_istore_n (lv' := [(2, .int (-1)), (1, .int (nI (openN u.1))), (0, .ref (b + 0))]) hx hb dX5_nextToType_19 rfl hl (by decide) rfl (fun ls hl => ?_)
  refine lv_iconst (v := nI 0) hx hb dX5_nextToType_20 (by decide) ?_
  refine lv_istore_n (lv' := [(3, .int (nI 0)), (2, .int (-1)), (1, .int (nI (openN u.1))), (0, .ref (b + 0))]) hx hb dX5_nextToType_21 rfl hl (by decide) rfl (fun ls hl => ?_)
  refine lv_iconst (v := nI 0) hx hb dX5_nextToType_22 (by decide) ?_
  refine lv_istore (lv' := [(4, .int (nI 0)), (3, .int (nI 0)), (2, .int (-1)), (1, .int (nI (openN u.1))), (0, .ref (b + 0))]) hx hb dX5_nextToType_23 hl (by decide) rfl (fun ls hl => ?_)
  have key5 : ∀ (fu : Nat) (k : Nat), (k ≤ u.1.1 1) → (u.1.1 1 - k) < fu → ∀ (H : Heap) (locs : List Loc), ts_W D b 52 (cel q b (u.1, F4, u.2.2.1, u.2.2.2)) H → va_S (ts_A b 52 s.heap.size) s.heap H locs → ∀ ls : Array Slot, lv_has ls 6 [(4, .int (nI k)), (3, .int ((nxtN u.1 u.2.2.2.2.2 (openN u.1) k).2)), (2, .int (zI ((nxtN u.1 u.2.2.2.2.2 (openN u.1) k).1))), (1, .int (nI (openN u.1))), (0, .ref (b + 0))] → W p l e ({ frames := 4, cells := 0, slots := 0, locals := 89 } : Room) s m [.ref (b + 0)].toArray below meth c H locs 0 0 (MQ below (cI D q b s.heap.size (fun r u' => r = zI (nextN u.1 u.2.2.2.2.2) ∧ ∃ F : FT, u' = (u.1, F, u.2.2))) [.ref (b + 0)].toArray s 0 0 (ts_A b 52 s.heap.size)) (F0 m 25 ls []) := by
    intro fu
    induction fu with
    | zero => intro k _ hn; exact absurd hn (Nat.not_lt_zero _)
    | succ fu ih6 =>
      intro k hk hn H locs hW hS ls hl
      have hnx := nxtN_le u.1 u.2.2.2.2.2 (openN u.1) k
      refine lv_iload hx hb dX5_nextToType_25 (lv_at hl 0 rfl) ?_
      refine lv_aload_n hx hb dX5_nextToType_27 rfl (lv_at hl 4 rfl) ?_
      refine ts_get (C := RX5) (T := TX5) (N := 4) (v := .ref (b + 1)) hx hb hts hi5 hown hK hW 0 (by decide) cel_st rfl 0 (by decide) (List.mem_of_getElem? (i := 1) rfl) rfl dX5_nextToType_28 ?_
      refine ts_get (C := RX3) (T := TX3) (N := 5) (v := .int (nI (u.1.1 1))) hx hb hts hi3 hown hK hW 1 (by decide) cel_pr rfl 2 (by decide) (List.mem_of_getElem? (i := 3) rfl) rfl dX5_nextToType_31 ?_
      refine lv_icmp_ge (tgt := 77) hx hb dX5_nextToType_34 (by decide) (fun c7 => ?_) (fun c7 => ?_)
      · skip
        rw [nI_leI (by omega) (by omega)] at c7
        refine lv_iload_n hx hb dX5_nextToType_77 rfl (lv_at hl 2 rfl) ?_
        exact ts_iret (u := (u.1, F4, u.2.2.1, u.2.2.2)) (v := zI ((nxtN u.1 u.2.2.2.2.2 (openN u.1) k).1)) C0 hW hS (by unfold nextN; rw [show u.1.1 1 = k by omega]; exact ⟨rfl, F4, rfl⟩) dX5_nextToType_78
      rw [nI_leI (by omega) (by omega)] at c7
      refine lv_iload_n hx hb dX5_nextToType_37 rfl (lv_at hl 3 rfl) ?_
      refine lv_iload hx hb dX5_nextToType_38 (lv_at hl 0 rfl) ?_
      refine ts_retI (va_runS (As := [.int (nI (openN u.1)), .int (nI k)]) (rest := []) ⟨hx, hb, hml, hown, hts⟩ (k_X5_has l D q b H.size (u.1, F4, u.2.2.1, u.2.2.2) (openN u.1) k (by omega) (by omega)) (va_cwS 2 hts gX5_nextToType_X5_has rfl rfl rfl (by decide +kernel) ⟨Nat.le_of_ble_eq_true rfl, Nat.le_of_ble_eq_true rfl⟩) (ts_preS hK hN hW) rfl rfl hl.1 rfl (lv_room (Nat.le_of_ble_eq_true rfl)) dX5_nextToType_40 ⟨Nat.zero_le _, Nat.zero_le _⟩) hS (fun x h => ts_Aup hS.1 h) (fun r8 u9 H locs hp10 hW _ _ hS => ?_)
      have hp10r : r8 = b2i (hasB (openN u.1) k) := hp10.1
      have hp10u : u9 = (u.1, F4, u.2.2.1, u.2.2.2) := hp10.2
      rw [hp10r]
      rw [hp10u] at hW
      refine lv_if_eq (tgt := 71) hx hb dX5_nextToType_43 (by decide) (fun c11 => ?_) (fun c11 => ?_)
      · skip
        have c11 := ts_bf c11
        refine lv_iinc (v := nI (k + 1)) (lv' := [(4, .int (nI (k + 1))), (3, .int ((nxtN u.1 u.2.2.2.2.2 (openN u.1) k).2)), (2, .int (zI ((nxtN u.1 u.2.2.2.2.2 (openN u.1) k).1))), (1, .int (nI (openN u.1))), (0, .ref (b + 0))]) hx hb dX5_nextToType_71 hl (k := 0) rfl (nI_add k 1) (by decide) rfl (fun ls hl => ?_)
        refine lv_goto (tgt := 25) hx hb dX5_nextToType_74 (by decide) ?_
        have e12 : (nxtN u.1 u.2.2.2.2.2 (openN u.1) (k + 1)).2 = (nxtN u.1 u.2.2.2.2.2 (openN u.1) k).2 := by first | rfl | (simp only [nxtN]; (repeat' split) <;> first | rfl | contradiction | (exfalso; omega) | (exfalso; simp_all; done))
        have e13 : zI ((nxtN u.1 u.2.2.2.2.2 (openN u.1) (k + 1)).1) = zI ((nxtN u.1 u.2.2.2.2.2 (openN u.1) k).1) := by first | rfl | (simp only [nxtN]; (repeat' split) <;> first | rfl | contradiction | (exfalso; omega) | (exfalso; simp_all; done))
        exact ih6 (k + 1) (by omega) (by omega) H locs hW hS ls (show lv_has ls 6 [(4, .int (nI (k + 1))), (3, .int ((nxtN u.1 u.2.2.2.2.2 (openN u.1) (k + 1)).2)), (2, .int (zI ((nxtN u.1 u.2.2.2.2.2 (openN u.1) (k + 1)).1))), (1, .int (nI (openN u.1))), (0, .ref (b + 0))] from by rw [e12, e13]; exact lv_sub hl [0, 1, 2, 3, 4] rfl)
      have c11 := ts_bt c11
      refine lv_aload_n hx hb dX5_nextToType_46 rfl (lv_at hl 4 rfl) ?_
      refine lv_iload hx hb dX5_nextToType_47 (lv_at hl 0 rfl) ?_
      refine ts_retI (va_runV (As := [.int (nI k)]) (rest := []) ⟨hx, hb, hml, hown, hts⟩ (k_X5_gainOf l D q b H.size (u.1, F4, u.2.2.1, u.2.2.2) k hwf (by omega)) (cwV 1 hts gX5_nextToType_X5_gainOf rfl rfl rfl (by decide +kernel) ⟨Nat.le_of_ble_eq_true rfl, Nat.le_of_ble_eq_true rfl⟩) (ts_preV hK hN hW 0 (by decide) cel_st rfl) rfl rfl hl.1 rfl (lv_room (Nat.le_of_ble_eq_true rfl)) dX5_nextToType_49 ⟨Nat.zero_le _, Nat.zero_le _⟩) hS (fun x h => ts_Aup hS.1 h) (fun r14 u15 H locs hp16 hW _ _ hS => ?_)
      have hp16r : r14 = gainI u.1 u.2.2.2.2.2 k := hp16.1
      have hp16u : u15 = (u.1, F4, u.2.2.1, u.2.2.2) := hp16.2
      rw [hp16r]
      rw [hp16u] at hW
      refine lv_istore (lv' := [(5, .int (gainI u.1 u.2.2.2.2.2 k)), (4, .int (nI k)), (3, .int ((nxtN u.1 u.2.2.2.2.2 (openN u.1) k).2)), (2, .int (zI ((nxtN u.1 u.2.2.2.2.2 (openN u.1) k).1))), (1, .int (nI (openN u.1))), (0, .ref (b + 0))]) hx hb dX5_nextToType_52 hl (by decide) rfl (fun ls hl => ?_)
      refine lv_iload_n hx hb dX5_nextToType_54 rfl (lv_at hl 3 rfl) ?_
      refine lv_iconst (v := (-1)) hx hb dX5_nextToType_55 (by decide) ?_
      refine lv_icmp_eq (tgt := 65) hx hb dX5_nextToType_56 (by decide) (fun c17 => ?_) (fun c17 => ?_)
      · skip
        rw [zI_m1 (by omega)] at c17
        refine lv_iload hx hb dX5_nextToType_65 (lv_at hl 1 rfl) ?_
        refine lv_istore_n (lv' := [(2, .int (nI k)), (5, .int (gainI u.1 u.2.2.2.2.2 k)), (4, .int (nI k)), (3, .int ((nxtN u.1 u.2.2.2.2.2 (openN u.1) k).2)), (1, .int (nI (openN u.1))), (0, .ref (b + 0))]) hx hb dX5_nextToType_67 rfl hl (by decide) rfl (fun ls hl => ?_)
        refine lv_iload hx hb dX5_nextToType_68 (lv_at hl 1 rfl) ?_
        refine lv_istore_n (lv' := [(3, .int (gainI u.1 u.2.2.2.2.2 k)), (2, .int (nI k)), (5, .int (gainI u.1 u.2.2.2.2.2 k)), (4, .int (nI k)), (1, .int (nI (openN u.1))), (0, .ref (b + 0))]) hx hb dX5_nextToType_70 rfl hl (by decide) rfl (fun ls hl => ?_)
        refine lv_iinc (v := nI (k + 1)) (lv' := [(4, .int (nI (k + 1))), (3, .int (gainI u.1 u.2.2.2.2.2 k)), (2, .int (nI k)), (5, .int (gainI u.1 u.2.2.2.2.2 k)), (1, .int (nI (openN u.1))), (0, .ref (b + 0))]) hx hb dX5_nextToType_71 hl (k := 3) rfl (nI_add k 1) (by decide) rfl (fun ls hl => ?_)
        refine lv_goto (tgt := 25) hx hb dX5_nextToType_74 (by decide) ?_
        have e18 : (nxtN u.1 u.2.2.2.2.2 (openN u.1) (k + 1)).2 = gainI u.1 u.2.2.2.2.2 k := by first | rfl | (simp only [nxtN]; (repeat' split) <;> first | rfl | contradiction | (exfalso; omega) | (exfalso; simp_all; done))
        have e19 : zI ((nxtN u.1 u.2.2.2.2.2 (openN u.1) (k + 1)).1) = nI k := by first | rfl | (simp only [nxtN]; (repeat' split) <;> first | rfl | contradiction | (exfalso; omega) | (exfalso; simp_all; done))
        exact ih6 (k + 1) (by omega) (by omega) H locs hW hS ls (show lv_has ls 6 [(4, .int (nI (k + 1))), (3, .int ((nxtN u.1 u.2.2.2.2.2 (openN u.1) (k + 1)).2)), (2, .int (zI ((nxtN u.1 u.2.2.2.2.2 (openN u.1) (k + 1)).1))), (1, .int (nI (openN u.1))), (0, .ref (b + 0))] from by rw [e18, e19]; exact lv_sub hl [0, 1, 2, 4, 5] rfl)
      rw [zI_m1 (by omega)] at c17
      refine lv_iload hx hb dX5_nextToType_59 (lv_at hl 0 rfl) ?_
      refine lv_iload_n hx hb dX5_nextToType_61 rfl (lv_at hl 2 rfl) ?_
      refine lv_icmp_le (tgt := 71) hx hb dX5_nextToType_62 (by decide) (fun c20 => ?_) (fun c20 => ?_)
      · skip
        refine lv_iinc (v := nI (k + 1)) (lv' := [(4, .int (nI (k + 1))), (5, .int (gainI u.1 u.2.2.2.2.2 k)), (3, .int ((nxtN u.1 u.2.2.2.2.2 (openN u.1) k).2)), (2, .int (zI ((nxtN u.1 u.2.2.2.2.2 (openN u.1) k).1))), (1, .int (nI (openN u.1))), (0, .ref (b + 0))]) hx hb dX5_nextToType_71 hl (k := 1) rfl (nI_add k 1) (by decide) rfl (fun ls hl => ?_)
        refine lv_goto (tgt := 25) hx hb dX5_nextToType_74 (by decide) ?_
        have e21 : (nxtN u.1 u.2.2.2.2.2 (openN u.1) (k + 1)).2 = (nxtN u.1 u.2.2.2.2.2 (openN u.1) k).2 := by first | rfl | (simp only [nxtN]; (repeat' split) <;> first | rfl | contradiction | (exfalso; omega) | (exfalso; simp_all; done))
        have e22 : zI ((nxtN u.1 u.2.2.2.2.2 (openN u.1) (k + 1)).1) = zI ((nxtN u.1 u.2.2.2.2.2 (openN u.1) k).1) := by first | rfl | (simp only [nxtN]; (repeat' split) <;> first | rfl | contradiction | (exfalso; omega) | (exfalso; simp_all; done))
        exact ih6 (k + 1) (by omega) (by omega) H locs hW hS ls (show lv_has ls 6 [(4, .int (nI (k + 1))), (3, .int ((nxtN u.1 u.2.2.2.2.2 (openN u.1) (k + 1)).2)), (2, .int (zI ((nxtN u.1 u.2.2.2.2.2 (openN u.1) (k + 1)).1))), (1, .int (nI (openN u.1))), (0, .ref (b + 0))] from by rw [e21, e22]; exact lv_sub hl [0, 2, 3, 4, 5] rfl)
      refine lv_iload hx hb dX5_nextToType_65 (lv_at hl 1 rfl) ?_
      refine lv_istore_n (lv' := [(2, .int (nI k)), (5, .int (gainI u.1 u.2.2.2.2.2 k)), (4, .int (nI k)), (3, .int ((nxtN u.1 u.2.2.2.2.2 (openN u.1) k).2)), (1, .int (nI (openN u.1))), (0, .ref (b + 0))]) hx hb dX5_nextToType_67 rfl hl (by decide) rfl (fun ls hl => ?_)
      refine lv_iload hx hb dX5_nextToType_68 (lv_at hl 1 rfl) ?_
      refine lv_istore_n (lv' := [(3, .int (gainI u.1 u.2.2.2.2.2 k)), (2, .int (nI k)), (5, .int (gainI u.1 u.2.2.2.2.2 k)), (4, .int (nI k)), (1, .int (nI (openN u.1))), (0, .ref (b + 0))]) hx hb dX5_nextToType_70 rfl hl (by decide) rfl (fun ls hl => ?_)
      refine lv_iinc (v := nI (k + 1)) (lv' := [(4, .int (nI (k + 1))), (3, .int (gainI u.1 u.2.2.2.2.2 k)), (2, .int (nI k)), (5, .int (gainI u.1 u.2.2.2.2.2 k)), (1, .int (nI (openN u.1))), (0, .ref (b + 0))]) hx hb dX5_nextToType_71 hl (k := 3) rfl (nI_add k 1) (by decide) rfl (fun ls hl => ?_)
      refine lv_goto (tgt := 25) hx hb dX5_nextToType_74 (by decide) ?_
      have e23 : (nxtN u.1 u.2.2.2.2.2 (openN u.1) (k + 1)).2 = gainI u.1 u.2.2.2.2.2 k := by first | rfl | (simp only [nxtN]; (repeat' split) <;> first | rfl | contradiction | (exfalso; omega) | (exfalso; simp_all; done))
      have e24 : zI ((nxtN u.1 u.2.2.2.2.2 (openN u.1) (k + 1)).1) = nI k := by first | rfl | (simp only [nxtN]; (repeat' split) <;> first | rfl | contradiction | (exfalso; omega) | (exfalso; simp_all; done))
      exact ih6 (k + 1) (by omega) (by omega) H locs hW hS ls (show lv_has ls 6 [(4, .int (nI (k + 1))), (3, .int ((nxtN u.1 u.2.2.2.2.2 (openN u.1) (k + 1)).2)), (2, .int (zI ((nxtN u.1 u.2.2.2.2.2 (openN u.1) (k + 1)).1))), (1, .int (nI (openN u.1))), (0, .ref (b + 0))] from by rw [e23, e24]; exact lv_sub hl [0, 1, 2, 4, 5] rfl)
  have e25 : (nxtN u.1 u.2.2.2.2.2 (openN u.1) 0).2 = nI 0 := by first | rfl | (simp only [nxtN]; (repeat' split) <;> first | rfl | contradiction | (exfalso; omega) | (exfalso; simp_all; done))
  have e26 : zI ((nxtN u.1 u.2.2.2.2.2 (openN u.1) 0).1) = (-1) := by first | rfl | (simp only [nxtN]; (repeat' split) <;> first | rfl | contradiction | (exfalso; omega) | (exfalso; simp_all; done))
  exact key5 _ 0 (by omega) (Nat.lt_succ_self _) _ _ hW hS ls (show lv_has ls 6 [(4, .int (nI 0)), (3, .int ((nxtN u.1 u.2.2.2.2.2 (openN u.1) 0).2)), (2, .int (zI ((nxtN u.1 u.2.2.2.2.2 (openN u.1) 0).1))), (1, .int (nI (openN u.1))), (0, .ref (b + 0))] from by rw [e25, e26]; exact lv_sub hl [0, 1, 2, 3, 4] rfl)
