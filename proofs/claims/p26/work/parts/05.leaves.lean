set_option maxHeartbeats 4000000 in
set_option maxRecDepth 100000 in
theorem k_X1_clear (l : Launch) (D : va_G) (q : CQ) (b sz : Nat) (u : ST)   : Met l yX1_clear wsX1_clear ({ frames := 0, cells := 0, slots := 0, locals := 0 } : Room) (va_Pc [.ref (b + 23)] (Pr D q b sz u)) (cV D q b sz (fun u' => u' = (u.1, (0, -1, 0), u.2.2))) 0 0 (ts_A b 52 sz) := by
  refine ts_met (by decide) rfl (Nat.le_of_ble_eq_true rfl) ?_
  intro p e s m below meth c C0 hX ls hl
  obtain ⟨hsz, hW, hK, hN⟩ := hX
  subst hsz
  obtain ⟨hx, hb, hml, hown, hts, -, -, -⟩ := id C0
  have hW : ts_W D b 52 (cel q b u) s.heap := hW
  have hS : va_S (ts_A b 52 s.heap.size) s.heap s.heap [] := va_S.rf
  have hB : ∀ k, k < 52 → ts_A b 52 s.heap.size (b + k) := fun k hk => ts_Ain hk
  have hi1 : ∀ w ∈ wsX10, w ∈ wsX1_clear := ts_lays 4 rfl
  have hl : lv_has ls 1 [(0, .ref (b + 23))] := hl
  refine lv_aload_n hx hb dX1_clear_0 rfl (lv_at hl 0 rfl) ?_
  refine lv_iconst (v := nI 0) hx hb dX1_clear_1 (by decide) ?_
  refine ts_put (C := RX1) (T := TX1) (N := 3) (v := .int (nI 0)) hx hb hts hi1 tyX1 tyX1_ok nmX1 hown hK hW hS hB 23 (by decide) cel_fi rfl 0 (by decide) (List.mem_of_getElem? (i := 1) rfl) rfl rfl rfl (Nat.le_of_ble_eq_true rfl) (cel q b (u.1, (0, u.2.1.2.1, u.2.1.2.2), u.2.2.1, u.2.2.2)) rfl (cel_oF rfl rfl) dX1_clear_2 (fun H locs _ _ hW hS => ?_)
  refine lv_aload_n hx hb dX1_clear_5 rfl (lv_at hl 0 rfl) ?_
  refine lv_iconst (v := (-1)) hx hb dX1_clear_6 (by decide) ?_
  refine ts_put (C := RX1) (T := TX1) (N := 3) (v := .int (-1)) hx hb hts hi1 tyX1 tyX1_ok nmX1 hown hK hW hS hB 23 (by decide) cel_fi rfl 1 (by decide) (List.mem_of_getElem? (i := 2) rfl) rfl rfl rfl (Nat.le_of_ble_eq_true rfl) (cel q b (u.1, (0, (-1), u.2.1.2.2), u.2.2.1, u.2.2.2)) rfl (cel_oF rfl rfl) dX1_clear_7 (fun H locs _ _ hW hS => ?_)
  refine lv_aload_n hx hb dX1_clear_10 rfl (lv_at hl 0 rfl) ?_
  refine lv_iconst (v := nI 0) hx hb dX1_clear_11 (by decide) ?_
  refine ts_put (C := RX1) (T := TX1) (N := 3) (v := .int (nI 0)) hx hb hts hi1 tyX1 tyX1_ok nmX1 hown hK hW hS hB 23 (by decide) cel_fi rfl 2 (by decide) (List.mem_of_getElem? (i := 3) rfl) rfl rfl rfl (Nat.le_of_ble_eq_true rfl) (cel q b (u.1, (0, (-1), 0), u.2.2.1, u.2.2.2)) rfl (cel_oF rfl rfl) dX1_clear_12 (fun H locs _ _ hW hS => ?_)
  exact ts_vret (u := (u.1, (0, (-1), 0), u.2.2.1, u.2.2.2)) C0 hW hS (by exact rfl) dX1_clear_15
set_option maxHeartbeats 4000000 in
set_option maxRecDepth 100000 in
theorem k_X1_need (l : Launch) (D : va_G) (q : CQ) (b sz : Nat) (u : ST) (a t k : Nat) (ha : a ≤ 3) (ht : t ≤ 3) (hk : k < 1000) (hF : u.2.1.1 < 1000) : Met l yX1_need wsX1_need ({ frames := 0, cells := 0, slots := 0, locals := 0 } : Room) (va_Pc [.ref (b + 23), .int (nI a), .int (nI t), .int (nI k)] (Pr D q b sz u)) (cV D q b sz (fun u' => u' = (u.1, needF u.2.1 a t k, u.2.2))) 0 0 (ts_A b 52 sz) := by
  refine ts_met (by decide) rfl (Nat.le_of_ble_eq_true rfl) ?_
  intro p e s m below meth c C0 hX ls hl
  obtain ⟨hsz, hW, hK, hN⟩ := hX
  subst hsz
  obtain ⟨hx, hb, hml, hown, hts, -, -, -⟩ := id C0
  have hW : ts_W D b 52 (cel q b u) s.heap := hW
  have hS : va_S (ts_A b 52 s.heap.size) s.heap s.heap [] := va_S.rf
  have hB : ∀ k, k < 52 → ts_A b 52 s.heap.size (b + k) := fun k hk => ts_Ain hk
  have hi1 : ∀ w ∈ wsX10, w ∈ wsX1_need := ts_lays 4 rfl
  have hl : lv_has ls 4 [(0, .ref (b + 23)), (1, .int (nI a)), (2, .int (nI t)), (3, .int (nI k))] := hl
  refine lv_iload_n hx hb dX1_need_0 rfl (lv_at hl 1 rfl) ?_
  refine lv_iconst (v := nI 3) hx hb dX1_need_1 (by decide) ?_
  refine lv_icmp_eq (tgt := 10) hx hb dX1_need_2 (by decide) (fun c1 => ?_) (fun c1 => ?_)
  · skip
    rw [nI_eq (by omega) (by omega)] at c1
    exact ts_vret (u := u) C0 hW hS (by (show _ = (u.1, needF u.2.1 a t k, u.2.2)); unfold needF; repeat' split; all_goals first | rfl | (exfalso; omega)) dX1_need_10
  rw [nI_eq (by omega) (by omega)] at c1
  refine lv_iload_n hx hb dX1_need_5 rfl (lv_at hl 1 rfl) ?_
  refine lv_iload_n hx hb dX1_need_6 rfl (lv_at hl 2 rfl) ?_
  refine lv_icmp_ne (tgt := 11) hx hb dX1_need_7 (by decide) (fun c2 => ?_) (fun c2 => ?_)
  · skip
    rw [nI_eq (by omega) (by omega)] at c2
    refine lv_iload_n hx hb dX1_need_11 rfl (lv_at hl 2 rfl) ?_
    refine lv_iconst (v := nI 3) hx hb dX1_need_12 (by decide) ?_
    refine lv_icmp_ne (tgt := 27) hx hb dX1_need_13 (by decide) (fun c3 => ?_) (fun c3 => ?_)
    · skip
      rw [nI_eq (by omega) (by omega)] at c3
      refine lv_aload_n hx hb dX1_need_27 rfl (lv_at hl 0 rfl) ?_
      refine ts_get (C := RX1) (T := TX1) (N := 3) (v := .int (nI u.2.1.1)) hx hb hts hi1 hown hK hW 23 (by decide) cel_fi rfl 0 (by decide) (List.mem_of_getElem? (i := 2) rfl) rfl dX1_need_28 ?_
      refine lv_if_ne (tgt := 39) hx hb dX1_need_31 (by decide) (fun c4 => ?_) (fun c4 => ?_)
      · skip
        rw [ts_eq0 (by omega)] at c4
        refine lv_aload_n hx hb dX1_need_39 rfl (lv_at hl 0 rfl) ?_
        refine lv_dup hx hb dX1_need_40 rfl ?_
        refine ts_get (C := RX1) (T := TX1) (N := 3) (v := .int (nI u.2.1.1)) hx hb hts hi1 hown hK hW 23 (by decide) cel_fi rfl 0 (by decide) (List.mem_of_getElem? (i := 2) rfl) rfl dX1_need_41 ?_
        refine lv_iconst (v := nI 1) hx hb dX1_need_44 (by decide) ?_
        refine ts_iadd (v := nI (u.2.1.1 + 1)) hx hb dX1_need_45 (nI_add _ _) ?_
        refine ts_put (C := RX1) (T := TX1) (N := 3) (v := .int (nI (u.2.1.1 + 1))) hx hb hts hi1 tyX1 tyX1_ok nmX1 hown hK hW hS hB 23 (by decide) cel_fi rfl 0 (by decide) (List.mem_of_getElem? (i := 2) rfl) rfl rfl rfl (Nat.le_of_ble_eq_true rfl) (cel q b (u.1, (u.2.1.1 + 1, u.2.1.2.1, u.2.1.2.2), u.2.2.1, u.2.2.2)) rfl (cel_oF rfl rfl) dX1_need_46 (fun H locs _ _ hW hS => ?_)
        exact ts_vret (u := (u.1, (u.2.1.1 + 1, u.2.1.2.1, u.2.1.2.2), u.2.2.1, u.2.2.2)) C0 hW hS (by (show _ = (u.1, needF u.2.1 a t k, u.2.2)); unfold needF; repeat' split; all_goals first | rfl | (exfalso; omega)) dX1_need_49
      rw [ts_eq0 (by omega)] at c4
      refine lv_aload_n hx hb dX1_need_34 rfl (lv_at hl 0 rfl) ?_
      refine lv_iload_n hx hb dX1_need_35 rfl (lv_at hl 3 rfl) ?_
      refine ts_put (C := RX1) (T := TX1) (N := 3) (v := .int (nI k)) hx hb hts hi1 tyX1 tyX1_ok nmX1 hown hK hW hS hB 23 (by decide) cel_fi rfl 1 (by decide) (List.mem_of_getElem? (i := 3) rfl) rfl rfl rfl (Nat.le_of_ble_eq_true rfl) (cel q b (u.1, (u.2.1.1, nI k, u.2.1.2.2), u.2.2.1, u.2.2.2)) rfl (cel_oF rfl rfl) dX1_need_36 (fun H locs _ _ hW hS => ?_)
      refine lv_aload_n hx hb dX1_need_39 rfl (lv_at hl 0 rfl) ?_
      refine lv_dup hx hb dX1_need_40 rfl ?_
      refine ts_get (C := RX1) (T := TX1) (N := 3) (v := .int (nI u.2.1.1)) hx hb hts hi1 hown hK hW 23 (by decide) cel_fi rfl 0 (by decide) (List.mem_of_getElem? (i := 2) rfl) rfl dX1_need_41 ?_
      refine lv_iconst (v := nI 1) hx hb dX1_need_44 (by decide) ?_
      refine ts_iadd (v := nI (u.2.1.1 + 1)) hx hb dX1_need_45 (nI_add _ _) ?_
      refine ts_put (C := RX1) (T := TX1) (N := 3) (v := .int (nI (u.2.1.1 + 1))) hx hb hts hi1 tyX1 tyX1_ok nmX1 hown hK hW hS hB 23 (by decide) cel_fi rfl 0 (by decide) (List.mem_of_getElem? (i := 2) rfl) rfl rfl rfl (Nat.le_of_ble_eq_true rfl) (cel q b (u.1, (u.2.1.1 + 1, nI k, u.2.1.2.2), u.2.2.1, u.2.2.2)) rfl (cel_oF rfl rfl) dX1_need_46 (fun H locs _ _ hW hS => ?_)
      exact ts_vret (u := (u.1, (u.2.1.1 + 1, nI k, u.2.1.2.2), u.2.2.1, u.2.2.2)) C0 hW hS (by (show _ = (u.1, needF u.2.1 a t k, u.2.2)); unfold needF; repeat' split; all_goals first | rfl | (exfalso; omega)) dX1_need_49
    rw [nI_eq (by omega) (by omega)] at c3
    refine lv_aload_n hx hb dX1_need_16 rfl (lv_at hl 0 rfl) ?_
    refine lv_dup hx hb dX1_need_17 rfl ?_
    refine ts_get (C := RX1) (T := TX1) (N := 3) (v := .int (nI u.2.1.2.2)) hx hb hts hi1 hown hK hW 23 (by decide) cel_fi rfl 2 (by decide) (List.mem_of_getElem? (i := 1) rfl) rfl dX1_need_18 ?_
    refine lv_iconst (v := nI 1) hx hb dX1_need_21 (by decide) ?_
    refine ts_iadd (v := nI (u.2.1.2.2 + 1)) hx hb dX1_need_22 (nI_add _ _) ?_
    refine ts_put (C := RX1) (T := TX1) (N := 3) (v := .int (nI (u.2.1.2.2 + 1))) hx hb hts hi1 tyX1 tyX1_ok nmX1 hown hK hW hS hB 23 (by decide) cel_fi rfl 2 (by decide) (List.mem_of_getElem? (i := 1) rfl) rfl rfl rfl (Nat.le_of_ble_eq_true rfl) (cel q b (u.1, (u.2.1.1, u.2.1.2.1, u.2.1.2.2 + 1), u.2.2.1, u.2.2.2)) rfl (cel_oF rfl rfl) dX1_need_23 (fun H locs _ _ hW hS => ?_)
    exact ts_vret (u := (u.1, (u.2.1.1, u.2.1.2.1, u.2.1.2.2 + 1), u.2.2.1, u.2.2.2)) C0 hW hS (by (show _ = (u.1, needF u.2.1 a t k, u.2.2)); unfold needF; repeat' split; all_goals first | rfl | (exfalso; omega)) dX1_need_26
  rw [nI_eq (by omega) (by omega)] at c2
  exact ts_vret (u := u) C0 hW hS (by (show _ = (u.1, needF u.2.1 a t k, u.2.2)); unfold needF; repeat' split; all_goals first | rfl | (exfalso; omega)) dX1_need_10
set_option maxHeartbeats 4000000 in
set_option maxRecDepth 100000 in
theorem k_X1_areNone (l : Launch) (D : va_G) (q : CQ) (b sz : Nat) (u : ST)  (hF : u.2.1.1 < 1000) (hF2 : u.2.1.2.2 < 1000) : Met l yX1_areNone wsX1_areNone ({ frames := 0, cells := 0, slots := 0, locals := 0 } : Room) (va_Pc [.ref (b + 23)] (Pr D q b sz u)) (cI D q b sz (fun r u' => r = b2i (noneF u.2.1) ∧ u' = u)) 0 0 (ts_A b 52 sz) := by
  refine ts_met (by decide) rfl (Nat.le_of_ble_eq_true rfl) ?_
  intro p e s m below meth c C0 hX ls hl
  obtain ⟨hsz, hW, hK, hN⟩ := hX
  subst hsz
  obtain ⟨hx, hb, hml, hown, hts, -, -, -⟩ := id C0
  have hW : ts_W D b 52 (cel q b u) s.heap := hW
  have hS : va_S (ts_A b 52 s.heap.size) s.heap s.heap [] := va_S.rf
  have hB : ∀ k, k < 52 → ts_A b 52 s.heap.size (b + k) := fun k hk => ts_Ain hk
  have hi1 : ∀ w ∈ wsX10, w ∈ wsX1_areNone := ts_lays 3 rfl
  have hl : lv_has ls 1 [(0, .ref (b + 23))] := hl
  refine lv_aload_n hx hb dX1_areNone_0 rfl (lv_at hl 0 rfl) ?_
  refine ts_get (C := RX1) (T := TX1) (N := 3) (v := .int (nI u.2.1.1)) hx hb hts hi1 hown hK hW 23 (by decide) cel_fi rfl 0 (by decide) (List.mem_of_getElem? (i := 1) rfl) rfl dX1_areNone_1 ?_
  refine lv_if_ne (tgt := 18) hx hb dX1_areNone_4 (by decide) (fun c1 => ?_) (fun c1 => ?_)
  · skip
    rw [ts_eq0 (by omega)] at c1
    refine lv_iconst (v := nI 0) hx hb dX1_areNone_18 (by decide) ?_
    exact ts_zret (u := u) (v := nI 0) C0 rfl hW hS (by refine ⟨?_, rfl⟩; rw [show noneF u.2.1 = false from by first | (simp [noneF, *]; done) | (simp [noneF, *]; omega)]; rfl) dX1_areNone_19
  rw [ts_eq0 (by omega)] at c1
  refine lv_aload_n hx hb dX1_areNone_7 rfl (lv_at hl 0 rfl) ?_
  refine ts_get (C := RX1) (T := TX1) (N := 3) (v := .int (nI u.2.1.2.2)) hx hb hts hi1 hown hK hW 23 (by decide) cel_fi rfl 2 (by decide) (List.mem_of_getElem? (i := 2) rfl) rfl dX1_areNone_8 ?_
  refine lv_if_ne (tgt := 18) hx hb dX1_areNone_11 (by decide) (fun c2 => ?_) (fun c2 => ?_)
  · skip
    rw [ts_eq0 (by omega)] at c2
    refine lv_iconst (v := nI 0) hx hb dX1_areNone_18 (by decide) ?_
    exact ts_zret (u := u) (v := nI 0) C0 rfl hW hS (by refine ⟨?_, rfl⟩; rw [show noneF u.2.1 = false from by first | (simp [noneF, *]; done) | (simp [noneF, *]; omega)]; rfl) dX1_areNone_19
  rw [ts_eq0 (by omega)] at c2
  refine lv_iconst (v := nI 1) hx hb dX1_areNone_14 (by decide) ?_
  refine lv_goto (tgt := 19) hx hb dX1_areNone_15 (by decide) ?_
  exact ts_zret (u := u) (v := nI 1) C0 rfl hW hS (by refine ⟨?_, rfl⟩; rw [show noneF u.2.1 = true from by first | (simp [noneF, *]; done) | (simp [noneF, *]; omega)]; rfl) dX1_areNone_19
set_option maxHeartbeats 4000000 in
set_option maxRecDepth 100000 in
theorem k_X2_mentions (l : Launch) (D : va_G) (q : CQ) (b sz : Nat) (u : ST) (i v : Nat) (hwf : WP u.1) (hi : i < 10) (hv : v < 1000) : Met l yX2_mentions wsX2_mentions ({ frames := 0, cells := 0, slots := 0, locals := 0 } : Room) (va_Pc [.ref (b + (3 + 2 * i)), .int (nI v)] (Pr D q b sz u)) (cI D q b sz (fun r u' => r = b2i (mentB u.1 i v (u.1.1 (20 + i))) ∧ u' = u)) 0 0 (ts_A b 52 sz) := by
  refine ts_met (by decide) rfl (Nat.le_of_ble_eq_true rfl) ?_
  intro p e s m below meth c C0 hX ls hl
  obtain ⟨hsz, hW, hK, hN⟩ := hX
  subst hsz
  obtain ⟨hx, hb, hml, hown, hts, -, -, -⟩ := id C0
  have hW : ts_W D b 52 (cel q b u) s.heap := hW
  have hS : va_S (ts_A b 52 s.heap.size) s.heap s.heap [] := va_S.rf
  have hB : ∀ k, k < 52 → ts_A b 52 s.heap.size (b + k) := fun k hk => ts_Ain hk
  have hi2 : ∀ w ∈ wsX20, w ∈ wsX2_mentions := ts_lays 3 rfl
  have hl : lv_has ls 3 [(0, .ref (b + (3 + 2 * i))), (1, .int (nI v))] := hl
  have hs := hwf.sz
  refine lv_iconst (v := nI 0) hx hb dX2_mentions_0 (by decide) ?_
  refine lv_istore_n (lv' := [(2, .int (nI 0)), (0, .ref (b + (3 + 2 * i))), (1, .int (nI v))]) hx hb dX2_mentions_1 rfl hl (by decide) rfl (fun ls hl => ?_)
  have key1 : ∀ (fu : Nat) (j : Nat), (j ≤ u.1.1 (20 + i)) → (mentB u.1 i v j = false) → (u.1.1 (20 + i) - j) < fu → ∀ (H : Heap) (locs : List Loc), ts_W D b 52 (cel q b u) H → va_S (ts_A b 52 s.heap.size) s.heap H locs → ∀ ls : Array Slot, lv_has ls 3 [(2, .int (nI j)), (0, .ref (b + (3 + 2 * i))), (1, .int (nI v))] → W p l e ({ frames := 0, cells := 0, slots := 0, locals := 0 } : Room) s m [.ref (b + (3 + 2 * i)), .int (nI v)].toArray below meth c H locs 0 0 (MQ below (cI D q b s.heap.size (fun r u' => r = b2i (mentB u.1 i v (u.1.1 (20 + i))) ∧ u' = u)) [.ref (b + (3 + 2 * i)), .int (nI v)].toArray s 0 0 (ts_A b 52 s.heap.size)) (F0 m 2 ls []) := by
    intro fu
    induction fu with
    | zero => intro j _ _ hn; exact absurd hn (Nat.not_lt_zero _)
    | succ fu ih2 =>
      intro j hj hm hn H locs hW hS ls hl
      have hsz := hwf.fsz hi
      refine lv_iload_n hx hb dX2_mentions_2 rfl (lv_at hl 0 rfl) ?_
      refine lv_aload_n hx hb dX2_mentions_3 rfl (lv_at hl 1 rfl) ?_
      refine ts_get (C := RX2) (T := TX2) (N := 4) (v := .int (nI (u.1.1 (20 + i)))) hx hb hts hi2 hown hK hW (3 + 2 * i) (by omega) (cel_fn (by omega)) rfl 1 (by decide) (List.mem_of_getElem? (i := 1) rfl) rfl dX2_mentions_4 ?_
      have hq3 := hwf.fsz (i := i) (by omega)
      refine lv_icmp_ge (tgt := 28) hx hb dX2_mentions_7 (by decide) (fun c4 => ?_) (fun c4 => ?_)
      · skip
        rw [nI_leI (by omega) (by omega)] at c4
        refine lv_iconst (v := nI 0) hx hb dX2_mentions_28 (by decide) ?_
        exact ts_zret (u := u) (v := nI 0) C0 rfl hW hS (by refine ⟨?_, rfl⟩; rw [show u.1.1 (20 + i) = j by omega, hm]; rfl) dX2_mentions_29
      rw [nI_leI (by omega) (by omega)] at c4
      refine lv_aload_n hx hb dX2_mentions_10 rfl (lv_at hl 1 rfl) ?_
      refine ts_get (C := RX2) (T := TX2) (N := 4) (v := .ref (b + (4 + 2 * i))) hx hb hts hi2 hown hK hW (3 + 2 * i) (by omega) (cel_fn (by omega)) rfl 0 (by decide) (List.mem_of_getElem? (i := 2) rfl) rfl dX2_mentions_11 ?_
      refine lv_iload_n hx hb dX2_mentions_14 rfl (lv_at hl 0 rfl) ?_
      refine ts_iald (v := nI (u.1.2 i j)) hx hb hK hW (4 + 2 * i) (by omega) 0 (cel_sp (by omega)) rfl (by omega) (by decide) rfl dX2_mentions_15 ?_
      have hq5 := hwf.stp (i := i) (j := j) (by omega) (by omega)
      refine lv_iload_n hx hb dX2_mentions_16 rfl (lv_at hl 2 rfl) ?_
      refine lv_icmp_ne (tgt := 22) hx hb dX2_mentions_17 (by decide) (fun c6 => ?_) (fun c6 => ?_)
      · skip
        rw [nI_eq (by omega) (by omega)] at c6
        refine lv_iinc (v := nI (j + 1)) (lv' := [(2, .int (nI (j + 1))), (0, .ref (b + (3 + 2 * i))), (1, .int (nI v))]) hx hb dX2_mentions_22 hl (k := 0) rfl (nI_add j 1) (by decide) rfl (fun ls hl => ?_)
        refine lv_goto (tgt := 2) hx hb dX2_mentions_25 (by decide) ?_
        exact ih2 (j + 1) (by omega) (by simp [mentB, *]) (by omega) H locs hW hS ls (lv_sub hl [0, 1, 2] rfl)
      rw [nI_eq (by omega) (by omega)] at c6
      refine lv_iconst (v := nI 1) hx hb dX2_mentions_20 (by decide) ?_
      exact ts_zret (u := u) (v := nI 1) C0 rfl hW hS (by refine ⟨?_, rfl⟩; rw [mentB_up (j := j + 1) (by simp [mentB, *]) _ (by omega)]; rfl) dX2_mentions_21
  exact key1 _ 0 (by omega) rfl (Nat.lt_succ_self _) _ _ hW hS ls (lv_sub hl [0, 1, 2] rfl)
set_option maxHeartbeats 4000000 in
set_option maxRecDepth 100000 in
theorem k_X5_isCall (l : Launch) (D : va_G) (q : CQ) (b sz : Nat) (u : ST) (v : Nat) (hv : v < 1000) : Met l yX5_isCall wsX5_isCall ({ frames := 0, cells := 0, slots := 0, locals := 0 } : Room) (va_Pc [.int (nI v)] (Pr D q b sz u)) (cI D q b sz (fun r u' => r = b2i (decide (40 ≤ v)) ∧ u' = u)) 0 0 (ts_A b 52 sz) := by
  refine ts_met (by decide) rfl (Nat.le_of_ble_eq_true rfl) ?_
  intro p e s m below meth c C0 hX ls hl
  obtain ⟨hsz, hW, hK, hN⟩ := hX
  subst hsz
  obtain ⟨hx, hb, hml, hown, hts, -, -, -⟩ := id C0
  have hW : ts_W D b 52 (cel q b u) s.heap := hW
  have hS : va_S (ts_A b 52 s.heap.size) s.heap s.heap [] := va_S.rf
  have hB : ∀ k, k < 52 → ts_A b 52 s.heap.size (b + k) := fun k hk => ts_Ain hk
  have hl : lv_has ls 1 [(0, .int (nI v))] := hl
  refine lv_iload_n hx hb dX5_isCall_0 rfl (lv_at hl 0 rfl) ?_
  refine lv_bipush (v := nI 40) hx hb dX5_isCall_1 (by decide) ?_
  refine lv_icmp_lt (tgt := 10) hx hb dX5_isCall_3 (by decide) (fun c1 => ?_) (fun c1 => ?_)
  · skip
    rw [nI_ltI (by omega) (by omega)] at c1
    refine lv_iconst (v := nI 0) hx hb dX5_isCall_10 (by decide) ?_
    exact ts_zret (u := u) (v := nI 0) C0 rfl hW hS (by refine ⟨?_, rfl⟩; rw [show decide (40 ≤ v) = false from by first | (simp [*]; done) | (simp [*]; omega)]; rfl) dX5_isCall_11
  rw [nI_ltI (by omega) (by omega)] at c1
  refine lv_iconst (v := nI 1) hx hb dX5_isCall_6 (by decide) ?_
  refine lv_goto (tgt := 11) hx hb dX5_isCall_7 (by decide) ?_
  exact ts_zret (u := u) (v := nI 1) C0 rfl hW hS (by refine ⟨?_, rfl⟩; rw [show decide (40 ≤ v) = true from by first | (simp [*]; done) | (simp [*]; omega)]; rfl) dX5_isCall_11
set_option maxHeartbeats 4000000 in
set_option maxRecDepth 100000 in
theorem k_X5_plainNeed (l : Launch) (D : va_G) (q : CQ) (b sz : Nat) (u : ST) (v : Nat) (hv : v < 1000) : Met l yX5_plainNeed wsX5_plainNeed ({ frames := 0, cells := 0, slots := 0, locals := 0 } : Room) (va_Pc [.int (nI v)] (Pr D q b sz u)) (cI D q b sz (fun r u' => r = nI (plainN v) ∧ u' = u)) 0 0 (ts_A b 52 sz) := by
  refine ts_met (by decide) rfl (Nat.le_of_ble_eq_true rfl) ?_
  intro p e s m below meth c C0 hX ls hl
  obtain ⟨hsz, hW, hK, hN⟩ := hX
  subst hsz
  obtain ⟨hx, hb, hml, hown, hts, -, -, -⟩ := id C0
  have hW : ts_W D b 52 (cel q b u) s.heap := hW
  have hS : va_S (ts_A b 52 s.heap.size) s.heap s.heap [] := va_S.rf
  have hB : ∀ k, k < 52 → ts_A b 52 s.heap.size (b + k) := fun k hk => ts_Ain hk
  have hl : lv_has ls 1 [(0, .int (nI v))] := hl
  refine lv_iload_n hx hb dX5_plainNeed_0 rfl (lv_at hl 0 rfl) ?_
  by_cases c1 : v = 20
  · skip
    refine lv_tableIn (tgt := 32) hx hb dX5_plainNeed_1 (by rw [c1]; decide) (by rw [c1]; decide) (by rw [c1]; rfl) (by decide) ?_
    refine lv_iconst (v := nI 1) hx hb dX5_plainNeed_32 (by decide) ?_
    exact ts_iret (u := u) (v := nI 1) C0 hW hS (by exact ⟨congrArg nI (by unfold plainN; (repeat' split) <;> omega), rfl⟩) dX5_plainNeed_33
  by_cases c2 : v = 21
  · skip
    refine lv_tableIn (tgt := 34) hx hb dX5_plainNeed_1 (by rw [c2]; decide) (by rw [c2]; decide) (by rw [c2]; rfl) (by decide) ?_
    refine lv_iconst (v := nI 3) hx hb dX5_plainNeed_34 (by decide) ?_
    exact ts_iret (u := u) (v := nI 3) C0 hW hS (by exact ⟨congrArg nI (by unfold plainN; (repeat' split) <;> omega), rfl⟩) dX5_plainNeed_35
  by_cases c3 : v = 22
  · skip
    refine lv_tableIn (tgt := 38) hx hb dX5_plainNeed_1 (by rw [c3]; decide) (by rw [c3]; decide) (by rw [c3]; rfl) (by decide) ?_
    refine lv_iconst (v := nI 0) hx hb dX5_plainNeed_38 (by decide) ?_
    exact ts_iret (u := u) (v := nI 0) C0 hW hS (by exact ⟨congrArg nI (by unfold plainN; (repeat' split) <;> omega), rfl⟩) dX5_plainNeed_39
  by_cases c4 : v = 23
  · skip
    refine lv_tableIn (tgt := 36) hx hb dX5_plainNeed_1 (by rw [c4]; decide) (by rw [c4]; decide) (by rw [c4]; rfl) (by decide) ?_
    refine lv_iconst (v := nI 2) hx hb dX5_plainNeed_36 (by decide) ?_
    exact ts_iret (u := u) (v := nI 2) C0 hW hS (by exact ⟨congrArg nI (by unfold plainN; (repeat' split) <;> omega), rfl⟩) dX5_plainNeed_37
  refine lv_tableOut (tgt := 38) hx hb dX5_plainNeed_1 (by rw [nI_toInt (by omega)]; omega) (by decide) ?_
  refine lv_iconst (v := nI 0) hx hb dX5_plainNeed_38 (by decide) ?_
  exact ts_iret (u := u) (v := nI 0) C0 hW hS (by exact ⟨congrArg nI (by unfold plainN; (repeat' split) <;> omega), rfl⟩) dX5_plainNeed_39
set_option maxHeartbeats 4000000 in
set_option maxRecDepth 100000 in
theorem k_X5_plainGift (l : Launch) (D : va_G) (q : CQ) (b sz : Nat) (u : ST) (v : Nat) (hv : v < 1000) : Met l yX5_plainGift wsX5_plainGift ({ frames := 0, cells := 0, slots := 0, locals := 0 } : Room) (va_Pc [.int (nI v)] (Pr D q b sz u)) (cI D q b sz (fun r u' => r = nI (plainG v) ∧ u' = u)) 0 0 (ts_A b 52 sz) := by
  refine ts_met (by decide) rfl (Nat.le_of_ble_eq_true rfl) ?_
  intro p e s m below meth c C0 hX ls hl
  obtain ⟨hsz, hW, hK, hN⟩ := hX
  subst hsz
  obtain ⟨hx, hb, hml, hown, hts, -, -, -⟩ := id C0
  have hW : ts_W D b 52 (cel q b u) s.heap := hW
  have hS : va_S (ts_A b 52 s.heap.size) s.heap s.heap [] := va_S.rf
  have hB : ∀ k, k < 52 → ts_A b 52 s.heap.size (b + k) := fun k hk => ts_Ain hk
  have hl : lv_has ls 1 [(0, .int (nI v))] := hl
  refine lv_iload_n hx hb dX5_plainGift_0 rfl (lv_at hl 0 rfl) ?_
  by_cases c1 : v = 21
  · skip
    refine lv_tableIn (tgt := 28) hx hb dX5_plainGift_1 (by rw [c1]; decide) (by rw [c1]; decide) (by rw [c1]; rfl) (by decide) ?_
    refine lv_iconst (v := nI 1) hx hb dX5_plainGift_28 (by decide) ?_
    exact ts_iret (u := u) (v := nI 1) C0 hW hS (by exact ⟨congrArg nI (by unfold plainG; (repeat' split) <;> omega), rfl⟩) dX5_plainGift_29
  by_cases c2 : v = 22
  · skip
    refine lv_tableIn (tgt := 30) hx hb dX5_plainGift_1 (by rw [c2]; decide) (by rw [c2]; decide) (by rw [c2]; rfl) (by decide) ?_
    refine lv_iconst (v := nI 2) hx hb dX5_plainGift_30 (by decide) ?_
    exact ts_iret (u := u) (v := nI 2) C0 hW hS (by exact ⟨congrArg nI (by unfold plainG; (repeat' split) <;> omega), rfl⟩) dX5_plainGift_31
  by_cases c3 : v = 23
  · skip
    refine lv_tableIn (tgt := 32) hx hb dX5_plainGift_1 (by rw [c3]; decide) (by rw [c3]; decide) (by rw [c3]; rfl) (by decide) ?_
    refine lv_iconst (v := nI 2) hx hb dX5_plainGift_32 (by decide) ?_
    exact ts_iret (u := u) (v := nI 2) C0 hW hS (by exact ⟨congrArg nI (by unfold plainG; (repeat' split) <;> omega), rfl⟩) dX5_plainGift_33
  refine lv_tableOut (tgt := 34) hx hb dX5_plainGift_1 (by rw [nI_toInt (by omega)]; omega) (by decide) ?_
  refine lv_iconst (v := nI 0) hx hb dX5_plainGift_34 (by decide) ?_
  exact ts_iret (u := u) (v := nI 0) C0 hW hS (by exact ⟨congrArg nI (by unfold plainG; (repeat' split) <;> omega), rfl⟩) dX5_plainGift_35
set_option maxHeartbeats 4000000 in
set_option maxRecDepth 100000 in
theorem k_X5_has (l : Launch) (D : va_G) (q : CQ) (b sz : Nat) (u : ST) (s_ f : Nat) (hs : s_ < 1024) (hf : f < 31) : Met l yX5_has wsX5_has ({ frames := 0, cells := 0, slots := 0, locals := 0 } : Room) (va_Pc [.int (nI s_), .int (nI f)] (Pr D q b sz u)) (cI D q b sz (fun r u' => r = b2i (hasB s_ f) ∧ u' = u)) 0 0 (ts_A b 52 sz) := by
  refine ts_met (by decide) rfl (Nat.le_of_ble_eq_true rfl) ?_
  intro p e s m below meth c C0 hX ls hl
  obtain ⟨hsz, hW, hK, hN⟩ := hX
  subst hsz
  obtain ⟨hx, hb, hml, hown, hts, -, -, -⟩ := id C0
  have hW : ts_W D b 52 (cel q b u) s.heap := hW
  have hS : va_S (ts_A b 52 s.heap.size) s.heap s.heap [] := va_S.rf
  have hB : ∀ k, k < 52 → ts_A b 52 s.heap.size (b + k) := fun k hk => ts_Ain hk
  have hl : lv_has ls 2 [(0, .int (nI s_)), (1, .int (nI f))] := hl
  refine lv_iload_n hx hb dX5_has_0 rfl (lv_at hl 1 rfl) ?_
  refine lv_iconst (v := (-1)) hx hb dX5_has_1 (by decide) ?_
  refine lv_icmp_eq (tgt := 18) hx hb dX5_has_2 (by decide) (fun c1 => ?_) (fun c1 => ?_)
  · skip
    exact absurd c1 (ts_nem1 (by omega))
  refine lv_iload_n hx hb dX5_has_5 rfl (lv_at hl 0 rfl) ?_
  refine lv_iload_n hx hb dX5_has_6 rfl (lv_at hl 1 rfl) ?_
  refine ts_ishr (v := (nI s_) >>> ((nI f) &&& 31)) hx hb dX5_has_7 rfl ?_
  refine lv_iconst (v := nI 1) hx hb dX5_has_8 (by decide) ?_
  refine ts_iand (v := nI (s_ / 2 ^ f % 2)) hx hb dX5_has_9 (ts_bit (by omega) (by omega)) ?_
  refine lv_iconst (v := nI 1) hx hb dX5_has_10 (by decide) ?_
  refine lv_icmp_ne (tgt := 18) hx hb dX5_has_11 (by decide) (fun c2 => ?_) (fun c2 => ?_)
  · skip
    rw [nI_eq (by omega) (by omega)] at c2
    refine lv_iconst (v := nI 0) hx hb dX5_has_18 (by decide) ?_
    exact ts_zret (u := u) (v := nI 0) C0 rfl hW hS (by refine ⟨?_, rfl⟩; rw [show hasB s_ f = false from by first | (simp [hasB, *]; done) | (simp [hasB, *]; omega)]; rfl) dX5_has_19
  rw [nI_eq (by omega) (by omega)] at c2
  refine lv_iconst (v := nI 1) hx hb dX5_has_14 (by decide) ?_
  refine lv_goto (tgt := 19) hx hb dX5_has_15 (by decide) ?_
  exact ts_zret (u := u) (v := nI 1) C0 rfl hW hS (by refine ⟨?_, rfl⟩; rw [show hasB s_ f = true from by first | (simp [hasB, *]; done) | (simp [hasB, *]; omega)]; rfl) dX5_has_19
theorem k_X5_hasN (l : Launch) (D : va_G) (q : CQ) (b sz : Nat) (u : ST) (s_ : Nat) : Met l yX5_has wsX5_has ({ frames := 0, cells := 0, slots := 0, locals := 0 } : Room) (va_Pc [.int (nI s_), .int (-1)] (Pr D q b sz u)) (cI D q b sz (fun r u' => r = b2i false ∧ u' = u)) 0 0 (ts_A b 52 sz) := by
  refine ts_met (by decide) rfl (Nat.le_of_ble_eq_true rfl) ?_
  intro p e s m below meth c C0 hX ls hl
  obtain ⟨hsz, hW, hK, hN⟩ := hX
  subst hsz
  obtain ⟨hx, hb, hml, hown, hts, -, -, -⟩ := id C0
  have hW : ts_W D b 52 (cel q b u) s.heap := hW
  have hS : va_S (ts_A b 52 s.heap.size) s.heap s.heap [] := va_S.rf
  have hl : lv_has ls 2 [(0, .int (nI s_)), (1, .int (-1))] := hl
  refine lv_iload_n hx hb dX5_has_0 rfl (lv_at hl 1 rfl) ?_
  refine lv_iconst (v := (-1)) hx hb dX5_has_1 (by decide) ?_
  refine lv_icmp_eq (tgt := 18) hx hb dX5_has_2 (by decide) (fun c1 => ?_) (fun c1 => absurd rfl c1)
  refine lv_iconst (v := nI 0) hx hb dX5_has_18 (by decide) ?_
  exact ts_zret (u := u) (v := nI 0) C0 rfl hW hS ⟨rfl, rfl⟩ dX5_has_19
theorem k_X5_hasR (l : Launch) (D : va_G) (q : CQ) (b sz : Nat) (u : ST) (s_ : Nat) (hs : s_ < 1024) : ∀ (r : Nat), r < 31 → Met l yX5_has wsX5_has ({ frames := 0, cells := 0, slots := 0, locals := 0 } : Room) (va_Pc [.int (nI s_), .int (zI r)] (Pr D q b sz u)) (cI D q b sz (fun v u' => v = b2i (hasR s_ r) ∧ u' = u)) 0 0 (ts_A b 52 sz)
  | 0, _ => k_X5_hasN l D q b sz u s_
  | f + 1, h => k_X5_has l D q b sz u s_ f hs (by omega)
set_option maxHeartbeats 4000000 in
set_option maxRecDepth 100000 in
theorem k_X5_with (l : Launch) (D : va_G) (q : CQ) (b sz : Nat) (u : ST) (s_ i : Nat) (hi : i < 31) : Met l yX5_with wsX5_with ({ frames := 0, cells := 0, slots := 0, locals := 0 } : Room) (va_Pc [.int (nI s_), .int (nI i)] (Pr D q b sz u)) (cI D q b sz (fun r u' => r = nI (setB s_ i) ∧ u' = u)) 0 0 (ts_A b 52 sz) := by
  refine ts_met (by decide) rfl (Nat.le_of_ble_eq_true rfl) ?_
  intro p e s m below meth c C0 hX ls hl
  obtain ⟨hsz, hW, hK, hN⟩ := hX
  subst hsz
  obtain ⟨hx, hb, hml, hown, hts, -, -, -⟩ := id C0
  have hW : ts_W D b 52 (cel q b u) s.heap := hW
  have hS : va_S (ts_A b 52 s.heap.size) s.heap s.heap [] := va_S.rf
  have hB : ∀ k, k < 52 → ts_A b 52 s.heap.size (b + k) := fun k hk => ts_Ain hk
  have hl : lv_has ls 2 [(0, .int (nI s_)), (1, .int (nI i))] := hl
  refine lv_iload_n hx hb dX5_with_0 rfl (lv_at hl 0 rfl) ?_
  refine lv_iconst (v := nI 1) hx hb dX5_with_1 (by decide) ?_
  refine lv_iload_n hx hb dX5_with_2 rfl (lv_at hl 1 rfl) ?_
  refine ts_ishl (v := nI (2 ^ i)) hx hb dX5_with_3 (ts_shl (by omega)) ?_
  refine ts_ior (v := nI (s_ ||| (2 ^ i))) hx hb dX5_with_4 (ts_or _ _) ?_
  exact ts_iret (u := u) (v := nI (s_ ||| (2 ^ i))) C0 hW hS (by exact ⟨rfl, rfl⟩) dX5_with_5
set_option maxHeartbeats 4000000 in
set_option maxRecDepth 100000 in
theorem k_X5_rowOf (l : Launch) (D : va_G) (q : CQ) (b sz : Nat) (u : ST) (r : Nat)  : Met l yX5_rowOf wsX5_rowOf ({ frames := 0, cells := 0, slots := 0, locals := 0 } : Room) (va_Pc [.int (zI r)] (Pr D q b sz u)) (cI D q b sz (fun v u' => v = nI r ∧ u' = u)) 0 0 (ts_A b 52 sz) := by
  refine ts_met (by decide) rfl (Nat.le_of_ble_eq_true rfl) ?_
  intro p e s m below meth c C0 hX ls hl
  obtain ⟨hsz, hW, hK, hN⟩ := hX
  subst hsz
  obtain ⟨hx, hb, hml, hown, hts, -, -, -⟩ := id C0
  have hW : ts_W D b 52 (cel q b u) s.heap := hW
  have hS : va_S (ts_A b 52 s.heap.size) s.heap s.heap [] := va_S.rf
  have hB : ∀ k, k < 52 → ts_A b 52 s.heap.size (b + k) := fun k hk => ts_Ain hk
  have hl : lv_has ls 1 [(0, .int (zI r))] := hl
  refine lv_iload_n hx hb dX5_rowOf_0 rfl (lv_at hl 0 rfl) ?_
  refine lv_iconst (v := nI 1) hx hb dX5_rowOf_1 (by decide) ?_
  refine ts_iadd (v := nI r) hx hb dX5_rowOf_2 (zI_row _) ?_
  exact ts_iret (u := u) (v := nI r) C0 hW hS (by exact ⟨rfl, rfl⟩) dX5_rowOf_3
set_option maxHeartbeats 4000000 in
set_option maxRecDepth 100000 in
theorem k_X3_isStep (l : Launch) (D : va_G) (q : CQ) (b sz : Nat) (u : ST) (v : Nat) (hwf : WP u.1) (hv : v ≤ 9 ∨ (20 ≤ v ∧ v ≤ 24) ∨ (40 ≤ v ∧ v < 40 + u.1.1 1)) : Met l yX3_isStep wsX3_isStep ({ frames := 0, cells := 0, slots := 0, locals := 0 } : Room) (va_Pc [.ref (b + 1), .int (nI v)] (Pr D q b sz u)) (cI D q b sz (fun r u' => r = b2i true ∧ u' = u)) 0 0 (ts_A b 52 sz) := by
  refine ts_met (by decide) rfl (Nat.le_of_ble_eq_true rfl) ?_
  intro p e s m below meth c C0 hX ls hl
  obtain ⟨hsz, hW, hK, hN⟩ := hX
  subst hsz
  obtain ⟨hx, hb, hml, hown, hts, -, -, -⟩ := id C0
  have hW : ts_W D b 52 (cel q b u) s.heap := hW
  have hS : va_S (ts_A b 52 s.heap.size) s.heap s.heap [] := va_S.rf
  have hB : ∀ k, k < 52 → ts_A b 52 s.heap.size (b + k) := fun k hk => ts_Ain hk
  have hi3 : ∀ w ∈ wsX30, w ∈ wsX3_isStep := ts_lays 2 rfl
  have hl : lv_has ls 2 [(0, .ref (b + 1)), (1, .int (nI v))] := hl
  have hs := hwf.sz
  refine lv_iload_n hx hb dX3_isStep_0 rfl (lv_at hl 1 rfl) ?_
  refine lv_if_lt (tgt := 10) hx hb dX3_isStep_1 (by decide) (fun c1 => ?_) (fun c1 => ?_)
  · skip
    rw [ts_lt0 (by omega)] at c1
    exfalso; omega
  rw [ts_lt0 (by omega)] at c1
  refine lv_iload_n hx hb dX3_isStep_4 rfl (lv_at hl 1 rfl) ?_
  refine lv_bipush (v := nI 9) hx hb dX3_isStep_5 (by decide) ?_
  refine lv_icmp_le (tgt := 39) hx hb dX3_isStep_7 (by decide) (fun c2 => ?_) (fun c2 => ?_)
  · skip
    rw [nI_leI (by omega) (by omega)] at c2
    refine lv_iconst (v := nI 1) hx hb dX3_isStep_39 (by decide) ?_
    refine lv_goto (tgt := 44) hx hb dX3_isStep_40 (by decide) ?_
    exact ts_zret (u := u) (v := nI 1) C0 rfl hW hS (by exact ⟨rfl, rfl⟩) dX3_isStep_44
  rw [nI_leI (by omega) (by omega)] at c2
  refine lv_iload_n hx hb dX3_isStep_10 rfl (lv_at hl 1 rfl) ?_
  refine lv_bipush (v := nI 20) hx hb dX3_isStep_11 (by decide) ?_
  refine lv_icmp_lt (tgt := 22) hx hb dX3_isStep_13 (by decide) (fun c3 => ?_) (fun c3 => ?_)
  · skip
    rw [nI_ltI (by omega) (by omega)] at c3
    refine lv_iload_n hx hb dX3_isStep_22 rfl (lv_at hl 1 rfl) ?_
    refine lv_bipush (v := nI 40) hx hb dX3_isStep_23 (by decide) ?_
    refine lv_icmp_lt (tgt := 43) hx hb dX3_isStep_25 (by decide) (fun c4 => ?_) (fun c4 => ?_)
    · skip
      rw [nI_ltI (by omega) (by omega)] at c4
      exfalso; omega
    rw [nI_ltI (by omega) (by omega)] at c4
    refine lv_iload_n hx hb dX3_isStep_28 rfl (lv_at hl 1 rfl) ?_
    refine lv_bipush (v := nI 40) hx hb dX3_isStep_29 (by decide) ?_
    refine ts_isub (v := nI (v - 40)) hx hb dX3_isStep_31 (pk_sub (by omega)) ?_
    refine lv_aload_n hx hb dX3_isStep_32 rfl (lv_at hl 0 rfl) ?_
    refine ts_get (C := RX3) (T := TX3) (N := 5) (v := .int (nI (u.1.1 1))) hx hb hts hi3 hown hK hW 1 (by decide) cel_pr rfl 2 (by decide) (List.mem_of_getElem? (i := 1) rfl) rfl dX3_isStep_33 ?_
    refine lv_icmp_ge (tgt := 43) hx hb dX3_isStep_36 (by decide) (fun c5 => ?_) (fun c5 => ?_)
    · skip
      rw [nI_leI (by omega) (by omega)] at c5
      exfalso; omega
    rw [nI_leI (by omega) (by omega)] at c5
    refine lv_iconst (v := nI 1) hx hb dX3_isStep_39 (by decide) ?_
    refine lv_goto (tgt := 44) hx hb dX3_isStep_40 (by decide) ?_
    exact ts_zret (u := u) (v := nI 1) C0 rfl hW hS (by exact ⟨rfl, rfl⟩) dX3_isStep_44
  rw [nI_ltI (by omega) (by omega)] at c3
  refine lv_iload_n hx hb dX3_isStep_16 rfl (lv_at hl 1 rfl) ?_
  refine lv_bipush (v := nI 24) hx hb dX3_isStep_17 (by decide) ?_
  refine lv_icmp_le (tgt := 39) hx hb dX3_isStep_19 (by decide) (fun c6 => ?_) (fun c6 => ?_)
  · skip
    rw [nI_leI (by omega) (by omega)] at c6
    refine lv_iconst (v := nI 1) hx hb dX3_isStep_39 (by decide) ?_
    refine lv_goto (tgt := 44) hx hb dX3_isStep_40 (by decide) ?_
    exact ts_zret (u := u) (v := nI 1) C0 rfl hW hS (by exact ⟨rfl, rfl⟩) dX3_isStep_44
  rw [nI_leI (by omega) (by omega)] at c6
  refine lv_iload_n hx hb dX3_isStep_22 rfl (lv_at hl 1 rfl) ?_
  refine lv_bipush (v := nI 40) hx hb dX3_isStep_23 (by decide) ?_
  refine lv_icmp_lt (tgt := 43) hx hb dX3_isStep_25 (by decide) (fun c7 => ?_) (fun c7 => ?_)
  · skip
    rw [nI_ltI (by omega) (by omega)] at c7
    exfalso; omega
  rw [nI_ltI (by omega) (by omega)] at c7
  refine lv_iload_n hx hb dX3_isStep_28 rfl (lv_at hl 1 rfl) ?_
  refine lv_bipush (v := nI 40) hx hb dX3_isStep_29 (by decide) ?_
  refine ts_isub (v := nI (v - 40)) hx hb dX3_isStep_31 (pk_sub (by omega)) ?_
  refine lv_aload_n hx hb dX3_isStep_32 rfl (lv_at hl 0 rfl) ?_
  refine ts_get (C := RX3) (T := TX3) (N := 5) (v := .int (nI (u.1.1 1))) hx hb hts hi3 hown hK hW 1 (by decide) cel_pr rfl 2 (by decide) (List.mem_of_getElem? (i := 1) rfl) rfl dX3_isStep_33 ?_
  refine lv_icmp_ge (tgt := 43) hx hb dX3_isStep_36 (by decide) (fun c8 => ?_) (fun c8 => ?_)
  · skip
    rw [nI_leI (by omega) (by omega)] at c8
    exfalso; omega
  rw [nI_leI (by omega) (by omega)] at c8
  refine lv_iconst (v := nI 1) hx hb dX3_isStep_39 (by decide) ?_
  refine lv_goto (tgt := 44) hx hb dX3_isStep_40 (by decide) ?_
  exact ts_zret (u := u) (v := nI 1) C0 rfl hW hS (by exact ⟨rfl, rfl⟩) dX3_isStep_44
set_option maxHeartbeats 4000000 in
set_option maxRecDepth 100000 in
theorem k_X3_needOf (l : Launch) (D : va_G) (q : CQ) (b sz : Nat) (u : ST) (v : Nat) (hwf : WP u.1) (hv : v ≤ 9 ∨ (20 ≤ v ∧ v ≤ 24) ∨ (40 ≤ v ∧ v < 40 + u.1.1 1)) : Met l yX3_needOf wsX3_needOf ({ frames := 1, cells := 0, slots := 0, locals := 20 } : Room) (va_Pc [.ref (b + 1), .int (nI v)] (Pr D q b sz u)) (cI D q b sz (fun r u' => r = nI (needP u.1 v) ∧ u' = u)) 0 0 (ts_A b 52 sz) := by
  refine ts_met (by decide) rfl (Nat.le_of_ble_eq_true rfl) ?_
  intro p e s m below meth c C0 hX ls hl
  obtain ⟨hsz, hW, hK, hN⟩ := hX
  subst hsz
  obtain ⟨hx, hb, hml, hown, hts, -, -, -⟩ := id C0
  have hW : ts_W D b 52 (cel q b u) s.heap := hW
  have hS : va_S (ts_A b 52 s.heap.size) s.heap s.heap [] := va_S.rf
  have hB : ∀ k, k < 52 → ts_A b 52 s.heap.size (b + k) := fun k hk => ts_Ain hk
  have hi2 : ∀ w ∈ wsX20, w ∈ wsX3_needOf := ts_lays 13 rfl
  have hi3 : ∀ w ∈ wsX30, w ∈ wsX3_needOf := ts_lays 8 rfl
  have hl : lv_has ls 2 [(0, .ref (b + 1)), (1, .int (nI v))] := hl
  have hs := hwf.sz
  refine lv_iload_n hx hb dX3_needOf_0 rfl (lv_at hl 1 rfl) ?_
  refine ts_retI (va_runSN (As := [.int (nI v)]) (rest := []) ⟨hx, hb, hml, hown, hts⟩ (k_X5_isCall l D q b s.heap.size u v (by omega)) ⟨va_cnB 1 hts gX3_needOf_X5_isCall_n29 rfl rfl rfl (hN _ (List.mem_of_getElem? (i := 3) rfl)) (hts _ (List.mem_of_getElem? (i := 4) rfl)) (by decide +kernel) ⟨Nat.le_of_ble_eq_true rfl, Nat.le_of_ble_eq_true rfl⟩, hts _ (List.mem_of_getElem? (i := 3) rfl), trivial⟩ (ts_preS hK hN hW) rfl rfl hl.1 rfl (lv_room (Nat.le_of_ble_eq_true rfl)) dX3_needOf_1 ⟨Nat.zero_le _, Nat.zero_le _⟩) hS (fun x h => ts_Aup hS.1 h) (fun r1 u2 H locs hp3 hW _ _ hS => ?_)
  have hp3r : r1 = b2i (decide (40 ≤ v)) := hp3.1
  have hp3u : u2 = u := hp3.2
  rw [hp3r]
  rw [hp3u] at hW
  refine lv_if_eq (tgt := 22) hx hb dX3_needOf_4 (by decide) (fun c4 => ?_) (fun c4 => ?_)
  · skip
    have c4 := ts_df c4
    refine lv_iload_n hx hb dX3_needOf_22 rfl (lv_at hl 1 rfl) ?_
    refine ts_retI (va_runSN (As := [.int (nI v)]) (rest := []) ⟨hx, hb, hml, hown, hts⟩ (k_X5_plainNeed l D q b H.size u v (by omega)) ⟨va_cnB 1 hts gX3_needOf_X5_plainNeed_n36 rfl rfl rfl (hN _ (List.mem_of_getElem? (i := 4) rfl)) (hts _ (List.mem_of_getElem? (i := 4) rfl)) (by decide +kernel) ⟨Nat.le_of_ble_eq_true rfl, Nat.le_of_ble_eq_true rfl⟩, hts _ (List.mem_of_getElem? (i := 6) rfl), trivial⟩ (ts_preS hK hN hW) rfl rfl hl.1 rfl (lv_room (Nat.le_of_ble_eq_true rfl)) dX3_needOf_23 ⟨Nat.zero_le _, Nat.zero_le _⟩) hS (fun x h => ts_Aup hS.1 h) (fun r5 u6 H locs hp7 hW _ _ hS => ?_)
    have hp7r : r5 = nI (plainN v) := hp7.1
    have hp7u : u6 = u := hp7.2
    rw [hp7r]
    rw [hp7u] at hW
    exact ts_iret (u := u) (v := nI (plainN v)) C0 hW hS (by exact ⟨congrArg nI (by unfold needP; split <;> first | rfl | (exfalso; omega)), rfl⟩) dX3_needOf_26
  have c4 := ts_dt c4
  refine lv_aload_n hx hb dX3_needOf_7 rfl (lv_at hl 0 rfl) ?_
  refine ts_get (C := RX3) (T := TX3) (N := 5) (v := .ref (b + 2)) hx hb hts hi3 hown hK hW 1 (by decide) cel_pr rfl 0 (by decide) (List.mem_of_getElem? (i := 1) rfl) rfl dX3_needOf_8 ?_
  refine lv_iload_n hx hb dX3_needOf_11 rfl (lv_at hl 1 rfl) ?_
  refine lv_bipush (v := nI 40) hx hb dX3_needOf_12 (by decide) ?_
  refine ts_isub (v := nI (v - 40)) hx hb dX3_needOf_14 (pk_sub (by omega)) ?_
  refine ts_aald (a := b + (3 + 2 * (v - 40))) hx hb hK hW 2 (by decide) 1 cel_fs rfl rfl (by omega) (by decide) rfl dX3_needOf_15 ?_
  refine ts_get (C := RX2) (T := TX2) (N := 4) (v := .int (nI (u.1.1 (30 + (v - 40))))) hx hb hts hi2 hown hK hW (3 + 2 * (v - 40)) (by omega) (cel_fn (by omega)) rfl 2 (by decide) (List.mem_of_getElem? (i := 2) rfl) rfl dX3_needOf_16 ?_
  have hq8 := hwf.fin (i := v - 40) (by omega)
  refine lv_goto (tgt := 26) hx hb dX3_needOf_19 (by decide) ?_
  exact ts_iret (u := u) (v := nI (u.1.1 (30 + (v - 40)))) C0 hW hS (by exact ⟨congrArg nI (by unfold needP; split <;> first | rfl | (exfalso; omega)), rfl⟩) dX3_needOf_26
set_option maxHeartbeats 4000000 in
set_option maxRecDepth 100000 in
theorem k_X3_giftOf (l : Launch) (D : va_G) (q : CQ) (b sz : Nat) (u : ST) (v : Nat) (hwf : WP u.1) (hv : v ≤ 9 ∨ (20 ≤ v ∧ v ≤ 24) ∨ (40 ≤ v ∧ v < 40 + u.1.1 1)) : Met l yX3_giftOf wsX3_giftOf ({ frames := 1, cells := 0, slots := 0, locals := 20 } : Room) (va_Pc [.ref (b + 1), .int (nI v)] (Pr D q b sz u)) (cI D q b sz (fun r u' => r = nI (giftP u.1 v) ∧ u' = u)) 0 0 (ts_A b 52 sz) := by
  refine ts_met (by decide) rfl (Nat.le_of_ble_eq_true rfl) ?_
  intro p e s m below meth c C0 hX ls hl
  obtain ⟨hsz, hW, hK, hN⟩ := hX
  subst hsz
  obtain ⟨hx, hb, hml, hown, hts, -, -, -⟩ := id C0
  have hW : ts_W D b 52 (cel q b u) s.heap := hW
  have hS : va_S (ts_A b 52 s.heap.size) s.heap s.heap [] := va_S.rf
  have hB : ∀ k, k < 52 → ts_A b 52 s.heap.size (b + k) := fun k hk => ts_Ain hk
  have hi2 : ∀ w ∈ wsX20, w ∈ wsX3_giftOf := ts_lays 13 rfl
  have hi3 : ∀ w ∈ wsX30, w ∈ wsX3_giftOf := ts_lays 8 rfl
  have hl : lv_has ls 2 [(0, .ref (b + 1)), (1, .int (nI v))] := hl
  have hs := hwf.sz
  refine lv_iload_n hx hb dX3_giftOf_0 rfl (lv_at hl 1 rfl) ?_
  refine ts_retI (va_runSN (As := [.int (nI v)]) (rest := []) ⟨hx, hb, hml, hown, hts⟩ (k_X5_isCall l D q b s.heap.size u v (by omega)) ⟨va_cnB 1 hts gX3_giftOf_X5_isCall_n29 rfl rfl rfl (hN _ (List.mem_of_getElem? (i := 3) rfl)) (hts _ (List.mem_of_getElem? (i := 4) rfl)) (by decide +kernel) ⟨Nat.le_of_ble_eq_true rfl, Nat.le_of_ble_eq_true rfl⟩, hts _ (List.mem_of_getElem? (i := 3) rfl), trivial⟩ (ts_preS hK hN hW) rfl rfl hl.1 rfl (lv_room (Nat.le_of_ble_eq_true rfl)) dX3_giftOf_1 ⟨Nat.zero_le _, Nat.zero_le _⟩) hS (fun x h => ts_Aup hS.1 h) (fun r1 u2 H locs hp3 hW _ _ hS => ?_)
  have hp3r : r1 = b2i (decide (40 ≤ v)) := hp3.1
  have hp3u : u2 = u := hp3.2
  rw [hp3r]
  rw [hp3u] at hW
  refine lv_if_eq (tgt := 22) hx hb dX3_giftOf_4 (by decide) (fun c4 => ?_) (fun c4 => ?_)
  · skip
    have c4 := ts_df c4
    refine lv_iload_n hx hb dX3_giftOf_22 rfl (lv_at hl 1 rfl) ?_
    refine ts_retI (va_runSN (As := [.int (nI v)]) (rest := []) ⟨hx, hb, hml, hown, hts⟩ (k_X5_plainGift l D q b H.size u v (by omega)) ⟨va_cnB 1 hts gX3_giftOf_X5_plainGift_n43 rfl rfl rfl (hN _ (List.mem_of_getElem? (i := 5) rfl)) (hts _ (List.mem_of_getElem? (i := 4) rfl)) (by decide +kernel) ⟨Nat.le_of_ble_eq_true rfl, Nat.le_of_ble_eq_true rfl⟩, hts _ (List.mem_of_getElem? (i := 6) rfl), trivial⟩ (ts_preS hK hN hW) rfl rfl hl.1 rfl (lv_room (Nat.le_of_ble_eq_true rfl)) dX3_giftOf_23 ⟨Nat.zero_le _, Nat.zero_le _⟩) hS (fun x h => ts_Aup hS.1 h) (fun r5 u6 H locs hp7 hW _ _ hS => ?_)
    have hp7r : r5 = nI (plainG v) := hp7.1
    have hp7u : u6 = u := hp7.2
    rw [hp7r]
    rw [hp7u] at hW
    exact ts_iret (u := u) (v := nI (plainG v)) C0 hW hS (by exact ⟨congrArg nI (by unfold giftP; split <;> first | rfl | (exfalso; omega)), rfl⟩) dX3_giftOf_26
  have c4 := ts_dt c4
  refine lv_aload_n hx hb dX3_giftOf_7 rfl (lv_at hl 0 rfl) ?_
  refine ts_get (C := RX3) (T := TX3) (N := 5) (v := .ref (b + 2)) hx hb hts hi3 hown hK hW 1 (by decide) cel_pr rfl 0 (by decide) (List.mem_of_getElem? (i := 1) rfl) rfl dX3_giftOf_8 ?_
  refine lv_iload_n hx hb dX3_giftOf_11 rfl (lv_at hl 1 rfl) ?_
  refine lv_bipush (v := nI 40) hx hb dX3_giftOf_12 (by decide) ?_
  refine ts_isub (v := nI (v - 40)) hx hb dX3_giftOf_14 (pk_sub (by omega)) ?_
  refine ts_aald (a := b + (3 + 2 * (v - 40))) hx hb hK hW 2 (by decide) 1 cel_fs rfl rfl (by omega) (by decide) rfl dX3_giftOf_15 ?_
  refine ts_get (C := RX2) (T := TX2) (N := 4) (v := .int (nI (u.1.1 (40 + (v - 40))))) hx hb hts hi2 hown hK hW (3 + 2 * (v - 40)) (by omega) (cel_fn (by omega)) rfl 3 (by decide) (List.mem_of_getElem? (i := 2) rfl) rfl dX3_giftOf_16 ?_
  have hq8 := hwf.fout (i := v - 40) (by omega)
  refine lv_goto (tgt := 26) hx hb dX3_giftOf_19 (by decide) ?_
  exact ts_iret (u := u) (v := nI (u.1.1 (40 + (v - 40)))) C0 hW hS (by exact ⟨congrArg nI (by unfold giftP; split <;> first | rfl | (exfalso; omega)), rfl⟩) dX3_giftOf_26
set_option maxHeartbeats 4000000 in
set_option maxRecDepth 100000 in
theorem k_X3_guessIn (l : Launch) (D : va_G) (q : CQ) (b sz : Nat) (u : ST) (f : Nat) (hwf : WP u.1) (hf : f < 10) : Met l yX3_guessIn wsX3_guessIn ({ frames := 2, cells := 0, slots := 0, locals := 41 } : Room) (va_Pc [.ref (b + 1), .ref (b + (3 + 2 * f))] (Pr D q b sz u)) (cI D q b sz (fun r u' => r = nI (guessI u.1 f) ∧ u' = u)) 0 0 (ts_A b 52 sz) := by
  refine ts_met (by decide) rfl (Nat.le_of_ble_eq_true rfl) ?_
  intro p e s m below meth c C0 hX ls hl
  obtain ⟨hsz, hW, hK, hN⟩ := hX
  subst hsz
  obtain ⟨hx, hb, hml, hown, hts, -, -, -⟩ := id C0
  have hW : ts_W D b 52 (cel q b u) s.heap := hW
  have hS : va_S (ts_A b 52 s.heap.size) s.heap s.heap [] := va_S.rf
  have hB : ∀ k, k < 52 → ts_A b 52 s.heap.size (b + k) := fun k hk => ts_Ain hk
  have hi2 : ∀ w ∈ wsX20, w ∈ wsX3_guessIn := ts_lays 15 rfl
  have hl : lv_has ls 2 [(0, .ref (b + 1)), (1, .ref (b + (3 + 2 * f)))] := hl
  have hs := hwf.sz
  refine lv_aload_n hx hb dX3_guessIn_0 rfl (lv_at hl 1 rfl) ?_
  refine ts_get (C := RX2) (T := TX2) (N := 4) (v := .int (nI (u.1.1 (20 + f)))) hx hb hts hi2 hown hK hW (3 + 2 * f) (by omega) (cel_fn (by omega)) rfl 1 (by decide) (List.mem_of_getElem? (i := 1) rfl) rfl dX3_guessIn_1 ?_
  have hq1 := hwf.fsz (i := f) (by omega)
  refine lv_if_ne (tgt := 11) hx hb dX3_guessIn_4 (by decide) (fun c2 => ?_) (fun c2 => ?_)
  · skip
    rw [ts_eq0 (by omega)] at c2
    refine lv_aload_n hx hb dX3_guessIn_11 rfl (lv_at hl 0 rfl) ?_
    refine lv_aload_n hx hb dX3_guessIn_12 rfl (lv_at hl 1 rfl) ?_
    refine ts_get (C := RX2) (T := TX2) (N := 4) (v := .ref (b + (4 + 2 * f))) hx hb hts hi2 hown hK hW (3 + 2 * f) (by omega) (cel_fn (by omega)) rfl 0 (by decide) (List.mem_of_getElem? (i := 2) rfl) rfl dX3_guessIn_13 ?_
    refine lv_iconst (v := nI 0) hx hb dX3_guessIn_16 (by decide) ?_
    refine ts_iald (v := nI (u.1.2 f 0)) hx hb hK hW (4 + 2 * f) (by omega) 0 (cel_sp (by omega)) rfl (by decide) (by decide) rfl dX3_guessIn_17 ?_
    have hq3 := hwf.stp (i := f) (j := 0) (by omega) (by omega)
    refine ts_retI (va_runV (As := [.int (nI (u.1.2 f 0))]) (rest := []) ⟨hx, hb, hml, hown, hts⟩ (k_X3_needOf l D q b s.heap.size u (u.1.2 f 0) hwf (by omega)) (cwV 1 hts gX3_guessIn_X3_needOf rfl rfl rfl (by decide +kernel) ⟨Nat.le_of_ble_eq_true rfl, Nat.le_of_ble_eq_true rfl⟩) (ts_preV hK hN hW 1 (by decide) cel_pr rfl) rfl rfl hl.1 rfl (lv_room (Nat.le_of_ble_eq_true rfl)) dX3_guessIn_18 ⟨Nat.zero_le _, Nat.zero_le _⟩) hS (fun x h => ts_Aup hS.1 h) (fun r4 u5 H locs hp6 hW _ _ hS => ?_)
    have hp6r : r4 = nI (needP u.1 (u.1.2 f 0)) := hp6.1
    have hp6u : u5 = u := hp6.2
    rw [hp6r]
    rw [hp6u] at hW
    have hq7 := needP_le hwf (v := u.1.2 f 0) (by unfold okS; omega)
    exact ts_iret (u := u) (v := nI (needP u.1 (u.1.2 f 0))) C0 hW hS (by exact ⟨congrArg nI (by unfold guessI; split <;> first | rfl | (exfalso; omega)), rfl⟩) dX3_guessIn_21
  rw [ts_eq0 (by omega)] at c2
  refine lv_iconst (v := nI 3) hx hb dX3_guessIn_7 (by decide) ?_
  refine lv_goto (tgt := 21) hx hb dX3_guessIn_8 (by decide) ?_
  exact ts_iret (u := u) (v := nI 3) C0 hW hS (by exact ⟨congrArg nI (by unfold guessI; split <;> first | rfl | (exfalso; omega)), rfl⟩) dX3_guessIn_21
set_option maxHeartbeats 4000000 in
set_option maxRecDepth 100000 in
theorem k_X3_guessOut (l : Launch) (D : va_G) (q : CQ) (b sz : Nat) (u : ST) (f : Nat) (hwf : WP u.1) (hf : f < 10) : Met l yX3_guessOut wsX3_guessOut ({ frames := 2, cells := 0, slots := 0, locals := 41 } : Room) (va_Pc [.ref (b + 1), .ref (b + (3 + 2 * f))] (Pr D q b sz u)) (cI D q b sz (fun r u' => r = nI (guessO u.1 f) ∧ u' = u)) 0 0 (ts_A b 52 sz) := by
  refine ts_met (by decide) rfl (Nat.le_of_ble_eq_true rfl) ?_
  intro p e s m below meth c C0 hX ls hl
  obtain ⟨hsz, hW, hK, hN⟩ := hX
  subst hsz
  obtain ⟨hx, hb, hml, hown, hts, -, -, -⟩ := id C0
  have hW : ts_W D b 52 (cel q b u) s.heap := hW
  have hS : va_S (ts_A b 52 s.heap.size) s.heap s.heap [] := va_S.rf
  have hB : ∀ k, k < 52 → ts_A b 52 s.heap.size (b + k) := fun k hk => ts_Ain hk
  have hi2 : ∀ w ∈ wsX20, w ∈ wsX3_guessOut := ts_lays 15 rfl
  have hl : lv_has ls 2 [(0, .ref (b + 1)), (1, .ref (b + (3 + 2 * f)))] := hl
  have hs := hwf.sz
  refine lv_aload_n hx hb dX3_guessOut_0 rfl (lv_at hl 1 rfl) ?_
  refine ts_get (C := RX2) (T := TX2) (N := 4) (v := .int (nI (u.1.1 (20 + f)))) hx hb hts hi2 hown hK hW (3 + 2 * f) (by omega) (cel_fn (by omega)) rfl 1 (by decide) (List.mem_of_getElem? (i := 1) rfl) rfl dX3_guessOut_1 ?_
  have hq1 := hwf.fsz (i := f) (by omega)
  refine lv_if_ne (tgt := 11) hx hb dX3_guessOut_4 (by decide) (fun c2 => ?_) (fun c2 => ?_)
  · skip
    rw [ts_eq0 (by omega)] at c2
    refine lv_aload_n hx hb dX3_guessOut_11 rfl (lv_at hl 0 rfl) ?_
    refine lv_aload_n hx hb dX3_guessOut_12 rfl (lv_at hl 1 rfl) ?_
    refine ts_get (C := RX2) (T := TX2) (N := 4) (v := .ref (b + (4 + 2 * f))) hx hb hts hi2 hown hK hW (3 + 2 * f) (by omega) (cel_fn (by omega)) rfl 0 (by decide) (List.mem_of_getElem? (i := 2) rfl) rfl dX3_guessOut_13 ?_
    refine lv_aload_n hx hb dX3_guessOut_16 rfl (lv_at hl 1 rfl) ?_
    refine ts_get (C := RX2) (T := TX2) (N := 4) (v := .int (nI (u.1.1 (20 + f)))) hx hb hts hi2 hown hK hW (3 + 2 * f) (by omega) (cel_fn (by omega)) rfl 1 (by decide) (List.mem_of_getElem? (i := 1) rfl) rfl dX3_guessOut_17 ?_
    have hq3 := hwf.fsz (i := f) (by omega)
    refine lv_iconst (v := nI 1) hx hb dX3_guessOut_20 (by decide) ?_
    refine ts_isub (v := nI ((u.1.1 (20 + f)) - 1)) hx hb dX3_guessOut_21 (pk_sub (by omega)) ?_
    refine ts_iald (v := nI (u.1.2 f ((u.1.1 (20 + f)) - 1))) hx hb hK hW (4 + 2 * f) (by omega) 0 (cel_sp (by omega)) rfl (by omega) (by decide) rfl dX3_guessOut_22 ?_
    have hq4 := hwf.stp (i := f) (j := (u.1.1 (20 + f)) - 1) (by omega) (by omega)
    refine ts_retI (va_runV (As := [.int (nI (u.1.2 f ((u.1.1 (20 + f)) - 1)))]) (rest := []) ⟨hx, hb, hml, hown, hts⟩ (k_X3_giftOf l D q b s.heap.size u (u.1.2 f ((u.1.1 (20 + f)) - 1)) hwf (by omega)) (cwV 1 hts gX3_guessOut_X3_giftOf rfl rfl rfl (by decide +kernel) ⟨Nat.le_of_ble_eq_true rfl, Nat.le_of_ble_eq_true rfl⟩) (ts_preV hK hN hW 1 (by decide) cel_pr rfl) rfl rfl hl.1 rfl (lv_room (Nat.le_of_ble_eq_true rfl)) dX3_guessOut_23 ⟨Nat.zero_le _, Nat.zero_le _⟩) hS (fun x h => ts_Aup hS.1 h) (fun r5 u6 H locs hp7 hW _ _ hS => ?_)
    have hp7r : r5 = nI (giftP u.1 (u.1.2 f ((u.1.1 (20 + f)) - 1))) := hp7.1
    have hp7u : u6 = u := hp7.2
    rw [hp7r]
    rw [hp7u] at hW
    have hq8 := giftP_le hwf (v := u.1.2 f ((u.1.1 (20 + f)) - 1)) (by unfold okS; omega)
    exact ts_iret (u := u) (v := nI (giftP u.1 (u.1.2 f ((u.1.1 (20 + f)) - 1)))) C0 hW hS (by exact ⟨congrArg nI (by unfold guessO; split <;> first | rfl | (exfalso; omega)), rfl⟩) dX3_guessOut_26
  rw [ts_eq0 (by omega)] at c2
  refine lv_iconst (v := nI 3) hx hb dX3_guessOut_7 (by decide) ?_
  refine lv_goto (tgt := 26) hx hb dX3_guessOut_8 (by decide) ?_
  exact ts_iret (u := u) (v := nI 3) C0 hW hS (by exact ⟨congrArg nI (by unfold guessO; split <;> first | rfl | (exfalso; omega)), rfl⟩) dX3_guessOut_26
