/-! The law's own station: an object and its arrays, as far as the law writes them; its contents say nothing but how many are there -/
abbrev OT : Type := Nat × (Nat → Nat → Int32)
def celO (q : CQ) (b : Nat) (o : OT) (k : Nat) : va_E :=
  if k = 0 then .inr (6, [.ref (b + 1), .ref (b + 12), .ref (b + 13), .ref (b + 14), .ref (b + 15), .int (nI o.1), .ref (b + 16), .ref (b + 17), .ref (b + 18), .int 0, .int 0, .int 0, .int 0])
  else if k = 1 then .inl (q.2.2, 10, .inr (.inr (.inr (.inr (fun i => some (b + (2 + i)))))))
  else if k < 12 then .inl (q.1, 6, .inl (o.2 (k - 2)))
  else .inl (q.1, 10, .inl (o.2 (k - 2)))
def up2 (R : Nat → Nat → Int32) (r j : Nat) (v : Int32) : Nat → Nat → Int32 := fun r' j' => if r' = r ∧ j' = j then v else R r' j'
theorem up2_row (R : Nat → Nat → Int32) (r j : Nat) (v : Int32) (i : Nat) : up2 R r j v r i = if i = j then v else R r i := by
  unfold up2
  by_cases h : i = j
  · rw [if_pos ⟨rfl, h⟩, if_pos h]
  · rw [if_neg (fun q => h q.2), if_neg h]
theorem up2_ne (R : Nat → Nat → Int32) {r r' : Nat} (j : Nat) (v : Int32) (h : r' ≠ r) : up2 R r j v r' = R r' := by
  funext i
  exact if_neg (fun q => h q.1)
theorem celO_ob {q : CQ} {b : Nat} {o : OT} : celO q b o 0 = .inr (6, [.ref (b + 1), .ref (b + 12), .ref (b + 13), .ref (b + 14), .ref (b + 15), .int (nI o.1), .ref (b + 16), .ref (b + 17), .ref (b + 18), .int 0, .int 0, .int 0, .int 0]) := rfl
theorem celO_st {q : CQ} {b : Nat} {o : OT} : celO q b o 1 = .inl (q.2.2, 10, .inr (.inr (.inr (.inr (fun i => some (b + (2 + i))))))) := rfl
theorem celO_rw {q : CQ} {b : Nat} {o : OT} {i : Nat} (h : i < 10) : celO q b o (2 + i) = .inl (q.1, 6, .inl (o.2 i)) := by
  unfold celO
  rw [if_neg (by omega), if_neg (by omega), if_pos (by omega), show 2 + i - 2 = i by omega]
theorem celO_ar {q : CQ} {b : Nat} {o : OT} {i : Nat} (h : 10 ≤ i) : celO q b o (2 + i) = .inl (q.1, 10, .inl (o.2 i)) := by
  unfold celO
  rw [if_neg (by omega), if_neg (by omega), if_neg (by omega), show 2 + i - 2 = i by omega]
theorem celO_o0 {q : CQ} {b n : Nat} {o : OT} : ∀ k, k < 15 → k ≠ 0 → celO q b (n, o.2) k = celO q b o k := by
  intro k hk hn
  unfold celO
  simp only [if_neg hn]
theorem celO_or {q : CQ} {b r j : Nat} {v : Int32} {o : OT} : ∀ k, k < 15 → k ≠ 2 + r → celO q b (o.1, up2 o.2 r j v) k = celO q b o k := by
  intro k hk hn
  unfold celO
  dsimp only
  rcases Nat.lt_or_ge k 2 with c | c
  · have : k = 0 ∨ k = 1 := by omega
    rcases this with e | e <;> simp [e]
  · rw [up2_ne _ _ _ (show k - 2 ≠ r by omega)]
def PrZ (D : va_G) (q : CQ) (cz : ClassId) (b n : Nat) (f : Nat → va_E) : State → Prop := fun U => PrN D q b n f U ∧ va_K D vwCl [(cz, .boolean)] U
set_option maxHeartbeats 4000000 in
set_option maxRecDepth 100000 in
theorem k_X6_init (l : Launch) (D : va_G) (q : CQ) (cz : ClassId) (b : Nat) (f : Nat → va_E) (he : f 52 = .inr (6, [.null, .null, .null, .null, .null, .int 0, .null, .null, .null, .int 0, .int 0, .int 0, .int 0])) : Met l yX6_init wsX6_init ({ frames := 1, cells := 18, slots := 146, locals := 12 } : Room) (va_Pc [.ref (b + 52)] (PrZ D q cz b 53 f)) (cVN D b 71 (va_up (va_up (va_up (va_up (va_up (va_up (va_up (va_up (va_up (va_up (va_up (va_up (va_up (va_up (va_up (fun x => if x < 53 then f x else if x = 53 then .inl (q.2.2, 10, .inr (.inr (.inr (.inr (fun i => some (b + (53 + 1 + i))))))) else .inl (q.1, 6, .inl (fun _ => 0))) 52 (.inr (6, [.ref (b + 53), .null, .null, .null, .null, .int 0, .null, .null, .null, .int 0, .int 0, .int 0, .int 0]))) 64 (.inl (q.1, 10, .inl (fun _ => 0)))) 52 (.inr (6, [.ref (b + 53), .ref (b + 64), .null, .null, .null, .int 0, .null, .null, .null, .int 0, .int 0, .int 0, .int 0]))) 65 (.inl (q.1, 10, .inl (fun _ => 0)))) 52 (.inr (6, [.ref (b + 53), .ref (b + 64), .ref (b + 65), .null, .null, .int 0, .null, .null, .null, .int 0, .int 0, .int 0, .int 0]))) 66 (.inl (q.1, 10, .inl (fun _ => 0)))) 52 (.inr (6, [.ref (b + 53), .ref (b + 64), .ref (b + 65), .ref (b + 66), .null, .int 0, .null, .null, .null, .int 0, .int 0, .int 0, .int 0]))) 67 (.inl (cz, 10, .inl (fun _ => 0)))) 52 (.inr (6, [.ref (b + 53), .ref (b + 64), .ref (b + 65), .ref (b + 66), .ref (b + 67), .int 0, .null, .null, .null, .int 0, .int 0, .int 0, .int 0]))) 68 (.inl (q.1, 14, .inl (fun _ => 0)))) 52 (.inr (6, [.ref (b + 53), .ref (b + 64), .ref (b + 65), .ref (b + 66), .ref (b + 67), .int 0, .ref (b + 68), .null, .null, .int 0, .int 0, .int 0, .int 0]))) 69 (.inl (q.1, 14, .inl (fun _ => 0)))) 52 (.inr (6, [.ref (b + 53), .ref (b + 64), .ref (b + 65), .ref (b + 66), .ref (b + 67), .int 0, .ref (b + 68), .ref (b + 69), .null, .int 0, .int 0, .int 0, .int 0]))) 70 (.inl (q.1, 8, .inl (fun _ => 0)))) 52 (.inr (6, [.ref (b + 53), .ref (b + 64), .ref (b + 65), .ref (b + 66), .ref (b + 67), .int 0, .ref (b + 68), .ref (b + 69), .ref (b + 70), .int 0, .int 0, .int 0, .int 0])))) 18 146 (fun x => b ≤ x) := by
  refine ts_met (by decide) rfl (Nat.le_of_ble_eq_true rfl) ?_
  intro p e s m below meth c C0 hX ls hl
  obtain ⟨⟨hz, hW, hK, hN, hAO⟩, hK2⟩ := hX
  obtain ⟨hx, hb, hml, hown, hts, hr, hlocks, hnm⟩ := id C0
  have hS : va_S (fun x => b ≤ x) s.heap s.heap [] := va_S.rf
  have hi6 : ∀ w ∈ wsX60, w ∈ wsX6_init := ts_lays 15 rfl
  have hl : lv_has ls 1 [(0, .ref (b + 52))] := hl
  refine lv_aload_n hx hb dX6_init_0 rfl (lv_at hl 0 rfl) ?_
  refine W.objInit hx hb hown (hts _ (List.mem_of_getElem? (i := 1) rfl)) (hts _ (List.mem_of_getElem? (i := 2) rfl)) (hts _ (List.mem_of_getElem? (i := 3) rfl)) rfl (by rw [hml]; exact hl.1) rfl dX6_init_1 (Nat.le_of_ble_eq_true rfl) (Nat.le_of_ble_eq_true rfl) ?_
  refine W.eq (g2 := F0 m 4 ls []) rfl ?_
  refine lv_aload_n hx hb dX6_init_4 rfl (lv_at hl 0 rfl) ?_
  refine lv_bipush (v := nI 10) hx hb dX6_init_5 (by decide) ?_
  refine lv_bipush (v := nI 6) hx hb dX6_init_7 (by decide) ?_
  refine ts_mna (own := RX6) (N := 10) (K := 6) hx hb hts hown (List.mem_of_getElem? (i := 4) rfl) hAO.2 (List.mem_of_getElem? (i := 5) rfl) hK hz hW hS (by decide) (by decide) (Nat.le_of_ble_eq_true rfl) (Nat.le_of_ble_eq_true rfl) dX6_init_9 (fun H hz _ hW hS => ?_)
  refine ts_putF (C := RX6) (T := TX6) (N := 13) hx hb hts hi6 tyX6 tyX6_ok nmX6 hown hK hW hS 52 (by decide) (by omega) ((if_pos (by decide)).trans he) rfl 0 (by decide) (List.mem_of_getElem? (i := 6) rfl) rfl hnm rfl rfl rfl (Nat.le_of_ble_eq_true rfl) dX6_init_13 (fun H locs _ hz2 hW hS => ?_)
  have hz := hz2.trans hz
  refine lv_aload_n hx hb dX6_init_16 rfl (lv_at hl 0 rfl) ?_
  refine lv_bipush (v := nI 10) hx hb dX6_init_17 (by decide) ?_
  refine ts_newa (n := 64) (atype := .int) (cA := q.1) hx hb hts (List.mem_of_getElem? (i := 5) rfl) hK 0 rfl (fun h => h) hz hW hS (10, .inl (fun _ => 0)) rfl (by decide) (Nat.le_of_ble_eq_true rfl) (Nat.le_of_ble_eq_true rfl) (Nat.le_of_ble_eq_true rfl) dX6_init_19 (fun H hz _ hW hS => ?_)
  refine ts_putF (C := RX6) (T := TX6) (N := 13) hx hb hts hi6 tyX6 tyX6_ok nmX6 hown hK hW hS 52 (by decide) (by omega) ((va_up_ne _ _ (by decide)).trans (va_up_self _ _ _)) rfl 1 (by decide) (List.mem_of_getElem? (i := 7) rfl) rfl hnm rfl rfl rfl (Nat.le_of_ble_eq_true rfl) dX6_init_21 (fun H locs _ hz2 hW hS => ?_)
  have hz := hz2.trans hz
  refine lv_aload_n hx hb dX6_init_24 rfl (lv_at hl 0 rfl) ?_
  refine lv_bipush (v := nI 10) hx hb dX6_init_25 (by decide) ?_
  refine ts_newa (n := 65) (atype := .int) (cA := q.1) hx hb hts (List.mem_of_getElem? (i := 5) rfl) hK 0 rfl (fun h => h) hz hW hS (10, .inl (fun _ => 0)) rfl (by decide) (Nat.le_of_ble_eq_true rfl) (Nat.le_of_ble_eq_true rfl) (Nat.le_of_ble_eq_true rfl) dX6_init_27 (fun H hz _ hW hS => ?_)
  refine ts_putF (C := RX6) (T := TX6) (N := 13) hx hb hts hi6 tyX6 tyX6_ok nmX6 hown hK hW hS 52 (by decide) (by omega) ((va_up_ne _ _ (by decide)).trans (va_up_self _ _ _)) rfl 2 (by decide) (List.mem_of_getElem? (i := 8) rfl) rfl hnm rfl rfl rfl (Nat.le_of_ble_eq_true rfl) dX6_init_29 (fun H locs _ hz2 hW hS => ?_)
  have hz := hz2.trans hz
  refine lv_aload_n hx hb dX6_init_32 rfl (lv_at hl 0 rfl) ?_
  refine lv_bipush (v := nI 10) hx hb dX6_init_33 (by decide) ?_
  refine ts_newa (n := 66) (atype := .int) (cA := q.1) hx hb hts (List.mem_of_getElem? (i := 5) rfl) hK 0 rfl (fun h => h) hz hW hS (10, .inl (fun _ => 0)) rfl (by decide) (Nat.le_of_ble_eq_true rfl) (Nat.le_of_ble_eq_true rfl) (Nat.le_of_ble_eq_true rfl) dX6_init_35 (fun H hz _ hW hS => ?_)
  refine ts_putF (C := RX6) (T := TX6) (N := 13) hx hb hts hi6 tyX6 tyX6_ok nmX6 hown hK hW hS 52 (by decide) (by omega) ((va_up_ne _ _ (by decide)).trans (va_up_self _ _ _)) rfl 3 (by decide) (List.mem_of_getElem? (i := 9) rfl) rfl hnm rfl rfl rfl (Nat.le_of_ble_eq_true rfl) dX6_init_37 (fun H locs _ hz2 hW hS => ?_)
  have hz := hz2.trans hz
  refine lv_aload_n hx hb dX6_init_40 rfl (lv_at hl 0 rfl) ?_
  refine lv_bipush (v := nI 10) hx hb dX6_init_41 (by decide) ?_
  refine ts_newa (n := 67) (atype := .boolean) (cA := cz) hx hb hts (List.mem_of_getElem? (i := 10) rfl) hK2 0 rfl (fun h => h) hz hW hS (10, .inl (fun _ => 0)) rfl (by decide) (Nat.le_of_ble_eq_true rfl) (Nat.le_of_ble_eq_true rfl) (Nat.le_of_ble_eq_true rfl) dX6_init_43 (fun H hz _ hW hS => ?_)
  refine ts_putF (C := RX6) (T := TX6) (N := 13) hx hb hts hi6 tyX6 tyX6_ok nmX6 hown hK hW hS 52 (by decide) (by omega) ((va_up_ne _ _ (by decide)).trans (va_up_self _ _ _)) rfl 4 (by decide) (List.mem_of_getElem? (i := 11) rfl) rfl hnm rfl rfl rfl (Nat.le_of_ble_eq_true rfl) dX6_init_45 (fun H locs _ hz2 hW hS => ?_)
  have hz := hz2.trans hz
  refine lv_aload_n hx hb dX6_init_48 rfl (lv_at hl 0 rfl) ?_
  refine lv_bipush (v := nI 14) hx hb dX6_init_49 (by decide) ?_
  refine ts_newa (n := 68) (atype := .int) (cA := q.1) hx hb hts (List.mem_of_getElem? (i := 5) rfl) hK 0 rfl (fun h => h) hz hW hS (14, .inl (fun _ => 0)) rfl (by decide) (Nat.le_of_ble_eq_true rfl) (Nat.le_of_ble_eq_true rfl) (Nat.le_of_ble_eq_true rfl) dX6_init_51 (fun H hz _ hW hS => ?_)
  refine ts_putF (C := RX6) (T := TX6) (N := 13) hx hb hts hi6 tyX6 tyX6_ok nmX6 hown hK hW hS 52 (by decide) (by omega) ((va_up_ne _ _ (by decide)).trans (va_up_self _ _ _)) rfl 6 (by decide) (List.mem_of_getElem? (i := 12) rfl) rfl hnm rfl rfl rfl (Nat.le_of_ble_eq_true rfl) dX6_init_53 (fun H locs _ hz2 hW hS => ?_)
  have hz := hz2.trans hz
  refine lv_aload_n hx hb dX6_init_56 rfl (lv_at hl 0 rfl) ?_
  refine lv_bipush (v := nI 14) hx hb dX6_init_57 (by decide) ?_
  refine ts_newa (n := 69) (atype := .int) (cA := q.1) hx hb hts (List.mem_of_getElem? (i := 5) rfl) hK 0 rfl (fun h => h) hz hW hS (14, .inl (fun _ => 0)) rfl (by decide) (Nat.le_of_ble_eq_true rfl) (Nat.le_of_ble_eq_true rfl) (Nat.le_of_ble_eq_true rfl) dX6_init_59 (fun H hz _ hW hS => ?_)
  refine ts_putF (C := RX6) (T := TX6) (N := 13) hx hb hts hi6 tyX6 tyX6_ok nmX6 hown hK hW hS 52 (by decide) (by omega) ((va_up_ne _ _ (by decide)).trans (va_up_self _ _ _)) rfl 7 (by decide) (List.mem_of_getElem? (i := 13) rfl) rfl hnm rfl rfl rfl (Nat.le_of_ble_eq_true rfl) dX6_init_61 (fun H locs _ hz2 hW hS => ?_)
  have hz := hz2.trans hz
  refine lv_aload_n hx hb dX6_init_64 rfl (lv_at hl 0 rfl) ?_
  refine lv_bipush (v := nI 8) hx hb dX6_init_65 (by decide) ?_
  refine ts_newa (n := 70) (atype := .int) (cA := q.1) hx hb hts (List.mem_of_getElem? (i := 5) rfl) hK 0 rfl (fun h => h) hz hW hS (8, .inl (fun _ => 0)) rfl (by decide) (Nat.le_of_ble_eq_true rfl) (Nat.le_of_ble_eq_true rfl) (Nat.le_of_ble_eq_true rfl) dX6_init_67 (fun H hz _ hW hS => ?_)
  refine ts_putF (C := RX6) (T := TX6) (N := 13) hx hb hts hi6 tyX6 tyX6_ok nmX6 hown hK hW hS 52 (by decide) (by omega) ((va_up_ne _ _ (by decide)).trans (va_up_self _ _ _)) rfl 8 (by decide) (List.mem_of_getElem? (i := 14) rfl) rfl hnm rfl rfl rfl (Nat.le_of_ble_eq_true rfl) dX6_init_69 (fun H locs _ hz2 hW hS => ?_)
  have hz := hz2.trans hz
  exact ts_vretN C0 hz hW hS dX6_init_72
