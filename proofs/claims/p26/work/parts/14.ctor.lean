/-! The constructors, over a heap that grows at its end -/
def PrN (D : va_G) (q : CQ) (b n : Nat) (f : Nat → va_E) : State → Prop := fun U => U.heap.size = b + n ∧ ts_W D b n f U.heap ∧ va_K D vwCl (tq q) U ∧ ts_N U ∧ ts_AO U
abbrev cVN (D : va_G) (b n : Nat) (f : Nat → va_E) := va_Qv (fun _ : Unit => True) (fun _ t => t.heap.size = b + n ∧ ts_W D b n f t.heap) (fun x => b ≤ x)
abbrev cRN (D : va_G) (b n k : Nat) (f : Nat → va_E) := va_Qr (fun _ : Unit => True) (fun _ a t => a = b + k ∧ t.heap.size = b + n ∧ ts_W D b n f t.heap) (fun x => b ≤ x)
section TSC
variable {p : Program} {l : Launch} {e : Env} {R : Room} {s : State} {m : MethodId} {args : Array Value} {below : List Frame} {meth : Method} {c : Code} {H : Heap} {locs : List Loc} {cells slots : Nat} {Q : State → Prop}
variable {cc : ByteArray} {pc : Nat} {ls : Array Slot} {rest st : List Value} {D : va_G} {q : CQ} {b n n' k mc ms : Nat} {f f' : Nat → va_E} {As : List Value}
theorem ts_preN (hK : va_K D vwCl (tq q) s) (hN : ts_N s) (hAO : ts_AO s) (hz : H.size = b + n) (hW : ts_W D b n f H) : PreS s H (va_Pc As (PrN D q b n f)) As :=
  ⟨fun a U g mk h => ⟨h.1, h.2.1, h.2.2.1, va_K.moved (u := U) (U := U.calling g mk a) (Vm.Alike.refl U.vm) h.2.2.2.1, ts_N.same (s := U) (U := U.calling g mk a) rfl h.2.2.2.2.1, ts_AO.moved (u := U) (U := U.calling g mk a) (Vm.Alike.refl U.vm) h.2.2.2.2.2⟩,
   fun U hU hW' => ⟨rfl, by rw [hU]; exact hz, by rw [hU]; exact hW, va_K.moved hW'.alike hK, hN.warm hW', hAO.moved hW'.alike⟩⟩
theorem ts_retN {a : Array Value} (hr : va_Run p l e R s m args below meth c H locs cells slots mc ms (F0 m pc ls st) rest (cVN D b n' f' a) (fun x => b ≤ x)) (hS : va_S (fun x => b ≤ x) s.heap H locs)
    (kk : ∀ (H1 : Heap) (locs1 : List Loc), H1.size = b + n' → ts_W D b n' f' H1 → va_S (fun x => b ≤ x) s.heap H1 locs1 → W p l e R s m args below meth c H1 locs1 (cells + mc) (slots + ms) Q (F0 m (pc + 3) ls rest)) : W p l e R s m args below meth c H locs cells slots Q (F0 m pc ls st) :=
  va_callv hr hS (fun x _ h => h) (fun x h => h) (fun _ t H1 locs1 ht _ _ hB _ _ hS1 => kk H1 locs1 (by rw [← ht]; exact hB.1) (by rw [← ht]; exact hB.2) hS1)
theorem ts_retRN {a : Array Value} (hr : va_Run p l e R s m args below meth c H locs cells slots mc ms (F0 m pc ls st) rest (cRN D b n' k f' a) (fun x => b ≤ x)) (hS : va_S (fun x => b ≤ x) s.heap H locs)
    (kk : ∀ (H1 : Heap) (locs1 : List Loc), H1.size = b + n' → ts_W D b n' f' H1 → va_S (fun x => b ≤ x) s.heap H1 locs1 → W p l e R s m args below meth c H1 locs1 (cells + mc) (slots + ms) Q (F0 m (pc + 3) ls (.ref (b + k) :: rest))) : W p l e R s m args below meth c H locs cells slots Q (F0 m pc ls st) :=
  va_callr hr hS (fun x _ h => h) (fun x h => h) (fun _ ra t H1 locs1 ht _ _ hB _ _ hS1 => by
    obtain ⟨rfl, h1, h2⟩ := hB
    exact kk H1 locs1 (by rw [← ht]; exact h1) (by rw [← ht]; exact h2) hS1)
theorem ts_vretN {y : MethodName} {ws : List Cond} {maxL : Nat} (C0 : ts_Cx p s m args meth c cc maxL none y ws) (hz : H.size = b + n') (hW : ts_W D b n' f' H) (hS : va_S (fun x => b ≤ x) s.heap H locs) (hdg : decode cc pc = .ok (.return_, 1)) :
    W p l e R s m args below meth c H locs cells slots (MQ below (cVN D b n' f') args s cells slots (fun x => b ≤ x)) (F0 m pc ls []) :=
  W.vret C0.1 C0.2.1 C0.2.2.2.2.2.1 (fun t ht _ => ⟨⟨(), rfl, trivial, by rw [ht]; exact hz, by rw [ht]; exact hW⟩, hS.F ht⟩) hS.2.2 hdg C0.2.2.2.2.2.2.1
theorem ts_aretN {y : MethodName} {ws : List Cond} {maxL : Nat} {rt : FieldType} (C0 : ts_Cx p s m args meth c cc maxL (some rt) y ws) (hrt : (∃ n, rt = .object n) ∨ ∃ t, rt = .array t) (hz : H.size = b + n') (hW : ts_W D b n' f' H) (hS : va_S (fun x => b ≤ x) s.heap H locs) (hdg : decode cc pc = .ok (.areturn, 1)) :
    W p l e R s m args below meth c H locs cells slots (MQ below (cRN D b n' k f') args s cells slots (fun x => b ≤ x)) (F0 m pc ls [.ref (b + k)]) :=
  W.aret C0.1 C0.2.1 C0.2.2.2.2.2.1 hrt (Or.inr ⟨_, rfl⟩) (fun t ht _ => ⟨⟨(), b + k, rfl, trivial, rfl, by rw [ht]; exact hz, by rw [ht]; exact hW⟩, hS.F ht⟩) hS.2.2 hdg C0.2.2.2.2.2.2.1
end TSC
set_option maxHeartbeats 4000000 in
set_option maxRecDepth 100000 in
theorem k_X1_init (l : Launch) (D : va_G) (q : CQ) (b : Nat) (n k : Nat) (f : Nat → va_E) : Met l yX1_init wsX1_init ({ frames := 1, cells := 0, slots := 0, locals := 12 } : Room) (va_Pc [.ref (b + k)] (PrN D q b (n) f)) (cVN D b (n) f) 0 0 (fun x => b ≤ x) := by
  refine ts_met (by decide) rfl (Nat.le_of_ble_eq_true rfl) ?_
  intro p e s m below meth c C0 hX ls hl
  obtain ⟨hz, hW, hK, hN, hAO⟩ := hX
  obtain ⟨hx, hb, hml, hown, hts, hr, hlocks, hnm⟩ := id C0
  have hS : va_S (fun x => b ≤ x) s.heap s.heap [] := va_S.rf
  have hA : ∀ j : Nat, j < (n) → b ≤ b + j := fun j _ => by omega
  have hl : lv_has ls 1 [(0, .ref (b + k))] := hl
  refine lv_aload_n hx hb dX1_init_0 rfl (lv_at hl 0 rfl) ?_
  refine W.objInit hx hb hown (hts _ (List.mem_of_getElem? (i := 1) rfl)) (hts _ (List.mem_of_getElem? (i := 2) rfl)) (hts _ (List.mem_of_getElem? (i := 3) rfl)) rfl (by rw [hml]; exact hl.1) rfl dX1_init_1 (Nat.le_of_ble_eq_true rfl) (Nat.le_of_ble_eq_true rfl) ?_
  refine W.eq (g2 := F0 m 4 ls []) rfl ?_
  exact ts_vretN C0 hz hW hS dX1_init_4
set_option maxHeartbeats 4000000 in
set_option maxRecDepth 100000 in
theorem k_X2_init (l : Launch) (D : va_G) (q : CQ) (b : Nat) (n k : Nat) (f : Nat → va_E) (hk : k < n) (he : f k = .inr (2, [.null, .int 0, .int 0, .int 0])) : Met l yX2_init wsX2_init ({ frames := 1, cells := 1, slots := 6, locals := 12 } : Room) (va_Pc [.ref (b + k)] (PrN D q b (n) f)) (cVN D b (n + 1) (va_up (va_up f n (.inl (q.1, 6, .inl (fun _ => 0)))) k (.inr (2, [.ref (b + n), .int 0, .int (nI 3), .int (nI 3)])))) 1 6 (fun x => b ≤ x) := by
  refine ts_met (by decide) rfl (Nat.le_of_ble_eq_true rfl) ?_
  intro p e s m below meth c C0 hX ls hl
  obtain ⟨hz, hW, hK, hN, hAO⟩ := hX
  obtain ⟨hx, hb, hml, hown, hts, hr, hlocks, hnm⟩ := id C0
  have hS : va_S (fun x => b ≤ x) s.heap s.heap [] := va_S.rf
  have hA : ∀ j : Nat, j < (n) → b ≤ b + j := fun j _ => by omega
  have hi2 : ∀ w ∈ wsX20, w ∈ wsX2_init := ts_lays 8 rfl
  have hl : lv_has ls 1 [(0, .ref (b + k))] := hl
  refine lv_aload_n hx hb dX2_init_0 rfl (lv_at hl 0 rfl) ?_
  refine W.objInit hx hb hown (hts _ (List.mem_of_getElem? (i := 1) rfl)) (hts _ (List.mem_of_getElem? (i := 2) rfl)) (hts _ (List.mem_of_getElem? (i := 3) rfl)) rfl (by rw [hml]; exact hl.1) rfl dX2_init_1 (Nat.le_of_ble_eq_true rfl) (Nat.le_of_ble_eq_true rfl) ?_
  refine W.eq (g2 := F0 m 4 ls []) rfl ?_
  refine lv_aload_n hx hb dX2_init_4 rfl (lv_at hl 0 rfl) ?_
  refine lv_bipush (v := nI 6) hx hb dX2_init_5 (by decide) ?_
  refine ts_newa (atype := .int) (cA := q.1) hx hb hts (List.mem_of_getElem? (i := 4) rfl) hK 0 rfl (fun h => h) hz hW hS (6, .inl (fun _ => 0)) rfl (by decide) (Nat.le_of_ble_eq_true rfl) (Nat.le_of_ble_eq_true rfl) (Nat.le_of_ble_eq_true rfl) dX2_init_7 (fun H hz _ hW hS => ?_)
  refine ts_putF (C := RX2) (T := TX2) (N := 4) hx hb hts hi2 tyX2 tyX2_ok nmX2 hown hK hW hS k (by omega) (by omega) ((va_up_ne _ _ (by omega)).trans he) rfl 0 (by decide) (List.mem_of_getElem? (i := 5) rfl) rfl hnm rfl rfl rfl (Nat.le_of_ble_eq_true rfl) dX2_init_9 (fun H locs _ hz2 hW hS => ?_)
  have hz := hz2.trans hz
  refine lv_aload_n hx hb dX2_init_12 rfl (lv_at hl 0 rfl) ?_
  refine lv_iconst (v := nI 3) hx hb dX2_init_13 (by decide) ?_
  refine ts_putU (C := RX2) (T := TX2) (N := 4) hx hb hts hi2 tyX2 tyX2_ok nmX2 hown hK hW hS (fun j _ => by omega) k (by omega) (va_up_self _ _ _) rfl 2 (by decide) (List.mem_of_getElem? (i := 6) rfl) rfl rfl rfl (Nat.le_of_ble_eq_true rfl) dX2_init_14 (fun H locs _ hz2 hW hS => ?_)
  have hz := hz2.trans hz
  refine lv_aload_n hx hb dX2_init_17 rfl (lv_at hl 0 rfl) ?_
  refine lv_iconst (v := nI 3) hx hb dX2_init_18 (by decide) ?_
  refine ts_putU (C := RX2) (T := TX2) (N := 4) hx hb hts hi2 tyX2 tyX2_ok nmX2 hown hK hW hS (fun j _ => by omega) k (by omega) (va_up_self _ _ _) rfl 3 (by decide) (List.mem_of_getElem? (i := 7) rfl) rfl rfl rfl (Nat.le_of_ble_eq_true rfl) dX2_init_19 (fun H locs _ hz2 hW hS => ?_)
  have hz := hz2.trans hz
  rw [bx_uu, bx_uu] at hW
  refine W.widen (k := 1) (n := 6) (by omega) (by omega) ?_
  exact ts_vretN C0 hz hW hS dX2_init_22
set_option maxHeartbeats 4000000 in
set_option maxRecDepth 100000 in
theorem k_X5_newCallTable (l : Launch) (D : va_G) (q : CQ) (b : Nat) (n : Nat) (f : Nat → va_E) : Met l yX5_newCallTable wsX5_newCallTable ({ frames := 1, cells := 12, slots := 121, locals := 0 } : Room) (va_Pc [] (PrN D q b (n) f)) (cRN D b (n + 1 + 11) (n) (fun x => if x < n then f x else if x = n then .inl (q.2.2, 11, .inr (.inr (.inr (.inr (fun i => some (b + (n + 1 + i))))))) else .inl (q.1, 10, .inl (fun _ => 0)))) 12 121 (fun x => b ≤ x) := by
  refine ts_met (by decide) rfl (Nat.le_of_ble_eq_true rfl) ?_
  intro p e s m below meth c C0 hX ls hl
  obtain ⟨hz, hW, hK, hN, hAO⟩ := hX
  obtain ⟨hx, hb, hml, hown, hts, hr, hlocks, hnm⟩ := id C0
  have hS : va_S (fun x => b ≤ x) s.heap s.heap [] := va_S.rf
  have hA : ∀ j : Nat, j < (n) → b ≤ b + j := fun j _ => by omega
  refine lv_bipush (v := nI 11) hx hb dX5_newCallTable_0 (by decide) ?_
  refine lv_bipush (v := nI 10) hx hb dX5_newCallTable_2 (by decide) ?_
  refine ts_mna hx hb hts hown (List.mem_of_getElem? (i := 1) rfl) hAO.2 (List.mem_of_getElem? (i := 2) rfl) hK hz hW hS (N := 11) (K := 10) (by decide) (by decide) (Nat.le_of_ble_eq_true rfl) (Nat.le_of_ble_eq_true rfl) dX5_newCallTable_4 (fun H hz _ hW hS => ?_)
  refine W.widen (k := 12) (n := 121) (by omega) (by omega) ?_
  exact ts_aretN C0 (Or.inr ⟨_, rfl⟩) hz hW hS dX5_newCallTable_8
set_option maxHeartbeats 4000000 in
set_option maxRecDepth 100000 in
theorem k_X4_init (l : Launch) (D : va_G) (q : CQ) (b : Nat) (n k a : Nat) (f : Nat → va_E) (hk : k < n) (he : f k = .inr (4, [.null, .null, .int 0, .int 0, .int 0, .int 0, .int 0, .int 0, .int 0, .int 0, .int 0, .int 0, .int 0])) : Met l yX4_init wsX4_init ({ frames := 2, cells := 12, slots := 121, locals := 19 } : Room) (va_Pc [.ref (b + k), .ref a] (PrN D q b (n) f)) (cVN D b (n + 1 + 11) (va_up (fun x => if x < n then (va_up f k (.inr (4, [.ref a, .null, .int 0, .int 0, .int 0, .int 0, .int 0, .int 0, .int 0, .int 0, .int 0, .int 0, .int 0]))) x else if x = n then .inl (q.2.2, 11, .inr (.inr (.inr (.inr (fun i => some (b + (n + 1 + i))))))) else .inl (q.1, 10, .inl (fun _ => 0))) k (.inr (4, [.ref a, .ref (b + n), .int 0, .int 0, .int 0, .int 0, .int 0, .int 0, .int 0, .int 0, .int 0, .int 0, .int 0])))) 12 121 (fun x => b ≤ x) := by
  refine ts_met (by decide) rfl (Nat.le_of_ble_eq_true rfl) ?_
  intro p e s m below meth c C0 hX ls hl
  obtain ⟨hz, hW, hK, hN, hAO⟩ := hX
  obtain ⟨hx, hb, hml, hown, hts, hr, hlocks, hnm⟩ := id C0
  have hS : va_S (fun x => b ≤ x) s.heap s.heap [] := va_S.rf
  have hA : ∀ j : Nat, j < (n) → b ≤ b + j := fun j _ => by omega
  have hi4 : ∀ w ∈ wsX40, w ∈ wsX4_init := ts_lays 11 rfl
  have hl : lv_has ls 2 [(0, .ref (b + k)), (1, .ref a)] := hl
  refine lv_aload_n hx hb dX4_init_0 rfl (lv_at hl 0 rfl) ?_
  refine W.objInit hx hb hown (hts _ (List.mem_of_getElem? (i := 1) rfl)) (hts _ (List.mem_of_getElem? (i := 2) rfl)) (hts _ (List.mem_of_getElem? (i := 3) rfl)) rfl (by rw [hml]; exact hl.1) rfl dX4_init_1 (Nat.le_of_ble_eq_true rfl) (Nat.le_of_ble_eq_true rfl) ?_
  refine W.eq (g2 := F0 m 4 ls []) rfl ?_
  refine lv_aload_n hx hb dX4_init_4 rfl (lv_at hl 0 rfl) ?_
  refine lv_aload_n hx hb dX4_init_5 rfl (lv_at hl 1 rfl) ?_
  refine ts_putF (C := RX4) (T := TX4) (N := 13) hx hb hts hi4 tyX4 tyX4_ok nmX4 hown hK hW hS k (by omega) (by omega) he rfl 0 (by decide) (List.mem_of_getElem? (i := 4) rfl) rfl hnm rfl rfl rfl (Nat.le_of_ble_eq_true rfl) dX4_init_6 (fun H locs _ hz2 hW hS => ?_)
  have hz := hz2.trans hz
  refine lv_aload_n hx hb dX4_init_9 rfl (lv_at hl 0 rfl) ?_
  refine ts_retRN (va_runSN (As := []) (rest := [.ref (b + k)]) ⟨hx, hb, hml, hown, hts⟩ (k_X5_newCallTable l D q b n (va_up f k (.inr (4, [.ref a, .null, .int 0, .int 0, .int 0, .int 0, .int 0, .int 0, .int 0, .int 0, .int 0, .int 0, .int 0])))) ⟨va_cnB 0 hts gX4_init_X5_newCallTable_n15 rfl rfl rfl (hN _ (List.mem_of_getElem? (i := 1) rfl)) (hts _ (List.mem_of_getElem? (i := 7) rfl)) (by decide +kernel) ⟨Nat.le_of_ble_eq_true rfl, Nat.le_of_ble_eq_true rfl⟩, hts _ (List.mem_of_getElem? (i := 6) rfl), trivial⟩ (ts_preN hK hN hAO hz hW) rfl rfl hl.1 rfl (lv_room (Nat.le_of_ble_eq_true rfl)) dX4_init_10 ⟨(Nat.le_of_ble_eq_true rfl), (Nat.le_of_ble_eq_true rfl)⟩) hS (fun H locs hz hW hS => ?_)
  refine ts_putF (C := RX4) (T := TX4) (N := 13) hx hb hts hi4 tyX4 tyX4_ok nmX4 hown hK hW hS k (by omega) (by omega) ((if_pos hk).trans (va_up_self _ _ _)) rfl 1 (by decide) (List.mem_of_getElem? (i := 5) rfl) rfl hnm rfl rfl rfl (Nat.le_of_ble_eq_true rfl) dX4_init_13 (fun H locs _ hz2 hW hS => ?_)
  have hz := hz2.trans hz
  refine W.widen (k := 12) (n := 121) (by omega) (by omega) ?_
  exact ts_vretN C0 hz hW hS dX4_init_16
set_option maxHeartbeats 4000000 in
set_option maxRecDepth 100000 in
theorem k_X0_init (l : Launch) (D : va_G) (q : CQ) (b : Nat) (n k : Nat) (f : Nat → va_E) (hk : k < n) (he : f k = .inr (0, [.null, .null, .null, .int 0, .int 0, .int 0])) : Met l yX0_init wsX0_init ({ frames := 2, cells := 14, slots := 139, locals := 19 } : Room) (va_Pc [.ref (b + k)] (PrN D q b (n) f)) (cVN D b (n + 1 + 11 + 1 + 1) (va_up (va_up (va_up (va_up (va_up (fun x => if x < n then f x else if x = n then .inl (q.2.2, 11, .inr (.inr (.inr (.inr (fun i => some (b + (n + 1 + i))))))) else .inl (q.1, 10, .inl (fun _ => 0))) k (.inr (0, [.ref (b + n), .null, .null, .int 0, .int 0, .int 0]))) (n + 1 + 11) (.inl (q.1, 10, .inl (fun _ => 0)))) k (.inr (0, [.ref (b + n), .ref (b + (n + 1 + 11)), .null, .int 0, .int 0, .int 0]))) (n + 1 + 11 + 1) (.inl (q.1, 8, .inl (fun _ => 0)))) k (.inr (0, [.ref (b + n), .ref (b + (n + 1 + 11)), .ref (b + (n + 1 + 11 + 1)), .int 0, .int 0, .int 0])))) 14 139 (fun x => b ≤ x) := by
  refine ts_met (by decide) rfl (Nat.le_of_ble_eq_true rfl) ?_
  intro p e s m below meth c C0 hX ls hl
  obtain ⟨hz, hW, hK, hN, hAO⟩ := hX
  obtain ⟨hx, hb, hml, hown, hts, hr, hlocks, hnm⟩ := id C0
  have hS : va_S (fun x => b ≤ x) s.heap s.heap [] := va_S.rf
  have hA : ∀ j : Nat, j < (n) → b ≤ b + j := fun j _ => by omega
  have hi0 : ∀ w ∈ wsX00, w ∈ wsX0_init := ts_lays 12 rfl
  have hl : lv_has ls 1 [(0, .ref (b + k))] := hl
  refine lv_aload_n hx hb dX0_init_0 rfl (lv_at hl 0 rfl) ?_
  refine W.objInit hx hb hown (hts _ (List.mem_of_getElem? (i := 1) rfl)) (hts _ (List.mem_of_getElem? (i := 2) rfl)) (hts _ (List.mem_of_getElem? (i := 3) rfl)) rfl (by rw [hml]; exact hl.1) rfl dX0_init_1 (Nat.le_of_ble_eq_true rfl) (Nat.le_of_ble_eq_true rfl) ?_
  refine W.eq (g2 := F0 m 4 ls []) rfl ?_
  refine lv_aload_n hx hb dX0_init_4 rfl (lv_at hl 0 rfl) ?_
  refine ts_retRN (va_runSN (As := []) (rest := [.ref (b + k)]) ⟨hx, hb, hml, hown, hts⟩ (k_X5_newCallTable l D q b n f) ⟨va_cnB 0 hts gX0_init_X5_newCallTable_n9 rfl rfl rfl (hN _ (List.mem_of_getElem? (i := 2) rfl)) (hts _ (List.mem_of_getElem? (i := 9) rfl)) (by decide +kernel) ⟨Nat.le_of_ble_eq_true rfl, Nat.le_of_ble_eq_true rfl⟩, hts _ (List.mem_of_getElem? (i := 8) rfl), trivial⟩ (ts_preN hK hN hAO hz hW) rfl rfl hl.1 rfl (lv_room (Nat.le_of_ble_eq_true rfl)) dX0_init_5 ⟨(Nat.le_of_ble_eq_true rfl), (Nat.le_of_ble_eq_true rfl)⟩) hS (fun H locs hz hW hS => ?_)
  refine ts_putF (C := RX0) (T := TX0) (N := 6) hx hb hts hi0 tyX0 tyX0_ok nmX0 hown hK hW hS k (by omega) (by omega) ((if_pos hk).trans he) rfl 0 (by decide) (List.mem_of_getElem? (i := 4) rfl) rfl hnm rfl rfl rfl (Nat.le_of_ble_eq_true rfl) dX0_init_8 (fun H locs _ hz2 hW hS => ?_)
  have hz := hz2.trans hz
  refine lv_aload_n hx hb dX0_init_11 rfl (lv_at hl 0 rfl) ?_
  refine lv_bipush (v := nI 10) hx hb dX0_init_12 (by decide) ?_
  refine ts_newa (atype := .int) (cA := q.1) hx hb hts (List.mem_of_getElem? (i := 5) rfl) hK 0 rfl (fun h => h) hz hW hS (10, .inl (fun _ => 0)) rfl (by decide) (Nat.le_of_ble_eq_true rfl) (Nat.le_of_ble_eq_true rfl) (Nat.le_of_ble_eq_true rfl) dX0_init_14 (fun H hz _ hW hS => ?_)
  refine ts_putF (C := RX0) (T := TX0) (N := 6) hx hb hts hi0 tyX0 tyX0_ok nmX0 hown hK hW hS k (by omega) (by omega) ((va_up_ne _ _ (by omega)).trans (va_up_self _ _ _)) rfl 1 (by decide) (List.mem_of_getElem? (i := 6) rfl) rfl hnm rfl rfl rfl (Nat.le_of_ble_eq_true rfl) dX0_init_16 (fun H locs _ hz2 hW hS => ?_)
  have hz := hz2.trans hz
  refine lv_aload_n hx hb dX0_init_19 rfl (lv_at hl 0 rfl) ?_
  refine lv_bipush (v := nI 8) hx hb dX0_init_20 (by decide) ?_
  refine ts_newa (atype := .int) (cA := q.1) hx hb hts (List.mem_of_getElem? (i := 5) rfl) hK 0 rfl (fun h => h) hz hW hS (8, .inl (fun _ => 0)) rfl (by decide) (Nat.le_of_ble_eq_true rfl) (Nat.le_of_ble_eq_true rfl) (Nat.le_of_ble_eq_true rfl) dX0_init_22 (fun H hz _ hW hS => ?_)
  refine ts_putF (C := RX0) (T := TX0) (N := 6) hx hb hts hi0 tyX0 tyX0_ok nmX0 hown hK hW hS k (by omega) (by omega) ((va_up_ne _ _ (by omega)).trans (va_up_self _ _ _)) rfl 2 (by decide) (List.mem_of_getElem? (i := 7) rfl) rfl hnm rfl rfl rfl (Nat.le_of_ble_eq_true rfl) dX0_init_24 (fun H locs _ hz2 hW hS => ?_)
  have hz := hz2.trans hz
  refine W.widen (k := 14) (n := 139) (by omega) (by omega) ?_
  exact ts_vretN C0 hz hW hS dX0_init_27
