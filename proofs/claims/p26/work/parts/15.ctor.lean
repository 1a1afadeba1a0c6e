/-! Program() and the station's own constructor -/
theorem ts_convN {D : va_G} {b n n' : Nat} {f f' : Nat → va_E} {H : Heap} (h : ts_W D b n f H) (hn : n' ≤ n) (hf : ∀ k, k < n' → f' k = f k) : ts_W D b n' f' H := fun k hk => by rw [hf k hk]; exact h k (by omega)
/-- the program's cells when i functions are made -/
def pwf (q : CQ) (b : Nat) (f : Nat → va_E) (i x : Nat) : va_E := if x < 1 then f x else if x = 1 then .inr (3, [.ref (b + 2), .null, .int 0, .int 0, .int 0]) else if x = 2 then .inl (q.2.1, 10, .inr (.inr (.inr (.inr (fun j => if j < i then some (b + (3 + 2 * j)) else none))))) else if x % 2 = 1 then .inr (2, [.ref (b + (x + 1)), .int 0, .int (nI 3), .int (nI 3)]) else .inl (q.1, 6, .inl (fun _ => 0))
def pwg (q : CQ) (b : Nat) (f : Nat → va_E) (x : Nat) : va_E := if x < 1 then f x else if x = 1 then .inr (3, [.ref (b + 2), .ref (b + 23), .int 0, .int 0, .int 0]) else if x = 2 then .inl (q.2.1, 10, .inr (.inr (.inr (.inr (fun j => some (b + (3 + 2 * j))))))) else if x = 23 then .inr (1, [.int 0, .int 0, .int 0]) else if x % 2 = 1 then .inr (2, [.ref (b + (x + 1)), .int 0, .int (nI 3), .int (nI 3)]) else .inl (q.1, 6, .inl (fun _ => 0))
theorem pwf_step (q : CQ) (b : Nat) (f : Nat → va_E) (i : Nat) : ∀ x, x < 3 + 2 * (i + 1) → pwf q b f (i + 1) x = va_up (va_up (va_up (va_up (pwf q b f i) (3 + 2 * i) (.inr (2, [.null, .int 0, .int 0, .int 0]))) (3 + 2 * i + 1) (.inl (q.1, 6, .inl (fun _ => 0)))) (3 + 2 * i) (.inr (2, [.ref (b + (3 + 2 * i + 1)), .int 0, .int (nI 3), .int (nI 3)]))) 2 (.inl (q.2.1, 10, .inr (.inr (.inr (.inr (va_up (fun j => if j < i then some (b + (3 + 2 * j)) else none) i (some (b + (3 + 2 * i)))))))))  x := by
  intro x hx
  by_cases c2 : x = 2
  · subst c2
    rw [va_up_self]
    unfold pwf
    rw [if_neg (by omega), if_neg (by omega), if_pos rfl]
    refine congrArg (fun g => (Sum.inl (q.2.1, 10, .inr (.inr (.inr (.inr g)))) : va_E)) ?_
    funext j
    by_cases cj : j = i
    · subst cj
      rw [va_up_self, if_pos (by omega)]
    · rw [va_up_ne _ _ cj]
      by_cases cl : j < i
      · rw [if_pos cl, if_pos (by omega)]
      · rw [if_neg cl, if_neg (by omega)]
  · rw [va_up_ne _ _ c2]
    by_cases c3 : x = 3 + 2 * i
    · subst c3
      rw [va_up_self]
      unfold pwf
      rw [if_neg (by omega), if_neg (by omega), if_neg (by omega), if_pos (by omega)]
    · rw [va_up_ne _ _ c3]
      by_cases c4 : x = 3 + 2 * i + 1
      · subst c4
        rw [va_up_self]
        unfold pwf
        rw [if_neg (by omega), if_neg (by omega), if_neg (by omega), if_neg (by omega)]
      · rw [va_up_ne _ _ c4, va_up_ne _ _ c3]
        unfold pwf
        rw [if_neg c2, if_neg c2]
set_option maxHeartbeats 4000000 in
set_option maxRecDepth 100000 in
theorem k_X3_init (l : Launch) (D : va_G) (q : CQ) (b : Nat) (f : Nat → va_E) (he : f 1 = .inr (3, [.null, .null, .int 0, .int 0, .int 0])) : Met l yX3_init wsX3_init ({ frames := 2, cells := 22, slots := 113, locals := 40 } : Room) (va_Pc [.ref (b + 1)] (PrN D q b 2 f)) (cVN D b 24 (pwg q b f)) 22 113 (fun x => b ≤ x) := by
  refine ts_met (by decide) rfl (Nat.le_of_ble_eq_true rfl) ?_
  intro p e s m below meth c C0 hX ls hl
  obtain ⟨hz, hW, hK, hN, hAO⟩ := hX
  obtain ⟨hx, hb, hml, hown, hts, hr, hlocks, hnm⟩ := id C0
  have hS : va_S (fun x => b ≤ x) s.heap s.heap [] := va_S.rf
  have hi3 : ∀ w ∈ wsX30, w ∈ wsX3_init := ts_lays 23 rfl
  have hi2 : ∀ w ∈ wsX20, w ∈ wsX3_init := ts_lays 28 rfl
  have hi1 : ∀ w ∈ wsX10, w ∈ wsX3_init := ts_lays 32 rfl
  have hl : lv_has ls 2 [(0, .ref (b + 1))] := hl
  refine lv_aload_n hx hb dX3_init_0 rfl (lv_at hl 0 rfl) ?_
  refine W.objInit hx hb hown (hts _ (List.mem_of_getElem? (i := 1) rfl)) (hts _ (List.mem_of_getElem? (i := 2) rfl)) (hts _ (List.mem_of_getElem? (i := 3) rfl)) rfl (by rw [hml]; exact hl.1) rfl dX3_init_1 (Nat.le_of_ble_eq_true rfl) (Nat.le_of_ble_eq_true rfl) ?_
  refine W.eq (g2 := F0 m 4 ls []) rfl ?_
  refine lv_aload_n hx hb dX3_init_4 rfl (lv_at hl 0 rfl) ?_
  refine lv_bipush (v := nI 10) hx hb dX3_init_5 (by decide) ?_
  refine ts_newq (C := RX2) hx hb hts hown (List.mem_of_getElem? (i := 4) rfl) hAO.1 hK 1 rfl hz hW hS (by decide) (Nat.le_of_ble_eq_true rfl) (Nat.le_of_ble_eq_true rfl) dX3_init_7 (fun H hz _ hW hS => ?_)
  refine ts_putF (C := RX3) (T := TX3) (N := 5) hx hb hts hi3 tyX3 tyX3_ok nmX3 hown hK hW hS 1 (by decide) (by omega) ((va_up_ne _ _ (by decide)).trans he) rfl 0 (by decide) (List.mem_of_getElem? (i := 5) rfl) rfl hnm rfl rfl rfl (Nat.le_of_ble_eq_true rfl) dX3_init_10 (fun H locs _ hz2 hW hS => ?_)
  have hz := hz2.trans hz
  have hW : ts_W D b (3 + 2 * 0) (pwf q b f 0) H := ts_convN hW (Nat.le_refl _) (fun x hx => by
      have : x = 0 ∨ x = 1 ∨ x = 2 := (by omega)
      rcases this with rfl | rfl | rfl <;> rfl)
  refine lv_iconst (v := nI 0) hx hb dX3_init_13 (by decide) ?_
  refine lv_istore_n (lv' := [(1, .int (nI 0)), (0, .ref (b + 1))]) hx hb dX3_init_14 rfl hl (by decide) rfl (fun ls hl => ?_)
  have key : ∀ (fu i : Nat), i ≤ 10 → 10 - i < fu → ∀ (H : Heap) (locs : List Loc), H.size = b + (3 + 2 * i) → ts_W D b (3 + 2 * i) (pwf q b f i) H → va_S (fun x => b ≤ x) s.heap H locs → ∀ ls : Array Slot, lv_has ls 2 [(1, .int (nI i)), (0, .ref (b + 1))] → W p l e ({ frames := 2, cells := 22, slots := 113, locals := 40 } : Room) s m [.ref (b + 1)].toArray below meth c H locs (1 + 2 * i) (10 + 10 * i) (MQ below (cVN D b 24 (pwg q b f)) [.ref (b + 1)].toArray s 22 113 (fun x => b ≤ x)) (F0 m 15 ls []) := by
    intro fu
    induction fu with
    | zero => intro i _ hn; exact absurd hn (Nat.not_lt_zero _)
    | succ fu ih =>
      intro i hi hn H locs hz hW hS ls hl
      refine lv_iload_n hx hb dX3_init_15 rfl (lv_at hl 0 rfl) ?_
      refine lv_bipush (v := nI 10) hx hb dX3_init_16 (by decide) ?_
      refine lv_icmp_ge (tgt := 40) hx hb dX3_init_18 (by decide) (fun c1 => ?_) (fun c1 => ?_)
      · rw [nI_leI (by omega) (by omega)] at c1
        obtain rfl : i = 10 := by omega
        refine lv_aload_n hx hb dX3_init_40 rfl (lv_at hl 1 rfl) ?_
        refine ts_new (ci := 1) (C := RX1) (T := TX1) (N := 3) hx hb hts hi1 tyX1 tyX1_ok hown (List.mem_of_getElem? (i := 8) rfl) (List.mem_of_getElem? (i := 9) rfl) (List.mem_of_getElem? (i := 10) rfl) hK hz hW hS rfl [.int 0, .int 0, .int 0] (fun j hj => by have : j = 0 ∨ j = 1 ∨ j = 2 := (by omega); rcases this with rfl | rfl | rfl <;> rfl) (Nat.le_of_ble_eq_true rfl) (Nat.le_of_ble_eq_true rfl) dX3_init_41 (fun H hz _ hW hS => ?_)
        refine lv_dup hx hb dX3_init_44 rfl ?_
        refine ts_retN (va_runIN (As := []) (rest := [.ref (b + 23), .ref (b + 1)]) ⟨hx, hb, hml, hown, hts⟩ (k_X1_init l D q b 24 23 (va_up (pwf q b f 10) 23 (.inr (1, [.int 0, .int 0, .int 0])))) ⟨va_cnB 0 hts gX3_init_X1_init_n20 rfl rfl rfl (hN _ (List.mem_of_getElem? (i := 0) rfl)) (hts _ (List.mem_of_getElem? (i := 10) rfl)) (by decide +kernel) ⟨Nat.le_of_ble_eq_true rfl, Nat.le_of_ble_eq_true rfl⟩, rfl, hts _ (List.mem_of_getElem? (i := 20) rfl)⟩ (ts_preN hK hN hAO hz hW) rfl rfl hl.1 rfl (lv_room (Nat.le_of_ble_eq_true rfl)) dX3_init_45 ⟨(Nat.le_of_ble_eq_true rfl), (Nat.le_of_ble_eq_true rfl)⟩) hS (fun H locs hz hW hS => ?_)
        refine ts_putF (C := RX3) (T := TX3) (N := 5) hx hb hts hi3 tyX3 tyX3_ok nmX3 hown hK hW hS 1 (by decide) (by omega) (show va_up (pwf q b f 10) 23 _ 1 = .inr (3, [.ref (b + 2), .null, .int 0, .int 0, .int 0]) from rfl) rfl 1 (by decide) (List.mem_of_getElem? (i := 11) rfl) rfl hnm rfl rfl rfl (Nat.le_of_ble_eq_true rfl) dX3_init_48 (fun H locs _ hz2 hW hS => ?_)
        have hz := hz2.trans hz
        have hW : ts_W D b 24 (pwg q b f) H := fun x hx9 => by
          have h := hW x hx9
          by_cases c2 : x = 2
          · subst c2
            have h4 : H[b + 2]? = some (arrV q.2.1 10 (fun j => va_rf (if j < 10 then some (b + (3 + 2 * j)) else none))) := h
            show H[b + 2]? = some (arrV q.2.1 10 (fun j => va_rf (some (b + (3 + 2 * j)))))
            rw [h4]
            congr 1
          · have e3 : pwg q b f x = va_up (va_up (pwf q b f 10) 23 (.inr (1, [.int 0, .int 0, .int 0]))) 1 (.inr (3, [.ref (b + 2), .ref (b + 23), .int 0, .int 0, .int 0])) x := by
              by_cases c1 : x = 1
              · subst c1
                rfl
              · rw [va_up_ne _ _ c1]
                by_cases c3 : x = 23
                · subst c3
                  rfl
                · rw [va_up_ne _ _ c3]
                  unfold pwg pwf
                  rw [if_neg c1, if_neg c1, if_neg c2, if_neg c2, if_neg c3]
            rw [e3]
            exact h
        refine W.widen (k := 22) (n := 113) (by omega) (by omega) ?_
        exact ts_vretN C0 hz hW hS dX3_init_51
      rw [nI_leI (by omega) (by omega)] at c1
      refine lv_aload_n hx hb dX3_init_21 rfl (lv_at hl 1 rfl) ?_
      refine ts_get (C := RX3) (T := TX3) (N := 5) (v := .ref (b + 2)) hx hb hts hi3 hown hK hW 1 (by omega) (show pwf q b f i 1 = .inr (3, [.ref (b + 2), .null, .int 0, .int 0, .int 0]) from rfl) rfl 0 (by decide) (List.mem_of_getElem? (i := 5) rfl) rfl dX3_init_22 ?_
      refine lv_iload_n hx hb dX3_init_25 rfl (lv_at hl 0 rfl) ?_
      refine ts_new (ci := 2) (C := RX2) (T := TX2) (N := 4) hx hb hts hi2 tyX2 tyX2_ok hown (List.mem_of_getElem? (i := 4) rfl) (List.mem_of_getElem? (i := 6) rfl) (List.mem_of_getElem? (i := 7) rfl) hK hz hW hS rfl [.null, .int 0, .int 0, .int 0] (fun j hj => by have : j = 0 ∨ j = 1 ∨ j = 2 ∨ j = 3 := (by omega); rcases this with rfl | rfl | rfl | rfl <;> rfl) (by show 1 + 2 * i + 1 ≤ 22; omega) (by show 10 + 10 * i + 4 ≤ 113; omega) dX3_init_26 (fun H hz _ hW hS => ?_)
      refine lv_dup hx hb dX3_init_29 rfl ?_
      refine ts_retN (va_runI (As := []) (rest := [.ref (b + (3 + 2 * i)), .int (nI i), .ref (b + 2)]) ⟨hx, hb, hml, hown, hts⟩ (k_X2_init l D q b (3 + 2 * i + 1) (3 + 2 * i) (va_up (pwf q b f i) (3 + 2 * i) (.inr (2, [.null, .int 0, .int 0, .int 0]))) (by omega) (va_up_self _ _ _)) (cwI 0 hts gX3_init_X2_init rfl rfl rfl (hts _ (List.mem_of_getElem? (i := 7) rfl)) (hts _ (List.mem_of_getElem? (i := 12) rfl)) (hts _ (List.mem_of_getElem? (i := 13) rfl)) rfl (by decide +kernel) ⟨Nat.le_of_ble_eq_true rfl, Nat.le_of_ble_eq_true rfl⟩) (ts_preN hK hN hAO hz hW) rfl rfl hl.1 rfl (lv_room (Nat.le_of_ble_eq_true rfl)) dX3_init_30 ⟨(by show 1 + 2 * i + 1 + 1 ≤ 22; omega), (by show 10 + 10 * i + 4 + 6 ≤ 113; omega)⟩) hS (fun H locs hz hW hS => ?_)
      refine ts_astq hx hb hK hW hS (fun j _ => by omega) 2 1 (3 + 2 * i) 2 (by omega) (by omega) (i := i) (N := 10) (g := fun j => if j < i then some (b + (3 + 2 * j)) else none) (r := (RX2, TX2, 4)) ((va_up_ne _ _ (by omega)).trans ((va_up_ne _ _ (by omega)).trans (va_up_ne _ _ (by omega)))) rfl (va_up_self _ _ _) rfl (by omega) (by decide) dX3_init_33 (fun H locs _ hz2 hW hS => ?_)
      refine lv_iinc (v := nI (i + 1)) (lv' := [(1, .int (nI (i + 1))), (0, .ref (b + 1))]) hx hb dX3_init_34 hl (k := 0) rfl (nI_add i 1) (by decide) rfl (fun ls hl => ?_)
      refine lv_goto (tgt := 15) hx hb dX3_init_37 (by decide) ?_
      refine W.widen (k := 1 + 2 * (i + 1)) (n := 10 + 10 * (i + 1)) (by omega) (by omega) ?_
      exact ih (i + 1) (by omega) (by omega) H locs (by omega) (ts_convN hW (by omega) (pwf_step q b f i)) hS ls (lv_sub hl [0, 1] rfl)
  refine W.widen (k := 1 + 2 * 0) (n := 10 + 10 * 0) (by omega) (by omega) ?_
  exact key _ 0 (by omega) (Nat.lt_succ_self _) _ _ (by omega) hW hS ls (lv_sub hl [0, 1] rfl)
def u0 : ST := ((fun k => if k = 0 then 20 else if 30 ≤ k ∧ k < 50 then 3 else 0, fun _ _ => 0), (0, 0, 0), (fun k => if k = 8 ∨ k = 9 then 1 else 0, fun _ => 0, fun _ _ => 0), (fun _ => 0, fun _ => 0, fun _ _ => 0))
set_option maxHeartbeats 4000000 in
set_option maxRecDepth 100000 in
theorem k_X5_init (l : Launch) (D : va_G) (q : CQ) (b : Nat) (f : Nat → va_E) (he : f 0 = .inr (5, [.null, .null, .null, .int 0])) : Met l yX5_init wsX5_init ({ frames := 3, cells := 51, slots := 397, locals := 61 } : Room) (va_Pc [.ref (b + 0)] (PrN D q b 1 f)) (cVN D b 52 (cel q b u0)) 51 397 (fun x => b ≤ x) := by
  refine ts_met (by decide) rfl (Nat.le_of_ble_eq_true rfl) ?_
  intro p e s m below meth c C0 hX ls hl
  obtain ⟨hz, hW, hK, hN, hAO⟩ := hX
  obtain ⟨hx, hb, hml, hown, hts, hr, hlocks, hnm⟩ := id C0
  have hS : va_S (fun x => b ≤ x) s.heap s.heap [] := va_S.rf
  have hi5 : ∀ w ∈ wsX50, w ∈ wsX5_init := ts_lays 62 rfl
  have hi3 : ∀ w ∈ wsX30, w ∈ wsX5_init := ts_lays 57 rfl
  have hi4 : ∀ w ∈ wsX40, w ∈ wsX5_init := ts_lays 66 rfl
  have hi0 : ∀ w ∈ wsX00, w ∈ wsX5_init := ts_lays 79 rfl
  have hl : lv_has ls 1 [(0, .ref (b + 0))] := hl
  refine lv_aload_n hx hb dX5_init_0 rfl (lv_at hl 0 rfl) ?_
  refine W.objInit hx hb hown (hts _ (List.mem_of_getElem? (i := 1) rfl)) (hts _ (List.mem_of_getElem? (i := 2) rfl)) (hts _ (List.mem_of_getElem? (i := 3) rfl)) rfl (by rw [hml]; exact hl.1) rfl dX5_init_1 (Nat.le_of_ble_eq_true rfl) (Nat.le_of_ble_eq_true rfl) ?_
  refine W.eq (g2 := F0 m 4 ls []) rfl ?_
  refine lv_aload_n hx hb dX5_init_4 rfl (lv_at hl 0 rfl) ?_
  refine ts_new (ci := 3) (C := RX3) (T := TX3) (N := 5) hx hb hts hi3 tyX3 tyX3_ok hown (List.mem_of_getElem? (i := 4) rfl) (List.mem_of_getElem? (i := 5) rfl) (List.mem_of_getElem? (i := 6) rfl) hK hz hW hS rfl [.null, .null, .int 0, .int 0, .int 0] (fun j hj => by have : j = 0 ∨ j = 1 ∨ j = 2 ∨ j = 3 ∨ j = 4 := (by omega); rcases this with rfl | rfl | rfl | rfl | rfl <;> rfl) (Nat.le_of_ble_eq_true rfl) (Nat.le_of_ble_eq_true rfl) dX5_init_5 (fun H hz _ hW hS => ?_)
  refine lv_dup hx hb dX5_init_8 rfl ?_
  refine ts_retN (va_runI (As := []) (rest := [.ref (b + 1), .ref (b + 0)]) ⟨hx, hb, hml, hown, hts⟩ (k_X3_init l D q b (va_up f 1 (.inr (3, [.null, .null, .int 0, .int 0, .int 0]))) (va_up_self _ _ _)) (cwI 0 hts gX5_init_X3_init rfl rfl rfl (hts _ (List.mem_of_getElem? (i := 6) rfl)) (hts _ (List.mem_of_getElem? (i := 17) rfl)) (hts _ (List.mem_of_getElem? (i := 18) rfl)) rfl (by decide +kernel) ⟨Nat.le_of_ble_eq_true rfl, Nat.le_of_ble_eq_true rfl⟩) (ts_preN hK hN hAO hz hW) rfl rfl hl.1 rfl (lv_room (Nat.le_of_ble_eq_true rfl)) dX5_init_9 ⟨(Nat.le_of_ble_eq_true rfl), (Nat.le_of_ble_eq_true rfl)⟩) hS (fun H locs hz hW hS => ?_)
  refine ts_putF (C := RX5) (T := TX5) (N := 4) hx hb hts hi5 tyX5 tyX5_ok nmX5 hown hK hW hS 0 (by decide) (by omega) (show pwg q b (va_up f 1 _) 0 = .inr (5, [.null, .null, .null, .int 0]) from he) rfl 0 (by decide) (List.mem_of_getElem? (i := 7) rfl) rfl hnm rfl rfl rfl (Nat.le_of_ble_eq_true rfl) dX5_init_12 (fun H locs _ hz2 hW hS => ?_)
  have hz := hz2.trans hz
  refine lv_aload_n hx hb dX5_init_15 rfl (lv_at hl 0 rfl) ?_
  refine ts_new (ci := 4) (C := RX4) (T := TX4) (N := 13) hx hb hts hi4 tyX4 tyX4_ok hown (List.mem_of_getElem? (i := 8) rfl) (List.mem_of_getElem? (i := 9) rfl) (List.mem_of_getElem? (i := 10) rfl) hK hz hW hS rfl [.null, .null, .int 0, .int 0, .int 0, .int 0, .int 0, .int 0, .int 0, .int 0, .int 0, .int 0, .int 0] (fun j hj => by have : j = 0 ∨ j = 1 ∨ j = 2 ∨ j = 3 ∨ j = 4 ∨ j = 5 ∨ j = 6 ∨ j = 7 ∨ j = 8 ∨ j = 9 ∨ j = 10 ∨ j = 11 ∨ j = 12 := (by omega); rcases this with rfl | rfl | rfl | rfl | rfl | rfl | rfl | rfl | rfl | rfl | rfl | rfl | rfl <;> rfl) (Nat.le_of_ble_eq_true rfl) (Nat.le_of_ble_eq_true rfl) dX5_init_16 (fun H hz _ hW hS => ?_)
  refine lv_dup hx hb dX5_init_19 rfl ?_
  refine lv_aload_n hx hb dX5_init_20 rfl (lv_at hl 0 rfl) ?_
  refine ts_get (C := RX5) (T := TX5) (N := 4) (v := .ref (b + 1)) hx hb hts hi5 hown hK hW 0 (by decide) ((va_up_ne _ _ (by decide)).trans (va_up_self _ _ _)) rfl 0 (by decide) (List.mem_of_getElem? (i := 7) rfl) rfl dX5_init_21 ?_
  refine ts_retN (va_runI (As := [.ref (b + 1)]) (rest := [.ref (b + 24), .ref (b + 0)]) ⟨hx, hb, hml, hown, hts⟩ (k_X4_init l D q b 25 24 (b + 1) (va_up (va_up (pwg q b (va_up f 1 (.inr (3, [.null, .null, .int 0, .int 0, .int 0])))) 0 (.inr (5, [.ref (b + 1), .null, .null, .int 0]))) 24 (.inr (4, [.null, .null, .int 0, .int 0, .int 0, .int 0, .int 0, .int 0, .int 0, .int 0, .int 0, .int 0, .int 0]))) (by decide) (va_up_self _ _ _)) (cwI 1 hts gX5_init_X4_init rfl rfl rfl (hts _ (List.mem_of_getElem? (i := 10) rfl)) (hts _ (List.mem_of_getElem? (i := 40) rfl)) (hts _ (List.mem_of_getElem? (i := 41) rfl)) rfl (by decide +kernel) ⟨Nat.le_of_ble_eq_true rfl, Nat.le_of_ble_eq_true rfl⟩) (ts_preN hK hN hAO hz hW) rfl rfl hl.1 rfl (lv_room (Nat.le_of_ble_eq_true rfl)) dX5_init_24 ⟨(Nat.le_of_ble_eq_true rfl), (Nat.le_of_ble_eq_true rfl)⟩) hS (fun H locs hz hW hS => ?_)
  refine ts_putF (C := RX5) (T := TX5) (N := 4) hx hb hts hi5 tyX5 tyX5_ok nmX5 hown hK hW hS 0 (by decide) (by omega) rfl rfl 1 (by decide) (List.mem_of_getElem? (i := 11) rfl) rfl hnm rfl rfl rfl (Nat.le_of_ble_eq_true rfl) dX5_init_27 (fun H locs _ hz2 hW hS => ?_)
  have hz := hz2.trans hz
  refine lv_aload_n hx hb dX5_init_30 rfl (lv_at hl 0 rfl) ?_
  refine ts_new (ci := 0) (C := RX0) (T := TX0) (N := 6) hx hb hts hi0 tyX0 tyX0_ok hown (List.mem_of_getElem? (i := 12) rfl) (List.mem_of_getElem? (i := 13) rfl) (List.mem_of_getElem? (i := 14) rfl) hK hz hW hS rfl [.null, .null, .null, .int 0, .int 0, .int 0] (fun j hj => by have : j = 0 ∨ j = 1 ∨ j = 2 ∨ j = 3 ∨ j = 4 ∨ j = 5 := (by omega); rcases this with rfl | rfl | rfl | rfl | rfl | rfl <;> rfl) (Nat.le_of_ble_eq_true rfl) (Nat.le_of_ble_eq_true rfl) dX5_init_31 (fun H hz _ hW hS => ?_)
  refine lv_dup hx hb dX5_init_34 rfl ?_
  refine ts_retN (va_runI (As := []) (rest := [.ref (b + 37), .ref (b + 0)]) ⟨hx, hb, hml, hown, hts⟩ (k_X0_init l D q b 38 37 _ (by decide) (va_up_self _ _ _)) (cwI 0 hts gX5_init_X0_init rfl rfl rfl (hts _ (List.mem_of_getElem? (i := 14) rfl)) (hts _ (List.mem_of_getElem? (i := 50) rfl)) (hts _ (List.mem_of_getElem? (i := 51) rfl)) rfl (by decide +kernel) ⟨Nat.le_of_ble_eq_true rfl, Nat.le_of_ble_eq_true rfl⟩) (ts_preN hK hN hAO hz hW) rfl rfl hl.1 rfl (lv_room (Nat.le_of_ble_eq_true rfl)) dX5_init_35 ⟨(Nat.le_of_ble_eq_true rfl), (Nat.le_of_ble_eq_true rfl)⟩) hS (fun H locs hz hW hS => ?_)
  refine ts_putF (C := RX5) (T := TX5) (N := 4) hx hb hts hi5 tyX5 tyX5_ok nmX5 hown hK hW hS 0 (by decide) (by omega) rfl rfl 2 (by decide) (List.mem_of_getElem? (i := 15) rfl) rfl hnm rfl rfl rfl (Nat.le_of_ble_eq_true rfl) dX5_init_38 (fun H locs _ hz2 hW hS => ?_)
  have hz := hz2.trans hz
  refine lv_aload_n hx hb dX5_init_41 rfl (lv_at hl 0 rfl) ?_
  refine lv_bipush (v := nI 20) hx hb dX5_init_42 (by decide) ?_
  refine ts_putU (C := RX5) (T := TX5) (N := 4) hx hb hts hi5 tyX5 tyX5_ok nmX5 hown hK hW hS (fun j _ => by omega) 0 (by decide) (va_up_self _ _ _) rfl 3 (by decide) (List.mem_of_getElem? (i := 16) rfl) rfl rfl rfl (Nat.le_of_ble_eq_true rfl) dX5_init_44 (fun H locs _ hz2 hW hS => ?_)
  have hz := hz2.trans hz
  have hW : ts_W D b 52 (cel q b u0) H := ts_convN hW (by decide) (lt_s (lt_s (lt_s (lt_s (lt_s (lt_s (lt_s (lt_s (lt_s (lt_s (lt_s (lt_s (lt_s (lt_s (lt_s (lt_s (lt_s (lt_s (lt_s (lt_s (lt_s (lt_s (lt_s (lt_s (lt_s (lt_s (lt_s (lt_s (lt_s (lt_s (lt_s (lt_s (lt_s (lt_s (lt_s (lt_s (lt_s (lt_s (lt_s (lt_s (lt_s (lt_s (lt_s (lt_s (lt_s (lt_s (lt_s (lt_s (lt_s (lt_s (lt_s (lt_s lt_0 rfl) rfl) rfl) rfl) rfl) rfl) rfl) rfl) rfl) rfl) rfl) rfl) rfl) rfl) rfl) rfl) rfl) rfl) rfl) rfl) rfl) rfl) rfl) rfl) rfl) rfl) rfl) rfl) rfl) rfl) rfl) rfl) rfl) rfl) rfl) rfl) rfl) rfl) rfl) rfl) rfl) rfl) rfl) rfl) rfl) rfl) rfl) rfl) rfl) rfl) rfl) rfl)
  refine W.widen (k := 51) (n := 397) (by omega) (by omega) ?_
  exact ts_vretN C0 hz hW hS dX5_init_47
