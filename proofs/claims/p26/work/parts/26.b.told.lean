set_option maxHeartbeats 4000000 in
set_option maxRecDepth 100000 in
theorem k_X6_isTold (l : Launch) (D : va_G) (q : CQ) (b sz : Nat) (u : ST) (o : OT) (bs L : Nat) (xs : Nat → Int32)  (hI0 : tolJ u.1 0 0 0 0) (ho : o.1 = 0) : Met l yX6_isTold wsX6_isTold ({ frames := 8, cells := 28, slots := 140, locals := 172 } : Room) (va_Pc [.ref (b + 52 + 0), .ref (b + 0), .ref bs, .int (nI 0)] (PrT D q b sz u o bs L xs)) (cO D q b sz (fun r v => r = nI 1 ∧ ∃ (P : PT) (F : FT) (R : Nat → Nat → Int32), (∃ j c, j ≤ 4 ∧ c ≤ 28 ∧ ∃ k, tolJ P (2 + blwN (cellI xs L 0) 6) k j c) ∧ v = ((P, F, u.2.2), (2 + blwN (cellI xs L 0) 6, R)))) 28 140 (ts_A b 67 sz) := by
  refine ts_met (by decide) rfl (Nat.le_of_ble_eq_true rfl) ?_
  intro p e s m below meth c C0 hX ls hl
  obtain ⟨⟨⟨hsz, hW, hK, hN⟩, hO, hoz⟩, hX, hbs, hbz, hL⟩ := hX
  subst hsz
  obtain ⟨hx, hb, hml, hown, hts, -, -, -⟩ := id C0
  have hbA : ¬ ts_A b 67 s.heap.size bs := fun h => by unfold ts_A at h; omega
  have hW : ts_W D b 52 (cel q b u) s.heap := hW
  have hS : va_S (ts_A b 67 s.heap.size) s.heap s.heap [] := va_S.rf
  have hi6 : ∀ w ∈ wsX60, w ∈ wsX6_isTold := ts_lays 119 rfl
  have hl : lv_has ls 10 [(0, .ref (b + 52 + 0)), (1, .ref (b + 0)), (2, .ref bs), (3, .int (nI 0))] := hl
  have hnb := blwN_lt (cellI xs L 0) (n := 6) (by decide)
  have hO : ts_W D (b + 52) 15 (celO q (b + 52) (0, o.2)) s.heap := by rw [← ho]; exact hO
  refine lv_iconst (v := nI 2) hx hb dX6_isTold_0 (by decide) ?_
  refine lv_aload_n hx hb dX6_isTold_1 rfl (lv_at hl 2 rfl) ?_
  refine lv_iload_n hx hb dX6_isTold_2 rfl (lv_at hl 3 rfl) ?_
  refine ts_retI (va_runSN (As := [.ref bs, .int (nI 0)]) (rest := [.int (nI 2)]) ⟨hx, hb, hml, hown, hts⟩ (k_L_cell l D q b s.heap.size u bs L xs 0 (by omega)) ⟨va_cnB 2 hts gX6_isTold_L_cell_n110 rfl rfl rfl (hN _ (List.mem_of_getElem? (i := 14) rfl)) (hts _ (List.mem_of_getElem? (i := 7) rfl)) (by decide +kernel) ⟨Nat.le_of_ble_eq_true rfl, Nat.le_of_ble_eq_true rfl⟩, hts _ (List.mem_of_getElem? (i := 6) rfl), trivial⟩ (ts_preX hK hN hW (hX.kept (hS.2.1 bs hbz hbA)) hbs (Nat.lt_of_lt_of_le hbz hS.1) hL) rfl rfl hl.1 rfl (lv_room (Nat.le_of_ble_eq_true rfl)) dX6_isTold_3 ⟨(by show _ ≤ 28; omega), (by show _ ≤ 140; omega)⟩) hS (fun x h => ts_A67 hS.1 h) (fun r1 u2 H locs hp3 hW hz hk hS => ?_)
  have hO := ts_kept hO (fun x h1 h2 => hk x (by omega) (fun h => by unfold ts_A at h; omega))
  have hoz := Nat.le_trans hoz hz
  have hp3r : r1 = cellI xs L 0 := hp3.1
  have hp3u : u2 = u := hp3.2
  rw [hp3r]
  rw [hp3u] at hW
  refine lv_bipush (v := nI 6) hx hb dX6_isTold_6 (by decide) ?_
  refine ts_retI (va_runSN (As := [.int (cellI xs L 0), .int (nI 6)]) (rest := [.int (nI 2)]) ⟨hx, hb, hml, hown, hts⟩ (k_L_below l D q b H.size u (cellI xs L 0) 6 ⟨by omega, by omega⟩) ⟨va_cnB 2 hts gX6_isTold_L_below_n116 rfl rfl rfl (hN _ (List.mem_of_getElem? (i := 15) rfl)) (hts _ (List.mem_of_getElem? (i := 7) rfl)) (by decide +kernel) ⟨Nat.le_of_ble_eq_true rfl, Nat.le_of_ble_eq_true rfl⟩, hts _ (List.mem_of_getElem? (i := 10) rfl), trivial⟩ (ts_preS hK hN hW) rfl rfl hl.1 rfl (lv_room (Nat.le_of_ble_eq_true rfl)) dX6_isTold_8 ⟨(by show _ ≤ 28; omega), (by show _ ≤ 140; omega)⟩) hS (fun x h => ts_A67 hS.1 h) (fun r4 u5 H locs hp6 hW hz hk hS => ?_)
  have hO := ts_kept hO (fun x h1 h2 => hk x (by omega) (fun h => by unfold ts_A at h; omega))
  have hoz := Nat.le_trans hoz hz
  have hp6r : r4 = nI (blwN (cellI xs L 0) 6) := hp6.1
  have hp6u : u5 = u := hp6.2
  rw [hp6r]
  rw [hp6u] at hW
  have hq7 := blwN_lt (cellI xs L 0) (n := 6) (by omega)
  refine ts_iadd (v := nI (2 + (blwN (cellI xs L 0) 6))) hx hb dX6_isTold_11 (nI_add _ _) ?_
  refine lv_istore (lv' := [(4, .int (nI (2 + (blwN (cellI xs L 0) 6)))), (0, .ref (b + 52 + 0)), (1, .ref (b + 0)), (2, .ref bs), (3, .int (nI 0))]) hx hb dX6_isTold_12 hl (by decide) rfl (fun ls hl => ?_)
  refine lv_iconst (v := nI 0) hx hb dX6_isTold_14 (by decide) ?_
  refine lv_istore (lv' := [(5, .int (nI 0)), (4, .int (nI (2 + (blwN (cellI xs L 0) 6)))), (0, .ref (b + 52 + 0)), (1, .ref (b + 0)), (2, .ref bs), (3, .int (nI 0))]) hx hb dX6_isTold_15 hl (by decide) rfl (fun ls hl => ?_)
  have key8 : ∀ (fu : Nat) (k : Nat) (P : PT) (R : Nat → Nat → Int32), (k ≤ 2 + blwN (cellI xs L 0) 6) → (tolJ P k 0 0 0) → (2 + blwN (cellI xs L 0) 6 - k) < fu → ∀ (H : Heap) (locs : List Loc), ts_W D b 52 (cel q b (P, u.2.1, u.2.2.1, u.2.2.2)) H → va_S (ts_A b 67 s.heap.size) s.heap H locs → ts_W D (b + 52) 15 (celO q (b + 52) (k, R)) H → b + 67 ≤ H.size → ∀ ls : Array Slot, lv_has ls 10 [(5, .int (nI k)), (4, .int (nI (2 + (blwN (cellI xs L 0) 6)))), (0, .ref (b + 52 + 0)), (1, .ref (b + 0)), (2, .ref bs), (3, .int (nI 0))] → W p l e ({ frames := 8, cells := 28, slots := 140, locals := 172 } : Room) s m [.ref (b + 52 + 0), .ref (b + 0), .ref bs, .int (nI 0)].toArray below meth c H locs 0 0 (MQ below (cO D q b s.heap.size (fun r v => r = nI 1 ∧ ∃ (P : PT) (F : FT) (R : Nat → Nat → Int32), (∃ j c, j ≤ 4 ∧ c ≤ 28 ∧ ∃ k, tolJ P (2 + blwN (cellI xs L 0) 6) k j c) ∧ v = ((P, F, u.2.2), (2 + blwN (cellI xs L 0) 6, R)))) [.ref (b + 52 + 0), .ref (b + 0), .ref bs, .int (nI 0)].toArray s 28 140 (ts_A b 67 s.heap.size)) (F0 m 17 ls []) := by
    intro fu
    induction fu with
    | zero => intro k P R _ _ hn; exact absurd hn (Nat.not_lt_zero _)
    | succ fu ih9 =>
      intro k P R hk hI hn H locs hW hS hO hoz ls hl
      have hi0 := hI.2.1
      refine lv_iload hx hb dX6_isTold_17 (lv_at hl 0 rfl) ?_
      refine lv_iload hx hb dX6_isTold_19 (lv_at hl 1 rfl) ?_
      refine lv_icmp_ge (tgt := 67) hx hb dX6_isTold_21 (by decide) (fun c10 => ?_) (fun c10 => ?_)
      · skip
        rw [nI_leI (by omega) (by omega)] at c10
        have hkn : k = 2 + blwN (cellI xs L 0) 6 := by omega
        have hI2_ : tolJ P (2 + blwN (cellI xs L 0) 6) 0 0 0 := by rw [← hkn]; exact hI
        have hO : ts_W D (b + 52) 15 (celO q (b + 52) (2 + blwN (cellI xs L 0) 6, R)) H := by rw [← hkn]; exact hO
        refine lv_iconst (v := nI 0) hx hb dX6_isTold_67 (by decide) ?_
        refine lv_istore (lv' := [(5, .int (nI 0)), (4, .int (nI (2 + (blwN (cellI xs L 0) 6)))), (0, .ref (b + 52 + 0)), (1, .ref (b + 0)), (2, .ref bs), (3, .int (nI 0))]) hx hb dX6_isTold_68 hl (by decide) rfl (fun ls hl => ?_)
        have key11 : ∀ (fu : Nat) (k : Nat) (P : PT) (F : FT) (R : Nat → Nat → Int32), (k ≤ 2 + blwN (cellI xs L 0) 6) → (tolJ P (2 + blwN (cellI xs L 0) 6) k 0 (4 * k)) → (2 + blwN (cellI xs L 0) 6 - k) < fu → ∀ (H : Heap) (locs : List Loc), ts_W D b 52 (cel q b (P, F, u.2.2.1, u.2.2.2)) H → va_S (ts_A b 67 s.heap.size) s.heap H locs → ts_W D (b + 52) 15 (celO q (b + 52) (2 + blwN (cellI xs L 0) 6, R)) H → b + 67 ≤ H.size → ∀ ls : Array Slot, lv_has ls 10 [(5, .int (nI k)), (4, .int (nI (2 + (blwN (cellI xs L 0) 6)))), (0, .ref (b + 52 + 0)), (1, .ref (b + 0)), (2, .ref bs), (3, .int (nI 0))] → W p l e ({ frames := 8, cells := 28, slots := 140, locals := 172 } : Room) s m [.ref (b + 52 + 0), .ref (b + 0), .ref bs, .int (nI 0)].toArray below meth c H locs (4 * k) (5 * (4 * k)) (MQ below (cO D q b s.heap.size (fun r v => r = nI 1 ∧ ∃ (P : PT) (F : FT) (R : Nat → Nat → Int32), (∃ j c, j ≤ 4 ∧ c ≤ 28 ∧ ∃ k, tolJ P (2 + blwN (cellI xs L 0) 6) k j c) ∧ v = ((P, F, u.2.2), (2 + blwN (cellI xs L 0) 6, R)))) [.ref (b + 52 + 0), .ref (b + 0), .ref bs, .int (nI 0)].toArray s 28 140 (ts_A b 67 s.heap.size)) (F0 m 70 ls []) := by
          intro fu
          induction fu with
          | zero => intro k P F R _ _ hn; exact absurd hn (Nat.not_lt_zero _)
          | succ fu ih12 =>
            intro k P F R hk hI hn H locs hW hS hO hoz ls hl
            have hi0 := hI.2.1
            refine lv_iload hx hb dX6_isTold_70 (lv_at hl 0 rfl) ?_
            refine lv_iload hx hb dX6_isTold_72 (lv_at hl 1 rfl) ?_
            refine lv_icmp_ge (tgt := 208) hx hb dX6_isTold_74 (by decide) (fun c13 => ?_) (fun c13 => ?_)
            · skip
              rw [nI_leI (by omega) (by omega)] at c13
              refine lv_iconst (v := nI 1) hx hb dX6_isTold_208 (by decide) ?_
              refine W.widen (k := 28) (n := 140) (by omega) (by omega) ?_
              exact ts_zretO (u := (P, F, u.2.2.1, u.2.2.2)) (o := (2 + blwN (cellI xs L 0) 6, R)) (v := nI 1) C0 rfl hW hO hS (by exact ⟨rfl, P, F, R, ⟨0, 4 * k, by omega, by omega, k, hI⟩, rfl⟩) dX6_isTold_209
            rw [nI_leI (by omega) (by omega)] at c13
            refine lv_aload_n hx hb dX6_isTold_77 rfl (lv_at hl 4 rfl) ?_
            refine lv_iload_n hx hb dX6_isTold_78 rfl (lv_at hl 5 rfl) ?_
            refine lv_iconst (v := nI 1) hx hb dX6_isTold_79 (by decide) ?_
            refine ts_iadd (v := nI (0 + 1)) hx hb dX6_isTold_80 (nI_add _ _) ?_
            refine lv_iload hx hb dX6_isTold_81 (lv_at hl 0 rfl) ?_
            refine ts_iadd (v := nI ((0 + 1) + k)) hx hb dX6_isTold_83 (nI_add _ _) ?_
            refine ts_retI (va_runSN (As := [.ref bs, .int (nI ((0 + 1) + k))]) (rest := []) ⟨hx, hb, hml, hown, hts⟩ (k_L_cell l D q b H.size (P, F, u.2.2.1, u.2.2.2) bs L xs ((0 + 1) + k) (by omega)) ⟨va_cnB 2 hts gX6_isTold_L_cell_n110 rfl rfl rfl (hN _ (List.mem_of_getElem? (i := 14) rfl)) (hts _ (List.mem_of_getElem? (i := 7) rfl)) (by decide +kernel) ⟨Nat.le_of_ble_eq_true rfl, Nat.le_of_ble_eq_true rfl⟩, hts _ (List.mem_of_getElem? (i := 6) rfl), trivial⟩ (ts_preX hK hN hW (hX.kept (hS.2.1 bs hbz hbA)) hbs (Nat.lt_of_lt_of_le hbz hS.1) hL) rfl rfl hl.1 rfl (lv_room (Nat.le_of_ble_eq_true rfl)) dX6_isTold_84 ⟨(by show _ ≤ 28; omega), (by show _ ≤ 140; omega)⟩) hS (fun x h => ts_A67 hS.1 h) (fun r14 u15 H locs hp16 hW hz hk hS => ?_)
            have hO := ts_kept hO (fun x h1 h2 => hk x (by omega) (fun h => by unfold ts_A at h; omega))
            have hoz := Nat.le_trans hoz hz
            have hp16r : r14 = cellI xs L ((0 + 1) + k) := hp16.1
            have hp16u : u15 = (P, F, u.2.2.1, u.2.2.2) := hp16.2
            rw [hp16r]
            rw [hp16u] at hW
            refine lv_istore (lv' := [(6, .int (cellI xs L ((0 + 1) + k))), (5, .int (nI k)), (4, .int (nI (2 + (blwN (cellI xs L 0) 6)))), (0, .ref (b + 52 + 0)), (1, .ref (b + 0)), (2, .ref bs), (3, .int (nI 0))]) hx hb dX6_isTold_87 hl (by decide) rfl (fun ls hl => ?_)
            refine lv_iload hx hb dX6_isTold_89 (lv_at hl 0 rfl) ?_
            refine lv_iconst (v := nI 4) hx hb dX6_isTold_91 (by decide) ?_
            refine ts_retI (va_runSN (As := [.int (cellI xs L ((0 + 1) + k)), .int (nI 4)]) (rest := []) ⟨hx, hb, hml, hown, hts⟩ (k_L_below l D q b H.size (P, F, u.2.2.1, u.2.2.2) (cellI xs L ((0 + 1) + k)) 4 ⟨by omega, by omega⟩) ⟨va_cnB 2 hts gX6_isTold_L_below_n116 rfl rfl rfl (hN _ (List.mem_of_getElem? (i := 15) rfl)) (hts _ (List.mem_of_getElem? (i := 7) rfl)) (by decide +kernel) ⟨Nat.le_of_ble_eq_true rfl, Nat.le_of_ble_eq_true rfl⟩, hts _ (List.mem_of_getElem? (i := 10) rfl), trivial⟩ (ts_preS hK hN hW) rfl rfl hl.1 rfl (lv_room (Nat.le_of_ble_eq_true rfl)) dX6_isTold_92 ⟨(by show _ ≤ 28; omega), (by show _ ≤ 140; omega)⟩) hS (fun x h => ts_A67 hS.1 h) (fun r17 u18 H locs hp19 hW hz hk hS => ?_)
            have hO := ts_kept hO (fun x h1 h2 => hk x (by omega) (fun h => by unfold ts_A at h; omega))
            have hoz := Nat.le_trans hoz hz
            have hp19r : r17 = nI (blwN (cellI xs L ((0 + 1) + k)) 4) := hp19.1
            have hp19u : u18 = (P, F, u.2.2.1, u.2.2.2) := hp19.2
            rw [hp19r]
            rw [hp19u] at hW
            have hq20 := blwN_lt (cellI xs L ((0 + 1) + k)) (n := 4) (by omega)
            refine lv_istore (lv' := [(7, .int (nI (blwN (cellI xs L ((0 + 1) + k)) 4))), (6, .int (cellI xs L ((0 + 1) + k))), (5, .int (nI k)), (4, .int (nI (2 + (blwN (cellI xs L 0) 6)))), (0, .ref (b + 52 + 0)), (1, .ref (b + 0)), (2, .ref bs), (3, .int (nI 0))]) hx hb dX6_isTold_95 hl (by decide) rfl (fun ls hl => ?_)
            refine lv_iconst (v := nI 0) hx hb dX6_isTold_97 (by decide) ?_
            refine lv_istore (lv' := [(8, .int (nI 0)), (7, .int (nI (blwN (cellI xs L ((0 + 1) + k)) 4))), (6, .int (cellI xs L ((0 + 1) + k))), (5, .int (nI k)), (4, .int (nI (2 + (blwN (cellI xs L 0) 6)))), (0, .ref (b + 52 + 0)), (1, .ref (b + 0)), (2, .ref bs), (3, .int (nI 0))]) hx hb dX6_isTold_98 hl (by decide) rfl (fun ls hl => ?_)
            have key21 : ∀ (fu : Nat) (j : Nat) (P : PT) (F : FT) (R : Nat → Nat → Int32) (ty : Int32), (j ≤ 4) → (tolJ P (2 + blwN (cellI xs L 0) 6) k j (4 * k + j)) → (4 - j) < fu → ∀ (H : Heap) (locs : List Loc), ts_W D b 52 (cel q b (P, F, u.2.2.1, u.2.2.2)) H → va_S (ts_A b 67 s.heap.size) s.heap H locs → ts_W D (b + 52) 15 (celO q (b + 52) (2 + blwN (cellI xs L 0) 6, R)) H → b + 67 ≤ H.size → ∀ ls : Array Slot, lv_has ls 10 [(8, .int (nI j)), (7, .int ty), (6, .int (cellI xs L ((0 + 1) + k))), (5, .int (nI k)), (4, .int (nI (2 + (blwN (cellI xs L 0) 6)))), (0, .ref (b + 52 + 0)), (1, .ref (b + 0)), (2, .ref bs), (3, .int (nI 0))] → W p l e ({ frames := 8, cells := 28, slots := 140, locals := 172 } : Room) s m [.ref (b + 52 + 0), .ref (b + 0), .ref bs, .int (nI 0)].toArray below meth c H locs (4 * k + j) (5 * (4 * k + j)) (MQ below (cO D q b s.heap.size (fun r v => r = nI 1 ∧ ∃ (P : PT) (F : FT) (R : Nat → Nat → Int32), (∃ j c, j ≤ 4 ∧ c ≤ 28 ∧ ∃ k, tolJ P (2 + blwN (cellI xs L 0) 6) k j c) ∧ v = ((P, F, u.2.2), (2 + blwN (cellI xs L 0) 6, R)))) [.ref (b + 52 + 0), .ref (b + 0), .ref bs, .int (nI 0)].toArray s 28 140 (ts_A b 67 s.heap.size)) (F0 m 100 ls []) := by
              intro fu
              induction fu with
              | zero => intro j P F R ty _ _ hn; exact absurd hn (Nat.not_lt_zero _)
              | succ fu ih22 =>
                intro j P F R ty hj hI hn H locs hW hS hO hoz ls hl
                have hi0 := hI.2.1
                have hi5 := hI.2.2.2.2.2.1
                refine lv_iload hx hb dX6_isTold_100 (lv_at hl 0 rfl) ?_
                refine lv_iload hx hb dX6_isTold_102 (lv_at hl 2 rfl) ?_
                refine lv_iconst (v := nI 2) hx hb dX6_isTold_104 (by decide) ?_
                refine ts_ishr (v := (cellI xs L ((0 + 1) + k)) >>> ((nI 2) &&& 31)) hx hb dX6_isTold_105 rfl ?_
                refine lv_iconst (v := nI 5) hx hb dX6_isTold_106 (by decide) ?_
                refine ts_retI (va_runSN (As := [.int ((cellI xs L ((0 + 1) + k)) >>> ((nI 2) &&& 31)), .int (nI 5)]) (rest := [.int (nI j)]) ⟨hx, hb, hml, hown, hts⟩ (k_L_below l D q b H.size (P, F, u.2.2.1, u.2.2.2) ((cellI xs L ((0 + 1) + k)) >>> ((nI 2) &&& 31)) 5 ⟨by omega, by omega⟩) ⟨va_cnB 2 hts gX6_isTold_L_below_n116 rfl rfl rfl (hN _ (List.mem_of_getElem? (i := 15) rfl)) (hts _ (List.mem_of_getElem? (i := 7) rfl)) (by decide +kernel) ⟨Nat.le_of_ble_eq_true rfl, Nat.le_of_ble_eq_true rfl⟩, hts _ (List.mem_of_getElem? (i := 10) rfl), trivial⟩ (ts_preS hK hN hW) rfl rfl hl.1 rfl (lv_room (Nat.le_of_ble_eq_true rfl)) dX6_isTold_107 ⟨(by show _ ≤ 28; omega), (by show _ ≤ 140; omega)⟩) hS (fun x h => ts_A67 hS.1 h) (fun r23 u24 H locs hp25 hW hz hk hS => ?_)
                have hO := ts_kept hO (fun x h1 h2 => hk x (by omega) (fun h => by unfold ts_A at h; omega))
                have hoz := Nat.le_trans hoz hz
                have hp25r : r23 = nI (blwN ((cellI xs L ((0 + 1) + k)) >>> ((nI 2) &&& 31)) 5) := hp25.1
                have hp25u : u24 = (P, F, u.2.2.1, u.2.2.2) := hp25.2
                rw [hp25r]
                rw [hp25u] at hW
                have hq26 := blwN_lt ((cellI xs L ((0 + 1) + k)) >>> ((nI 2) &&& 31)) (n := 5) (by omega)
                refine lv_icmp_ge (tgt := 202) hx hb dX6_isTold_110 (by decide) (fun c27 => ?_) (fun c27 => ?_)
                · skip
                  rw [nI_leI (by omega) (by omega)] at c27
                  refine W.widen (k := 4 * (k + 1)) (n := 5 * (4 * (k + 1))) (by omega) (by omega) ?_
                  refine lv_iinc (v := nI (k + 1)) (lv' := [(5, .int (nI (k + 1))), (8, .int (nI j)), (7, .int ty), (6, .int (cellI xs L ((0 + 1) + k))), (4, .int (nI (2 + (blwN (cellI xs L 0) 6)))), (0, .ref (b + 52 + 0)), (1, .ref (b + 0)), (2, .ref bs), (3, .int (nI 0))]) hx hb dX6_isTold_202 hl (k := 3) rfl (nI_add k 1) (by decide) rfl (fun ls hl => ?_)
                  refine lv_goto (tgt := 70) hx hb dX6_isTold_205 (by decide) ?_
                  exact ih12 (k + 1) P F R (by omega) (hI.next (by omega) (by omega)) (by omega) H locs hW hS hO hoz ls (lv_sub hl [0, 4, 5, 6, 7, 8] rfl)
                rw [nI_leI (by omega) (by omega)] at c27
                refine lv_iload hx hb dX6_isTold_113 (lv_at hl 2 rfl) ?_
                refine lv_iload hx hb dX6_isTold_115 (lv_at hl 0 rfl) ?_
                refine ts_ishr (v := (cellI xs L ((0 + 1) + k)) >>> ((nI j) &&& 31)) hx hb dX6_isTold_117 rfl ?_
                refine lv_iload hx hb dX6_isTold_118 (lv_at hl 1 rfl) ?_
                refine lv_iload hx hb dX6_isTold_120 (lv_at hl 4 rfl) ?_
                refine ts_retI (va_runS (As := [.int ((cellI xs L ((0 + 1) + k)) >>> ((nI j) &&& 31)), .int ty, .int (nI (2 + (blwN (cellI xs L 0) 6)))]) (rest := []) ⟨hx, hb, hml, hown, hts⟩ (k_X6_step l D q b H.size (P, F, u.2.2.1, u.2.2.2) ((cellI xs L ((0 + 1) + k)) >>> ((nI j) &&& 31)) ty (2 + (blwN (cellI xs L 0) 6)) (by omega)) (va_cwS 3 hts gX6_isTold_X6_step rfl rfl rfl (by decide +kernel) ⟨Nat.le_of_ble_eq_true rfl, Nat.le_of_ble_eq_true rfl⟩) (ts_preS hK hN hW) rfl rfl hl.1 rfl (lv_room (Nat.le_of_ble_eq_true rfl)) dX6_isTold_122 ⟨(by show _ ≤ 28; omega), (by show _ ≤ 140; omega)⟩) hS (fun x h => ts_A67 hS.1 h) (fun r28 u29 H locs hp30 hW hz hk hS => ?_)
                have hO := ts_kept hO (fun x h1 h2 => hk x (by omega) (fun h => by unfold ts_A at h; omega))
                have hoz := Nat.le_trans hoz hz
                obtain ⟨⟨v31, hp30r, hp30v⟩, hp30u⟩ := hp30
                have hp30u : u29 = (P, F, u.2.2.1, u.2.2.2) := hp30u
                rw [hp30r]
                rw [hp30u] at hW
                refine lv_istore (lv' := [(9, .int (nI v31)), (8, .int (nI j)), (7, .int ty), (6, .int (cellI xs L ((0 + 1) + k))), (5, .int (nI k)), (4, .int (nI (2 + (blwN (cellI xs L 0) 6)))), (0, .ref (b + 52 + 0)), (1, .ref (b + 0)), (2, .ref bs), (3, .int (nI 0))]) hx hb dX6_isTold_125 hl (by decide) rfl (fun ls hl => ?_)
                have hv_ : v31 ≤ 9 ∨ (20 ≤ v31 ∧ v31 ≤ 24) ∨ (40 ≤ v31 ∧ v31 < 40 + (2 + blwN (cellI xs L 0) 6)) := by omega
                refine lv_aload_n hx hb dX6_isTold_127 rfl (lv_at hl 6 rfl) ?_
                refine ts_get (C := RX6) (T := TX6) (N := 13) (b := b + 52) (n := 15) (v := .ref (b + 52 + 1)) hx hb hts hi6 hown hK hO 0 (by decide) celO_ob rfl 0 (by decide) (List.mem_of_getElem? (i := 4) rfl) rfl dX6_isTold_128 ?_
                refine lv_iload hx hb dX6_isTold_131 (lv_at hl 4 rfl) ?_
                refine ts_aald (b := b + 52) (n := 15) (a := b + 52 + (2 + k)) hx hb hK hO 1 (by decide) 2 celO_st rfl rfl (by omega) (by decide) rfl dX6_isTold_133 ?_
                refine lv_iload hx hb dX6_isTold_134 (lv_at hl 1 rfl) ?_
                refine lv_iload hx hb dX6_isTold_136 (lv_at hl 0 rfl) ?_
                refine ts_iast (b := b + 52) (n := 15) (v := nI v31) hx hb hK hO hS (fun k hk => ts_A67o hk) (2 + k) (by omega) 0 (celO_rw (i := k) (by omega)) rfl (by omega) (by decide) (celO q (b + 52) (2 + blwN (cellI xs L 0) 6, (up2 R k j (nI v31)))) (celO_rw (i := k) (by omega)) (fun j _ => up2_row _ _ _ _ _) (celO_or (o := (2 + blwN (cellI xs L 0) 6, R)) (r := k)) dX6_isTold_138 (fun H locs oq zq hO hS => ?_)
                have hW := ts_kept hW (fun x h1 h2 => oq x (by omega))
                have hoz := Nat.le_trans hoz (Nat.le_of_eq zq.symm)
                refine lv_aload_n hx hb dX6_isTold_139 rfl (lv_at hl 6 rfl) ?_
                refine ts_get (C := RX6) (T := TX6) (N := 13) (b := b + 52) (n := 15) (v := .ref (b + 52 + 12)) hx hb hts hi6 hown hK hO 0 (by decide) celO_ob rfl 1 (by decide) (List.mem_of_getElem? (i := 5) rfl) rfl dX6_isTold_140 ?_
                refine lv_iload hx hb dX6_isTold_143 (lv_at hl 4 rfl) ?_
                refine lv_dup2_11 hx hb dX6_isTold_145 rfl rfl ?_
                refine ts_iald (b := b + 52) (n := 15) (v := (up2 R k j (nI v31)) 10 k) hx hb hK hO 12 (by decide) 0 (celO_ar (i := 10) (by decide)) rfl (by omega) (by decide) rfl dX6_isTold_146 ?_
                refine lv_iconst (v := nI 1) hx hb dX6_isTold_147 (by decide) ?_
                refine ts_iadd (v := ((up2 R k j (nI v31)) 10 k) + (nI 1)) hx hb dX6_isTold_148 rfl ?_
                refine ts_iast (b := b + 52) (n := 15) (v := ((up2 R k j (nI v31)) 10 k) + (nI 1)) hx hb hK hO hS (fun k hk => ts_A67o hk) 12 (by decide) 0 (celO_ar (i := 10) (by decide)) rfl (by omega) (by decide) (celO q (b + 52) (2 + blwN (cellI xs L 0) 6, (up2 (up2 R k j (nI v31)) 10 k (((up2 R k j (nI v31)) 10 k) + (nI 1))))) (celO_ar (i := 10) (by decide)) (fun j _ => up2_row _ _ _ _ _) (celO_or (o := (2 + blwN (cellI xs L 0) 6, (up2 R k j (nI v31)))) (r := 10)) dX6_isTold_149 (fun H locs oq zq hO hS => ?_)
                have hW := ts_kept hW (fun x h1 h2 => oq x (by omega))
                have hoz := Nat.le_trans hoz (Nat.le_of_eq zq.symm)
                refine lv_aload_n hx hb dX6_isTold_150 rfl (lv_at hl 7 rfl) ?_
                refine lv_iload hx hb dX6_isTold_151 (lv_at hl 4 rfl) ?_
                refine lv_iload hx hb dX6_isTold_153 (lv_at hl 0 rfl) ?_
                refine ts_retI (va_runV (As := [.int (nI k), .int (nI v31)]) (rest := []) ⟨hx, hb, hml, hown, hts⟩ (k_X5_step l D q b H.size (P, F, u.2.2.1, u.2.2.2) k v31 hI.1 (show k < P.1 1 by omega) (by show _ ∨ _ ∨ (_ ∧ _ < 40 + P.1 1); omega) (show P.1 (20 + k) < 6 by omega)) (cwV 2 hts gX6_isTold_X5_step rfl rfl rfl (by decide +kernel) ⟨Nat.le_of_ble_eq_true rfl, Nat.le_of_ble_eq_true rfl⟩) (ts_preV hK hN hW 0 (by decide) cel_st rfl) rfl rfl hl.1 rfl (lv_room (Nat.le_of_ble_eq_true rfl)) dX6_isTold_155 ⟨(by show _ ≤ 28; omega), (by show _ ≤ 140; omega)⟩) hS (fun x h => ts_A67 hS.1 h) (fun r32 u33 H locs hp34 hW hz hk hS => ?_)
                have hO := ts_kept hO (fun x h1 h2 => hk x (by omega) (fun h => by unfold ts_A at h; omega))
                have hoz := Nat.le_trans hoz hz
                obtain ⟨hp34r, F35, hp34u⟩ := hp34
                have hp34r : r32 = nI (P.1 (20 + k) + 1) := hp34r
                have hp34u : u33 = ((dropP (chkP (stepP P k v31) 1)), F35, u.2.2.1, u.2.2.2) := hp34u
                rw [hp34r]
                rw [hp34u] at hW
                have hI2 := hI.step (by omega) (by omega) hv_
                refine lv_iload hx hb dX6_isTold_158 (lv_at hl 1 rfl) ?_
                refine lv_iconst (v := nI 1) hx hb dX6_isTold_160 (by decide) ?_
                refine ts_iadd (v := nI (j + 1)) hx hb dX6_isTold_161 (nI_add _ _) ?_
                refine lv_icmp_eq (tgt := 167) hx hb dX6_isTold_162 (by decide) (fun c36 => ?_) (fun c36 => ?_)
                · skip
                  rw [nI_eq (by omega) (by omega)] at c36
                  refine lv_iload hx hb dX6_isTold_167 (lv_at hl 0 rfl) ?_
                  refine lv_bipush (v := nI 40) hx hb dX6_isTold_169 (by decide) ?_
                  refine lv_icmp_lt (tgt := 188) hx hb dX6_isTold_171 (by decide) (fun c37 => ?_) (fun c37 => ?_)
                  · skip
                    rw [nI_ltI (by omega) (by omega)] at c37
                    refine lv_aload_n hx hb dX6_isTold_188 rfl (lv_at hl 6 rfl) ?_
                    refine lv_iload hx hb dX6_isTold_189 (lv_at hl 0 rfl) ?_
                    refine ts_retO (va_runV (As := [.int (nI v31)]) (rest := []) ⟨hx, hb, hml, hown, hts⟩ (k_X6_gives l D q b H.size ((dropP (chkP (stepP P k v31) 1)), F35, u.2.2.1, u.2.2.2) (2 + blwN (cellI xs L 0) 6, (up2 (up2 R k j (nI v31)) 10 k (((up2 R k j (nI v31)) 10 k) + (nI 1)))) v31 (by omega)) (cwV 1 hts gX6_isTold_X6_gives rfl rfl rfl (by decide +kernel) ⟨Nat.le_of_ble_eq_true rfl, Nat.le_of_ble_eq_true rfl⟩) (ts_preO hK hN hW hO hoz) rfl rfl hl.1 rfl (lv_room (Nat.le_of_ble_eq_true rfl)) dX6_isTold_191 ⟨(by show _ ≤ 28; omega), (by show _ ≤ 140; omega)⟩) hS (fun x h => ts_A67b hS.1 h) (fun r38 u39 o41 H locs hp40 hW hO hz hk hS => ?_)
                    have hoz := Nat.le_trans hoz hz
                    have hp40u : u39 = ((dropP (chkP (stepP P k v31) 1)), F35, u.2.2.1, u.2.2.2) := congrArg Prod.fst hp40
                    have hp40o : o41 = (2 + blwN (cellI xs L 0) 6, (up2 (up2 R k j (nI v31)) 10 k (((up2 R k j (nI v31)) 10 k) + (nI 1)))) := congrArg Prod.snd hp40
                    rw [hp40u] at hW
                    rw [hp40o] at hO
                    refine lv_istore (lv' := [(7, .int r38), (9, .int (nI v31)), (8, .int (nI j)), (6, .int (cellI xs L ((0 + 1) + k))), (5, .int (nI k)), (4, .int (nI (2 + (blwN (cellI xs L 0) 6)))), (0, .ref (b + 52 + 0)), (1, .ref (b + 0)), (2, .ref bs), (3, .int (nI 0))]) hx hb dX6_isTold_194 hl (by decide) rfl (fun ls hl => ?_)
                    refine lv_iinc (v := nI (j + 1)) (lv' := [(8, .int (nI (j + 1))), (7, .int r38), (9, .int (nI v31)), (6, .int (cellI xs L ((0 + 1) + k))), (5, .int (nI k)), (4, .int (nI (2 + (blwN (cellI xs L 0) 6)))), (0, .ref (b + 52 + 0)), (1, .ref (b + 0)), (2, .ref bs), (3, .int (nI 0))]) hx hb dX6_isTold_196 hl (k := 2) rfl (nI_add j 1) (by decide) rfl (fun ls hl => ?_)
                    refine lv_goto (tgt := 100) hx hb dX6_isTold_199 (by decide) ?_
                    exact ih22 (j + 1) (dropP (chkP (stepP P k v31) 1)) F35 (up2 (up2 R k j (nI v31)) 10 k (((up2 R k j (nI v31)) 10 k) + (nI 1))) r38 (by omega) hI2 (by omega) H locs hW hS hO hoz ls (lv_sub hl [0, 1, 3, 4, 5, 6, 7, 8, 9] rfl)
                  rw [nI_ltI (by omega) (by omega)] at c37
                  refine lv_iload hx hb dX6_isTold_174 (lv_at hl 3 rfl) ?_
                  refine lv_iconst (v := nI 3) hx hb dX6_isTold_176 (by decide) ?_
                  refine lv_iload hx hb dX6_isTold_177 (lv_at hl 1 rfl) ?_
                  refine ts_iadd (v := nI (3 + j)) hx hb dX6_isTold_179 (nI_add _ _) ?_
                  refine ts_ishr (v := (cellI xs L ((0 + 1) + k)) >>> ((nI (3 + j)) &&& 31)) hx hb dX6_isTold_180 rfl ?_
                  refine lv_iconst (v := nI 4) hx hb dX6_isTold_181 (by decide) ?_
                  refine ts_retI (va_runSN (As := [.int ((cellI xs L ((0 + 1) + k)) >>> ((nI (3 + j)) &&& 31)), .int (nI 4)]) (rest := []) ⟨hx, hb, hml, hown, hts⟩ (k_L_below l D q b H.size ((dropP (chkP (stepP P k v31) 1)), F35, u.2.2.1, u.2.2.2) ((cellI xs L ((0 + 1) + k)) >>> ((nI (3 + j)) &&& 31)) 4 ⟨by omega, by omega⟩) ⟨va_cnB 2 hts gX6_isTold_L_below_n116 rfl rfl rfl (hN _ (List.mem_of_getElem? (i := 15) rfl)) (hts _ (List.mem_of_getElem? (i := 7) rfl)) (by decide +kernel) ⟨Nat.le_of_ble_eq_true rfl, Nat.le_of_ble_eq_true rfl⟩, hts _ (List.mem_of_getElem? (i := 10) rfl), trivial⟩ (ts_preS hK hN hW) rfl rfl hl.1 rfl (lv_room (Nat.le_of_ble_eq_true rfl)) dX6_isTold_182 ⟨(by show _ ≤ 28; omega), (by show _ ≤ 140; omega)⟩) hS (fun x h => ts_A67 hS.1 h) (fun r42 u43 H locs hp44 hW hz hk hS => ?_)
                  have hO := ts_kept hO (fun x h1 h2 => hk x (by omega) (fun h => by unfold ts_A at h; omega))
                  have hoz := Nat.le_trans hoz hz
                  have hp44r : r42 = nI (blwN ((cellI xs L ((0 + 1) + k)) >>> ((nI (3 + j)) &&& 31)) 4) := hp44.1
                  have hp44u : u43 = ((dropP (chkP (stepP P k v31) 1)), F35, u.2.2.1, u.2.2.2) := hp44.2
                  rw [hp44r]
                  rw [hp44u] at hW
                  have hq45 := blwN_lt ((cellI xs L ((0 + 1) + k)) >>> ((nI (3 + j)) &&& 31)) (n := 4) (by omega)
                  refine lv_goto (tgt := 194) hx hb dX6_isTold_185 (by decide) ?_
                  refine lv_istore (lv' := [(7, .int (nI (blwN ((cellI xs L ((0 + 1) + k)) >>> ((nI (3 + j)) &&& 31)) 4))), (9, .int (nI v31)), (8, .int (nI j)), (6, .int (cellI xs L ((0 + 1) + k))), (5, .int (nI k)), (4, .int (nI (2 + (blwN (cellI xs L 0) 6)))), (0, .ref (b + 52 + 0)), (1, .ref (b + 0)), (2, .ref bs), (3, .int (nI 0))]) hx hb dX6_isTold_194 hl (by decide) rfl (fun ls hl => ?_)
                  refine W.widen (k := 4 * k + (j + 1)) (n := 5 * (4 * k + (j + 1))) (by omega) (by omega) ?_
                  refine lv_iinc (v := nI (j + 1)) (lv' := [(8, .int (nI (j + 1))), (7, .int (nI (blwN ((cellI xs L ((0 + 1) + k)) >>> ((nI (3 + j)) &&& 31)) 4))), (9, .int (nI v31)), (6, .int (cellI xs L ((0 + 1) + k))), (5, .int (nI k)), (4, .int (nI (2 + (blwN (cellI xs L 0) 6)))), (0, .ref (b + 52 + 0)), (1, .ref (b + 0)), (2, .ref bs), (3, .int (nI 0))]) hx hb dX6_isTold_196 hl (k := 2) rfl (nI_add j 1) (by decide) rfl (fun ls hl => ?_)
                  refine lv_goto (tgt := 100) hx hb dX6_isTold_199 (by decide) ?_
                  have e46 : (nI (blwN ((cellI xs L ((0 + 1) + k)) >>> ((nI (3 + j)) &&& 31)) 4)) = nI (blwN ((cellI xs L ((0 + 1) + k)) >>> ((nI (3 + j)) &&& 31)) 4) := by simp [*]
                  exact ih22 (j + 1) (dropP (chkP (stepP P k v31) 1)) F35 (up2 (up2 R k j (nI v31)) 10 k (((up2 R k j (nI v31)) 10 k) + (nI 1))) (nI (blwN ((cellI xs L ((0 + 1) + k)) >>> ((nI (3 + j)) &&& 31)) 4)) (by omega) hI2 (by omega) H locs hW hS hO hoz ls (show lv_has ls 10 [(8, .int (nI (j + 1))), (7, .int (nI (blwN ((cellI xs L ((0 + 1) + k)) >>> ((nI (3 + j)) &&& 31)) 4))), (6, .int (cellI xs L ((0 + 1) + k))), (5, .int (nI k)), (4, .int (nI (2 + (blwN (cellI xs L 0) 6)))), (0, .ref (b + 52 + 0)), (1, .ref (b + 0)), (2, .ref bs), (3, .int (nI 0))] from by rw [e46]; exact lv_sub hl [0, 1, 3, 4, 5, 6, 7, 8, 9] rfl)
                rw [nI_eq (by omega) (by omega)] at c36
                exfalso; omega
            have e47 : (nI (blwN (cellI xs L ((0 + 1) + k)) 4)) = nI (blwN (cellI xs L ((0 + 1) + k)) 4) := by simp [*]
            exact key21 _ 0 P F R (nI (blwN (cellI xs L ((0 + 1) + k)) 4)) (by omega) hI (Nat.lt_succ_self _) _ _ hW hS hO hoz ls (show lv_has ls 10 [(8, .int (nI 0)), (7, .int (nI (blwN (cellI xs L ((0 + 1) + k)) 4))), (6, .int (cellI xs L ((0 + 1) + k))), (5, .int (nI k)), (4, .int (nI (2 + (blwN (cellI xs L 0) 6)))), (0, .ref (b + 52 + 0)), (1, .ref (b + 0)), (2, .ref bs), (3, .int (nI 0))] from by rw [e47]; exact lv_sub hl [0, 1, 2, 3, 4, 5, 6, 7, 8] rfl)
        exact key11 _ 0 P u.2.1 R (by omega) hI2_ (Nat.lt_succ_self _) _ _ hW hS hO hoz ls (lv_sub hl [0, 1, 2, 3, 4, 5] rfl)
      rw [nI_leI (by omega) (by omega)] at c10
      refine lv_aload_n hx hb dX6_isTold_24 rfl (lv_at hl 3 rfl) ?_
      refine ts_retI (va_runV (As := []) (rest := []) ⟨hx, hb, hml, hown, hts⟩ (k_X5_function l D q b H.size (P, u.2.1, u.2.2.1, u.2.2.2) hI.1 (show P.1 1 < 10 by omega)) (cwV 0 hts gX6_isTold_X5_function rfl rfl rfl (by decide +kernel) ⟨Nat.le_of_ble_eq_true rfl, Nat.le_of_ble_eq_true rfl⟩) (ts_preV hK hN hW 0 (by decide) cel_st rfl) rfl rfl hl.1 rfl (lv_room (Nat.le_of_ble_eq_true rfl)) dX6_isTold_25 ⟨(by show _ ≤ 28; omega), (by show _ ≤ 140; omega)⟩) hS (fun x h => ts_A67 hS.1 h) (fun r48 u49 H locs hp50 hW hz hk hS => ?_)
      have hO := ts_kept hO (fun x h1 h2 => hk x (by omega) (fun h => by unfold ts_A at h; omega))
      have hoz := Nat.le_trans hoz hz
      have hp50r : r48 = nI (P.1 1) := hp50.1
      have hp50u : u49 = ((va_up P.1 1 (P.1 1 + 1), P.2), u.2.1, u.2.2.1, u.2.2.2) := hp50.2
      rw [hp50r]
      rw [hp50u] at hW
      refine lv_iload hx hb dX6_isTold_28 (lv_at hl 0 rfl) ?_
      refine lv_icmp_eq (tgt := 35) hx hb dX6_isTold_30 (by decide) (fun c51 => ?_) (fun c51 => ?_)
      · skip
        refine lv_aload_n hx hb dX6_isTold_35 rfl (lv_at hl 2 rfl) ?_
        refine ts_get (C := RX6) (T := TX6) (N := 13) (b := b + 52) (n := 15) (v := .ref (b + 52 + 13)) hx hb hts hi6 hown hK hO 0 (by decide) celO_ob rfl 2 (by decide) (List.mem_of_getElem? (i := 1) rfl) rfl dX6_isTold_36 ?_
        refine lv_iload hx hb dX6_isTold_39 (lv_at hl 0 rfl) ?_
        refine lv_iconst (v := nI 3) hx hb dX6_isTold_41 (by decide) ?_
        refine ts_iast (b := b + 52) (n := 15) (v := nI 3) hx hb hK hO hS (fun k hk => ts_A67o hk) 13 (by decide) 0 (celO_ar (i := 11) (by decide)) rfl (by omega) (by decide) (celO q (b + 52) (k, (up2 R 11 k (nI 3)))) (celO_ar (i := 11) (by decide)) (fun j _ => up2_row _ _ _ _ _) (celO_or (o := (k, R)) (r := 11)) dX6_isTold_42 (fun H locs oq zq hO hS => ?_)
        have hW := ts_kept hW (fun x h1 h2 => oq x (by omega))
        have hoz := Nat.le_trans hoz (Nat.le_of_eq zq.symm)
        refine lv_aload_n hx hb dX6_isTold_43 rfl (lv_at hl 2 rfl) ?_
        refine ts_get (C := RX6) (T := TX6) (N := 13) (b := b + 52) (n := 15) (v := .ref (b + 52 + 14)) hx hb hts hi6 hown hK hO 0 (by decide) celO_ob rfl 3 (by decide) (List.mem_of_getElem? (i := 2) rfl) rfl dX6_isTold_44 ?_
        refine lv_iload hx hb dX6_isTold_47 (lv_at hl 0 rfl) ?_
        refine lv_iconst (v := nI 3) hx hb dX6_isTold_49 (by decide) ?_
        refine ts_iast (b := b + 52) (n := 15) (v := nI 3) hx hb hK hO hS (fun k hk => ts_A67o hk) 14 (by decide) 0 (celO_ar (i := 12) (by decide)) rfl (by omega) (by decide) (celO q (b + 52) (k, (up2 (up2 R 11 k (nI 3)) 12 k (nI 3)))) (celO_ar (i := 12) (by decide)) (fun j _ => up2_row _ _ _ _ _) (celO_or (o := (k, (up2 R 11 k (nI 3)))) (r := 12)) dX6_isTold_50 (fun H locs oq zq hO hS => ?_)
        have hW := ts_kept hW (fun x h1 h2 => oq x (by omega))
        have hoz := Nat.le_trans hoz (Nat.le_of_eq zq.symm)
        refine lv_aload_n hx hb dX6_isTold_51 rfl (lv_at hl 2 rfl) ?_
        refine lv_dup hx hb dX6_isTold_52 rfl ?_
        refine ts_get (C := RX6) (T := TX6) (N := 13) (b := b + 52) (n := 15) (v := .int (nI k)) hx hb hts hi6 hown hK hO 0 (by decide) celO_ob rfl 5 (by decide) (List.mem_of_getElem? (i := 3) rfl) rfl dX6_isTold_53 ?_
        refine lv_iconst (v := nI 1) hx hb dX6_isTold_56 (by decide) ?_
        refine ts_iadd (v := nI (k + 1)) hx hb dX6_isTold_57 (nI_add _ _) ?_
        refine ts_put (C := RX6) (T := TX6) (N := 13) (b := b + 52) (n := 15) (v := .int (nI (k + 1))) hx hb hts hi6 tyX6 tyX6_ok nmX6 hown hK hO hS (fun k hk => ts_A67o hk) 0 (by decide) celO_ob rfl 5 (by decide) (List.mem_of_getElem? (i := 3) rfl) rfl rfl rfl (Nat.le_of_ble_eq_true rfl) (celO q (b + 52) (k + 1, (up2 (up2 R 11 k (nI 3)) 12 k (nI 3)))) rfl (celO_o0 (o := (k, (up2 (up2 R 11 k (nI 3)) 12 k (nI 3))))) dX6_isTold_58 (fun H locs oq zq hO hS => ?_)
        have hW := ts_kept hW (fun x h1 h2 => oq x (by omega))
        have hoz := Nat.le_trans hoz (Nat.le_of_eq zq.symm)
        refine lv_iinc (v := nI (k + 1)) (lv' := [(5, .int (nI (k + 1))), (4, .int (nI (2 + (blwN (cellI xs L 0) 6)))), (0, .ref (b + 52 + 0)), (1, .ref (b + 0)), (2, .ref bs), (3, .int (nI 0))]) hx hb dX6_isTold_61 hl (k := 0) rfl (nI_add k 1) (by decide) rfl (fun ls hl => ?_)
        refine lv_goto (tgt := 17) hx hb dX6_isTold_64 (by decide) ?_
        exact ih9 (k + 1) (va_up P.1 1 (P.1 1 + 1), P.2) (up2 (up2 R 11 k (nI 3)) 12 k (nI 3)) (by omega) (hI.fun (by omega)) (by omega) H locs hW hS hO hoz ls (lv_sub hl [0, 1, 2, 3, 4, 5] rfl)
      exact absurd (congrArg nI hi0) c51
  exact key8 _ 0 u.1 o.2 (by omega) hI0 (Nat.lt_succ_self _) _ _ hW hS hO hoz ls (lv_sub hl [0, 1, 2, 3, 4, 5] rfl)
