set_option maxHeartbeats 4000000 in
set_option maxRecDepth 100000 in
theorem k_X5_mixed (l : Launch) (D : va_G) (q : CQ) (b sz : Nat) (u : ST) (d : Int64) (v : Int32)  : Met l yX5_mixed wsX5_mixed ({ frames := 0, cells := 0, slots := 0, locals := 0 } : Room) (va_Pc [.long d, .int v] (Pr D q b sz u)) (cL D q b sz (fun r u' => r = mixL d v ∧ u' = u)) 0 0 (ts_A b 52 sz) := by
  refine ts_met (by decide) rfl (Nat.le_of_ble_eq_true rfl) ?_
  intro p e s m below meth c C0 hX ls hl
  obtain ⟨hsz, hW, hK, hN⟩ := hX
  subst hsz
  obtain ⟨hx, hb, hml, hown, hts, -, -, -⟩ := id C0
  have hW : ts_W D b 52 (cel q b u) s.heap := hW
  have hS : va_S (ts_A b 52 s.heap.size) s.heap s.heap [] := va_S.rf
  have hB : ∀ k, k < 52 → ts_A b 52 s.heap.size (b + k) := fun k hk => ts_Ain hk
  have hl : lv_has ls 3 [(0, .long d), (2, .int v)] := hl
  refine lv_lload_n hx hb dX5_mixed_0 rfl (lv_at hl 0 rfl) ?_
  refine lv_ldc2 (v := 31) hx hb hown (hts _ (List.mem_of_getElem? (i := 1) rfl)) dX5_mixed_1 ?_
  refine lv_lmul hx hb dX5_mixed_4 ?_
  refine lv_iload_n hx hb dX5_mixed_5 rfl (lv_at hl 1 rfl) ?_
  refine lv_i2l (v := v.toInt64) hx hb dX5_mixed_6 rfl ?_
  refine lv_ladd hx hb dX5_mixed_7 ?_
  exact ts_lret (u := u) (v := (d * 31) + v.toInt64) C0 hW hS (by exact ⟨rfl, rfl⟩) dX5_mixed_8
set_option maxHeartbeats 4000000 in
set_option maxRecDepth 100000 in
theorem k_X5_mixedFunction (l : Launch) (D : va_G) (q : CQ) (b sz : Nat) (u : ST) (d : Int64) (f : Nat) (hwf : WP u.1) (hf : f < u.1.1 1) : Met l yX5_mixedFunction wsX5_mixedFunction ({ frames := 44, cells := 0, slots := 0, locals := 1122 } : Room) (va_Pc [.ref (b + 0), .long d, .int (nI f)] (Pr D q b sz u)) (cL D q b sz (fun r u' => r = mixF u.1 u.2.2.2 f d ∧ ∃ (F : FT) (T : TT), u' = (u.1, F, T, u.2.2.2))) 0 0 (ts_A b 52 sz) := by
  refine ts_met (by decide) rfl (Nat.le_of_ble_eq_true rfl) ?_
  intro p e s m below meth c C0 hX ls hl
  obtain ⟨hsz, hW, hK, hN⟩ := hX
  subst hsz
  obtain ⟨hx, hb, hml, hown, hts, -, -, -⟩ := id C0
  have hW : ts_W D b 52 (cel q b u) s.heap := hW
  have hS : va_S (ts_A b 52 s.heap.size) s.heap s.heap [] := va_S.rf
  have hB : ∀ k, k < 52 → ts_A b 52 s.heap.size (b + k) := fun k hk => ts_Ain hk
  have hi2 : ∀ w ∈ wsX20, w ∈ wsX5_mixedFunction := ts_lays 225 rfl
  have hi3 : ∀ w ∈ wsX30, w ∈ wsX5_mixedFunction := ts_lays 220 rfl
  have hi5 : ∀ w ∈ wsX50, w ∈ wsX5_mixedFunction := ts_lays 216 rfl
  have hl : lv_has ls 8 [(0, .ref (b + 0)), (1, .long d), (3, .int (nI f))] := hl
  have hs := hwf.sz
  refine lv_lload_n hx hb dX5_mixedFunction_0 rfl (lv_at hl 1 rfl) ?_
  refine lv_lstore (lv' := [(4, .long d), (0, .ref (b + 0)), (1, .long d), (3, .int (nI f))]) hx hb dX5_mixedFunction_1 hl (by decide) rfl (fun ls hl => ?_)
  refine lv_iconst (v := nI 0) hx hb dX5_mixedFunction_3 (by decide) ?_
  refine lv_istore (lv' := [(6, .int (nI 0)), (4, .long d), (0, .ref (b + 0)), (1, .long d), (3, .int (nI f))]) hx hb dX5_mixedFunction_4 hl (by decide) rfl (fun ls hl => ?_)
  have key1 : ∀ (fu : Nat) (k : Nat) (F : FT), (k ≤ 11) → (11 - k) < fu → ∀ (H : Heap) (locs : List Loc), ts_W D b 52 (cel q b (u.1, F, u.2.2.1, u.2.2.2)) H → va_S (ts_A b 52 s.heap.size) s.heap H locs → ∀ ls : Array Slot, lv_has ls 8 [(6, .int (nI k)), (4, .long (mixO u.1 u.2.2.2 f d k)), (0, .ref (b + 0)), (1, .long d), (3, .int (nI f))] → W p l e ({ frames := 44, cells := 0, slots := 0, locals := 1122 } : Room) s m [.ref (b + 0), .long d, .int (nI f)].toArray below meth c H locs 0 0 (MQ below (cL D q b s.heap.size (fun r u' => r = mixF u.1 u.2.2.2 f d ∧ ∃ (F : FT) (T : TT), u' = (u.1, F, T, u.2.2.2))) [.ref (b + 0), .long d, .int (nI f)].toArray s 0 0 (ts_A b 52 s.heap.size)) (F0 m 6 ls []) := by
    intro fu
    induction fu with
    | zero => intro k F _ hn; exact absurd hn (Nat.not_lt_zero _)
    | succ fu ih2 =>
      intro k F hk hn H locs hW hS ls hl
      refine lv_iload hx hb dX5_mixedFunction_6 (lv_at hl 0 rfl) ?_
      refine lv_bipush (v := nI 10) hx hb dX5_mixedFunction_8 (by decide) ?_
      refine lv_icmp_gt (tgt := 33) hx hb dX5_mixedFunction_10 (by decide) (fun c3 => ?_) (fun c3 => ?_)
      · skip
        rw [nI_ltI (by omega) (by omega)] at c3
        refine lv_aload_n hx hb dX5_mixedFunction_33 rfl (lv_at hl 2 rfl) ?_
        refine ts_get (C := RX5) (T := TX5) (N := 4) (v := .ref (b + 1)) hx hb hts hi5 hown hK hW 0 (by decide) cel_st rfl 0 (by decide) (List.mem_of_getElem? (i := 1) rfl) rfl dX5_mixedFunction_34 ?_
        refine ts_get (C := RX3) (T := TX3) (N := 5) (v := .ref (b + 2)) hx hb hts hi3 hown hK hW 1 (by decide) cel_pr rfl 0 (by decide) (List.mem_of_getElem? (i := 2) rfl) rfl dX5_mixedFunction_37 ?_
        refine lv_iload_n hx hb dX5_mixedFunction_40 rfl (lv_at hl 4 rfl) ?_
        refine ts_aald (a := b + (3 + 2 * f)) hx hb hK hW 2 (by decide) 1 cel_fs rfl rfl (by omega) (by decide) rfl dX5_mixedFunction_41 ?_
        refine ts_get (C := RX2) (T := TX2) (N := 4) (v := .int (nI (u.1.1 (20 + f)))) hx hb hts hi2 hown hK hW (3 + 2 * f) (by omega) (cel_fn (by omega)) rfl 1 (by decide) (List.mem_of_getElem? (i := 3) rfl) rfl dX5_mixedFunction_42 ?_
        have hq4 := hwf.fsz (i := f) (by omega)
        refine lv_istore (lv' := [(6, .int (nI (u.1.1 (20 + f)))), (4, .long (mixO u.1 u.2.2.2 f d k)), (0, .ref (b + 0)), (1, .long d), (3, .int (nI f))]) hx hb dX5_mixedFunction_45 hl (by decide) rfl (fun ls hl => ?_)
        refine lv_iconst (v := nI 0) hx hb dX5_mixedFunction_47 (by decide) ?_
        refine lv_istore (lv' := [(7, .int (nI 0)), (6, .int (nI (u.1.1 (20 + f)))), (4, .long (mixO u.1 u.2.2.2 f d k)), (0, .ref (b + 0)), (1, .long d), (3, .int (nI f))]) hx hb dX5_mixedFunction_48 hl (by decide) rfl (fun ls hl => ?_)
        have key5 : ∀ (fu : Nat) (j : Nat), (j ≤ u.1.1 (20 + f)) → (u.1.1 (20 + f) - j) < fu → ∀ (H : Heap) (locs : List Loc), ts_W D b 52 (cel q b (u.1, F, u.2.2.1, u.2.2.2)) H → va_S (ts_A b 52 s.heap.size) s.heap H locs → ∀ ls : Array Slot, lv_has ls 8 [(7, .int (nI j)), (6, .int (nI (u.1.1 (20 + f)))), (4, .long (mixS u.1 f (mixO u.1 u.2.2.2 f d 11) j)), (0, .ref (b + 0)), (1, .long d), (3, .int (nI f))] → W p l e ({ frames := 44, cells := 0, slots := 0, locals := 1122 } : Room) s m [.ref (b + 0), .long d, .int (nI f)].toArray below meth c H locs 0 0 (MQ below (cL D q b s.heap.size (fun r u' => r = mixF u.1 u.2.2.2 f d ∧ ∃ (F : FT) (T : TT), u' = (u.1, F, T, u.2.2.2))) [.ref (b + 0), .long d, .int (nI f)].toArray s 0 0 (ts_A b 52 s.heap.size)) (F0 m 50 ls []) := by
          intro fu
          induction fu with
          | zero => intro j _ hn; exact absurd hn (Nat.not_lt_zero _)
          | succ fu ih6 =>
            intro j hj hn H locs hW hS ls hl
            refine lv_iload hx hb dX5_mixedFunction_50 (lv_at hl 0 rfl) ?_
            refine lv_iload hx hb dX5_mixedFunction_52 (lv_at hl 1 rfl) ?_
            refine lv_icmp_ge (tgt := 77) hx hb dX5_mixedFunction_54 (by decide) (fun c7 => ?_) (fun c7 => ?_)
            · skip
              rw [nI_leI (by omega) (by omega)] at c7
              refine lv_lload hx hb dX5_mixedFunction_77 (lv_at hl 2 rfl) ?_
              refine lv_aload_n hx hb dX5_mixedFunction_79 rfl (lv_at hl 3 rfl) ?_
              refine lv_iload_n hx hb dX5_mixedFunction_80 rfl (lv_at hl 5 rfl) ?_
              refine ts_retI (va_runV (As := [.int (nI f)]) (rest := [.long (mixS u.1 f (mixO u.1 u.2.2.2 f d 11) j)]) ⟨hx, hb, hml, hown, hts⟩ (k_X5_blamed l D q b H.size (u.1, F, u.2.2.1, u.2.2.2) f hwf (by omega)) (cwV 1 hts gX5_mixedFunction_X5_blamed rfl rfl rfl (by decide +kernel) ⟨Nat.le_of_ble_eq_true rfl, Nat.le_of_ble_eq_true rfl⟩) (ts_preV hK hN hW 0 (by decide) cel_st rfl) rfl rfl hl.1 rfl (lv_room (Nat.le_of_ble_eq_true rfl)) dX5_mixedFunction_81 ⟨Nat.zero_le _, Nat.zero_le _⟩) hS (fun x h => ts_Aup hS.1 h) (fun r8 u9 H locs hp10 hW _ _ hS => ?_)
              have hp10r : r8 = nI (u.2.2.2.2.2 11 f) := hp10.1
              have hp10u : u9 = (u.1, F, u.2.2.1, u.2.2.2) := hp10.2
              rw [hp10r]
              rw [hp10u] at hW
              refine ts_retL (va_runS (As := [.long (mixS u.1 f (mixO u.1 u.2.2.2 f d 11) j), .int (nI (u.2.2.2.2.2 11 f))]) (rest := []) ⟨hx, hb, hml, hown, hts⟩ (k_X5_mixed l D q b H.size (u.1, F, u.2.2.1, u.2.2.2) (mixS u.1 f (mixO u.1 u.2.2.2 f d 11) j) (nI (u.2.2.2.2.2 11 f))) (va_cwS 2 hts gX5_mixedFunction_X5_mixed rfl rfl rfl (by decide +kernel) ⟨Nat.le_of_ble_eq_true rfl, Nat.le_of_ble_eq_true rfl⟩) (ts_preS hK hN hW) rfl rfl hl.1 rfl (lv_room (Nat.le_of_ble_eq_true rfl)) dX5_mixedFunction_84 ⟨Nat.zero_le _, Nat.zero_le _⟩) hS (fun x h => ts_Aup hS.1 h) (fun r11 u12 H locs hp13 hW _ _ hS => ?_)
              have hp13r : r11 = mixL (mixS u.1 f (mixO u.1 u.2.2.2 f d 11) j) (nI (u.2.2.2.2.2 11 f)) := hp13.1
              have hp13u : u12 = (u.1, F, u.2.2.1, u.2.2.2) := hp13.2
              rw [hp13r]
              rw [hp13u] at hW
              refine lv_lstore (lv' := [(4, .long (mixL (mixS u.1 f (mixO u.1 u.2.2.2 f d 11) j) (nI (u.2.2.2.2.2 11 f)))), (7, .int (nI j)), (6, .int (nI (u.1.1 (20 + f)))), (0, .ref (b + 0)), (1, .long d), (3, .int (nI f))]) hx hb dX5_mixedFunction_87 hl (by decide) rfl (fun ls hl => ?_)
              refine lv_lload hx hb dX5_mixedFunction_89 (lv_at hl 0 rfl) ?_
              refine lv_aload_n hx hb dX5_mixedFunction_91 rfl (lv_at hl 3 rfl) ?_
              refine lv_iload_n hx hb dX5_mixedFunction_92 rfl (lv_at hl 5 rfl) ?_
              refine ts_retI (va_runV (As := [.int (nI f)]) (rest := [.long (mixL (mixS u.1 f (mixO u.1 u.2.2.2 f d 11) j) (nI (u.2.2.2.2.2 11 f)))]) ⟨hx, hb, hml, hown, hts⟩ (k_X5_gain l D q b H.size (u.1, F, u.2.2.1, u.2.2.2) f hwf (by omega)) (cwV 1 hts gX5_mixedFunction_X5_gain rfl rfl rfl (by decide +kernel) ⟨Nat.le_of_ble_eq_true rfl, Nat.le_of_ble_eq_true rfl⟩) (ts_preV hK hN hW 0 (by decide) cel_st rfl) rfl rfl hl.1 rfl (lv_room (Nat.le_of_ble_eq_true rfl)) dX5_mixedFunction_93 ⟨Nat.zero_le _, Nat.zero_le _⟩) hS (fun x h => ts_Aup hS.1 h) (fun r14 u15 H locs hp16 hW _ _ hS => ?_)
              have hp16r : r14 = gainI u.1 u.2.2.2.2.2 f := hp16.1
              have hp16u : u15 = (u.1, F, u.2.2.1, u.2.2.2) := hp16.2
              rw [hp16r]
              rw [hp16u] at hW
              refine ts_retL (va_runS (As := [.long (mixL (mixS u.1 f (mixO u.1 u.2.2.2 f d 11) j) (nI (u.2.2.2.2.2 11 f))), .int (gainI u.1 u.2.2.2.2.2 f)]) (rest := []) ⟨hx, hb, hml, hown, hts⟩ (k_X5_mixed l D q b H.size (u.1, F, u.2.2.1, u.2.2.2) (mixL (mixS u.1 f (mixO u.1 u.2.2.2 f d 11) j) (nI (u.2.2.2.2.2 11 f))) (gainI u.1 u.2.2.2.2.2 f)) (va_cwS 2 hts gX5_mixedFunction_X5_mixed rfl rfl rfl (by decide +kernel) ⟨Nat.le_of_ble_eq_true rfl, Nat.le_of_ble_eq_true rfl⟩) (ts_preS hK hN hW) rfl rfl hl.1 rfl (lv_room (Nat.le_of_ble_eq_true rfl)) dX5_mixedFunction_96 ⟨Nat.zero_le _, Nat.zero_le _⟩) hS (fun x h => ts_Aup hS.1 h) (fun r17 u18 H locs hp19 hW _ _ hS => ?_)
              have hp19r : r17 = mixL (mixL (mixS u.1 f (mixO u.1 u.2.2.2 f d 11) j) (nI (u.2.2.2.2.2 11 f))) (gainI u.1 u.2.2.2.2.2 f) := hp19.1
              have hp19u : u18 = (u.1, F, u.2.2.1, u.2.2.2) := hp19.2
              rw [hp19r]
              rw [hp19u] at hW
              refine lv_lstore (lv' := [(4, .long (mixL (mixL (mixS u.1 f (mixO u.1 u.2.2.2 f d 11) j) (nI (u.2.2.2.2.2 11 f))) (gainI u.1 u.2.2.2.2.2 f))), (7, .int (nI j)), (6, .int (nI (u.1.1 (20 + f)))), (0, .ref (b + 0)), (1, .long d), (3, .int (nI f))]) hx hb dX5_mixedFunction_99 hl (by decide) rfl (fun ls hl => ?_)
              refine lv_lload hx hb dX5_mixedFunction_101 (lv_at hl 0 rfl) ?_
              refine lv_aload_n hx hb dX5_mixedFunction_103 rfl (lv_at hl 3 rfl) ?_
              refine lv_iload_n hx hb dX5_mixedFunction_104 rfl (lv_at hl 5 rfl) ?_
              refine lv_iconst (v := nI 0) hx hb dX5_mixedFunction_105 (by decide) ?_
              refine lv_iconst (v := nI 3) hx hb dX5_mixedFunction_106 (by decide) ?_
              refine ts_retI (va_runV (As := [.int (nI f), .int (nI 0), .int (nI 3)]) (rest := [.long (mixL (mixL (mixS u.1 f (mixO u.1 u.2.2.2 f d 11) j) (nI (u.2.2.2.2.2 11 f))) (gainI u.1 u.2.2.2.2.2 f))]) ⟨hx, hb, hml, hown, hts⟩ (k_X5_wouldBlame l D q b H.size (u.1, F, u.2.2.1, u.2.2.2) f 0 (nI 3) hwf (by omega) (Or.inl ⟨rfl, by decide, by decide⟩)) (cwV 3 hts gX5_mixedFunction_X5_wouldBlame rfl rfl rfl (by decide +kernel) ⟨Nat.le_of_ble_eq_true rfl, Nat.le_of_ble_eq_true rfl⟩) (ts_preV hK hN hW 0 (by decide) cel_st rfl) rfl rfl hl.1 rfl (lv_room (Nat.le_of_ble_eq_true rfl)) dX5_mixedFunction_107 ⟨Nat.zero_le _, Nat.zero_le _⟩) hS (fun x h => ts_Aup hS.1 h) (fun r20 u21 H locs hp22 hW _ _ hS => ?_)
              have hp22r : r20 = zI ((runT u.1 f 0 (nI 3) (u.1.1 0)).1 8) := hp22.1
              have hp22u : u21 = (u.1, F, (runT u.1 f 0 (nI 3) (u.1.1 0)), u.2.2.2) := hp22.2
              rw [hp22r]
              rw [hp22u] at hW
              refine ts_retL (va_runS (As := [.long (mixL (mixL (mixS u.1 f (mixO u.1 u.2.2.2 f d 11) j) (nI (u.2.2.2.2.2 11 f))) (gainI u.1 u.2.2.2.2.2 f)), .int (zI ((runT u.1 f 0 (nI 3) (u.1.1 0)).1 8))]) (rest := []) ⟨hx, hb, hml, hown, hts⟩ (k_X5_mixed l D q b H.size (u.1, F, (runT u.1 f 0 (nI 3) (u.1.1 0)), u.2.2.2) (mixL (mixL (mixS u.1 f (mixO u.1 u.2.2.2 f d 11) j) (nI (u.2.2.2.2.2 11 f))) (gainI u.1 u.2.2.2.2.2 f)) (zI ((runT u.1 f 0 (nI 3) (u.1.1 0)).1 8))) (va_cwS 2 hts gX5_mixedFunction_X5_mixed rfl rfl rfl (by decide +kernel) ⟨Nat.le_of_ble_eq_true rfl, Nat.le_of_ble_eq_true rfl⟩) (ts_preS hK hN hW) rfl rfl hl.1 rfl (lv_room (Nat.le_of_ble_eq_true rfl)) dX5_mixedFunction_110 ⟨Nat.zero_le _, Nat.zero_le _⟩) hS (fun x h => ts_Aup hS.1 h) (fun r23 u24 H locs hp25 hW _ _ hS => ?_)
              have hp25r : r23 = mixL (mixL (mixL (mixS u.1 f (mixO u.1 u.2.2.2 f d 11) j) (nI (u.2.2.2.2.2 11 f))) (gainI u.1 u.2.2.2.2.2 f)) (zI ((runT u.1 f 0 (nI 3) (u.1.1 0)).1 8)) := hp25.1
              have hp25u : u24 = (u.1, F, (runT u.1 f 0 (nI 3) (u.1.1 0)), u.2.2.2) := hp25.2
              rw [hp25r]
              rw [hp25u] at hW
              refine lv_lstore (lv' := [(4, .long (mixL (mixL (mixL (mixS u.1 f (mixO u.1 u.2.2.2 f d 11) j) (nI (u.2.2.2.2.2 11 f))) (gainI u.1 u.2.2.2.2.2 f)) (zI ((runT u.1 f 0 (nI 3) (u.1.1 0)).1 8)))), (7, .int (nI j)), (6, .int (nI (u.1.1 (20 + f)))), (0, .ref (b + 0)), (1, .long d), (3, .int (nI f))]) hx hb dX5_mixedFunction_113 hl (by decide) rfl (fun ls hl => ?_)
              refine lv_lload hx hb dX5_mixedFunction_115 (lv_at hl 0 rfl) ?_
              refine lv_aload_n hx hb dX5_mixedFunction_117 rfl (lv_at hl 3 rfl) ?_
              refine lv_iload_n hx hb dX5_mixedFunction_118 rfl (lv_at hl 5 rfl) ?_
              refine lv_iconst (v := nI 1) hx hb dX5_mixedFunction_119 (by decide) ?_
              refine lv_iconst (v := nI 3) hx hb dX5_mixedFunction_120 (by decide) ?_
              refine ts_retI (va_runV (As := [.int (nI f), .int (nI 1), .int (nI 3)]) (rest := [.long (mixL (mixL (mixL (mixS u.1 f (mixO u.1 u.2.2.2 f d 11) j) (nI (u.2.2.2.2.2 11 f))) (gainI u.1 u.2.2.2.2.2 f)) (zI ((runT u.1 f 0 (nI 3) (u.1.1 0)).1 8)))]) ⟨hx, hb, hml, hown, hts⟩ (k_X5_wouldBlame l D q b H.size (u.1, F, (runT u.1 f 0 (nI 3) (u.1.1 0)), u.2.2.2) f 1 (nI 3) hwf (by omega) (Or.inr (Or.inl ⟨rfl, by decide, by decide⟩))) (cwV 3 hts gX5_mixedFunction_X5_wouldBlame rfl rfl rfl (by decide +kernel) ⟨Nat.le_of_ble_eq_true rfl, Nat.le_of_ble_eq_true rfl⟩) (ts_preV hK hN hW 0 (by decide) cel_st rfl) rfl rfl hl.1 rfl (lv_room (Nat.le_of_ble_eq_true rfl)) dX5_mixedFunction_121 ⟨Nat.zero_le _, Nat.zero_le _⟩) hS (fun x h => ts_Aup hS.1 h) (fun r26 u27 H locs hp28 hW _ _ hS => ?_)
              have hp28r : r26 = zI ((runT u.1 f 1 (nI 3) (u.1.1 0)).1 8) := hp28.1
              have hp28u : u27 = (u.1, F, (runT u.1 f 1 (nI 3) (u.1.1 0)), u.2.2.2) := hp28.2
              rw [hp28r]
              rw [hp28u] at hW
              refine ts_retL (va_runS (As := [.long (mixL (mixL (mixL (mixS u.1 f (mixO u.1 u.2.2.2 f d 11) j) (nI (u.2.2.2.2.2 11 f))) (gainI u.1 u.2.2.2.2.2 f)) (zI ((runT u.1 f 0 (nI 3) (u.1.1 0)).1 8))), .int (zI ((runT u.1 f 1 (nI 3) (u.1.1 0)).1 8))]) (rest := []) ⟨hx, hb, hml, hown, hts⟩ (k_X5_mixed l D q b H.size (u.1, F, (runT u.1 f 1 (nI 3) (u.1.1 0)), u.2.2.2) (mixL (mixL (mixL (mixS u.1 f (mixO u.1 u.2.2.2 f d 11) j) (nI (u.2.2.2.2.2 11 f))) (gainI u.1 u.2.2.2.2.2 f)) (zI ((runT u.1 f 0 (nI 3) (u.1.1 0)).1 8))) (zI ((runT u.1 f 1 (nI 3) (u.1.1 0)).1 8))) (va_cwS 2 hts gX5_mixedFunction_X5_mixed rfl rfl rfl (by decide +kernel) ⟨Nat.le_of_ble_eq_true rfl, Nat.le_of_ble_eq_true rfl⟩) (ts_preS hK hN hW) rfl rfl hl.1 rfl (lv_room (Nat.le_of_ble_eq_true rfl)) dX5_mixedFunction_124 ⟨Nat.zero_le _, Nat.zero_le _⟩) hS (fun x h => ts_Aup hS.1 h) (fun r29 u30 H locs hp31 hW _ _ hS => ?_)
              have hp31r : r29 = mixL (mixL (mixL (mixL (mixS u.1 f (mixO u.1 u.2.2.2 f d 11) j) (nI (u.2.2.2.2.2 11 f))) (gainI u.1 u.2.2.2.2.2 f)) (zI ((runT u.1 f 0 (nI 3) (u.1.1 0)).1 8))) (zI ((runT u.1 f 1 (nI 3) (u.1.1 0)).1 8)) := hp31.1
              have hp31u : u30 = (u.1, F, (runT u.1 f 1 (nI 3) (u.1.1 0)), u.2.2.2) := hp31.2
              rw [hp31r]
              rw [hp31u] at hW
              refine lv_lstore (lv' := [(4, .long (mixL (mixL (mixL (mixL (mixS u.1 f (mixO u.1 u.2.2.2 f d 11) j) (nI (u.2.2.2.2.2 11 f))) (gainI u.1 u.2.2.2.2.2 f)) (zI ((runT u.1 f 0 (nI 3) (u.1.1 0)).1 8))) (zI ((runT u.1 f 1 (nI 3) (u.1.1 0)).1 8)))), (7, .int (nI j)), (6, .int (nI (u.1.1 (20 + f)))), (0, .ref (b + 0)), (1, .long d), (3, .int (nI f))]) hx hb dX5_mixedFunction_127 hl (by decide) rfl (fun ls hl => ?_)
              refine lv_lload hx hb dX5_mixedFunction_129 (lv_at hl 0 rfl) ?_
              refine lv_aload_n hx hb dX5_mixedFunction_131 rfl (lv_at hl 3 rfl) ?_
              refine lv_iload_n hx hb dX5_mixedFunction_132 rfl (lv_at hl 5 rfl) ?_
              refine lv_iconst (v := nI 2) hx hb dX5_mixedFunction_133 (by decide) ?_
              refine lv_iconst (v := nI 1) hx hb dX5_mixedFunction_134 (by decide) ?_
              refine ts_retI (va_runV (As := [.int (nI f), .int (nI 2), .int (nI 1)]) (rest := [.long (mixL (mixL (mixL (mixL (mixS u.1 f (mixO u.1 u.2.2.2 f d 11) j) (nI (u.2.2.2.2.2 11 f))) (gainI u.1 u.2.2.2.2.2 f)) (zI ((runT u.1 f 0 (nI 3) (u.1.1 0)).1 8))) (zI ((runT u.1 f 1 (nI 3) (u.1.1 0)).1 8)))]) ⟨hx, hb, hml, hown, hts⟩ (k_X5_wouldBlame l D q b H.size (u.1, F, (runT u.1 f 1 (nI 3) (u.1.1 0)), u.2.2.2) f 2 (nI 1) hwf (by omega) (Or.inr (Or.inr ⟨rfl, Or.inr rfl, trivial⟩))) (cwV 3 hts gX5_mixedFunction_X5_wouldBlame rfl rfl rfl (by decide +kernel) ⟨Nat.le_of_ble_eq_true rfl, Nat.le_of_ble_eq_true rfl⟩) (ts_preV hK hN hW 0 (by decide) cel_st rfl) rfl rfl hl.1 rfl (lv_room (Nat.le_of_ble_eq_true rfl)) dX5_mixedFunction_135 ⟨Nat.zero_le _, Nat.zero_le _⟩) hS (fun x h => ts_Aup hS.1 h) (fun r32 u33 H locs hp34 hW _ _ hS => ?_)
              have hp34r : r32 = zI ((runT u.1 f 2 (nI 1) (u.1.1 0)).1 8) := hp34.1
              have hp34u : u33 = (u.1, F, (runT u.1 f 2 (nI 1) (u.1.1 0)), u.2.2.2) := hp34.2
              rw [hp34r]
              rw [hp34u] at hW
              refine ts_retL (va_runS (As := [.long (mixL (mixL (mixL (mixL (mixS u.1 f (mixO u.1 u.2.2.2 f d 11) j) (nI (u.2.2.2.2.2 11 f))) (gainI u.1 u.2.2.2.2.2 f)) (zI ((runT u.1 f 0 (nI 3) (u.1.1 0)).1 8))) (zI ((runT u.1 f 1 (nI 3) (u.1.1 0)).1 8))), .int (zI ((runT u.1 f 2 (nI 1) (u.1.1 0)).1 8))]) (rest := []) ⟨hx, hb, hml, hown, hts⟩ (k_X5_mixed l D q b H.size (u.1, F, (runT u.1 f 2 (nI 1) (u.1.1 0)), u.2.2.2) (mixL (mixL (mixL (mixL (mixS u.1 f (mixO u.1 u.2.2.2 f d 11) j) (nI (u.2.2.2.2.2 11 f))) (gainI u.1 u.2.2.2.2.2 f)) (zI ((runT u.1 f 0 (nI 3) (u.1.1 0)).1 8))) (zI ((runT u.1 f 1 (nI 3) (u.1.1 0)).1 8))) (zI ((runT u.1 f 2 (nI 1) (u.1.1 0)).1 8))) (va_cwS 2 hts gX5_mixedFunction_X5_mixed rfl rfl rfl (by decide +kernel) ⟨Nat.le_of_ble_eq_true rfl, Nat.le_of_ble_eq_true rfl⟩) (ts_preS hK hN hW) rfl rfl hl.1 rfl (lv_room (Nat.le_of_ble_eq_true rfl)) dX5_mixedFunction_138 ⟨Nat.zero_le _, Nat.zero_le _⟩) hS (fun x h => ts_Aup hS.1 h) (fun r35 u36 H locs hp37 hW _ _ hS => ?_)
              have hp37r : r35 = mixL (mixL (mixL (mixL (mixL (mixS u.1 f (mixO u.1 u.2.2.2 f d 11) j) (nI (u.2.2.2.2.2 11 f))) (gainI u.1 u.2.2.2.2.2 f)) (zI ((runT u.1 f 0 (nI 3) (u.1.1 0)).1 8))) (zI ((runT u.1 f 1 (nI 3) (u.1.1 0)).1 8))) (zI ((runT u.1 f 2 (nI 1) (u.1.1 0)).1 8)) := hp37.1
              have hp37u : u36 = (u.1, F, (runT u.1 f 2 (nI 1) (u.1.1 0)), u.2.2.2) := hp37.2
              rw [hp37r]
              rw [hp37u] at hW
              exact ts_lret (u := (u.1, F, (runT u.1 f 2 (nI 1) (u.1.1 0)), u.2.2.2)) (v := mixL (mixL (mixL (mixL (mixL (mixS u.1 f (mixO u.1 u.2.2.2 f d 11) j) (nI (u.2.2.2.2.2 11 f))) (gainI u.1 u.2.2.2.2.2 f)) (zI ((runT u.1 f 0 (nI 3) (u.1.1 0)).1 8))) (zI ((runT u.1 f 1 (nI 3) (u.1.1 0)).1 8))) (zI ((runT u.1 f 2 (nI 1) (u.1.1 0)).1 8))) C0 hW hS (by refine ⟨?_, F, (runT u.1 f 2 (nI 1) (u.1.1 0)), rfl⟩; unfold mixF; rw [show u.1.1 (20 + f) = j by omega]) dX5_mixedFunction_141
            rw [nI_leI (by omega) (by omega)] at c7
            refine lv_lload hx hb dX5_mixedFunction_57 (lv_at hl 2 rfl) ?_
            refine lv_aload_n hx hb dX5_mixedFunction_59 rfl (lv_at hl 3 rfl) ?_
            refine lv_iload_n hx hb dX5_mixedFunction_60 rfl (lv_at hl 5 rfl) ?_
            refine lv_iload hx hb dX5_mixedFunction_61 (lv_at hl 0 rfl) ?_
            refine ts_retI (va_runV (As := [.int (nI f), .int (nI j)]) (rest := [.long (mixS u.1 f (mixO u.1 u.2.2.2 f d 11) j)]) ⟨hx, hb, hml, hown, hts⟩ (k_X5_stepAt l D q b H.size (u.1, F, u.2.2.1, u.2.2.2) f j hwf (by show f < u.1.1 1; omega) (by show j < u.1.1 (20 + f); omega)) (cwV 2 hts gX5_mixedFunction_X5_stepAt rfl rfl rfl (by decide +kernel) ⟨Nat.le_of_ble_eq_true rfl, Nat.le_of_ble_eq_true rfl⟩) (ts_preV hK hN hW 0 (by decide) cel_st rfl) rfl rfl hl.1 rfl (lv_room (Nat.le_of_ble_eq_true rfl)) dX5_mixedFunction_63 ⟨Nat.zero_le _, Nat.zero_le _⟩) hS (fun x h => ts_Aup hS.1 h) (fun r38 u39 H locs hp40 hW _ _ hS => ?_)
            have hp40r : r38 = nI (u.1.2 f j) := hp40.1
            have hp40u : u39 = (u.1, F, u.2.2.1, u.2.2.2) := hp40.2
            rw [hp40r]
            rw [hp40u] at hW
            refine ts_retL (va_runS (As := [.long (mixS u.1 f (mixO u.1 u.2.2.2 f d 11) j), .int (nI (u.1.2 f j))]) (rest := []) ⟨hx, hb, hml, hown, hts⟩ (k_X5_mixed l D q b H.size (u.1, F, u.2.2.1, u.2.2.2) (mixS u.1 f (mixO u.1 u.2.2.2 f d 11) j) (nI (u.1.2 f j))) (va_cwS 2 hts gX5_mixedFunction_X5_mixed rfl rfl rfl (by decide +kernel) ⟨Nat.le_of_ble_eq_true rfl, Nat.le_of_ble_eq_true rfl⟩) (ts_preS hK hN hW) rfl rfl hl.1 rfl (lv_room (Nat.le_of_ble_eq_true rfl)) dX5_mixedFunction_66 ⟨Nat.zero_le _, Nat.zero_le _⟩) hS (fun x h => ts_Aup hS.1 h) (fun r41 u42 H locs hp43 hW _ _ hS => ?_)
            have hp43r : r41 = mixL (mixS u.1 f (mixO u.1 u.2.2.2 f d 11) j) (nI (u.1.2 f j)) := hp43.1
            have hp43u : u42 = (u.1, F, u.2.2.1, u.2.2.2) := hp43.2
            rw [hp43r]
            rw [hp43u] at hW
            refine lv_lstore (lv' := [(4, .long (mixL (mixS u.1 f (mixO u.1 u.2.2.2 f d 11) j) (nI (u.1.2 f j)))), (7, .int (nI j)), (6, .int (nI (u.1.1 (20 + f)))), (0, .ref (b + 0)), (1, .long d), (3, .int (nI f))]) hx hb dX5_mixedFunction_69 hl (by decide) rfl (fun ls hl => ?_)
            refine lv_iinc (v := nI (j + 1)) (lv' := [(7, .int (nI (j + 1))), (4, .long (mixL (mixS u.1 f (mixO u.1 u.2.2.2 f d 11) j) (nI (u.1.2 f j)))), (6, .int (nI (u.1.1 (20 + f)))), (0, .ref (b + 0)), (1, .long d), (3, .int (nI f))]) hx hb dX5_mixedFunction_71 hl (k := 1) rfl (nI_add j 1) (by decide) rfl (fun ls hl => ?_)
            refine lv_goto (tgt := 50) hx hb dX5_mixedFunction_74 (by decide) ?_
            have e44 : mixS u.1 f (mixO u.1 u.2.2.2 f d 11) (j + 1) = mixL (mixS u.1 f (mixO u.1 u.2.2.2 f d 11) j) (nI (u.1.2 f j)) := by first | rfl | (rw [show k = 11 by omega]; rfl)
            exact ih6 (j + 1) (by omega) (by omega) H locs hW hS ls (show lv_has ls 8 [(7, .int (nI (j + 1))), (6, .int (nI (u.1.1 (20 + f)))), (4, .long (mixS u.1 f (mixO u.1 u.2.2.2 f d 11) (j + 1))), (0, .ref (b + 0)), (1, .long d), (3, .int (nI f))] from by rw [e44]; exact lv_sub hl [0, 2, 1, 3, 4, 5] rfl)
        have e45 : mixS u.1 f (mixO u.1 u.2.2.2 f d 11) 0 = mixO u.1 u.2.2.2 f d k := by first | rfl | (rw [show k = 11 by omega]; rfl)
        exact key5 _ 0 (by omega) (Nat.lt_succ_self _) _ _ hW hS ls (show lv_has ls 8 [(7, .int (nI 0)), (6, .int (nI (u.1.1 (20 + f)))), (4, .long (mixS u.1 f (mixO u.1 u.2.2.2 f d 11) 0)), (0, .ref (b + 0)), (1, .long d), (3, .int (nI f))] from by rw [e45]; exact lv_sub hl [0, 1, 2, 3, 4, 5] rfl)
      rw [nI_ltI (by omega) (by omega)] at c3
      refine lv_lload hx hb dX5_mixedFunction_13 (lv_at hl 1 rfl) ?_
      refine lv_aload_n hx hb dX5_mixedFunction_15 rfl (lv_at hl 2 rfl) ?_
      refine lv_iload_n hx hb dX5_mixedFunction_16 rfl (lv_at hl 4 rfl) ?_
      refine lv_iload hx hb dX5_mixedFunction_17 (lv_at hl 0 rfl) ?_
      refine ts_retI (va_runV (As := [.int (nI f), .int (nI k)]) (rest := [.long (mixO u.1 u.2.2.2 f d k)]) ⟨hx, hb, hml, hown, hts⟩ (k_X5_ofFunction l D q b H.size (u.1, F, u.2.2.1, u.2.2.2) f k hwf (by omega) (by omega)) (cwV 2 hts gX5_mixedFunction_X5_ofFunction rfl rfl rfl (by decide +kernel) ⟨Nat.le_of_ble_eq_true rfl, Nat.le_of_ble_eq_true rfl⟩) (ts_preV hK hN hW 0 (by decide) cel_st rfl) rfl rfl hl.1 rfl (lv_room (Nat.le_of_ble_eq_true rfl)) dX5_mixedFunction_19 ⟨Nat.zero_le _, Nat.zero_le _⟩) hS (fun x h => ts_Aup hS.1 h) (fun r46 u47 H locs hp48 hW _ _ hS => ?_)
      obtain ⟨hp48r, F49, hp48u⟩ := hp48
      have hp48r : r46 = ofFI u.1 u.2.2.2 f k := hp48r
      have hp48u : u47 = (u.1, F49, u.2.2.1, u.2.2.2) := hp48u
      rw [hp48r]
      rw [hp48u] at hW
      refine ts_retL (va_runS (As := [.long (mixO u.1 u.2.2.2 f d k), .int (ofFI u.1 u.2.2.2 f k)]) (rest := []) ⟨hx, hb, hml, hown, hts⟩ (k_X5_mixed l D q b H.size (u.1, F49, u.2.2.1, u.2.2.2) (mixO u.1 u.2.2.2 f d k) (ofFI u.1 u.2.2.2 f k)) (va_cwS 2 hts gX5_mixedFunction_X5_mixed rfl rfl rfl (by decide +kernel) ⟨Nat.le_of_ble_eq_true rfl, Nat.le_of_ble_eq_true rfl⟩) (ts_preS hK hN hW) rfl rfl hl.1 rfl (lv_room (Nat.le_of_ble_eq_true rfl)) dX5_mixedFunction_22 ⟨Nat.zero_le _, Nat.zero_le _⟩) hS (fun x h => ts_Aup hS.1 h) (fun r50 u51 H locs hp52 hW _ _ hS => ?_)
      have hp52r : r50 = mixL (mixO u.1 u.2.2.2 f d k) (ofFI u.1 u.2.2.2 f k) := hp52.1
      have hp52u : u51 = (u.1, F49, u.2.2.1, u.2.2.2) := hp52.2
      rw [hp52r]
      rw [hp52u] at hW
      refine lv_lstore (lv' := [(4, .long (mixL (mixO u.1 u.2.2.2 f d k) (ofFI u.1 u.2.2.2 f k))), (6, .int (nI k)), (0, .ref (b + 0)), (1, .long d), (3, .int (nI f))]) hx hb dX5_mixedFunction_25 hl (by decide) rfl (fun ls hl => ?_)
      refine lv_iinc (v := nI (k + 1)) (lv' := [(6, .int (nI (k + 1))), (4, .long (mixL (mixO u.1 u.2.2.2 f d k) (ofFI u.1 u.2.2.2 f k))), (0, .ref (b + 0)), (1, .long d), (3, .int (nI f))]) hx hb dX5_mixedFunction_27 hl (k := 1) rfl (nI_add k 1) (by decide) rfl (fun ls hl => ?_)
      refine lv_goto (tgt := 6) hx hb dX5_mixedFunction_30 (by decide) ?_
      have e53 : mixO u.1 u.2.2.2 f d (k + 1) = mixL (mixO u.1 u.2.2.2 f d k) (ofFI u.1 u.2.2.2 f k) := by rfl
      exact ih2 (k + 1) F49 (by omega) (by omega) H locs hW hS ls (show lv_has ls 8 [(6, .int (nI (k + 1))), (4, .long (mixO u.1 u.2.2.2 f d (k + 1))), (0, .ref (b + 0)), (1, .long d), (3, .int (nI f))] from by rw [e53]; exact lv_sub hl [0, 1, 2, 3, 4] rfl)
  have e54 : mixO u.1 u.2.2.2 f d 0 = d := by rfl
  exact key1 _ 0 u.2.1 (by omega) (Nat.lt_succ_self _) _ _ hW hS ls (show lv_has ls 8 [(6, .int (nI 0)), (4, .long (mixO u.1 u.2.2.2 f d 0)), (0, .ref (b + 0)), (1, .long d), (3, .int (nI f))] from by rw [e54]; exact lv_sub hl [0, 1, 2, 3, 4] rfl)
set_option maxHeartbeats 4000000 in
set_option maxRecDepth 100000 in
theorem k_X5_digest (l : Launch) (D : va_G) (q : CQ) (b sz : Nat) (u : ST)  (hwf : WP u.1) : Met l yX5_digest wsX5_digest ({ frames := 45, cells := 0, slots := 0, locals := 1149 } : Room) (va_Pc [.ref (b + 0)] (Pr D q b sz u)) (cL D q b sz (fun r u' => r = digA u.1 u.2.2.2 ∧ ∃ (F : FT) (T : TT), u' = (u.1, F, T, u.2.2.2))) 0 0 (ts_A b 52 sz) := by
  refine ts_met (by decide) rfl (Nat.le_of_ble_eq_true rfl) ?_
  intro p e s m below meth c C0 hX ls hl
  obtain ⟨hsz, hW, hK, hN⟩ := hX
  subst hsz
  obtain ⟨hx, hb, hml, hown, hts, -, -, -⟩ := id C0
  have hW : ts_W D b 52 (cel q b u) s.heap := hW
  have hS : va_S (ts_A b 52 s.heap.size) s.heap s.heap [] := va_S.rf
  have hB : ∀ k, k < 52 → ts_A b 52 s.heap.size (b + k) := fun k hk => ts_Ain hk
  have hi3 : ∀ w ∈ wsX30, w ∈ wsX5_digest := ts_lays 271 rfl
  have hi5 : ∀ w ∈ wsX50, w ∈ wsX5_digest := ts_lays 267 rfl
  have hl : lv_has ls 4 [(0, .ref (b + 0))] := hl
  have hs := hwf.sz
  refine lv_ldc2 (v := 58113) hx hb hown (hts _ (List.mem_of_getElem? (i := 1) rfl)) dX5_digest_0 ?_
  refine lv_lstore_n (lv' := [(1, .long 58113), (0, .ref (b + 0))]) hx hb dX5_digest_3 rfl hl (by decide) rfl (fun ls hl => ?_)
  refine lv_iconst (v := nI 0) hx hb dX5_digest_4 (by decide) ?_
  refine lv_istore_n (lv' := [(3, .int (nI 0)), (1, .long 58113), (0, .ref (b + 0))]) hx hb dX5_digest_5 rfl hl (by decide) rfl (fun ls hl => ?_)
  have key1 : ∀ (fu : Nat) (k : Nat) (F : FT), (k ≤ 9) → (9 - k) < fu → ∀ (H : Heap) (locs : List Loc), ts_W D b 52 (cel q b (u.1, F, u.2.2.1, u.2.2.2)) H → va_S (ts_A b 52 s.heap.size) s.heap H locs → ∀ ls : Array Slot, lv_has ls 4 [(3, .int (nI k)), (1, .long (digM u.1 u.2.2.2 58113 k)), (0, .ref (b + 0))] → W p l e ({ frames := 45, cells := 0, slots := 0, locals := 1149 } : Room) s m [.ref (b + 0)].toArray below meth c H locs 0 0 (MQ below (cL D q b s.heap.size (fun r u' => r = digA u.1 u.2.2.2 ∧ ∃ (F : FT) (T : TT), u' = (u.1, F, T, u.2.2.2))) [.ref (b + 0)].toArray s 0 0 (ts_A b 52 s.heap.size)) (F0 m 6 ls []) := by
    intro fu
    induction fu with
    | zero => intro k F _ hn; exact absurd hn (Nat.not_lt_zero _)
    | succ fu ih2 =>
      intro k F hk hn H locs hW hS ls hl
      refine lv_iload_n hx hb dX5_digest_6 rfl (lv_at hl 0 rfl) ?_
      refine lv_bipush (v := nI 8) hx hb dX5_digest_7 (by decide) ?_
      refine lv_icmp_gt (tgt := 28) hx hb dX5_digest_9 (by decide) (fun c3 => ?_) (fun c3 => ?_)
      · skip
        rw [nI_ltI (by omega) (by omega)] at c3
        refine lv_iconst (v := nI 0) hx hb dX5_digest_28 (by decide) ?_
        refine lv_istore_n (lv' := [(3, .int (nI 0)), (1, .long (digM u.1 u.2.2.2 58113 k)), (0, .ref (b + 0))]) hx hb dX5_digest_29 rfl hl (by decide) rfl (fun ls hl => ?_)
        have key4 : ∀ (fu : Nat) (j : Nat), (j ≤ 8) → (8 - j) < fu → ∀ (H : Heap) (locs : List Loc), ts_W D b 52 (cel q b (u.1, F, u.2.2.1, u.2.2.2)) H → va_S (ts_A b 52 s.heap.size) s.heap H locs → ∀ ls : Array Slot, lv_has ls 4 [(3, .int (nI j)), (1, .long (digL u.2.2.2 (digM u.1 u.2.2.2 58113 9) j)), (0, .ref (b + 0))] → W p l e ({ frames := 45, cells := 0, slots := 0, locals := 1149 } : Room) s m [.ref (b + 0)].toArray below meth c H locs 0 0 (MQ below (cL D q b s.heap.size (fun r u' => r = digA u.1 u.2.2.2 ∧ ∃ (F : FT) (T : TT), u' = (u.1, F, T, u.2.2.2))) [.ref (b + 0)].toArray s 0 0 (ts_A b 52 s.heap.size)) (F0 m 30 ls []) := by
          intro fu
          induction fu with
          | zero => intro j _ hn; exact absurd hn (Nat.not_lt_zero _)
          | succ fu ih5 =>
            intro j hj hn H locs hW hS ls hl
            refine lv_iload_n hx hb dX5_digest_30 rfl (lv_at hl 0 rfl) ?_
            refine lv_bipush (v := nI 7) hx hb dX5_digest_31 (by decide) ?_
            refine lv_icmp_gt (tgt := 52) hx hb dX5_digest_33 (by decide) (fun c6 => ?_) (fun c6 => ?_)
            · skip
              rw [nI_ltI (by omega) (by omega)] at c6
              refine lv_iconst (v := nI 0) hx hb dX5_digest_52 (by decide) ?_
              refine lv_istore_n (lv' := [(3, .int (nI 0)), (1, .long (digL u.2.2.2 (digM u.1 u.2.2.2 58113 9) j)), (0, .ref (b + 0))]) hx hb dX5_digest_53 rfl hl (by decide) rfl (fun ls hl => ?_)
              have key7 : ∀ (fu : Nat) (i : Nat) (F2 : FT) (T2 : TT), (i ≤ u.1.1 1) → (u.1.1 1 - i) < fu → ∀ (H : Heap) (locs : List Loc), ts_W D b 52 (cel q b (u.1, F2, T2, u.2.2.2)) H → va_S (ts_A b 52 s.heap.size) s.heap H locs → ∀ ls : Array Slot, lv_has ls 4 [(3, .int (nI i)), (1, .long (digF u.1 u.2.2.2 (digL u.2.2.2 (digM u.1 u.2.2.2 58113 9) 8) i)), (0, .ref (b + 0))] → W p l e ({ frames := 45, cells := 0, slots := 0, locals := 1149 } : Room) s m [.ref (b + 0)].toArray below meth c H locs 0 0 (MQ below (cL D q b s.heap.size (fun r u' => r = digA u.1 u.2.2.2 ∧ ∃ (F : FT) (T : TT), u' = (u.1, F, T, u.2.2.2))) [.ref (b + 0)].toArray s 0 0 (ts_A b 52 s.heap.size)) (F0 m 54 ls []) := by
                intro fu
                induction fu with
                | zero => intro i F2 T2 _ hn; exact absurd hn (Nat.not_lt_zero _)
                | succ fu ih8 =>
                  intro i F2 T2 hi hn H locs hW hS ls hl
                  refine lv_iload_n hx hb dX5_digest_54 rfl (lv_at hl 0 rfl) ?_
                  refine lv_aload_n hx hb dX5_digest_55 rfl (lv_at hl 2 rfl) ?_
                  refine ts_get (C := RX5) (T := TX5) (N := 4) (v := .ref (b + 1)) hx hb hts hi5 hown hK hW 0 (by decide) cel_st rfl 0 (by decide) (List.mem_of_getElem? (i := 2) rfl) rfl dX5_digest_56 ?_
                  refine ts_get (C := RX3) (T := TX3) (N := 5) (v := .int (nI (u.1.1 1))) hx hb hts hi3 hown hK hW 1 (by decide) cel_pr rfl 2 (by decide) (List.mem_of_getElem? (i := 3) rfl) rfl dX5_digest_59 ?_
                  refine lv_icmp_ge (tgt := 78) hx hb dX5_digest_62 (by decide) (fun c9 => ?_) (fun c9 => ?_)
                  · skip
                    rw [nI_leI (by omega) (by omega)] at c9
                    refine lv_lload_n hx hb dX5_digest_78 rfl (lv_at hl 1 rfl) ?_
                    refine lv_aload_n hx hb dX5_digest_79 rfl (lv_at hl 2 rfl) ?_
                    refine ts_retI (va_runV (As := []) (rest := [.long (digF u.1 u.2.2.2 (digL u.2.2.2 (digM u.1 u.2.2.2 58113 9) 8) i)]) ⟨hx, hb, hml, hown, hts⟩ (k_X5_next l D q b H.size (u.1, F2, T2, u.2.2.2) hwf) (cwV 0 hts gX5_digest_X5_next rfl rfl rfl (by decide +kernel) ⟨Nat.le_of_ble_eq_true rfl, Nat.le_of_ble_eq_true rfl⟩) (ts_preV hK hN hW 0 (by decide) cel_st rfl) rfl rfl hl.1 rfl (lv_room (Nat.le_of_ble_eq_true rfl)) dX5_digest_80 ⟨Nat.zero_le _, Nat.zero_le _⟩) hS (fun x h => ts_Aup hS.1 h) (fun r10 u11 H locs hp12 hW _ _ hS => ?_)
                    obtain ⟨hp12r, F13, hp12u⟩ := hp12
                    have hp12r : r10 = zI (nextN u.1 u.2.2.2.2.2) := hp12r
                    have hp12u : u11 = (u.1, F13, T2, u.2.2.2) := hp12u
                    rw [hp12r]
                    rw [hp12u] at hW
                    refine ts_retL (va_runS (As := [.long (digF u.1 u.2.2.2 (digL u.2.2.2 (digM u.1 u.2.2.2 58113 9) 8) i), .int (zI (nextN u.1 u.2.2.2.2.2))]) (rest := []) ⟨hx, hb, hml, hown, hts⟩ (k_X5_mixed l D q b H.size (u.1, F13, T2, u.2.2.2) (digF u.1 u.2.2.2 (digL u.2.2.2 (digM u.1 u.2.2.2 58113 9) 8) i) (zI (nextN u.1 u.2.2.2.2.2))) (va_cwS 2 hts gX5_digest_X5_mixed rfl rfl rfl (by decide +kernel) ⟨Nat.le_of_ble_eq_true rfl, Nat.le_of_ble_eq_true rfl⟩) (ts_preS hK hN hW) rfl rfl hl.1 rfl (lv_room (Nat.le_of_ble_eq_true rfl)) dX5_digest_83 ⟨Nat.zero_le _, Nat.zero_le _⟩) hS (fun x h => ts_Aup hS.1 h) (fun r14 u15 H locs hp16 hW _ _ hS => ?_)
                    have hp16r : r14 = mixL (digF u.1 u.2.2.2 (digL u.2.2.2 (digM u.1 u.2.2.2 58113 9) 8) i) (zI (nextN u.1 u.2.2.2.2.2)) := hp16.1
                    have hp16u : u15 = (u.1, F13, T2, u.2.2.2) := hp16.2
                    rw [hp16r]
                    rw [hp16u] at hW
                    refine lv_lstore_n (lv' := [(1, .long (mixL (digF u.1 u.2.2.2 (digL u.2.2.2 (digM u.1 u.2.2.2 58113 9) 8) i) (zI (nextN u.1 u.2.2.2.2.2)))), (3, .int (nI i)), (0, .ref (b + 0))]) hx hb dX5_digest_86 rfl hl (by decide) rfl (fun ls hl => ?_)
                    refine lv_lload_n hx hb dX5_digest_87 rfl (lv_at hl 0 rfl) ?_
                    refine lv_aload_n hx hb dX5_digest_88 rfl (lv_at hl 2 rfl) ?_
                    refine ts_retI (va_runV (As := []) (rest := [.long (mixL (digF u.1 u.2.2.2 (digL u.2.2.2 (digM u.1 u.2.2.2 58113 9) 8) i) (zI (nextN u.1 u.2.2.2.2.2)))]) ⟨hx, hb, hml, hown, hts⟩ (k_X5_tollAtBest l D q b H.size (u.1, F13, T2, u.2.2.2) hwf) (cwV 0 hts gX5_digest_X5_tollAtBest rfl rfl rfl (by decide +kernel) ⟨Nat.le_of_ble_eq_true rfl, Nat.le_of_ble_eq_true rfl⟩) (ts_preV hK hN hW 0 (by decide) cel_st rfl) rfl rfl hl.1 rfl (lv_room (Nat.le_of_ble_eq_true rfl)) dX5_digest_89 ⟨Nat.zero_le _, Nat.zero_le _⟩) hS (fun x h => ts_Aup hS.1 h) (fun r17 u18 H locs hp19 hW _ _ hS => ?_)
                    obtain ⟨hp19r, F20, hp19u⟩ := hp19
                    have hp19r : r17 = nI (tolA u.1 u.2.2.2.2.2 (typN u.1 (u.1.1 1))) := hp19r
                    have hp19u : u18 = (u.1, F20, T2, u.2.2.2) := hp19u
                    rw [hp19r]
                    rw [hp19u] at hW
                    refine ts_retL (va_runS (As := [.long (mixL (digF u.1 u.2.2.2 (digL u.2.2.2 (digM u.1 u.2.2.2 58113 9) 8) i) (zI (nextN u.1 u.2.2.2.2.2))), .int (nI (tolA u.1 u.2.2.2.2.2 (typN u.1 (u.1.1 1))))]) (rest := []) ⟨hx, hb, hml, hown, hts⟩ (k_X5_mixed l D q b H.size (u.1, F20, T2, u.2.2.2) (mixL (digF u.1 u.2.2.2 (digL u.2.2.2 (digM u.1 u.2.2.2 58113 9) 8) i) (zI (nextN u.1 u.2.2.2.2.2))) (nI (tolA u.1 u.2.2.2.2.2 (typN u.1 (u.1.1 1))))) (va_cwS 2 hts gX5_digest_X5_mixed rfl rfl rfl (by decide +kernel) ⟨Nat.le_of_ble_eq_true rfl, Nat.le_of_ble_eq_true rfl⟩) (ts_preS hK hN hW) rfl rfl hl.1 rfl (lv_room (Nat.le_of_ble_eq_true rfl)) dX5_digest_92 ⟨Nat.zero_le _, Nat.zero_le _⟩) hS (fun x h => ts_Aup hS.1 h) (fun r21 u22 H locs hp23 hW _ _ hS => ?_)
                    have hp23r : r21 = mixL (mixL (digF u.1 u.2.2.2 (digL u.2.2.2 (digM u.1 u.2.2.2 58113 9) 8) i) (zI (nextN u.1 u.2.2.2.2.2))) (nI (tolA u.1 u.2.2.2.2.2 (typN u.1 (u.1.1 1)))) := hp23.1
                    have hp23u : u22 = (u.1, F20, T2, u.2.2.2) := hp23.2
                    rw [hp23r]
                    rw [hp23u] at hW
                    exact ts_lret (u := (u.1, F20, T2, u.2.2.2)) (v := mixL (mixL (digF u.1 u.2.2.2 (digL u.2.2.2 (digM u.1 u.2.2.2 58113 9) 8) i) (zI (nextN u.1 u.2.2.2.2.2))) (nI (tolA u.1 u.2.2.2.2.2 (typN u.1 (u.1.1 1))))) C0 hW hS (by refine ⟨?_, F20, T2, rfl⟩; unfold digA; rw [show u.1.1 1 = i by omega]) dX5_digest_95
                  rw [nI_leI (by omega) (by omega)] at c9
                  refine lv_aload_n hx hb dX5_digest_65 rfl (lv_at hl 2 rfl) ?_
                  refine lv_lload_n hx hb dX5_digest_66 rfl (lv_at hl 1 rfl) ?_
                  refine lv_iload_n hx hb dX5_digest_67 rfl (lv_at hl 0 rfl) ?_
                  refine ts_retL (va_runV (As := [.long (digF u.1 u.2.2.2 (digL u.2.2.2 (digM u.1 u.2.2.2 58113 9) 8) i), .int (nI i)]) (rest := []) ⟨hx, hb, hml, hown, hts⟩ (k_X5_mixedFunction l D q b H.size (u.1, F2, T2, u.2.2.2) (digF u.1 u.2.2.2 (digL u.2.2.2 (digM u.1 u.2.2.2 58113 9) 8) i) i hwf (by show i < u.1.1 1; omega)) (cwV 2 hts gX5_digest_X5_mixedFunction rfl rfl rfl (by decide +kernel) ⟨Nat.le_of_ble_eq_true rfl, Nat.le_of_ble_eq_true rfl⟩) (ts_preV hK hN hW 0 (by decide) cel_st rfl) rfl rfl hl.1 rfl (lv_room (Nat.le_of_ble_eq_true rfl)) dX5_digest_68 ⟨Nat.zero_le _, Nat.zero_le _⟩) hS (fun x h => ts_Aup hS.1 h) (fun r24 u25 H locs hp26 hW _ _ hS => ?_)
                  obtain ⟨hp26r, F27, T28, hp26u⟩ := hp26
                  have hp26r : r24 = mixF u.1 u.2.2.2 i (digF u.1 u.2.2.2 (digL u.2.2.2 (digM u.1 u.2.2.2 58113 9) 8) i) := hp26r
                  have hp26u : u25 = (u.1, F27, T28, u.2.2.2) := hp26u
                  rw [hp26r]
                  rw [hp26u] at hW
                  refine lv_lstore_n (lv' := [(1, .long (mixF u.1 u.2.2.2 i (digF u.1 u.2.2.2 (digL u.2.2.2 (digM u.1 u.2.2.2 58113 9) 8) i))), (3, .int (nI i)), (0, .ref (b + 0))]) hx hb dX5_digest_71 rfl hl (by decide) rfl (fun ls hl => ?_)
                  refine lv_iinc (v := nI (i + 1)) (lv' := [(3, .int (nI (i + 1))), (1, .long (mixF u.1 u.2.2.2 i (digF u.1 u.2.2.2 (digL u.2.2.2 (digM u.1 u.2.2.2 58113 9) 8) i))), (0, .ref (b + 0))]) hx hb dX5_digest_72 hl (k := 1) rfl (nI_add i 1) (by decide) rfl (fun ls hl => ?_)
                  refine lv_goto (tgt := 54) hx hb dX5_digest_75 (by decide) ?_
                  have e29 : digF u.1 u.2.2.2 (digL u.2.2.2 (digM u.1 u.2.2.2 58113 9) 8) (i + 1) = mixF u.1 u.2.2.2 i (digF u.1 u.2.2.2 (digL u.2.2.2 (digM u.1 u.2.2.2 58113 9) 8) i) := by first | rfl | (rw [show j = 8 by omega]; rfl)
                  exact ih8 (i + 1) F27 T28 (by omega) (by omega) H locs hW hS ls (show lv_has ls 4 [(3, .int (nI (i + 1))), (1, .long (digF u.1 u.2.2.2 (digL u.2.2.2 (digM u.1 u.2.2.2 58113 9) 8) (i + 1))), (0, .ref (b + 0))] from by rw [e29]; exact lv_sub hl [0, 1, 2] rfl)
              have e30 : digF u.1 u.2.2.2 (digL u.2.2.2 (digM u.1 u.2.2.2 58113 9) 8) 0 = digL u.2.2.2 (digM u.1 u.2.2.2 58113 9) j := by first | rfl | (rw [show j = 8 by omega]; rfl)
              exact key7 _ 0 F u.2.2.1 (by omega) (Nat.lt_succ_self _) _ _ hW hS ls (show lv_has ls 4 [(3, .int (nI 0)), (1, .long (digF u.1 u.2.2.2 (digL u.2.2.2 (digM u.1 u.2.2.2 58113 9) 8) 0)), (0, .ref (b + 0))] from by rw [e30]; exact lv_sub hl [0, 1, 2] rfl)
            rw [nI_ltI (by omega) (by omega)] at c6
            refine lv_lload_n hx hb dX5_digest_36 rfl (lv_at hl 1 rfl) ?_
            refine lv_aload_n hx hb dX5_digest_37 rfl (lv_at hl 2 rfl) ?_
            refine lv_iload_n hx hb dX5_digest_38 rfl (lv_at hl 0 rfl) ?_
            refine ts_retI (va_runV (As := [.int (nI j)]) (rest := [.long (digL u.2.2.2 (digM u.1 u.2.2.2 58113 9) j)]) ⟨hx, hb, hml, hown, hts⟩ (k_X5_latest l D q b H.size (u.1, F, u.2.2.1, u.2.2.2) j (by omega)) (cwV 1 hts gX5_digest_X5_latest rfl rfl rfl (by decide +kernel) ⟨Nat.le_of_ble_eq_true rfl, Nat.le_of_ble_eq_true rfl⟩) (ts_preV hK hN hW 0 (by decide) cel_st rfl) rfl rfl hl.1 rfl (lv_room (Nat.le_of_ble_eq_true rfl)) dX5_digest_39 ⟨Nat.zero_le _, Nat.zero_le _⟩) hS (fun x h => ts_Aup hS.1 h) (fun r31 u32 H locs hp33 hW _ _ hS => ?_)
            have hp33r : r31 = u.2.2.2.2.1 j := hp33.1
            have hp33u : u32 = (u.1, F, u.2.2.1, u.2.2.2) := hp33.2
            rw [hp33r]
            rw [hp33u] at hW
            refine ts_retL (va_runS (As := [.long (digL u.2.2.2 (digM u.1 u.2.2.2 58113 9) j), .int (u.2.2.2.2.1 j)]) (rest := []) ⟨hx, hb, hml, hown, hts⟩ (k_X5_mixed l D q b H.size (u.1, F, u.2.2.1, u.2.2.2) (digL u.2.2.2 (digM u.1 u.2.2.2 58113 9) j) (u.2.2.2.2.1 j)) (va_cwS 2 hts gX5_digest_X5_mixed rfl rfl rfl (by decide +kernel) ⟨Nat.le_of_ble_eq_true rfl, Nat.le_of_ble_eq_true rfl⟩) (ts_preS hK hN hW) rfl rfl hl.1 rfl (lv_room (Nat.le_of_ble_eq_true rfl)) dX5_digest_42 ⟨Nat.zero_le _, Nat.zero_le _⟩) hS (fun x h => ts_Aup hS.1 h) (fun r34 u35 H locs hp36 hW _ _ hS => ?_)
            have hp36r : r34 = mixL (digL u.2.2.2 (digM u.1 u.2.2.2 58113 9) j) (u.2.2.2.2.1 j) := hp36.1
            have hp36u : u35 = (u.1, F, u.2.2.1, u.2.2.2) := hp36.2
            rw [hp36r]
            rw [hp36u] at hW
            refine lv_lstore_n (lv' := [(1, .long (mixL (digL u.2.2.2 (digM u.1 u.2.2.2 58113 9) j) (u.2.2.2.2.1 j))), (3, .int (nI j)), (0, .ref (b + 0))]) hx hb dX5_digest_45 rfl hl (by decide) rfl (fun ls hl => ?_)
            refine lv_iinc (v := nI (j + 1)) (lv' := [(3, .int (nI (j + 1))), (1, .long (mixL (digL u.2.2.2 (digM u.1 u.2.2.2 58113 9) j) (u.2.2.2.2.1 j))), (0, .ref (b + 0))]) hx hb dX5_digest_46 hl (k := 1) rfl (nI_add j 1) (by decide) rfl (fun ls hl => ?_)
            refine lv_goto (tgt := 30) hx hb dX5_digest_49 (by decide) ?_
            have e37 : digL u.2.2.2 (digM u.1 u.2.2.2 58113 9) (j + 1) = mixL (digL u.2.2.2 (digM u.1 u.2.2.2 58113 9) j) (u.2.2.2.2.1 j) := by first | rfl | (rw [show k = 9 by omega]; rfl)
            exact ih5 (j + 1) (by omega) (by omega) H locs hW hS ls (show lv_has ls 4 [(3, .int (nI (j + 1))), (1, .long (digL u.2.2.2 (digM u.1 u.2.2.2 58113 9) (j + 1))), (0, .ref (b + 0))] from by rw [e37]; exact lv_sub hl [0, 1, 2] rfl)
        have e38 : digL u.2.2.2 (digM u.1 u.2.2.2 58113 9) 0 = digM u.1 u.2.2.2 58113 k := by first | rfl | (rw [show k = 9 by omega]; rfl)
        exact key4 _ 0 (by omega) (Nat.lt_succ_self _) _ _ hW hS ls (show lv_has ls 4 [(3, .int (nI 0)), (1, .long (digL u.2.2.2 (digM u.1 u.2.2.2 58113 9) 0)), (0, .ref (b + 0))] from by rw [e38]; exact lv_sub hl [0, 1, 2] rfl)
      rw [nI_ltI (by omega) (by omega)] at c3
      refine lv_lload_n hx hb dX5_digest_12 rfl (lv_at hl 1 rfl) ?_
      refine lv_aload_n hx hb dX5_digest_13 rfl (lv_at hl 2 rfl) ?_
      refine lv_iload_n hx hb dX5_digest_14 rfl (lv_at hl 0 rfl) ?_
      refine ts_retI (va_runV (As := [.int (nI k)]) (rest := [.long (digM u.1 u.2.2.2 58113 k)]) ⟨hx, hb, hml, hown, hts⟩ (k_X5_many l D q b H.size (u.1, F, u.2.2.1, u.2.2.2) k hwf (by omega)) (cwV 1 hts gX5_digest_X5_many rfl rfl rfl (by decide +kernel) ⟨Nat.le_of_ble_eq_true rfl, Nat.le_of_ble_eq_true rfl⟩) (ts_preV hK hN hW 0 (by decide) cel_st rfl) rfl rfl hl.1 rfl (lv_room (Nat.le_of_ble_eq_true rfl)) dX5_digest_15 ⟨Nat.zero_le _, Nat.zero_le _⟩) hS (fun x h => ts_Aup hS.1 h) (fun r39 u40 H locs hp41 hW _ _ hS => ?_)
      obtain ⟨hp41r, F42, hp41u⟩ := hp41
      have hp41r : r39 = nI (manyN u.1 u.2.2.2 k) := hp41r
      have hp41u : u40 = (u.1, F42, u.2.2.1, u.2.2.2) := hp41u
      rw [hp41r]
      rw [hp41u] at hW
      refine ts_retL (va_runS (As := [.long (digM u.1 u.2.2.2 58113 k), .int (nI (manyN u.1 u.2.2.2 k))]) (rest := []) ⟨hx, hb, hml, hown, hts⟩ (k_X5_mixed l D q b H.size (u.1, F42, u.2.2.1, u.2.2.2) (digM u.1 u.2.2.2 58113 k) (nI (manyN u.1 u.2.2.2 k))) (va_cwS 2 hts gX5_digest_X5_mixed rfl rfl rfl (by decide +kernel) ⟨Nat.le_of_ble_eq_true rfl, Nat.le_of_ble_eq_true rfl⟩) (ts_preS hK hN hW) rfl rfl hl.1 rfl (lv_room (Nat.le_of_ble_eq_true rfl)) dX5_digest_18 ⟨Nat.zero_le _, Nat.zero_le _⟩) hS (fun x h => ts_Aup hS.1 h) (fun r43 u44 H locs hp45 hW _ _ hS => ?_)
      have hp45r : r43 = mixL (digM u.1 u.2.2.2 58113 k) (nI (manyN u.1 u.2.2.2 k)) := hp45.1
      have hp45u : u44 = (u.1, F42, u.2.2.1, u.2.2.2) := hp45.2
      rw [hp45r]
      rw [hp45u] at hW
      refine lv_lstore_n (lv' := [(1, .long (mixL (digM u.1 u.2.2.2 58113 k) (nI (manyN u.1 u.2.2.2 k)))), (3, .int (nI k)), (0, .ref (b + 0))]) hx hb dX5_digest_21 rfl hl (by decide) rfl (fun ls hl => ?_)
      refine lv_iinc (v := nI (k + 1)) (lv' := [(3, .int (nI (k + 1))), (1, .long (mixL (digM u.1 u.2.2.2 58113 k) (nI (manyN u.1 u.2.2.2 k)))), (0, .ref (b + 0))]) hx hb dX5_digest_22 hl (k := 1) rfl (nI_add k 1) (by decide) rfl (fun ls hl => ?_)
      refine lv_goto (tgt := 6) hx hb dX5_digest_25 (by decide) ?_
      have e46 : digM u.1 u.2.2.2 58113 (k + 1) = mixL (digM u.1 u.2.2.2 58113 k) (nI (manyN u.1 u.2.2.2 k)) := by rfl
      exact ih2 (k + 1) F42 (by omega) (by omega) H locs hW hS ls (show lv_has ls 4 [(3, .int (nI (k + 1))), (1, .long (digM u.1 u.2.2.2 58113 (k + 1))), (0, .ref (b + 0))] from by rw [e46]; exact lv_sub hl [0, 1, 2] rfl)
  have e47 : digM u.1 u.2.2.2 58113 0 = 58113 := by rfl
  exact key1 _ 0 u.2.1 (by omega) (Nat.lt_succ_self _) _ _ hW hS ls (show lv_has ls 4 [(3, .int (nI 0)), (1, .long (digM u.1 u.2.2.2 58113 0)), (0, .ref (b + 0))] from by rw [e47]; exact lv_sub hl [0, 1, 2] rfl)
