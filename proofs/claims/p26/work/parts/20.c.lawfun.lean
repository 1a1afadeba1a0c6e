set_option maxHeartbeats 4000000 in
set_option maxRecDepth 100000 in
theorem k_L_areFunctionsRight (l : Launch) (D : va_G) (q : CQ) (b sz : Nat) (u : ST) (bb : Nat) (g : Nat → Nat)  (hwf : WP u.1) (hty : tyOK u.1) (hrz : ∀ r, u.1.1 1 < r → r ≤ 10 → ∀ c, u.2.2.2.2.2 r c = 0) (hru : u.2.2.2.1 0 = totR u.2.2.2.2.2 0 (u.1.1 1)) (hfa : u.2.2.2.1 1 ≤ u.2.2.2.1 0 ∧ u.2.2.2.1 0 < 1000) (hg : ∀ i, i < u.1.1 1 → g i = u.2.2.2.2.2 11 i) : Met l yL_areFunctionsRight wsL_areFunctionsRight ({ frames := 5, cells := 0, slots := 0, locals := 109 } : Room) (va_Pc [.ref (b + 0), .ref (bb + 0)] (PrB D q b sz u bb g)) (cB D q b bb sz (fun r v => r = nI 1 ∧ ∃ F : FT, v = ((u.1, F, u.2.2), g))) 0 0 (ts_AB b bb sz) := by
  refine ts_met (by decide) rfl (Nat.le_of_ble_eq_true rfl) ?_
  intro p e s m below meth c C0 hX ls hl
  obtain ⟨⟨hsz, hW, hK, hN⟩, hV, hbb, hbz⟩ := hX
  subst hsz
  obtain ⟨hx, hb, hml, hown, hts, -, -, -⟩ := id C0
  have hW : ts_W D b 52 (cel q b u) s.heap := hW
  have hV : Bl D q bb g s.heap := hV
  have hS : va_S (ts_AB b bb s.heap.size) s.heap s.heap [] := va_S.rf
  have hl : lv_has ls 13 [(0, .ref (b + 0)), (1, .ref (bb + 0))] := hl
  have hs := hwf.sz
  have hcb := cntB_le (u.1.1 2) 10
  refine lv_iconst (v := nI 0) hx hb dL_areFunctionsRight_0 (by decide) ?_
  refine lv_istore_n (lv' := [(2, .int (nI 0)), (0, .ref (b + 0)), (1, .ref (bb + 0))]) hx hb dL_areFunctionsRight_1 rfl hl (by decide) rfl (fun ls hl => ?_)
  refine lv_iconst (v := nI 0) hx hb dL_areFunctionsRight_2 (by decide) ?_
  refine lv_istore_n (lv' := [(3, .int (nI 0)), (2, .int (nI 0)), (0, .ref (b + 0)), (1, .ref (bb + 0))]) hx hb dL_areFunctionsRight_3 rfl hl (by decide) rfl (fun ls hl => ?_)
  refine lv_iconst (v := nI 0) hx hb dL_areFunctionsRight_4 (by decide) ?_
  refine lv_istore (lv' := [(4, .int (nI 0)), (3, .int (nI 0)), (2, .int (nI 0)), (0, .ref (b + 0)), (1, .ref (bb + 0))]) hx hb dL_areFunctionsRight_5 hl (by decide) rfl (fun ls hl => ?_)
  refine lv_iconst (v := nI 0) hx hb dL_areFunctionsRight_7 (by decide) ?_
  refine lv_istore (lv' := [(5, .int (nI 0)), (4, .int (nI 0)), (3, .int (nI 0)), (2, .int (nI 0)), (0, .ref (b + 0)), (1, .ref (bb + 0))]) hx hb dL_areFunctionsRight_8 hl (by decide) rfl (fun ls hl => ?_)
  refine lv_iconst (v := nI 0) hx hb dL_areFunctionsRight_10 (by decide) ?_
  refine lv_istore (lv' := [(6, .int (nI 0)), (5, .int (nI 0)), (4, .int (nI 0)), (3, .int (nI 0)), (2, .int (nI 0)), (0, .ref (b + 0)), (1, .ref (bb + 0))]) hx hb dL_areFunctionsRight_11 hl (by decide) rfl (fun ls hl => ?_)
  have key1 : ∀ (fu : Nat) (f : Nat) (F : FT), (f ≤ u.1.1 1) → (u.1.1 1 - f) < fu → ∀ (H : Heap) (locs : List Loc), ts_W D b 52 (cel q b (u.1, F, u.2.2.1, u.2.2.2)) H → va_S (ts_AB b bb s.heap.size) s.heap H locs → Bl D q bb g H → bb < H.size → ∀ ls : Array Slot, lv_has ls 13 [(6, .int (nI f)), (5, .int (nI (totR u.2.2.2.2.2 0 f))), (4, .int (nI (fltN u.1 f))), (3, .int (nI (canN u.1 f))), (2, .int (nI (cntB (u.1.1 2) f))), (0, .ref (b + 0)), (1, .ref (bb + 0))] → W p l e ({ frames := 5, cells := 0, slots := 0, locals := 109 } : Room) s m [.ref (b + 0), .ref (bb + 0)].toArray below meth c H locs 0 0 (MQ below (cB D q b bb s.heap.size (fun r v => r = nI 1 ∧ ∃ F : FT, v = ((u.1, F, u.2.2), g))) [.ref (b + 0), .ref (bb + 0)].toArray s 0 0 (ts_AB b bb s.heap.size)) (F0 m 13 ls []) := by
    intro fu
    induction fu with
    | zero => intro f F _ hn; exact absurd hn (Nat.not_lt_zero _)
    | succ fu ih2 =>
      intro f F hf hn H locs hW hS hV hbz ls hl
      refine lv_iload hx hb dL_areFunctionsRight_13 (lv_at hl 0 rfl) ?_
      refine lv_aload_n hx hb dL_areFunctionsRight_15 rfl (lv_at hl 5 rfl) ?_
      refine lv_iconst (v := nI 0) hx hb dL_areFunctionsRight_16 (by decide) ?_
      refine ts_retI (va_runV (As := [.int (nI 0)]) (rest := [.int (nI f)]) ⟨hx, hb, hml, hown, hts⟩ (k_X5_many l D q b H.size (u.1, F, u.2.2.1, u.2.2.2) 0 hwf (by omega)) (cwV 1 hts gL_areFunctionsRight_X5_many rfl rfl rfl (by decide +kernel) ⟨Nat.le_of_ble_eq_true rfl, Nat.le_of_ble_eq_true rfl⟩) (ts_preV hK hN hW 0 (by decide) cel_st rfl) rfl rfl hl.1 rfl (lv_room (Nat.le_of_ble_eq_true rfl)) dL_areFunctionsRight_17 ⟨Nat.zero_le _, Nat.zero_le _⟩) hS (fun x h => Or.inl (ts_Aup hS.1 h)) (fun r3 u4 H locs hp5 hW hz hk hS => ?_)
      have hV := ts_kept hV (fun x h1 h2 => hk x (by omega) (fun h => by unfold ts_A at h; omega))
      have hbz := Nat.lt_of_lt_of_le hbz hz
      obtain ⟨hp5r, F6, hp5u⟩ := hp5
      have hp5r : r3 = nI (u.1.1 1) := hp5r
      have hp5u : u4 = (u.1, F6, u.2.2.1, u.2.2.2) := hp5u
      rw [hp5r]
      rw [hp5u] at hW
      refine lv_icmp_ge (tgt := 339) hx hb dL_areFunctionsRight_20 (by decide) (fun c7 => ?_) (fun c7 => ?_)
      · skip
        rw [nI_leI (by omega) (by omega)] at c7
        refine lv_aload_n hx hb dL_areFunctionsRight_339 rfl (lv_at hl 5 rfl) ?_
        refine lv_iconst (v := nI 1) hx hb dL_areFunctionsRight_340 (by decide) ?_
        refine ts_retI (va_runV (As := [.int (nI 1)]) (rest := []) ⟨hx, hb, hml, hown, hts⟩ (k_X5_many l D q b H.size (u.1, F6, u.2.2.1, u.2.2.2) 1 hwf (by omega)) (cwV 1 hts gL_areFunctionsRight_X5_many rfl rfl rfl (by decide +kernel) ⟨Nat.le_of_ble_eq_true rfl, Nat.le_of_ble_eq_true rfl⟩) (ts_preV hK hN hW 0 (by decide) cel_st rfl) rfl rfl hl.1 rfl (lv_room (Nat.le_of_ble_eq_true rfl)) dL_areFunctionsRight_341 ⟨Nat.zero_le _, Nat.zero_le _⟩) hS (fun x h => Or.inl (ts_Aup hS.1 h)) (fun r8 u9 H locs hp10 hW hz hk hS => ?_)
        have hV := ts_kept hV (fun x h1 h2 => hk x (by omega) (fun h => by unfold ts_A at h; omega))
        have hbz := Nat.lt_of_lt_of_le hbz hz
        obtain ⟨hp10r, F11, hp10u⟩ := hp10
        have hp10r : r8 = nI (cntB (u.1.1 2) 10) := hp10r
        have hp10u : u9 = (u.1, F11, u.2.2.1, u.2.2.2) := hp10u
        rw [hp10r]
        rw [hp10u] at hW
        refine lv_iload_n hx hb dL_areFunctionsRight_344 rfl (lv_at hl 4 rfl) ?_
        refine lv_icmp_ne (tgt := 395) hx hb dL_areFunctionsRight_345 (by decide) (fun c12 => ?_) (fun c12 => ?_)
        · skip
          exact absurd (congrArg nI ((cnt_cut (fun i h => (hty i h).1) 10 hs).trans (by rw [show f = u.1.1 1 by omega]))) c12
        refine lv_aload_n hx hb dL_areFunctionsRight_348 rfl (lv_at hl 5 rfl) ?_
        refine lv_iconst (v := nI 2) hx hb dL_areFunctionsRight_349 (by decide) ?_
        refine ts_retI (va_runV (As := [.int (nI 2)]) (rest := []) ⟨hx, hb, hml, hown, hts⟩ (k_X5_many l D q b H.size (u.1, F11, u.2.2.1, u.2.2.2) 2 hwf (by omega)) (cwV 1 hts gL_areFunctionsRight_X5_many rfl rfl rfl (by decide +kernel) ⟨Nat.le_of_ble_eq_true rfl, Nat.le_of_ble_eq_true rfl⟩) (ts_preV hK hN hW 0 (by decide) cel_st rfl) rfl rfl hl.1 rfl (lv_room (Nat.le_of_ble_eq_true rfl)) dL_areFunctionsRight_350 ⟨Nat.zero_le _, Nat.zero_le _⟩) hS (fun x h => Or.inl (ts_Aup hS.1 h)) (fun r13 u14 H locs hp15 hW hz hk hS => ?_)
        have hV := ts_kept hV (fun x h1 h2 => hk x (by omega) (fun h => by unfold ts_A at h; omega))
        have hbz := Nat.lt_of_lt_of_le hbz hz
        obtain ⟨hp15r, F16, hp15u⟩ := hp15
        have hp15r : r13 = nI (cntB (typN u.1 (u.1.1 1)) 10) := hp15r
        have hp15u : u14 = (u.1, F16, u.2.2.1, u.2.2.2) := hp15u
        rw [hp15r]
        rw [hp15u] at hW
        refine lv_iload_n hx hb dL_areFunctionsRight_353 rfl (lv_at hl 3 rfl) ?_
        refine lv_icmp_ne (tgt := 395) hx hb dL_areFunctionsRight_354 (by decide) (fun c17 => ?_) (fun c17 => ?_)
        · skip
          exact absurd (congrArg nI ((cnt_typ u.1 hs).trans (by rw [show f = u.1.1 1 by omega]))) c17
        refine lv_aload_n hx hb dL_areFunctionsRight_357 rfl (lv_at hl 5 rfl) ?_
        refine lv_iconst (v := nI 3) hx hb dL_areFunctionsRight_358 (by decide) ?_
        refine ts_retI (va_runV (As := [.int (nI 3)]) (rest := []) ⟨hx, hb, hml, hown, hts⟩ (k_X5_many l D q b H.size (u.1, F16, u.2.2.1, u.2.2.2) 3 hwf (by omega)) (cwV 1 hts gL_areFunctionsRight_X5_many rfl rfl rfl (by decide +kernel) ⟨Nat.le_of_ble_eq_true rfl, Nat.le_of_ble_eq_true rfl⟩) (ts_preV hK hN hW 0 (by decide) cel_st rfl) rfl rfl hl.1 rfl (lv_room (Nat.le_of_ble_eq_true rfl)) dL_areFunctionsRight_359 ⟨Nat.zero_le _, Nat.zero_le _⟩) hS (fun x h => Or.inl (ts_Aup hS.1 h)) (fun r18 u19 H locs hp20 hW hz hk hS => ?_)
        have hV := ts_kept hV (fun x h1 h2 => hk x (by omega) (fun h => by unfold ts_A at h; omega))
        have hbz := Nat.lt_of_lt_of_le hbz hz
        obtain ⟨hp20r, F21, hp20u⟩ := hp20
        have hp20r : r18 = nI (fltN u.1 (u.1.1 1)) := hp20r
        have hp20u : u19 = (u.1, F21, u.2.2.1, u.2.2.2) := hp20u
        rw [hp20r]
        rw [hp20u] at hW
        refine lv_iload hx hb dL_areFunctionsRight_362 (lv_at hl 2 rfl) ?_
        refine lv_icmp_ne (tgt := 395) hx hb dL_areFunctionsRight_364 (by decide) (fun c22 => ?_) (fun c22 => ?_)
        · skip
          exact absurd (congrArg nI (by rw [show f = u.1.1 1 by omega])) c22
        refine lv_aload_n hx hb dL_areFunctionsRight_367 rfl (lv_at hl 5 rfl) ?_
        refine lv_iconst (v := nI 5) hx hb dL_areFunctionsRight_368 (by decide) ?_
        refine ts_retI (va_runV (As := [.int (nI 5)]) (rest := []) ⟨hx, hb, hml, hown, hts⟩ (k_X5_many l D q b H.size (u.1, F21, u.2.2.1, u.2.2.2) 5 hwf (by omega)) (cwV 1 hts gL_areFunctionsRight_X5_many rfl rfl rfl (by decide +kernel) ⟨Nat.le_of_ble_eq_true rfl, Nat.le_of_ble_eq_true rfl⟩) (ts_preV hK hN hW 0 (by decide) cel_st rfl) rfl rfl hl.1 rfl (lv_room (Nat.le_of_ble_eq_true rfl)) dL_areFunctionsRight_369 ⟨Nat.zero_le _, Nat.zero_le _⟩) hS (fun x h => Or.inl (ts_Aup hS.1 h)) (fun r23 u24 H locs hp25 hW hz hk hS => ?_)
        have hV := ts_kept hV (fun x h1 h2 => hk x (by omega) (fun h => by unfold ts_A at h; omega))
        have hbz := Nat.lt_of_lt_of_le hbz hz
        obtain ⟨hp25r, F26, hp25u⟩ := hp25
        have hp25r : r23 = nI (u.2.2.2.1 0) := hp25r
        have hp25u : u24 = (u.1, F26, u.2.2.1, u.2.2.2) := hp25u
        rw [hp25r]
        rw [hp25u] at hW
        refine lv_iload hx hb dL_areFunctionsRight_372 (lv_at hl 1 rfl) ?_
        refine lv_icmp_ne (tgt := 395) hx hb dL_areFunctionsRight_374 (by decide) (fun c27 => ?_) (fun c27 => ?_)
        · skip
          exact absurd (congrArg nI (hru.trans (by rw [show f = u.1.1 1 by omega]))) c27
        refine lv_aload_n hx hb dL_areFunctionsRight_377 rfl (lv_at hl 5 rfl) ?_
        refine lv_bipush (v := nI 6) hx hb dL_areFunctionsRight_378 (by decide) ?_
        refine ts_retI (va_runV (As := [.int (nI 6)]) (rest := []) ⟨hx, hb, hml, hown, hts⟩ (k_X5_many l D q b H.size (u.1, F26, u.2.2.1, u.2.2.2) 6 hwf (by omega)) (cwV 1 hts gL_areFunctionsRight_X5_many rfl rfl rfl (by decide +kernel) ⟨Nat.le_of_ble_eq_true rfl, Nat.le_of_ble_eq_true rfl⟩) (ts_preV hK hN hW 0 (by decide) cel_st rfl) rfl rfl hl.1 rfl (lv_room (Nat.le_of_ble_eq_true rfl)) dL_areFunctionsRight_380 ⟨Nat.zero_le _, Nat.zero_le _⟩) hS (fun x h => Or.inl (ts_Aup hS.1 h)) (fun r28 u29 H locs hp30 hW hz hk hS => ?_)
        have hV := ts_kept hV (fun x h1 h2 => hk x (by omega) (fun h => by unfold ts_A at h; omega))
        have hbz := Nat.lt_of_lt_of_le hbz hz
        obtain ⟨hp30r, F31, hp30u⟩ := hp30
        have hp30r : r28 = nI (u.2.2.2.1 1) := hp30r
        have hp30u : u29 = (u.1, F31, u.2.2.1, u.2.2.2) := hp30u
        rw [hp30r]
        rw [hp30u] at hW
        refine lv_aload_n hx hb dL_areFunctionsRight_383 rfl (lv_at hl 5 rfl) ?_
        refine lv_iconst (v := nI 5) hx hb dL_areFunctionsRight_384 (by decide) ?_
        refine ts_retI (va_runV (As := [.int (nI 5)]) (rest := [.int (nI (u.2.2.2.1 1))]) ⟨hx, hb, hml, hown, hts⟩ (k_X5_many l D q b H.size (u.1, F31, u.2.2.1, u.2.2.2) 5 hwf (by omega)) (cwV 1 hts gL_areFunctionsRight_X5_many rfl rfl rfl (by decide +kernel) ⟨Nat.le_of_ble_eq_true rfl, Nat.le_of_ble_eq_true rfl⟩) (ts_preV hK hN hW 0 (by decide) cel_st rfl) rfl rfl hl.1 rfl (lv_room (Nat.le_of_ble_eq_true rfl)) dL_areFunctionsRight_385 ⟨Nat.zero_le _, Nat.zero_le _⟩) hS (fun x h => Or.inl (ts_Aup hS.1 h)) (fun r32 u33 H locs hp34 hW hz hk hS => ?_)
        have hV := ts_kept hV (fun x h1 h2 => hk x (by omega) (fun h => by unfold ts_A at h; omega))
        have hbz := Nat.lt_of_lt_of_le hbz hz
        obtain ⟨hp34r, F35, hp34u⟩ := hp34
        have hp34r : r32 = nI (u.2.2.2.1 0) := hp34r
        have hp34u : u33 = (u.1, F35, u.2.2.1, u.2.2.2) := hp34u
        rw [hp34r]
        rw [hp34u] at hW
        refine lv_icmp_gt (tgt := 395) hx hb dL_areFunctionsRight_388 (by decide) (fun c36 => ?_) (fun c36 => ?_)
        · skip
          rw [nI_ltI (by omega) (by omega)] at c36
          exfalso; omega
        rw [nI_ltI (by omega) (by omega)] at c36
        refine lv_iconst (v := nI 1) hx hb dL_areFunctionsRight_391 (by decide) ?_
        refine lv_goto (tgt := 396) hx hb dL_areFunctionsRight_392 (by decide) ?_
        exact ts_zretB (u := (u.1, F35, u.2.2.1, u.2.2.2)) (g := g) (v := nI 1) C0 rfl hW hV hS (by exact ⟨rfl, _, rfl⟩) dL_areFunctionsRight_396
      rw [nI_leI (by omega) (by omega)] at c7
      have hck := chkA_le hwf (f := f) (by omega)
      have hfs := hwf.fsz (i := f) (by omega)
      have hcf := chk_first (P := u.1) f (by omega)
      refine lv_aload_n hx hb dL_areFunctionsRight_23 rfl (lv_at hl 5 rfl) ?_
      refine lv_iload hx hb dL_areFunctionsRight_24 (lv_at hl 0 rfl) ?_
      refine lv_iconst (v := nI 4) hx hb dL_areFunctionsRight_26 (by decide) ?_
      refine ts_retI (va_runV (As := [.int (nI f), .int (nI 4)]) (rest := []) ⟨hx, hb, hml, hown, hts⟩ (k_X5_ofFunction l D q b H.size (u.1, F6, u.2.2.1, u.2.2.2) f 4 hwf (by show f < u.1.1 1; omega) (by omega)) (cwV 2 hts gL_areFunctionsRight_X5_ofFunction rfl rfl rfl (by decide +kernel) ⟨Nat.le_of_ble_eq_true rfl, Nat.le_of_ble_eq_true rfl⟩) (ts_preV hK hN hW 0 (by decide) cel_st rfl) rfl rfl hl.1 rfl (lv_room (Nat.le_of_ble_eq_true rfl)) dL_areFunctionsRight_27 ⟨Nat.zero_le _, Nat.zero_le _⟩) hS (fun x h => Or.inl (ts_Aup hS.1 h)) (fun r37 u38 H locs hp39 hW hz hk hS => ?_)
      have hV := ts_kept hV (fun x h1 h2 => hk x (by omega) (fun h => by unfold ts_A at h; omega))
      have hbz := Nat.lt_of_lt_of_le hbz hz
      obtain ⟨hp39r, F40, hp39u⟩ := hp39
      have hp39r : r37 = nI ((chkA u.1 f).1) := hp39r
      have hp39u : u38 = (u.1, F40, u.2.2.1, u.2.2.2) := hp39u
      rw [hp39r]
      rw [hp39u] at hW
      refine lv_aload_n hx hb dL_areFunctionsRight_30 rfl (lv_at hl 5 rfl) ?_
      refine lv_iload hx hb dL_areFunctionsRight_31 (lv_at hl 0 rfl) ?_
      refine lv_bipush (v := nI 6) hx hb dL_areFunctionsRight_33 (by decide) ?_
      refine ts_retI (va_runV (As := [.int (nI f), .int (nI 6)]) (rest := [.int (nI ((chkA u.1 f).1))]) ⟨hx, hb, hml, hown, hts⟩ (k_X5_ofFunction l D q b H.size (u.1, F40, u.2.2.1, u.2.2.2) f 6 hwf (by show f < u.1.1 1; omega) (by omega)) (cwV 2 hts gL_areFunctionsRight_X5_ofFunction rfl rfl rfl (by decide +kernel) ⟨Nat.le_of_ble_eq_true rfl, Nat.le_of_ble_eq_true rfl⟩) (ts_preV hK hN hW 0 (by decide) cel_st rfl) rfl rfl hl.1 rfl (lv_room (Nat.le_of_ble_eq_true rfl)) dL_areFunctionsRight_35 ⟨Nat.zero_le _, Nat.zero_le _⟩) hS (fun x h => Or.inl (ts_Aup hS.1 h)) (fun r41 u42 H locs hp43 hW hz hk hS => ?_)
      have hV := ts_kept hV (fun x h1 h2 => hk x (by omega) (fun h => by unfold ts_A at h; omega))
      have hbz := Nat.lt_of_lt_of_le hbz hz
      obtain ⟨hp43r, F44, hp43u⟩ := hp43
      have hp43r : r41 = nI ((chkA u.1 f).2.2) := hp43r
      have hp43u : u42 = (u.1, F44, u.2.2.1, u.2.2.2) := hp43u
      rw [hp43r]
      rw [hp43u] at hW
      refine ts_iadd (v := nI (((chkA u.1 f).1) + ((chkA u.1 f).2.2))) hx hb dL_areFunctionsRight_38 (nI_add _ _) ?_
      refine lv_if_ne (tgt := 46) hx hb dL_areFunctionsRight_39 (by decide) (fun c45 => ?_) (fun c45 => ?_)
      · skip
        rw [ts_eq0 (by omega)] at c45
        have hcn := c45
        have hok : okF u.1 f = false := by cases q : okF u.1 f with | false => rfl | true => exact absurd (okF_to q) hcn
        refine lv_iconst (v := nI 0) hx hb dL_areFunctionsRight_46 (by decide) ?_
        refine lv_istore (lv' := [(7, .int (nI 0)), (6, .int (nI f)), (5, .int (nI (totR u.2.2.2.2.2 0 f))), (4, .int (nI (fltN u.1 f))), (3, .int (nI (canN u.1 f))), (2, .int (nI (cntB (u.1.1 2) f))), (0, .ref (b + 0)), (1, .ref (bb + 0))]) hx hb dL_areFunctionsRight_47 hl (by decide) rfl (fun ls hl => ?_)
        refine lv_iload_n hx hb dL_areFunctionsRight_49 rfl (lv_at hl 5 rfl) ?_
        refine lv_aload_n hx hb dL_areFunctionsRight_50 rfl (lv_at hl 6 rfl) ?_
        refine lv_iload hx hb dL_areFunctionsRight_51 (lv_at hl 1 rfl) ?_
        refine lv_iconst (v := nI 3) hx hb dL_areFunctionsRight_53 (by decide) ?_
        refine ts_retI (va_runV (As := [.int (nI f), .int (nI 3)]) (rest := [.int (nI (cntB (u.1.1 2) f))]) ⟨hx, hb, hml, hown, hts⟩ (k_X5_ofFunction l D q b H.size (u.1, F44, u.2.2.1, u.2.2.2) f 3 hwf (by show f < u.1.1 1; omega) (by omega)) (cwV 2 hts gL_areFunctionsRight_X5_ofFunction rfl rfl rfl (by decide +kernel) ⟨Nat.le_of_ble_eq_true rfl, Nat.le_of_ble_eq_true rfl⟩) (ts_preV hK hN hW 0 (by decide) cel_st rfl) rfl rfl hl.1 rfl (lv_room (Nat.le_of_ble_eq_true rfl)) dL_areFunctionsRight_54 ⟨Nat.zero_le _, Nat.zero_le _⟩) hS (fun x h => Or.inl (ts_Aup hS.1 h)) (fun r46 u47 H locs hp48 hW hz hk hS => ?_)
        have hV := ts_kept hV (fun x h1 h2 => hk x (by omega) (fun h => by unfold ts_A at h; omega))
        have hbz := Nat.lt_of_lt_of_le hbz hz
        obtain ⟨hp48r, F49, hp48u⟩ := hp48
        have hp48r : r46 = b2i (hasB (u.1.1 2) f) := hp48r
        have hp48u : u47 = (u.1, F49, u.2.2.1, u.2.2.2) := hp48u
        rw [hp48r]
        rw [hp48u] at hW
        refine ts_iadd (v := nI ((cntB (u.1.1 2) f) + if hasB (u.1.1 2) f = true then 1 else 0)) hx hb dL_areFunctionsRight_57 (add_b2i _ _) ?_
        refine lv_istore_n (lv' := [(2, .int (nI ((cntB (u.1.1 2) f) + if hasB (u.1.1 2) f = true then 1 else 0))), (7, .int (nI 0)), (6, .int (nI f)), (5, .int (nI (totR u.2.2.2.2.2 0 f))), (4, .int (nI (fltN u.1 f))), (3, .int (nI (canN u.1 f))), (0, .ref (b + 0)), (1, .ref (bb + 0))]) hx hb dL_areFunctionsRight_58 rfl hl (by decide) rfl (fun ls hl => ?_)
        refine lv_iload_n hx hb dL_areFunctionsRight_59 rfl (lv_at hl 5 rfl) ?_
        refine lv_iload hx hb dL_areFunctionsRight_60 (lv_at hl 1 rfl) ?_
        refine lv_if_eq (tgt := 69) hx hb dL_areFunctionsRight_62 (by decide) (fun c50 => ?_) (fun c50 => ?_)
        · skip
          refine lv_iconst (v := nI 0) hx hb dL_areFunctionsRight_69 (by decide) ?_
          refine ts_iadd (v := nI ((canN u.1 f) + 0)) hx hb dL_areFunctionsRight_70 (nI_add _ _) ?_
          refine lv_istore_n (lv' := [(3, .int (nI ((canN u.1 f) + 0))), (2, .int (nI ((cntB (u.1.1 2) f) + if hasB (u.1.1 2) f = true then 1 else 0))), (7, .int (nI 0)), (6, .int (nI f)), (5, .int (nI (totR u.2.2.2.2.2 0 f))), (4, .int (nI (fltN u.1 f))), (0, .ref (b + 0)), (1, .ref (bb + 0))]) hx hb dL_areFunctionsRight_71 rfl hl (by decide) rfl (fun ls hl => ?_)
          refine lv_iload hx hb dL_areFunctionsRight_72 (lv_at hl 5 rfl) ?_
          refine lv_aload_n hx hb dL_areFunctionsRight_74 rfl (lv_at hl 6 rfl) ?_
          refine lv_iload hx hb dL_areFunctionsRight_75 (lv_at hl 3 rfl) ?_
          refine lv_iconst (v := nI 4) hx hb dL_areFunctionsRight_77 (by decide) ?_
          refine ts_retI (va_runV (As := [.int (nI f), .int (nI 4)]) (rest := [.int (nI (fltN u.1 f))]) ⟨hx, hb, hml, hown, hts⟩ (k_X5_ofFunction l D q b H.size (u.1, F49, u.2.2.1, u.2.2.2) f 4 hwf (by show f < u.1.1 1; omega) (by omega)) (cwV 2 hts gL_areFunctionsRight_X5_ofFunction rfl rfl rfl (by decide +kernel) ⟨Nat.le_of_ble_eq_true rfl, Nat.le_of_ble_eq_true rfl⟩) (ts_preV hK hN hW 0 (by decide) cel_st rfl) rfl rfl hl.1 rfl (lv_room (Nat.le_of_ble_eq_true rfl)) dL_areFunctionsRight_78 ⟨Nat.zero_le _, Nat.zero_le _⟩) hS (fun x h => Or.inl (ts_Aup hS.1 h)) (fun r51 u52 H locs hp53 hW hz hk hS => ?_)
          have hV := ts_kept hV (fun x h1 h2 => hk x (by omega) (fun h => by unfold ts_A at h; omega))
          have hbz := Nat.lt_of_lt_of_le hbz hz
          obtain ⟨hp53r, F54, hp53u⟩ := hp53
          have hp53r : r51 = nI ((chkA u.1 f).1) := hp53r
          have hp53u : u52 = (u.1, F54, u.2.2.1, u.2.2.2) := hp53u
          rw [hp53r]
          rw [hp53u] at hW
          refine ts_iadd (v := nI ((fltN u.1 f) + ((chkA u.1 f).1))) hx hb dL_areFunctionsRight_81 (nI_add _ _) ?_
          refine lv_istore (lv' := [(4, .int (nI ((fltN u.1 f) + ((chkA u.1 f).1)))), (3, .int (nI ((canN u.1 f) + 0))), (2, .int (nI ((cntB (u.1.1 2) f) + if hasB (u.1.1 2) f = true then 1 else 0))), (7, .int (nI 0)), (6, .int (nI f)), (5, .int (nI (totR u.2.2.2.2.2 0 f))), (0, .ref (b + 0)), (1, .ref (bb + 0))]) hx hb dL_areFunctionsRight_82 hl (by decide) rfl (fun ls hl => ?_)
          refine lv_iload hx hb dL_areFunctionsRight_84 (lv_at hl 5 rfl) ?_
          refine lv_aload_n hx hb dL_areFunctionsRight_86 rfl (lv_at hl 6 rfl) ?_
          refine lv_iconst (v := (-1)) hx hb dL_areFunctionsRight_87 (by decide) ?_
          refine ts_int (y := zI 0) rfl ?_
          refine lv_iload hx hb dL_areFunctionsRight_88 (lv_at hl 4 rfl) ?_
          refine ts_retI (va_runV (As := [.int (zI 0), .int (nI f)]) (rest := [.int (nI (totR u.2.2.2.2.2 0 f))]) ⟨hx, hb, hml, hown, hts⟩ (k_X5_counted l D q b H.size (u.1, F54, u.2.2.1, u.2.2.2) 0 f hwf (by show 0 ≤ u.1.1 1; omega) (by show f < u.1.1 1; omega)) (cwV 2 hts gL_areFunctionsRight_X5_counted rfl rfl rfl (by decide +kernel) ⟨Nat.le_of_ble_eq_true rfl, Nat.le_of_ble_eq_true rfl⟩) (ts_preV hK hN hW 0 (by decide) cel_st rfl) rfl rfl hl.1 rfl (lv_room (Nat.le_of_ble_eq_true rfl)) dL_areFunctionsRight_90 ⟨Nat.zero_le _, Nat.zero_le _⟩) hS (fun x h => Or.inl (ts_Aup hS.1 h)) (fun r55 u56 H locs hp57 hW hz hk hS => ?_)
          have hV := ts_kept hV (fun x h1 h2 => hk x (by omega) (fun h => by unfold ts_A at h; omega))
          have hbz := Nat.lt_of_lt_of_le hbz hz
          have hp57r : r55 = nI (u.2.2.2.2.2 0 f) := hp57.1
          have hp57u : u56 = (u.1, F54, u.2.2.1, u.2.2.2) := hp57.2
          rw [hp57r]
          rw [hp57u] at hW
          refine ts_iadd (v := nI ((totR u.2.2.2.2.2 0 f) + (u.2.2.2.2.2 0 f))) hx hb dL_areFunctionsRight_93 (nI_add _ _) ?_
          refine lv_istore (lv' := [(5, .int (nI ((totR u.2.2.2.2.2 0 f) + (u.2.2.2.2.2 0 f)))), (4, .int (nI ((fltN u.1 f) + ((chkA u.1 f).1)))), (3, .int (nI ((canN u.1 f) + 0))), (2, .int (nI ((cntB (u.1.1 2) f) + if hasB (u.1.1 2) f = true then 1 else 0))), (7, .int (nI 0)), (6, .int (nI f)), (0, .ref (b + 0)), (1, .ref (bb + 0))]) hx hb dL_areFunctionsRight_94 hl (by decide) rfl (fun ls hl => ?_)
          refine lv_iconst (v := nI 0) hx hb dL_areFunctionsRight_96 (by decide) ?_
          refine lv_istore (lv' := [(8, .int (nI 0)), (5, .int (nI ((totR u.2.2.2.2.2 0 f) + (u.2.2.2.2.2 0 f)))), (4, .int (nI ((fltN u.1 f) + ((chkA u.1 f).1)))), (3, .int (nI ((canN u.1 f) + 0))), (2, .int (nI ((cntB (u.1.1 2) f) + if hasB (u.1.1 2) f = true then 1 else 0))), (7, .int (nI 0)), (6, .int (nI f)), (0, .ref (b + 0)), (1, .ref (bb + 0))]) hx hb dL_areFunctionsRight_97 hl (by decide) rfl (fun ls hl => ?_)
          refine lv_iconst (v := nI 0) hx hb dL_areFunctionsRight_99 (by decide) ?_
          refine lv_istore (lv' := [(9, .int (nI 0)), (8, .int (nI 0)), (5, .int (nI ((totR u.2.2.2.2.2 0 f) + (u.2.2.2.2.2 0 f)))), (4, .int (nI ((fltN u.1 f) + ((chkA u.1 f).1)))), (3, .int (nI ((canN u.1 f) + 0))), (2, .int (nI ((cntB (u.1.1 2) f) + if hasB (u.1.1 2) f = true then 1 else 0))), (7, .int (nI 0)), (6, .int (nI f)), (0, .ref (b + 0)), (1, .ref (bb + 0))]) hx hb dL_areFunctionsRight_100 hl (by decide) rfl (fun ls hl => ?_)
          refine lv_iconst (v := (-1)) hx hb dL_areFunctionsRight_102 (by decide) ?_
          refine lv_istore (lv' := [(10, .int (-1)), (9, .int (nI 0)), (8, .int (nI 0)), (5, .int (nI ((totR u.2.2.2.2.2 0 f) + (u.2.2.2.2.2 0 f)))), (4, .int (nI ((fltN u.1 f) + ((chkA u.1 f).1)))), (3, .int (nI ((canN u.1 f) + 0))), (2, .int (nI ((cntB (u.1.1 2) f) + if hasB (u.1.1 2) f = true then 1 else 0))), (7, .int (nI 0)), (6, .int (nI f)), (0, .ref (b + 0)), (1, .ref (bb + 0))]) hx hb dL_areFunctionsRight_103 hl (by decide) rfl (fun ls hl => ?_)
          have key58 : ∀ (fu : Nat) (j : Nat) (F2 : FT), (j ≤ u.1.1 1 + 1) → (u.1.1 1 + 1 - j) < fu → ∀ (H : Heap) (locs : List Loc), ts_W D b 52 (cel q b (u.1, F2, u.2.2.1, u.2.2.2)) H → va_S (ts_AB b bb s.heap.size) s.heap H locs → Bl D q bb g H → bb < H.size → ∀ ls : Array Slot, lv_has ls 13 [(10, .int (zI j)), (9, .int (nI 0)), (8, .int (nI (sumN u.2.2.2.2.2 f j))), (5, .int (nI ((totR u.2.2.2.2.2 0 f) + (u.2.2.2.2.2 0 f)))), (4, .int (nI ((fltN u.1 f) + ((chkA u.1 f).1)))), (3, .int (nI ((canN u.1 f) + 0))), (2, .int (nI ((cntB (u.1.1 2) f) + if hasB (u.1.1 2) f = true then 1 else 0))), (7, .int (nI 0)), (6, .int (nI f)), (0, .ref (b + 0)), (1, .ref (bb + 0))] → W p l e ({ frames := 5, cells := 0, slots := 0, locals := 109 } : Room) s m [.ref (b + 0), .ref (bb + 0)].toArray below meth c H locs 0 0 (MQ below (cB D q b bb s.heap.size (fun r v => r = nI 1 ∧ ∃ F : FT, v = ((u.1, F, u.2.2), g))) [.ref (b + 0), .ref (bb + 0)].toArray s 0 0 (ts_AB b bb s.heap.size)) (F0 m 105 ls []) := by
            intro fu
            induction fu with
            | zero => intro j F2 _ hn; exact absurd hn (Nat.not_lt_zero _)
            | succ fu ih59 =>
              intro j F2 hj hn H locs hW hS hV hbz ls hl
              refine lv_iload hx hb dL_areFunctionsRight_105 (lv_at hl 0 rfl) ?_
              refine lv_aload_n hx hb dL_areFunctionsRight_107 rfl (lv_at hl 9 rfl) ?_
              refine lv_iconst (v := nI 0) hx hb dL_areFunctionsRight_108 (by decide) ?_
              refine ts_retI (va_runV (As := [.int (nI 0)]) (rest := [.int (zI j)]) ⟨hx, hb, hml, hown, hts⟩ (k_X5_many l D q b H.size (u.1, F2, u.2.2.1, u.2.2.2) 0 hwf (by omega)) (cwV 1 hts gL_areFunctionsRight_X5_many rfl rfl rfl (by decide +kernel) ⟨Nat.le_of_ble_eq_true rfl, Nat.le_of_ble_eq_true rfl⟩) (ts_preV hK hN hW 0 (by decide) cel_st rfl) rfl rfl hl.1 rfl (lv_room (Nat.le_of_ble_eq_true rfl)) dL_areFunctionsRight_109 ⟨Nat.zero_le _, Nat.zero_le _⟩) hS (fun x h => Or.inl (ts_Aup hS.1 h)) (fun r60 u61 H locs hp62 hW hz hk hS => ?_)
              have hV := ts_kept hV (fun x h1 h2 => hk x (by omega) (fun h => by unfold ts_A at h; omega))
              have hbz := Nat.lt_of_lt_of_le hbz hz
              obtain ⟨hp62r, F63, hp62u⟩ := hp62
              have hp62r : r60 = nI (u.1.1 1) := hp62r
              have hp62u : u61 = (u.1, F63, u.2.2.1, u.2.2.2) := hp62u
              rw [hp62r]
              rw [hp62u] at hW
              refine lv_icmp_ge (tgt := 134) hx hb dL_areFunctionsRight_112 (by decide) (fun c64 => ?_) (fun c64 => ?_)
              · skip
                rw [zI_le (by omega) (by omega)] at c64
                refine lv_iconst (v := nI 0) hx hb dL_areFunctionsRight_134 (by decide) ?_
                refine lv_istore (lv' := [(10, .int (nI 0)), (9, .int (nI 0)), (8, .int (nI (sumN u.2.2.2.2.2 f j))), (5, .int (nI ((totR u.2.2.2.2.2 0 f) + (u.2.2.2.2.2 0 f)))), (4, .int (nI ((fltN u.1 f) + ((chkA u.1 f).1)))), (3, .int (nI ((canN u.1 f) + 0))), (2, .int (nI ((cntB (u.1.1 2) f) + if hasB (u.1.1 2) f = true then 1 else 0))), (7, .int (nI 0)), (6, .int (nI f)), (0, .ref (b + 0)), (1, .ref (bb + 0))]) hx hb dL_areFunctionsRight_135 hl (by decide) rfl (fun ls hl => ?_)
                have key65 : ∀ (fu : Nat) (k : Nat) (F3 : FT), (k ≤ u.1.1 1) → (u.1.1 1 - k) < fu → ∀ (H : Heap) (locs : List Loc), ts_W D b 52 (cel q b (u.1, F3, u.2.2.1, u.2.2.2)) H → va_S (ts_AB b bb s.heap.size) s.heap H locs → Bl D q bb g H → bb < H.size → ∀ ls : Array Slot, lv_has ls 13 [(10, .int (nI k)), (9, .int (nI (calN u.1 f k))), (8, .int (nI (sumN u.2.2.2.2.2 f j))), (5, .int (nI ((totR u.2.2.2.2.2 0 f) + (u.2.2.2.2.2 0 f)))), (4, .int (nI ((fltN u.1 f) + ((chkA u.1 f).1)))), (3, .int (nI ((canN u.1 f) + 0))), (2, .int (nI ((cntB (u.1.1 2) f) + if hasB (u.1.1 2) f = true then 1 else 0))), (7, .int (nI 0)), (6, .int (nI f)), (0, .ref (b + 0)), (1, .ref (bb + 0))] → W p l e ({ frames := 5, cells := 0, slots := 0, locals := 109 } : Room) s m [.ref (b + 0), .ref (bb + 0)].toArray below meth c H locs 0 0 (MQ below (cB D q b bb s.heap.size (fun r v => r = nI 1 ∧ ∃ F : FT, v = ((u.1, F, u.2.2), g))) [.ref (b + 0), .ref (bb + 0)].toArray s 0 0 (ts_AB b bb s.heap.size)) (F0 m 137 ls []) := by
                  intro fu
                  induction fu with
                  | zero => intro k F3 _ hn; exact absurd hn (Nat.not_lt_zero _)
                  | succ fu ih66 =>
                    intro k F3 hk hn H locs hW hS hV hbz ls hl
                    refine lv_iload hx hb dL_areFunctionsRight_137 (lv_at hl 0 rfl) ?_
                    refine lv_aload_n hx hb dL_areFunctionsRight_139 rfl (lv_at hl 9 rfl) ?_
                    refine lv_iconst (v := nI 0) hx hb dL_areFunctionsRight_140 (by decide) ?_
                    refine ts_retI (va_runV (As := [.int (nI 0)]) (rest := [.int (nI k)]) ⟨hx, hb, hml, hown, hts⟩ (k_X5_many l D q b H.size (u.1, F3, u.2.2.1, u.2.2.2) 0 hwf (by omega)) (cwV 1 hts gL_areFunctionsRight_X5_many rfl rfl rfl (by decide +kernel) ⟨Nat.le_of_ble_eq_true rfl, Nat.le_of_ble_eq_true rfl⟩) (ts_preV hK hN hW 0 (by decide) cel_st rfl) rfl rfl hl.1 rfl (lv_room (Nat.le_of_ble_eq_true rfl)) dL_areFunctionsRight_141 ⟨Nat.zero_le _, Nat.zero_le _⟩) hS (fun x h => Or.inl (ts_Aup hS.1 h)) (fun r67 u68 H locs hp69 hW hz hk hS => ?_)
                    have hV := ts_kept hV (fun x h1 h2 => hk x (by omega) (fun h => by unfold ts_A at h; omega))
                    have hbz := Nat.lt_of_lt_of_le hbz hz
                    obtain ⟨hp69r, F70, hp69u⟩ := hp69
                    have hp69r : r67 = nI (u.1.1 1) := hp69r
                    have hp69u : u68 = (u.1, F70, u.2.2.1, u.2.2.2) := hp69u
                    rw [hp69r]
                    rw [hp69u] at hW
                    refine lv_icmp_ge (tgt := 225) hx hb dL_areFunctionsRight_144 (by decide) (fun c71 => ?_) (fun c71 => ?_)
                    · skip
                      rw [nI_leI (by omega) (by omega)] at c71
                      refine lv_aload_n hx hb dL_areFunctionsRight_225 rfl (lv_at hl 9 rfl) ?_
                      refine lv_iload hx hb dL_areFunctionsRight_226 (lv_at hl 8 rfl) ?_
                      refine lv_iconst (v := nI 3) hx hb dL_areFunctionsRight_228 (by decide) ?_
                      refine ts_retI (va_runV (As := [.int (nI f), .int (nI 3)]) (rest := []) ⟨hx, hb, hml, hown, hts⟩ (k_X5_ofFunction l D q b H.size (u.1, F70, u.2.2.1, u.2.2.2) f 3 hwf (by show f < u.1.1 1; omega) (by omega)) (cwV 2 hts gL_areFunctionsRight_X5_ofFunction rfl rfl rfl (by decide +kernel) ⟨Nat.le_of_ble_eq_true rfl, Nat.le_of_ble_eq_true rfl⟩) (ts_preV hK hN hW 0 (by decide) cel_st rfl) rfl rfl hl.1 rfl (lv_room (Nat.le_of_ble_eq_true rfl)) dL_areFunctionsRight_229 ⟨Nat.zero_le _, Nat.zero_le _⟩) hS (fun x h => Or.inl (ts_Aup hS.1 h)) (fun r72 u73 H locs hp74 hW hz hk hS => ?_)
                      have hV := ts_kept hV (fun x h1 h2 => hk x (by omega) (fun h => by unfold ts_A at h; omega))
                      have hbz := Nat.lt_of_lt_of_le hbz hz
                      obtain ⟨hp74r, F75, hp74u⟩ := hp74
                      have hp74r : r72 = b2i (hasB (u.1.1 2) f) := hp74r
                      have hp74u : u73 = (u.1, F75, u.2.2.1, u.2.2.2) := hp74u
                      rw [hp74r]
                      rw [hp74u] at hW
                      refine lv_iconst (v := nI 1) hx hb dL_areFunctionsRight_232 (by decide) ?_
                      refine lv_icmp_ne (tgt := 241) hx hb dL_areFunctionsRight_233 (by decide) (fun c76 => ?_) (fun c76 => ?_)
                      · skip
                        rw [ts_b1] at c76
                        refine lv_aload_n hx hb dL_areFunctionsRight_241 rfl (lv_at hl 9 rfl) ?_
                        refine lv_iload hx hb dL_areFunctionsRight_242 (lv_at hl 8 rfl) ?_
                        refine lv_bipush (v := nI 10) hx hb dL_areFunctionsRight_244 (by decide) ?_
                        refine ts_retI (va_runV (As := [.int (nI f), .int (nI 10)]) (rest := []) ⟨hx, hb, hml, hown, hts⟩ (k_X5_ofFunction l D q b H.size (u.1, F75, u.2.2.1, u.2.2.2) f 10 hwf (by show f < u.1.1 1; omega) (by omega)) (cwV 2 hts gL_areFunctionsRight_X5_ofFunction rfl rfl rfl (by decide +kernel) ⟨Nat.le_of_ble_eq_true rfl, Nat.le_of_ble_eq_true rfl⟩) (ts_preV hK hN hW 0 (by decide) cel_st rfl) rfl rfl hl.1 rfl (lv_room (Nat.le_of_ble_eq_true rfl)) dL_areFunctionsRight_246 ⟨Nat.zero_le _, Nat.zero_le _⟩) hS (fun x h => Or.inl (ts_Aup hS.1 h)) (fun r77 u78 H locs hp79 hW hz hk hS => ?_)
                        have hV := ts_kept hV (fun x h1 h2 => hk x (by omega) (fun h => by unfold ts_A at h; omega))
                        have hbz := Nat.lt_of_lt_of_le hbz hz
                        obtain ⟨hp79r, F80, hp79u⟩ := hp79
                        have hp79r : r77 = nI (sumN u.2.2.2.2.2 f 11) := hp79r
                        have hp79u : u78 = (u.1, F80, u.2.2.1, u.2.2.2) := hp79u
                        rw [hp79r]
                        rw [hp79u] at hW
                        refine lv_iload hx hb dL_areFunctionsRight_249 (lv_at hl 2 rfl) ?_
                        refine lv_icmp_ne (tgt := 331) hx hb dL_areFunctionsRight_251 (by decide) (fun c81 => ?_) (fun c81 => ?_)
                        · skip
                          exact absurd (congrArg nI ((sumN_tail (fun r h1 h2 => hrz r h1 h2 f) 11 (by omega) (by omega)).trans (by rw [show j = u.1.1 1 + 1 by omega]))) c81
                        refine lv_aload_n hx hb dL_areFunctionsRight_254 rfl (lv_at hl 9 rfl) ?_
                        refine lv_iload hx hb dL_areFunctionsRight_255 (lv_at hl 8 rfl) ?_
                        refine lv_bipush (v := nI 9) hx hb dL_areFunctionsRight_257 (by decide) ?_
                        refine ts_retI (va_runV (As := [.int (nI f), .int (nI 9)]) (rest := []) ⟨hx, hb, hml, hown, hts⟩ (k_X5_ofFunction l D q b H.size (u.1, F80, u.2.2.1, u.2.2.2) f 9 hwf (by show f < u.1.1 1; omega) (by omega)) (cwV 2 hts gL_areFunctionsRight_X5_ofFunction rfl rfl rfl (by decide +kernel) ⟨Nat.le_of_ble_eq_true rfl, Nat.le_of_ble_eq_true rfl⟩) (ts_preV hK hN hW 0 (by decide) cel_st rfl) rfl rfl hl.1 rfl (lv_room (Nat.le_of_ble_eq_true rfl)) dL_areFunctionsRight_259 ⟨Nat.zero_le _, Nat.zero_le _⟩) hS (fun x h => Or.inl (ts_Aup hS.1 h)) (fun r82 u83 H locs hp84 hW hz hk hS => ?_)
                        have hV := ts_kept hV (fun x h1 h2 => hk x (by omega) (fun h => by unfold ts_A at h; omega))
                        have hbz := Nat.lt_of_lt_of_le hbz hz
                        obtain ⟨hp84r, F85, hp84u⟩ := hp84
                        have hp84r : r82 = nI (calN u.1 f (u.1.1 1)) := hp84r
                        have hp84u : u83 = (u.1, F85, u.2.2.1, u.2.2.2) := hp84u
                        rw [hp84r]
                        rw [hp84u] at hW
                        refine lv_iload hx hb dL_areFunctionsRight_262 (lv_at hl 1 rfl) ?_
                        refine lv_icmp_ne (tgt := 331) hx hb dL_areFunctionsRight_264 (by decide) (fun c86 => ?_) (fun c86 => ?_)
                        · skip
                          exact absurd (congrArg nI (by rw [show k = u.1.1 1 by omega])) c86
                        refine lv_aload_n hx hb dL_areFunctionsRight_267 rfl (lv_at hl 9 rfl) ?_
                        refine lv_iload hx hb dL_areFunctionsRight_268 (lv_at hl 8 rfl) ?_
                        refine ts_retI (va_runV (As := [.int (nI f)]) (rest := []) ⟨hx, hb, hml, hown, hts⟩ (k_X5_blamed l D q b H.size (u.1, F85, u.2.2.1, u.2.2.2) f hwf (by show f < u.1.1 1; omega)) (cwV 1 hts gL_areFunctionsRight_X5_blamed rfl rfl rfl (by decide +kernel) ⟨Nat.le_of_ble_eq_true rfl, Nat.le_of_ble_eq_true rfl⟩) (ts_preV hK hN hW 0 (by decide) cel_st rfl) rfl rfl hl.1 rfl (lv_room (Nat.le_of_ble_eq_true rfl)) dL_areFunctionsRight_270 ⟨Nat.zero_le _, Nat.zero_le _⟩) hS (fun x h => Or.inl (ts_Aup hS.1 h)) (fun r87 u88 H locs hp89 hW hz hk hS => ?_)
                        have hV := ts_kept hV (fun x h1 h2 => hk x (by omega) (fun h => by unfold ts_A at h; omega))
                        have hbz := Nat.lt_of_lt_of_le hbz hz
                        have hp89r : r87 = nI (u.2.2.2.2.2 11 f) := hp89.1
                        have hp89u : u88 = (u.1, F85, u.2.2.1, u.2.2.2) := hp89.2
                        rw [hp89r]
                        rw [hp89u] at hW
                        refine lv_aload_n hx hb dL_areFunctionsRight_273 rfl (lv_at hl 10 rfl) ?_
                        refine lv_iload hx hb dL_areFunctionsRight_274 (lv_at hl 8 rfl) ?_
                        refine ts_iald (v := nI (g f)) hx hb hK hV 0 (by decide) 0 rfl rfl (by omega) (by decide) rfl dL_areFunctionsRight_276 ?_
                        refine lv_icmp_ne (tgt := 331) hx hb dL_areFunctionsRight_277 (by decide) (fun c90 => ?_) (fun c90 => ?_)
                        · skip
                          exact absurd (congrArg nI (hg f (by omega)).symm) c90
                        refine lv_aload_n hx hb dL_areFunctionsRight_280 rfl (lv_at hl 9 rfl) ?_
                        refine lv_iload hx hb dL_areFunctionsRight_281 (lv_at hl 8 rfl) ?_
                        refine lv_iconst (v := nI 5) hx hb dL_areFunctionsRight_283 (by decide) ?_
                        refine ts_retI (va_runV (As := [.int (nI f), .int (nI 5)]) (rest := []) ⟨hx, hb, hml, hown, hts⟩ (k_X5_ofFunction l D q b H.size (u.1, F85, u.2.2.1, u.2.2.2) f 5 hwf (by show f < u.1.1 1; omega) (by omega)) (cwV 2 hts gL_areFunctionsRight_X5_ofFunction rfl rfl rfl (by decide +kernel) ⟨Nat.le_of_ble_eq_true rfl, Nat.le_of_ble_eq_true rfl⟩) (ts_preV hK hN hW 0 (by decide) cel_st rfl) rfl rfl hl.1 rfl (lv_room (Nat.le_of_ble_eq_true rfl)) dL_areFunctionsRight_284 ⟨Nat.zero_le _, Nat.zero_le _⟩) hS (fun x h => Or.inl (ts_Aup hS.1 h)) (fun r91 u92 H locs hp93 hW hz hk hS => ?_)
                        have hV := ts_kept hV (fun x h1 h2 => hk x (by omega) (fun h => by unfold ts_A at h; omega))
                        have hbz := Nat.lt_of_lt_of_le hbz hz
                        obtain ⟨hp93r, F94, hp93u⟩ := hp93
                        have hp93r : r91 = (chkA u.1 f).2.1 := hp93r
                        have hp93u : u92 = (u.1, F94, u.2.2.1, u.2.2.2) := hp93u
                        rw [hp93r]
                        rw [hp93u] at hW
                        refine lv_iconst (v := (-1)) hx hb dL_areFunctionsRight_287 (by decide) ?_
                        refine lv_icmp_ne (tgt := 295) hx hb dL_areFunctionsRight_288 (by decide) (fun c95 => ?_) (fun c95 => ?_)
                        · skip
                          have hq5 := c95
                          refine lv_iconst (v := nI 0) hx hb dL_areFunctionsRight_295 (by decide) ?_
                          refine lv_aload_n hx hb dL_areFunctionsRight_296 rfl (lv_at hl 9 rfl) ?_
                          refine lv_iload hx hb dL_areFunctionsRight_297 (lv_at hl 8 rfl) ?_
                          refine lv_iconst (v := nI 4) hx hb dL_areFunctionsRight_299 (by decide) ?_
                          refine ts_retI (va_runV (As := [.int (nI f), .int (nI 4)]) (rest := [.int (nI 0)]) ⟨hx, hb, hml, hown, hts⟩ (k_X5_ofFunction l D q b H.size (u.1, F94, u.2.2.1, u.2.2.2) f 4 hwf (by show f < u.1.1 1; omega) (by omega)) (cwV 2 hts gL_areFunctionsRight_X5_ofFunction rfl rfl rfl (by decide +kernel) ⟨Nat.le_of_ble_eq_true rfl, Nat.le_of_ble_eq_true rfl⟩) (ts_preV hK hN hW 0 (by decide) cel_st rfl) rfl rfl hl.1 rfl (lv_room (Nat.le_of_ble_eq_true rfl)) dL_areFunctionsRight_300 ⟨Nat.zero_le _, Nat.zero_le _⟩) hS (fun x h => Or.inl (ts_Aup hS.1 h)) (fun r96 u97 H locs hp98 hW hz hk hS => ?_)
                          have hV := ts_kept hV (fun x h1 h2 => hk x (by omega) (fun h => by unfold ts_A at h; omega))
                          have hbz := Nat.lt_of_lt_of_le hbz hz
                          obtain ⟨hp98r, F99, hp98u⟩ := hp98
                          have hp98r : r96 = nI ((chkA u.1 f).1) := hp98r
                          have hp98u : u97 = (u.1, F99, u.2.2.1, u.2.2.2) := hp98u
                          rw [hp98r]
                          rw [hp98u] at hW
                          refine lv_if_ne (tgt := 310) hx hb dL_areFunctionsRight_303 (by decide) (fun c100 => ?_) (fun c100 => ?_)
                          · skip
                            rw [ts_eq0 (by omega)] at c100
                            have hq6 := c100
                            refine lv_iconst (v := nI 0) hx hb dL_areFunctionsRight_310 (by decide) ?_
                            refine lv_icmp_ne (tgt := 331) hx hb dL_areFunctionsRight_311 (by decide) (fun c101 => ?_) (fun c101 => ?_)
                            · skip
                              exfalso; revert c101; decide
                            refine lv_aload_n hx hb dL_areFunctionsRight_314 rfl (lv_at hl 9 rfl) ?_
                            refine lv_iload hx hb dL_areFunctionsRight_315 (lv_at hl 8 rfl) ?_
                            refine lv_iconst (v := nI 5) hx hb dL_areFunctionsRight_317 (by decide) ?_
                            refine ts_retI (va_runV (As := [.int (nI f), .int (nI 5)]) (rest := []) ⟨hx, hb, hml, hown, hts⟩ (k_X5_ofFunction l D q b H.size (u.1, F99, u.2.2.1, u.2.2.2) f 5 hwf (by show f < u.1.1 1; omega) (by omega)) (cwV 2 hts gL_areFunctionsRight_X5_ofFunction rfl rfl rfl (by decide +kernel) ⟨Nat.le_of_ble_eq_true rfl, Nat.le_of_ble_eq_true rfl⟩) (ts_preV hK hN hW 0 (by decide) cel_st rfl) rfl rfl hl.1 rfl (lv_room (Nat.le_of_ble_eq_true rfl)) dL_areFunctionsRight_318 ⟨Nat.zero_le _, Nat.zero_le _⟩) hS (fun x h => Or.inl (ts_Aup hS.1 h)) (fun r102 u103 H locs hp104 hW hz hk hS => ?_)
                            have hV := ts_kept hV (fun x h1 h2 => hk x (by omega) (fun h => by unfold ts_A at h; omega))
                            have hbz := Nat.lt_of_lt_of_le hbz hz
                            obtain ⟨hp104r, F105, hp104u⟩ := hp104
                            have hp104r : r102 = (chkA u.1 f).2.1 := hp104r
                            have hp104u : u103 = (u.1, F105, u.2.2.1, u.2.2.2) := hp104u
                            rw [hp104r]
                            rw [hp104u] at hW
                            refine lv_aload_n hx hb dL_areFunctionsRight_321 rfl (lv_at hl 9 rfl) ?_
                            refine lv_iload hx hb dL_areFunctionsRight_322 (lv_at hl 8 rfl) ?_
                            refine lv_iconst (v := nI 0) hx hb dL_areFunctionsRight_324 (by decide) ?_
                            refine ts_retI (va_runV (As := [.int (nI f), .int (nI 0)]) (rest := [.int ((chkA u.1 f).2.1)]) ⟨hx, hb, hml, hown, hts⟩ (k_X5_ofFunction l D q b H.size (u.1, F105, u.2.2.1, u.2.2.2) f 0 hwf (by show f < u.1.1 1; omega) (by omega)) (cwV 2 hts gL_areFunctionsRight_X5_ofFunction rfl rfl rfl (by decide +kernel) ⟨Nat.le_of_ble_eq_true rfl, Nat.le_of_ble_eq_true rfl⟩) (ts_preV hK hN hW 0 (by decide) cel_st rfl) rfl rfl hl.1 rfl (lv_room (Nat.le_of_ble_eq_true rfl)) dL_areFunctionsRight_325 ⟨Nat.zero_le _, Nat.zero_le _⟩) hS (fun x h => Or.inl (ts_Aup hS.1 h)) (fun r106 u107 H locs hp108 hW hz hk hS => ?_)
                            have hV := ts_kept hV (fun x h1 h2 => hk x (by omega) (fun h => by unfold ts_A at h; omega))
                            have hbz := Nat.lt_of_lt_of_le hbz hz
                            obtain ⟨hp108r, F109, hp108u⟩ := hp108
                            have hp108r : r106 = nI (u.1.1 (20 + f)) := hp108r
                            have hp108u : u107 = (u.1, F109, u.2.2.1, u.2.2.2) := hp108u
                            rw [hp108r]
                            rw [hp108u] at hW
                            refine lv_icmp_le (tgt := 333) hx hb dL_areFunctionsRight_328 (by decide) (fun c110 => ?_) (fun c110 => ?_)
                            · skip
                              refine lv_iinc (v := nI (f + 1)) (lv' := [(6, .int (nI (f + 1))), (10, .int (nI k)), (9, .int (nI (calN u.1 f k))), (8, .int (nI (sumN u.2.2.2.2.2 f j))), (5, .int (nI ((totR u.2.2.2.2.2 0 f) + (u.2.2.2.2.2 0 f)))), (4, .int (nI ((fltN u.1 f) + ((chkA u.1 f).1)))), (3, .int (nI ((canN u.1 f) + 0))), (2, .int (nI ((cntB (u.1.1 2) f) + if hasB (u.1.1 2) f = true then 1 else 0))), (7, .int (nI 0)), (0, .ref (b + 0)), (1, .ref (bb + 0))]) hx hb dL_areFunctionsRight_333 hl (k := 8) rfl (nI_add f 1) (by decide) rfl (fun ls hl => ?_)
                              refine lv_goto (tgt := 13) hx hb dL_areFunctionsRight_336 (by decide) ?_
                              have e111 : totR u.2.2.2.2.2 0 (f + 1) = (totR u.2.2.2.2.2 0 f) + (u.2.2.2.2.2 0 f) := by first | rfl | (simp [canN, hok]; done)
                              have e112 : fltN u.1 (f + 1) = (fltN u.1 f) + ((chkA u.1 f).1) := by first | rfl | (simp [canN, hok]; done)
                              have e113 : canN u.1 (f + 1) = (canN u.1 f) + 0 := by first | rfl | (simp [canN, hok]; done)
                              have e114 : cntB (u.1.1 2) (f + 1) = (cntB (u.1.1 2) f) + if hasB (u.1.1 2) f = true then 1 else 0 := by first | rfl | (simp [canN, hok]; done)
                              exact ih2 (f + 1) F109 (by omega) (by omega) H locs hW hS hV hbz ls (show lv_has ls 13 [(6, .int (nI (f + 1))), (5, .int (nI (totR u.2.2.2.2.2 0 (f + 1)))), (4, .int (nI (fltN u.1 (f + 1)))), (3, .int (nI (canN u.1 (f + 1)))), (2, .int (nI (cntB (u.1.1 2) (f + 1)))), (0, .ref (b + 0)), (1, .ref (bb + 0))] from by rw [e111, e112, e113, e114]; exact lv_sub hl [0, 4, 5, 6, 7, 9, 10] rfl)
                            exact absurd hcf.2 c110
                          rw [ts_eq0 (by omega)] at c100
                          have hq6 := c100
                          refine lv_iconst (v := nI 1) hx hb dL_areFunctionsRight_306 (by decide) ?_
                          refine lv_goto (tgt := 311) hx hb dL_areFunctionsRight_307 (by decide) ?_
                          refine lv_icmp_ne (tgt := 331) hx hb dL_areFunctionsRight_311 (by decide) (fun c115 => ?_) (fun c115 => ?_)
                          · skip
                            refine lv_iconst (v := nI 0) hx hb dL_areFunctionsRight_331 (by decide) ?_
                            exfalso; first | exact hcn (okF_to (hty _ hb9).2) | exact hq5 (hcf.1.mpr hq6) | exact hq6 (hcf.1.mp hq5)
                          exfalso; revert c115; decide
                        have hq5 := c95
                        refine lv_iconst (v := nI 1) hx hb dL_areFunctionsRight_291 (by decide) ?_
                        refine lv_goto (tgt := 296) hx hb dL_areFunctionsRight_292 (by decide) ?_
                        refine lv_aload_n hx hb dL_areFunctionsRight_296 rfl (lv_at hl 9 rfl) ?_
                        refine lv_iload hx hb dL_areFunctionsRight_297 (lv_at hl 8 rfl) ?_
                        refine lv_iconst (v := nI 4) hx hb dL_areFunctionsRight_299 (by decide) ?_
                        refine ts_retI (va_runV (As := [.int (nI f), .int (nI 4)]) (rest := [.int (nI 1)]) ⟨hx, hb, hml, hown, hts⟩ (k_X5_ofFunction l D q b H.size (u.1, F94, u.2.2.1, u.2.2.2) f 4 hwf (by show f < u.1.1 1; omega) (by omega)) (cwV 2 hts gL_areFunctionsRight_X5_ofFunction rfl rfl rfl (by decide +kernel) ⟨Nat.le_of_ble_eq_true rfl, Nat.le_of_ble_eq_true rfl⟩) (ts_preV hK hN hW 0 (by decide) cel_st rfl) rfl rfl hl.1 rfl (lv_room (Nat.le_of_ble_eq_true rfl)) dL_areFunctionsRight_300 ⟨Nat.zero_le _, Nat.zero_le _⟩) hS (fun x h => Or.inl (ts_Aup hS.1 h)) (fun r116 u117 H locs hp118 hW hz hk hS => ?_)
                        have hV := ts_kept hV (fun x h1 h2 => hk x (by omega) (fun h => by unfold ts_A at h; omega))
                        have hbz := Nat.lt_of_lt_of_le hbz hz
                        obtain ⟨hp118r, F119, hp118u⟩ := hp118
                        have hp118r : r116 = nI ((chkA u.1 f).1) := hp118r
                        have hp118u : u117 = (u.1, F119, u.2.2.1, u.2.2.2) := hp118u
                        rw [hp118r]
                        rw [hp118u] at hW
                        refine lv_if_ne (tgt := 310) hx hb dL_areFunctionsRight_303 (by decide) (fun c120 => ?_) (fun c120 => ?_)
                        · skip
                          rw [ts_eq0 (by omega)] at c120
                          have hq6 := c120
                          refine lv_iconst (v := nI 0) hx hb dL_areFunctionsRight_310 (by decide) ?_
                          refine lv_icmp_ne (tgt := 331) hx hb dL_areFunctionsRight_311 (by decide) (fun c121 => ?_) (fun c121 => ?_)
                          · skip
                            refine lv_iconst (v := nI 0) hx hb dL_areFunctionsRight_331 (by decide) ?_
                            exfalso; first | exact hcn (okF_to (hty _ hb9).2) | exact hq5 (hcf.1.mpr hq6) | exact hq6 (hcf.1.mp hq5)
                          exfalso; revert c121; decide
                        rw [ts_eq0 (by omega)] at c120
                        have hq6 := c120
                        refine lv_iconst (v := nI 1) hx hb dL_areFunctionsRight_306 (by decide) ?_
                        refine lv_goto (tgt := 311) hx hb dL_areFunctionsRight_307 (by decide) ?_
                        refine lv_icmp_ne (tgt := 331) hx hb dL_areFunctionsRight_311 (by decide) (fun c122 => ?_) (fun c122 => ?_)
                        · skip
                          exfalso; revert c122; decide
                        refine lv_aload_n hx hb dL_areFunctionsRight_314 rfl (lv_at hl 9 rfl) ?_
                        refine lv_iload hx hb dL_areFunctionsRight_315 (lv_at hl 8 rfl) ?_
                        refine lv_iconst (v := nI 5) hx hb dL_areFunctionsRight_317 (by decide) ?_
                        refine ts_retI (va_runV (As := [.int (nI f), .int (nI 5)]) (rest := []) ⟨hx, hb, hml, hown, hts⟩ (k_X5_ofFunction l D q b H.size (u.1, F119, u.2.2.1, u.2.2.2) f 5 hwf (by show f < u.1.1 1; omega) (by omega)) (cwV 2 hts gL_areFunctionsRight_X5_ofFunction rfl rfl rfl (by decide +kernel) ⟨Nat.le_of_ble_eq_true rfl, Nat.le_of_ble_eq_true rfl⟩) (ts_preV hK hN hW 0 (by decide) cel_st rfl) rfl rfl hl.1 rfl (lv_room (Nat.le_of_ble_eq_true rfl)) dL_areFunctionsRight_318 ⟨Nat.zero_le _, Nat.zero_le _⟩) hS (fun x h => Or.inl (ts_Aup hS.1 h)) (fun r123 u124 H locs hp125 hW hz hk hS => ?_)
                        have hV := ts_kept hV (fun x h1 h2 => hk x (by omega) (fun h => by unfold ts_A at h; omega))
                        have hbz := Nat.lt_of_lt_of_le hbz hz
                        obtain ⟨hp125r, F126, hp125u⟩ := hp125
                        have hp125r : r123 = (chkA u.1 f).2.1 := hp125r
                        have hp125u : u124 = (u.1, F126, u.2.2.1, u.2.2.2) := hp125u
                        rw [hp125r]
                        rw [hp125u] at hW
                        refine lv_aload_n hx hb dL_areFunctionsRight_321 rfl (lv_at hl 9 rfl) ?_
                        refine lv_iload hx hb dL_areFunctionsRight_322 (lv_at hl 8 rfl) ?_
                        refine lv_iconst (v := nI 0) hx hb dL_areFunctionsRight_324 (by decide) ?_
                        refine ts_retI (va_runV (As := [.int (nI f), .int (nI 0)]) (rest := [.int ((chkA u.1 f).2.1)]) ⟨hx, hb, hml, hown, hts⟩ (k_X5_ofFunction l D q b H.size (u.1, F126, u.2.2.1, u.2.2.2) f 0 hwf (by show f < u.1.1 1; omega) (by omega)) (cwV 2 hts gL_areFunctionsRight_X5_ofFunction rfl rfl rfl (by decide +kernel) ⟨Nat.le_of_ble_eq_true rfl, Nat.le_of_ble_eq_true rfl⟩) (ts_preV hK hN hW 0 (by decide) cel_st rfl) rfl rfl hl.1 rfl (lv_room (Nat.le_of_ble_eq_true rfl)) dL_areFunctionsRight_325 ⟨Nat.zero_le _, Nat.zero_le _⟩) hS (fun x h => Or.inl (ts_Aup hS.1 h)) (fun r127 u128 H locs hp129 hW hz hk hS => ?_)
                        have hV := ts_kept hV (fun x h1 h2 => hk x (by omega) (fun h => by unfold ts_A at h; omega))
                        have hbz := Nat.lt_of_lt_of_le hbz hz
                        obtain ⟨hp129r, F130, hp129u⟩ := hp129
                        have hp129r : r127 = nI (u.1.1 (20 + f)) := hp129r
                        have hp129u : u128 = (u.1, F130, u.2.2.1, u.2.2.2) := hp129u
                        rw [hp129r]
                        rw [hp129u] at hW
                        refine lv_icmp_le (tgt := 333) hx hb dL_areFunctionsRight_328 (by decide) (fun c131 => ?_) (fun c131 => ?_)
                        · skip
                          refine lv_iinc (v := nI (f + 1)) (lv' := [(6, .int (nI (f + 1))), (10, .int (nI k)), (9, .int (nI (calN u.1 f k))), (8, .int (nI (sumN u.2.2.2.2.2 f j))), (5, .int (nI ((totR u.2.2.2.2.2 0 f) + (u.2.2.2.2.2 0 f)))), (4, .int (nI ((fltN u.1 f) + ((chkA u.1 f).1)))), (3, .int (nI ((canN u.1 f) + 0))), (2, .int (nI ((cntB (u.1.1 2) f) + if hasB (u.1.1 2) f = true then 1 else 0))), (7, .int (nI 0)), (0, .ref (b + 0)), (1, .ref (bb + 0))]) hx hb dL_areFunctionsRight_333 hl (k := 8) rfl (nI_add f 1) (by decide) rfl (fun ls hl => ?_)
                          refine lv_goto (tgt := 13) hx hb dL_areFunctionsRight_336 (by decide) ?_
                          have e132 : totR u.2.2.2.2.2 0 (f + 1) = (totR u.2.2.2.2.2 0 f) + (u.2.2.2.2.2 0 f) := by first | rfl | (simp [canN, hok]; done)
                          have e133 : fltN u.1 (f + 1) = (fltN u.1 f) + ((chkA u.1 f).1) := by first | rfl | (simp [canN, hok]; done)
                          have e134 : canN u.1 (f + 1) = (canN u.1 f) + 0 := by first | rfl | (simp [canN, hok]; done)
                          have e135 : cntB (u.1.1 2) (f + 1) = (cntB (u.1.1 2) f) + if hasB (u.1.1 2) f = true then 1 else 0 := by first | rfl | (simp [canN, hok]; done)
                          exact ih2 (f + 1) F130 (by omega) (by omega) H locs hW hS hV hbz ls (show lv_has ls 13 [(6, .int (nI (f + 1))), (5, .int (nI (totR u.2.2.2.2.2 0 (f + 1)))), (4, .int (nI (fltN u.1 (f + 1)))), (3, .int (nI (canN u.1 (f + 1)))), (2, .int (nI (cntB (u.1.1 2) (f + 1)))), (0, .ref (b + 0)), (1, .ref (bb + 0))] from by rw [e132, e133, e134, e135]; exact lv_sub hl [0, 4, 5, 6, 7, 9, 10] rfl)
                        exact absurd hcf.2 c131
                      rw [ts_b1] at c76
                      have hb9 := c76
                      refine lv_iload hx hb dL_areFunctionsRight_236 (lv_at hl 7 rfl) ?_
                      refine lv_if_eq (tgt := 331) hx hb dL_areFunctionsRight_238 (by decide) (fun c136 => ?_) (fun c136 => ?_)
                      · skip
                        refine lv_iconst (v := nI 0) hx hb dL_areFunctionsRight_331 (by decide) ?_
                        exfalso; first | exact hcn (okF_to (hty _ hb9).2) | exact hq5 (hcf.1.mpr hq6) | exact hq6 (hcf.1.mp hq5)
                      exfalso; revert c136; decide
                    rw [nI_leI (by omega) (by omega)] at c71
                    have hks := hwf.fsz (i := k) (by omega)
                    refine lv_iconst (v := nI 0) hx hb dL_areFunctionsRight_147 (by decide) ?_
                    refine lv_istore (lv' := [(11, .int (nI 0)), (10, .int (nI k)), (9, .int (nI (calN u.1 f k))), (8, .int (nI (sumN u.2.2.2.2.2 f j))), (5, .int (nI ((totR u.2.2.2.2.2 0 f) + (u.2.2.2.2.2 0 f)))), (4, .int (nI ((fltN u.1 f) + ((chkA u.1 f).1)))), (3, .int (nI ((canN u.1 f) + 0))), (2, .int (nI ((cntB (u.1.1 2) f) + if hasB (u.1.1 2) f = true then 1 else 0))), (7, .int (nI 0)), (6, .int (nI f)), (0, .ref (b + 0)), (1, .ref (bb + 0))]) hx hb dL_areFunctionsRight_148 hl (by decide) rfl (fun ls hl => ?_)
                    refine lv_iconst (v := nI 0) hx hb dL_areFunctionsRight_150 (by decide) ?_
                    refine lv_istore (lv' := [(12, .int (nI 0)), (11, .int (nI 0)), (10, .int (nI k)), (9, .int (nI (calN u.1 f k))), (8, .int (nI (sumN u.2.2.2.2.2 f j))), (5, .int (nI ((totR u.2.2.2.2.2 0 f) + (u.2.2.2.2.2 0 f)))), (4, .int (nI ((fltN u.1 f) + ((chkA u.1 f).1)))), (3, .int (nI ((canN u.1 f) + 0))), (2, .int (nI ((cntB (u.1.1 2) f) + if hasB (u.1.1 2) f = true then 1 else 0))), (7, .int (nI 0)), (6, .int (nI f)), (0, .ref (b + 0)), (1, .ref (bb + 0))]) hx hb dL_areFunctionsRight_151 hl (by decide) rfl (fun ls hl => ?_)
                    have key137 : ∀ (fu : Nat) (i : Nat) (F4 : FT), (i ≤ u.1.1 (20 + k)) → (u.1.1 (20 + k) - i) < fu → ∀ (H : Heap) (locs : List Loc), ts_W D b 52 (cel q b (u.1, F4, u.2.2.1, u.2.2.2)) H → va_S (ts_AB b bb s.heap.size) s.heap H locs → Bl D q bb g H → bb < H.size → ∀ ls : Array Slot, lv_has ls 13 [(12, .int (nI i)), (11, .int (b2i (mentB u.1 k (40 + f) i))), (10, .int (nI k)), (9, .int (nI (calN u.1 f k))), (8, .int (nI (sumN u.2.2.2.2.2 f j))), (5, .int (nI ((totR u.2.2.2.2.2 0 f) + (u.2.2.2.2.2 0 f)))), (4, .int (nI ((fltN u.1 f) + ((chkA u.1 f).1)))), (3, .int (nI ((canN u.1 f) + 0))), (2, .int (nI ((cntB (u.1.1 2) f) + if hasB (u.1.1 2) f = true then 1 else 0))), (7, .int (nI 0)), (6, .int (nI f)), (0, .ref (b + 0)), (1, .ref (bb + 0))] → W p l e ({ frames := 5, cells := 0, slots := 0, locals := 109 } : Room) s m [.ref (b + 0), .ref (bb + 0)].toArray below meth c H locs 0 0 (MQ below (cB D q b bb s.heap.size (fun r v => r = nI 1 ∧ ∃ F : FT, v = ((u.1, F, u.2.2), g))) [.ref (b + 0), .ref (bb + 0)].toArray s 0 0 (ts_AB b bb s.heap.size)) (F0 m 153 ls []) := by
                      intro fu
                      induction fu with
                      | zero => intro i F4 _ hn; exact absurd hn (Nat.not_lt_zero _)
                      | succ fu ih138 =>
                        intro i F4 hi hn H locs hW hS hV hbz ls hl
                        refine lv_iload hx hb dL_areFunctionsRight_153 (lv_at hl 0 rfl) ?_
                        refine lv_aload_n hx hb dL_areFunctionsRight_155 rfl (lv_at hl 11 rfl) ?_
                        refine lv_iload hx hb dL_areFunctionsRight_156 (lv_at hl 2 rfl) ?_
                        refine lv_iconst (v := nI 0) hx hb dL_areFunctionsRight_158 (by decide) ?_
                        refine ts_retI (va_runV (As := [.int (nI k), .int (nI 0)]) (rest := [.int (nI i)]) ⟨hx, hb, hml, hown, hts⟩ (k_X5_ofFunction l D q b H.size (u.1, F4, u.2.2.1, u.2.2.2) k 0 hwf (by show k < u.1.1 1; omega) (by omega)) (cwV 2 hts gL_areFunctionsRight_X5_ofFunction rfl rfl rfl (by decide +kernel) ⟨Nat.le_of_ble_eq_true rfl, Nat.le_of_ble_eq_true rfl⟩) (ts_preV hK hN hW 0 (by decide) cel_st rfl) rfl rfl hl.1 rfl (lv_room (Nat.le_of_ble_eq_true rfl)) dL_areFunctionsRight_159 ⟨Nat.zero_le _, Nat.zero_le _⟩) hS (fun x h => Or.inl (ts_Aup hS.1 h)) (fun r139 u140 H locs hp141 hW hz hk hS => ?_)
                        have hV := ts_kept hV (fun x h1 h2 => hk x (by omega) (fun h => by unfold ts_A at h; omega))
                        have hbz := Nat.lt_of_lt_of_le hbz hz
                        obtain ⟨hp141r, F142, hp141u⟩ := hp141
                        have hp141r : r139 = nI (u.1.1 (20 + k)) := hp141r
                        have hp141u : u140 = (u.1, F142, u.2.2.1, u.2.2.2) := hp141u
                        rw [hp141r]
                        rw [hp141u] at hW
                        refine lv_icmp_ge (tgt := 197) hx hb dL_areFunctionsRight_162 (by decide) (fun c143 => ?_) (fun c143 => ?_)
                        · skip
                          rw [nI_leI (by omega) (by omega)] at c143
                          have hii : i = u.1.1 (20 + k) := by omega
                          refine lv_iload hx hb dL_areFunctionsRight_197 (lv_at hl 3 rfl) ?_
                          refine lv_iload hx hb dL_areFunctionsRight_199 (lv_at hl 1 rfl) ?_
                          refine lv_if_eq (tgt := 215) hx hb dL_areFunctionsRight_201 (by decide) (fun c144 => ?_) (fun c144 => ?_)
                          · skip
                            have c144 := ts_bf c144
                            have hmm := c144
                            rw [hii] at hmm
                            refine lv_iconst (v := nI 0) hx hb dL_areFunctionsRight_215 (by decide) ?_
                            refine ts_iadd (v := nI ((calN u.1 f k) + 0)) hx hb dL_areFunctionsRight_216 (nI_add _ _) ?_
                            refine lv_istore (lv' := [(9, .int (nI ((calN u.1 f k) + 0))), (12, .int (nI i)), (11, .int (b2i (mentB u.1 k (40 + f) i))), (10, .int (nI k)), (8, .int (nI (sumN u.2.2.2.2.2 f j))), (5, .int (nI ((totR u.2.2.2.2.2 0 f) + (u.2.2.2.2.2 0 f)))), (4, .int (nI ((fltN u.1 f) + ((chkA u.1 f).1)))), (3, .int (nI ((canN u.1 f) + 0))), (2, .int (nI ((cntB (u.1.1 2) f) + if hasB (u.1.1 2) f = true then 1 else 0))), (7, .int (nI 0)), (6, .int (nI f)), (0, .ref (b + 0)), (1, .ref (bb + 0))]) hx hb dL_areFunctionsRight_217 hl (by decide) rfl (fun ls hl => ?_)
                            refine lv_iinc (v := nI (k + 1)) (lv' := [(10, .int (nI (k + 1))), (9, .int (nI ((calN u.1 f k) + 0))), (12, .int (nI i)), (11, .int (b2i (mentB u.1 k (40 + f) i))), (8, .int (nI (sumN u.2.2.2.2.2 f j))), (5, .int (nI ((totR u.2.2.2.2.2 0 f) + (u.2.2.2.2.2 0 f)))), (4, .int (nI ((fltN u.1 f) + ((chkA u.1 f).1)))), (3, .int (nI ((canN u.1 f) + 0))), (2, .int (nI ((cntB (u.1.1 2) f) + if hasB (u.1.1 2) f = true then 1 else 0))), (7, .int (nI 0)), (6, .int (nI f)), (0, .ref (b + 0)), (1, .ref (bb + 0))]) hx hb dL_areFunctionsRight_219 hl (k := 3) rfl (nI_add k 1) (by decide) rfl (fun ls hl => ?_)
                            refine lv_goto (tgt := 137) hx hb dL_areFunctionsRight_222 (by decide) ?_
                            have e145 : calN u.1 f (k + 1) = (calN u.1 f k) + 0 := by first | rfl | (simp [calN, *]; done)
                            exact ih66 (k + 1) F142 (by omega) (by omega) H locs hW hS hV hbz ls (show lv_has ls 13 [(10, .int (nI (k + 1))), (9, .int (nI (calN u.1 f (k + 1)))), (8, .int (nI (sumN u.2.2.2.2.2 f j))), (5, .int (nI ((totR u.2.2.2.2.2 0 f) + (u.2.2.2.2.2 0 f)))), (4, .int (nI ((fltN u.1 f) + ((chkA u.1 f).1)))), (3, .int (nI ((canN u.1 f) + 0))), (2, .int (nI ((cntB (u.1.1 2) f) + if hasB (u.1.1 2) f = true then 1 else 0))), (7, .int (nI 0)), (6, .int (nI f)), (0, .ref (b + 0)), (1, .ref (bb + 0))] from by rw [e145]; exact lv_sub hl [0, 1, 4, 5, 6, 7, 8, 9, 10, 11, 12] rfl)
                          have c144 := ts_bt c144
                          have hmm := c144
                          rw [hii] at hmm
                          refine lv_iload hx hb dL_areFunctionsRight_204 (lv_at hl 2 rfl) ?_
                          refine lv_iload hx hb dL_areFunctionsRight_206 (lv_at hl 10 rfl) ?_
                          refine lv_icmp_eq (tgt := 215) hx hb dL_areFunctionsRight_208 (by decide) (fun c146 => ?_) (fun c146 => ?_)
                          · skip
                            rw [nI_eq (by omega) (by omega)] at c146
                            refine lv_iconst (v := nI 0) hx hb dL_areFunctionsRight_215 (by decide) ?_
                            refine ts_iadd (v := nI ((calN u.1 f k) + 0)) hx hb dL_areFunctionsRight_216 (nI_add _ _) ?_
                            refine lv_istore (lv' := [(9, .int (nI ((calN u.1 f k) + 0))), (12, .int (nI i)), (11, .int (b2i (mentB u.1 k (40 + f) i))), (10, .int (nI k)), (8, .int (nI (sumN u.2.2.2.2.2 f j))), (5, .int (nI ((totR u.2.2.2.2.2 0 f) + (u.2.2.2.2.2 0 f)))), (4, .int (nI ((fltN u.1 f) + ((chkA u.1 f).1)))), (3, .int (nI ((canN u.1 f) + 0))), (2, .int (nI ((cntB (u.1.1 2) f) + if hasB (u.1.1 2) f = true then 1 else 0))), (7, .int (nI 0)), (6, .int (nI f)), (0, .ref (b + 0)), (1, .ref (bb + 0))]) hx hb dL_areFunctionsRight_217 hl (by decide) rfl (fun ls hl => ?_)
                            refine lv_iinc (v := nI (k + 1)) (lv' := [(10, .int (nI (k + 1))), (9, .int (nI ((calN u.1 f k) + 0))), (12, .int (nI i)), (11, .int (b2i (mentB u.1 k (40 + f) i))), (8, .int (nI (sumN u.2.2.2.2.2 f j))), (5, .int (nI ((totR u.2.2.2.2.2 0 f) + (u.2.2.2.2.2 0 f)))), (4, .int (nI ((fltN u.1 f) + ((chkA u.1 f).1)))), (3, .int (nI ((canN u.1 f) + 0))), (2, .int (nI ((cntB (u.1.1 2) f) + if hasB (u.1.1 2) f = true then 1 else 0))), (7, .int (nI 0)), (6, .int (nI f)), (0, .ref (b + 0)), (1, .ref (bb + 0))]) hx hb dL_areFunctionsRight_219 hl (k := 3) rfl (nI_add k 1) (by decide) rfl (fun ls hl => ?_)
                            refine lv_goto (tgt := 137) hx hb dL_areFunctionsRight_222 (by decide) ?_
                            have e147 : calN u.1 f (k + 1) = (calN u.1 f k) + 0 := by first | rfl | (simp [calN, *]; done)
                            exact ih66 (k + 1) F142 (by omega) (by omega) H locs hW hS hV hbz ls (show lv_has ls 13 [(10, .int (nI (k + 1))), (9, .int (nI (calN u.1 f (k + 1)))), (8, .int (nI (sumN u.2.2.2.2.2 f j))), (5, .int (nI ((totR u.2.2.2.2.2 0 f) + (u.2.2.2.2.2 0 f)))), (4, .int (nI ((fltN u.1 f) + ((chkA u.1 f).1)))), (3, .int (nI ((canN u.1 f) + 0))), (2, .int (nI ((cntB (u.1.1 2) f) + if hasB (u.1.1 2) f = true then 1 else 0))), (7, .int (nI 0)), (6, .int (nI f)), (0, .ref (b + 0)), (1, .ref (bb + 0))] from by rw [e147]; exact lv_sub hl [0, 1, 4, 5, 6, 7, 8, 9, 10, 11, 12] rfl)
                          rw [nI_eq (by omega) (by omega)] at c146
                          refine lv_iconst (v := nI 1) hx hb dL_areFunctionsRight_211 (by decide) ?_
                          refine lv_goto (tgt := 216) hx hb dL_areFunctionsRight_212 (by decide) ?_
                          refine ts_iadd (v := nI ((calN u.1 f k) + 1)) hx hb dL_areFunctionsRight_216 (nI_add _ _) ?_
                          refine lv_istore (lv' := [(9, .int (nI ((calN u.1 f k) + 1))), (12, .int (nI i)), (11, .int (b2i (mentB u.1 k (40 + f) i))), (10, .int (nI k)), (8, .int (nI (sumN u.2.2.2.2.2 f j))), (5, .int (nI ((totR u.2.2.2.2.2 0 f) + (u.2.2.2.2.2 0 f)))), (4, .int (nI ((fltN u.1 f) + ((chkA u.1 f).1)))), (3, .int (nI ((canN u.1 f) + 0))), (2, .int (nI ((cntB (u.1.1 2) f) + if hasB (u.1.1 2) f = true then 1 else 0))), (7, .int (nI 0)), (6, .int (nI f)), (0, .ref (b + 0)), (1, .ref (bb + 0))]) hx hb dL_areFunctionsRight_217 hl (by decide) rfl (fun ls hl => ?_)
                          refine lv_iinc (v := nI (k + 1)) (lv' := [(10, .int (nI (k + 1))), (9, .int (nI ((calN u.1 f k) + 1))), (12, .int (nI i)), (11, .int (b2i (mentB u.1 k (40 + f) i))), (8, .int (nI (sumN u.2.2.2.2.2 f j))), (5, .int (nI ((totR u.2.2.2.2.2 0 f) + (u.2.2.2.2.2 0 f)))), (4, .int (nI ((fltN u.1 f) + ((chkA u.1 f).1)))), (3, .int (nI ((canN u.1 f) + 0))), (2, .int (nI ((cntB (u.1.1 2) f) + if hasB (u.1.1 2) f = true then 1 else 0))), (7, .int (nI 0)), (6, .int (nI f)), (0, .ref (b + 0)), (1, .ref (bb + 0))]) hx hb dL_areFunctionsRight_219 hl (k := 3) rfl (nI_add k 1) (by decide) rfl (fun ls hl => ?_)
                          refine lv_goto (tgt := 137) hx hb dL_areFunctionsRight_222 (by decide) ?_
                          have e148 : calN u.1 f (k + 1) = (calN u.1 f k) + 1 := by first | rfl | (simp [calN, *]; done)
                          exact ih66 (k + 1) F142 (by omega) (by omega) H locs hW hS hV hbz ls (show lv_has ls 13 [(10, .int (nI (k + 1))), (9, .int (nI (calN u.1 f (k + 1)))), (8, .int (nI (sumN u.2.2.2.2.2 f j))), (5, .int (nI ((totR u.2.2.2.2.2 0 f) + (u.2.2.2.2.2 0 f)))), (4, .int (nI ((fltN u.1 f) + ((chkA u.1 f).1)))), (3, .int (nI ((canN u.1 f) + 0))), (2, .int (nI ((cntB (u.1.1 2) f) + if hasB (u.1.1 2) f = true then 1 else 0))), (7, .int (nI 0)), (6, .int (nI f)), (0, .ref (b + 0)), (1, .ref (bb + 0))] from by rw [e148]; exact lv_sub hl [0, 1, 4, 5, 6, 7, 8, 9, 10, 11, 12] rfl)
                        rw [nI_leI (by omega) (by omega)] at c143
                        have hst := hwf.stp (i := k) (j := i) (by omega) (by omega)
                        refine lv_iload hx hb dL_areFunctionsRight_165 (lv_at hl 1 rfl) ?_
                        refine lv_aload_n hx hb dL_areFunctionsRight_167 rfl (lv_at hl 11 rfl) ?_
                        refine lv_iload hx hb dL_areFunctionsRight_168 (lv_at hl 2 rfl) ?_
                        refine lv_iload hx hb dL_areFunctionsRight_170 (lv_at hl 0 rfl) ?_
                        refine ts_retI (va_runV (As := [.int (nI k), .int (nI i)]) (rest := [.int (b2i (mentB u.1 k (40 + f) i))]) ⟨hx, hb, hml, hown, hts⟩ (k_X5_stepAt l D q b H.size (u.1, F142, u.2.2.1, u.2.2.2) k i hwf (by show k < u.1.1 1; omega) (by show i < u.1.1 (20 + k); omega)) (cwV 2 hts gL_areFunctionsRight_X5_stepAt rfl rfl rfl (by decide +kernel) ⟨Nat.le_of_ble_eq_true rfl, Nat.le_of_ble_eq_true rfl⟩) (ts_preV hK hN hW 0 (by decide) cel_st rfl) rfl rfl hl.1 rfl (lv_room (Nat.le_of_ble_eq_true rfl)) dL_areFunctionsRight_172 ⟨Nat.zero_le _, Nat.zero_le _⟩) hS (fun x h => Or.inl (ts_Aup hS.1 h)) (fun r149 u150 H locs hp151 hW hz hk hS => ?_)
                        have hV := ts_kept hV (fun x h1 h2 => hk x (by omega) (fun h => by unfold ts_A at h; omega))
                        have hbz := Nat.lt_of_lt_of_le hbz hz
                        have hp151r : r149 = nI (u.1.2 k i) := hp151.1
                        have hp151u : u150 = (u.1, F142, u.2.2.1, u.2.2.2) := hp151.2
                        rw [hp151r]
                        rw [hp151u] at hW
                        refine lv_bipush (v := nI 40) hx hb dL_areFunctionsRight_175 (by decide) ?_
                        refine lv_iload hx hb dL_areFunctionsRight_177 (lv_at hl 10 rfl) ?_
                        refine ts_iadd (v := nI (40 + f)) hx hb dL_areFunctionsRight_179 (nI_add _ _) ?_
                        refine lv_icmp_ne (tgt := 187) hx hb dL_areFunctionsRight_180 (by decide) (fun c152 => ?_) (fun c152 => ?_)
                        · skip
                          rw [nI_eq (by omega) (by omega)] at c152
                          refine lv_iconst (v := nI 0) hx hb dL_areFunctionsRight_187 (by decide) ?_
                          refine ts_ior (v := b2i (mentB u.1 k (40 + f) i)) hx hb dL_areFunctionsRight_188 (or_b2i0 _) ?_
                          refine lv_istore (lv' := [(11, .int (b2i (mentB u.1 k (40 + f) i))), (12, .int (nI i)), (10, .int (nI k)), (9, .int (nI (calN u.1 f k))), (8, .int (nI (sumN u.2.2.2.2.2 f j))), (5, .int (nI ((totR u.2.2.2.2.2 0 f) + (u.2.2.2.2.2 0 f)))), (4, .int (nI ((fltN u.1 f) + ((chkA u.1 f).1)))), (3, .int (nI ((canN u.1 f) + 0))), (2, .int (nI ((cntB (u.1.1 2) f) + if hasB (u.1.1 2) f = true then 1 else 0))), (7, .int (nI 0)), (6, .int (nI f)), (0, .ref (b + 0)), (1, .ref (bb + 0))]) hx hb dL_areFunctionsRight_189 hl (by decide) rfl (fun ls hl => ?_)
                          refine lv_iinc (v := nI (i + 1)) (lv' := [(12, .int (nI (i + 1))), (11, .int (b2i (mentB u.1 k (40 + f) i))), (10, .int (nI k)), (9, .int (nI (calN u.1 f k))), (8, .int (nI (sumN u.2.2.2.2.2 f j))), (5, .int (nI ((totR u.2.2.2.2.2 0 f) + (u.2.2.2.2.2 0 f)))), (4, .int (nI ((fltN u.1 f) + ((chkA u.1 f).1)))), (3, .int (nI ((canN u.1 f) + 0))), (2, .int (nI ((cntB (u.1.1 2) f) + if hasB (u.1.1 2) f = true then 1 else 0))), (7, .int (nI 0)), (6, .int (nI f)), (0, .ref (b + 0)), (1, .ref (bb + 0))]) hx hb dL_areFunctionsRight_191 hl (k := 1) rfl (nI_add i 1) (by decide) rfl (fun ls hl => ?_)
                          refine lv_goto (tgt := 153) hx hb dL_areFunctionsRight_194 (by decide) ?_
                          have e153 : b2i (mentB u.1 k (40 + f) (i + 1)) = b2i (mentB u.1 k (40 + f) i) := by first | rfl | (simp [mentB, *]; done)
                          exact ih138 (i + 1) F142 (by omega) (by omega) H locs hW hS hV hbz ls (show lv_has ls 13 [(12, .int (nI (i + 1))), (11, .int (b2i (mentB u.1 k (40 + f) (i + 1)))), (10, .int (nI k)), (9, .int (nI (calN u.1 f k))), (8, .int (nI (sumN u.2.2.2.2.2 f j))), (5, .int (nI ((totR u.2.2.2.2.2 0 f) + (u.2.2.2.2.2 0 f)))), (4, .int (nI ((fltN u.1 f) + ((chkA u.1 f).1)))), (3, .int (nI ((canN u.1 f) + 0))), (2, .int (nI ((cntB (u.1.1 2) f) + if hasB (u.1.1 2) f = true then 1 else 0))), (7, .int (nI 0)), (6, .int (nI f)), (0, .ref (b + 0)), (1, .ref (bb + 0))] from by rw [e153]; exact lv_sub hl [0, 1, 2, 3, 4, 5, 6, 7, 8, 9, 10, 11, 12] rfl)
                        rw [nI_eq (by omega) (by omega)] at c152
                        refine lv_iconst (v := nI 1) hx hb dL_areFunctionsRight_183 (by decide) ?_
                        refine lv_goto (tgt := 188) hx hb dL_areFunctionsRight_184 (by decide) ?_
                        refine ts_ior (v := b2i true) hx hb dL_areFunctionsRight_188 (or_b2i1 _) ?_
                        refine lv_istore (lv' := [(11, .int (b2i true)), (12, .int (nI i)), (10, .int (nI k)), (9, .int (nI (calN u.1 f k))), (8, .int (nI (sumN u.2.2.2.2.2 f j))), (5, .int (nI ((totR u.2.2.2.2.2 0 f) + (u.2.2.2.2.2 0 f)))), (4, .int (nI ((fltN u.1 f) + ((chkA u.1 f).1)))), (3, .int (nI ((canN u.1 f) + 0))), (2, .int (nI ((cntB (u.1.1 2) f) + if hasB (u.1.1 2) f = true then 1 else 0))), (7, .int (nI 0)), (6, .int (nI f)), (0, .ref (b + 0)), (1, .ref (bb + 0))]) hx hb dL_areFunctionsRight_189 hl (by decide) rfl (fun ls hl => ?_)
                        refine lv_iinc (v := nI (i + 1)) (lv' := [(12, .int (nI (i + 1))), (11, .int (b2i true)), (10, .int (nI k)), (9, .int (nI (calN u.1 f k))), (8, .int (nI (sumN u.2.2.2.2.2 f j))), (5, .int (nI ((totR u.2.2.2.2.2 0 f) + (u.2.2.2.2.2 0 f)))), (4, .int (nI ((fltN u.1 f) + ((chkA u.1 f).1)))), (3, .int (nI ((canN u.1 f) + 0))), (2, .int (nI ((cntB (u.1.1 2) f) + if hasB (u.1.1 2) f = true then 1 else 0))), (7, .int (nI 0)), (6, .int (nI f)), (0, .ref (b + 0)), (1, .ref (bb + 0))]) hx hb dL_areFunctionsRight_191 hl (k := 1) rfl (nI_add i 1) (by decide) rfl (fun ls hl => ?_)
                        refine lv_goto (tgt := 153) hx hb dL_areFunctionsRight_194 (by decide) ?_
                        have e154 : b2i (mentB u.1 k (40 + f) (i + 1)) = b2i true := by first | rfl | (simp [mentB, *]; done)
                        exact ih138 (i + 1) F142 (by omega) (by omega) H locs hW hS hV hbz ls (show lv_has ls 13 [(12, .int (nI (i + 1))), (11, .int (b2i (mentB u.1 k (40 + f) (i + 1)))), (10, .int (nI k)), (9, .int (nI (calN u.1 f k))), (8, .int (nI (sumN u.2.2.2.2.2 f j))), (5, .int (nI ((totR u.2.2.2.2.2 0 f) + (u.2.2.2.2.2 0 f)))), (4, .int (nI ((fltN u.1 f) + ((chkA u.1 f).1)))), (3, .int (nI ((canN u.1 f) + 0))), (2, .int (nI ((cntB (u.1.1 2) f) + if hasB (u.1.1 2) f = true then 1 else 0))), (7, .int (nI 0)), (6, .int (nI f)), (0, .ref (b + 0)), (1, .ref (bb + 0))] from by rw [e154]; exact lv_sub hl [0, 1, 2, 3, 4, 5, 6, 7, 8, 9, 10, 11, 12] rfl)
                    have e155 : b2i (mentB u.1 k (40 + f) 0) = nI 0 := by first | rfl | (simp [mentB, *]; done)
                    exact key137 _ 0 F70 (by omega) (Nat.lt_succ_self _) _ _ hW hS hV hbz ls (show lv_has ls 13 [(12, .int (nI 0)), (11, .int (b2i (mentB u.1 k (40 + f) 0))), (10, .int (nI k)), (9, .int (nI (calN u.1 f k))), (8, .int (nI (sumN u.2.2.2.2.2 f j))), (5, .int (nI ((totR u.2.2.2.2.2 0 f) + (u.2.2.2.2.2 0 f)))), (4, .int (nI ((fltN u.1 f) + ((chkA u.1 f).1)))), (3, .int (nI ((canN u.1 f) + 0))), (2, .int (nI ((cntB (u.1.1 2) f) + if hasB (u.1.1 2) f = true then 1 else 0))), (7, .int (nI 0)), (6, .int (nI f)), (0, .ref (b + 0)), (1, .ref (bb + 0))] from by rw [e155]; exact lv_sub hl [0, 1, 2, 3, 4, 5, 6, 7, 8, 9, 10, 11, 12] rfl)
                have e156 : calN u.1 f 0 = 0 := by first | rfl | (simp [calN, *]; done)
                exact key65 _ 0 F63 (by omega) (Nat.lt_succ_self _) _ _ hW hS hV hbz ls (show lv_has ls 13 [(10, .int (nI 0)), (9, .int (nI (calN u.1 f 0))), (8, .int (nI (sumN u.2.2.2.2.2 f j))), (5, .int (nI ((totR u.2.2.2.2.2 0 f) + (u.2.2.2.2.2 0 f)))), (4, .int (nI ((fltN u.1 f) + ((chkA u.1 f).1)))), (3, .int (nI ((canN u.1 f) + 0))), (2, .int (nI ((cntB (u.1.1 2) f) + if hasB (u.1.1 2) f = true then 1 else 0))), (7, .int (nI 0)), (6, .int (nI f)), (0, .ref (b + 0)), (1, .ref (bb + 0))] from by rw [e156]; exact lv_sub hl [0, 1, 2, 3, 4, 5, 6, 7, 8, 9, 10] rfl)
              rw [zI_le (by omega) (by omega)] at c64
              refine lv_iload hx hb dL_areFunctionsRight_115 (lv_at hl 2 rfl) ?_
              refine lv_aload_n hx hb dL_areFunctionsRight_117 rfl (lv_at hl 9 rfl) ?_
              refine lv_iload hx hb dL_areFunctionsRight_118 (lv_at hl 0 rfl) ?_
              refine lv_iload hx hb dL_areFunctionsRight_120 (lv_at hl 8 rfl) ?_
              refine ts_retI (va_runV (As := [.int (zI j), .int (nI f)]) (rest := [.int (nI (sumN u.2.2.2.2.2 f j))]) ⟨hx, hb, hml, hown, hts⟩ (k_X5_counted l D q b H.size (u.1, F63, u.2.2.1, u.2.2.2) j f hwf (by show j ≤ u.1.1 1; omega) (by show f < u.1.1 1; omega)) (cwV 2 hts gL_areFunctionsRight_X5_counted rfl rfl rfl (by decide +kernel) ⟨Nat.le_of_ble_eq_true rfl, Nat.le_of_ble_eq_true rfl⟩) (ts_preV hK hN hW 0 (by decide) cel_st rfl) rfl rfl hl.1 rfl (lv_room (Nat.le_of_ble_eq_true rfl)) dL_areFunctionsRight_122 ⟨Nat.zero_le _, Nat.zero_le _⟩) hS (fun x h => Or.inl (ts_Aup hS.1 h)) (fun r157 u158 H locs hp159 hW hz hk hS => ?_)
              have hV := ts_kept hV (fun x h1 h2 => hk x (by omega) (fun h => by unfold ts_A at h; omega))
              have hbz := Nat.lt_of_lt_of_le hbz hz
              have hp159r : r157 = nI (u.2.2.2.2.2 j f) := hp159.1
              have hp159u : u158 = (u.1, F63, u.2.2.1, u.2.2.2) := hp159.2
              rw [hp159r]
              rw [hp159u] at hW
              refine ts_iadd (v := nI ((sumN u.2.2.2.2.2 f j) + (u.2.2.2.2.2 j f))) hx hb dL_areFunctionsRight_125 (nI_add _ _) ?_
              refine lv_istore (lv' := [(8, .int (nI ((sumN u.2.2.2.2.2 f j) + (u.2.2.2.2.2 j f)))), (10, .int (zI j)), (9, .int (nI 0)), (5, .int (nI ((totR u.2.2.2.2.2 0 f) + (u.2.2.2.2.2 0 f)))), (4, .int (nI ((fltN u.1 f) + ((chkA u.1 f).1)))), (3, .int (nI ((canN u.1 f) + 0))), (2, .int (nI ((cntB (u.1.1 2) f) + if hasB (u.1.1 2) f = true then 1 else 0))), (7, .int (nI 0)), (6, .int (nI f)), (0, .ref (b + 0)), (1, .ref (bb + 0))]) hx hb dL_areFunctionsRight_126 hl (by decide) rfl (fun ls hl => ?_)
              refine lv_iinc (v := zI (j + 1)) (lv' := [(10, .int (zI (j + 1))), (8, .int (nI ((sumN u.2.2.2.2.2 f j) + (u.2.2.2.2.2 j f)))), (9, .int (nI 0)), (5, .int (nI ((totR u.2.2.2.2.2 0 f) + (u.2.2.2.2.2 0 f)))), (4, .int (nI ((fltN u.1 f) + ((chkA u.1 f).1)))), (3, .int (nI ((canN u.1 f) + 0))), (2, .int (nI ((cntB (u.1.1 2) f) + if hasB (u.1.1 2) f = true then 1 else 0))), (7, .int (nI 0)), (6, .int (nI f)), (0, .ref (b + 0)), (1, .ref (bb + 0))]) hx hb dL_areFunctionsRight_128 hl (k := 1) rfl (zI_succ _) (by decide) rfl (fun ls hl => ?_)
              refine lv_goto (tgt := 105) hx hb dL_areFunctionsRight_131 (by decide) ?_
              have e160 : sumN u.2.2.2.2.2 f (j + 1) = (sumN u.2.2.2.2.2 f j) + (u.2.2.2.2.2 j f) := by rfl
              exact ih59 (j + 1) F63 (by omega) (by omega) H locs hW hS hV hbz ls (show lv_has ls 13 [(10, .int (zI (j + 1))), (9, .int (nI 0)), (8, .int (nI (sumN u.2.2.2.2.2 f (j + 1)))), (5, .int (nI ((totR u.2.2.2.2.2 0 f) + (u.2.2.2.2.2 0 f)))), (4, .int (nI ((fltN u.1 f) + ((chkA u.1 f).1)))), (3, .int (nI ((canN u.1 f) + 0))), (2, .int (nI ((cntB (u.1.1 2) f) + if hasB (u.1.1 2) f = true then 1 else 0))), (7, .int (nI 0)), (6, .int (nI f)), (0, .ref (b + 0)), (1, .ref (bb + 0))] from by rw [e160]; exact lv_sub hl [0, 2, 1, 3, 4, 5, 6, 7, 8, 9, 10] rfl)
          have e161 : zI 0 = (-1) := by rfl
          have e162 : sumN u.2.2.2.2.2 f 0 = 0 := by rfl
          exact key58 _ 0 F54 (by omega) (Nat.lt_succ_self _) _ _ hW hS hV hbz ls (show lv_has ls 13 [(10, .int (zI 0)), (9, .int (nI 0)), (8, .int (nI (sumN u.2.2.2.2.2 f 0))), (5, .int (nI ((totR u.2.2.2.2.2 0 f) + (u.2.2.2.2.2 0 f)))), (4, .int (nI ((fltN u.1 f) + ((chkA u.1 f).1)))), (3, .int (nI ((canN u.1 f) + 0))), (2, .int (nI ((cntB (u.1.1 2) f) + if hasB (u.1.1 2) f = true then 1 else 0))), (7, .int (nI 0)), (6, .int (nI f)), (0, .ref (b + 0)), (1, .ref (bb + 0))] from by rw [e161, e162]; exact lv_sub hl [0, 1, 2, 3, 4, 5, 6, 7, 8, 9, 10] rfl)
        exfalso; revert c50; decide
      rw [ts_eq0 (by omega)] at c45
      have hok := okF_of c45
      refine lv_iconst (v := nI 1) hx hb dL_areFunctionsRight_42 (by decide) ?_
      refine lv_goto (tgt := 47) hx hb dL_areFunctionsRight_43 (by decide) ?_
      refine lv_istore (lv' := [(7, .int (nI 1)), (6, .int (nI f)), (5, .int (nI (totR u.2.2.2.2.2 0 f))), (4, .int (nI (fltN u.1 f))), (3, .int (nI (canN u.1 f))), (2, .int (nI (cntB (u.1.1 2) f))), (0, .ref (b + 0)), (1, .ref (bb + 0))]) hx hb dL_areFunctionsRight_47 hl (by decide) rfl (fun ls hl => ?_)
      refine lv_iload_n hx hb dL_areFunctionsRight_49 rfl (lv_at hl 5 rfl) ?_
      refine lv_aload_n hx hb dL_areFunctionsRight_50 rfl (lv_at hl 6 rfl) ?_
      refine lv_iload hx hb dL_areFunctionsRight_51 (lv_at hl 1 rfl) ?_
      refine lv_iconst (v := nI 3) hx hb dL_areFunctionsRight_53 (by decide) ?_
      refine ts_retI (va_runV (As := [.int (nI f), .int (nI 3)]) (rest := [.int (nI (cntB (u.1.1 2) f))]) ⟨hx, hb, hml, hown, hts⟩ (k_X5_ofFunction l D q b H.size (u.1, F44, u.2.2.1, u.2.2.2) f 3 hwf (by show f < u.1.1 1; omega) (by omega)) (cwV 2 hts gL_areFunctionsRight_X5_ofFunction rfl rfl rfl (by decide +kernel) ⟨Nat.le_of_ble_eq_true rfl, Nat.le_of_ble_eq_true rfl⟩) (ts_preV hK hN hW 0 (by decide) cel_st rfl) rfl rfl hl.1 rfl (lv_room (Nat.le_of_ble_eq_true rfl)) dL_areFunctionsRight_54 ⟨Nat.zero_le _, Nat.zero_le _⟩) hS (fun x h => Or.inl (ts_Aup hS.1 h)) (fun r163 u164 H locs hp165 hW hz hk hS => ?_)
      have hV := ts_kept hV (fun x h1 h2 => hk x (by omega) (fun h => by unfold ts_A at h; omega))
      have hbz := Nat.lt_of_lt_of_le hbz hz
      obtain ⟨hp165r, F166, hp165u⟩ := hp165
      have hp165r : r163 = b2i (hasB (u.1.1 2) f) := hp165r
      have hp165u : u164 = (u.1, F166, u.2.2.1, u.2.2.2) := hp165u
      rw [hp165r]
      rw [hp165u] at hW
      refine ts_iadd (v := nI ((cntB (u.1.1 2) f) + if hasB (u.1.1 2) f = true then 1 else 0)) hx hb dL_areFunctionsRight_57 (add_b2i _ _) ?_
      refine lv_istore_n (lv' := [(2, .int (nI ((cntB (u.1.1 2) f) + if hasB (u.1.1 2) f = true then 1 else 0))), (7, .int (nI 1)), (6, .int (nI f)), (5, .int (nI (totR u.2.2.2.2.2 0 f))), (4, .int (nI (fltN u.1 f))), (3, .int (nI (canN u.1 f))), (0, .ref (b + 0)), (1, .ref (bb + 0))]) hx hb dL_areFunctionsRight_58 rfl hl (by decide) rfl (fun ls hl => ?_)
      refine lv_iload_n hx hb dL_areFunctionsRight_59 rfl (lv_at hl 5 rfl) ?_
      refine lv_iload hx hb dL_areFunctionsRight_60 (lv_at hl 1 rfl) ?_
      refine lv_if_eq (tgt := 69) hx hb dL_areFunctionsRight_62 (by decide) (fun c167 => ?_) (fun c167 => ?_)
      · skip
        exfalso; revert c167; decide
      refine lv_iconst (v := nI 1) hx hb dL_areFunctionsRight_65 (by decide) ?_
      refine lv_goto (tgt := 70) hx hb dL_areFunctionsRight_66 (by decide) ?_
      refine ts_iadd (v := nI ((canN u.1 f) + 1)) hx hb dL_areFunctionsRight_70 (nI_add _ _) ?_
      refine lv_istore_n (lv' := [(3, .int (nI ((canN u.1 f) + 1))), (2, .int (nI ((cntB (u.1.1 2) f) + if hasB (u.1.1 2) f = true then 1 else 0))), (7, .int (nI 1)), (6, .int (nI f)), (5, .int (nI (totR u.2.2.2.2.2 0 f))), (4, .int (nI (fltN u.1 f))), (0, .ref (b + 0)), (1, .ref (bb + 0))]) hx hb dL_areFunctionsRight_71 rfl hl (by decide) rfl (fun ls hl => ?_)
      refine lv_iload hx hb dL_areFunctionsRight_72 (lv_at hl 5 rfl) ?_
      refine lv_aload_n hx hb dL_areFunctionsRight_74 rfl (lv_at hl 6 rfl) ?_
      refine lv_iload hx hb dL_areFunctionsRight_75 (lv_at hl 3 rfl) ?_
      refine lv_iconst (v := nI 4) hx hb dL_areFunctionsRight_77 (by decide) ?_
      refine ts_retI (va_runV (As := [.int (nI f), .int (nI 4)]) (rest := [.int (nI (fltN u.1 f))]) ⟨hx, hb, hml, hown, hts⟩ (k_X5_ofFunction l D q b H.size (u.1, F166, u.2.2.1, u.2.2.2) f 4 hwf (by show f < u.1.1 1; omega) (by omega)) (cwV 2 hts gL_areFunctionsRight_X5_ofFunction rfl rfl rfl (by decide +kernel) ⟨Nat.le_of_ble_eq_true rfl, Nat.le_of_ble_eq_true rfl⟩) (ts_preV hK hN hW 0 (by decide) cel_st rfl) rfl rfl hl.1 rfl (lv_room (Nat.le_of_ble_eq_true rfl)) dL_areFunctionsRight_78 ⟨Nat.zero_le _, Nat.zero_le _⟩) hS (fun x h => Or.inl (ts_Aup hS.1 h)) (fun r168 u169 H locs hp170 hW hz hk hS => ?_)
      have hV := ts_kept hV (fun x h1 h2 => hk x (by omega) (fun h => by unfold ts_A at h; omega))
      have hbz := Nat.lt_of_lt_of_le hbz hz
      obtain ⟨hp170r, F171, hp170u⟩ := hp170
      have hp170r : r168 = nI ((chkA u.1 f).1) := hp170r
      have hp170u : u169 = (u.1, F171, u.2.2.1, u.2.2.2) := hp170u
      rw [hp170r]
      rw [hp170u] at hW
      refine ts_iadd (v := nI ((fltN u.1 f) + ((chkA u.1 f).1))) hx hb dL_areFunctionsRight_81 (nI_add _ _) ?_
      refine lv_istore (lv' := [(4, .int (nI ((fltN u.1 f) + ((chkA u.1 f).1)))), (3, .int (nI ((canN u.1 f) + 1))), (2, .int (nI ((cntB (u.1.1 2) f) + if hasB (u.1.1 2) f = true then 1 else 0))), (7, .int (nI 1)), (6, .int (nI f)), (5, .int (nI (totR u.2.2.2.2.2 0 f))), (0, .ref (b + 0)), (1, .ref (bb + 0))]) hx hb dL_areFunctionsRight_82 hl (by decide) rfl (fun ls hl => ?_)
      refine lv_iload hx hb dL_areFunctionsRight_84 (lv_at hl 5 rfl) ?_
      refine lv_aload_n hx hb dL_areFunctionsRight_86 rfl (lv_at hl 6 rfl) ?_
      refine lv_iconst (v := (-1)) hx hb dL_areFunctionsRight_87 (by decide) ?_
      refine ts_int (y := zI 0) rfl ?_
      refine lv_iload hx hb dL_areFunctionsRight_88 (lv_at hl 4 rfl) ?_
      refine ts_retI (va_runV (As := [.int (zI 0), .int (nI f)]) (rest := [.int (nI (totR u.2.2.2.2.2 0 f))]) ⟨hx, hb, hml, hown, hts⟩ (k_X5_counted l D q b H.size (u.1, F171, u.2.2.1, u.2.2.2) 0 f hwf (by show 0 ≤ u.1.1 1; omega) (by show f < u.1.1 1; omega)) (cwV 2 hts gL_areFunctionsRight_X5_counted rfl rfl rfl (by decide +kernel) ⟨Nat.le_of_ble_eq_true rfl, Nat.le_of_ble_eq_true rfl⟩) (ts_preV hK hN hW 0 (by decide) cel_st rfl) rfl rfl hl.1 rfl (lv_room (Nat.le_of_ble_eq_true rfl)) dL_areFunctionsRight_90 ⟨Nat.zero_le _, Nat.zero_le _⟩) hS (fun x h => Or.inl (ts_Aup hS.1 h)) (fun r172 u173 H locs hp174 hW hz hk hS => ?_)
      have hV := ts_kept hV (fun x h1 h2 => hk x (by omega) (fun h => by unfold ts_A at h; omega))
      have hbz := Nat.lt_of_lt_of_le hbz hz
      have hp174r : r172 = nI (u.2.2.2.2.2 0 f) := hp174.1
      have hp174u : u173 = (u.1, F171, u.2.2.1, u.2.2.2) := hp174.2
      rw [hp174r]
      rw [hp174u] at hW
      refine ts_iadd (v := nI ((totR u.2.2.2.2.2 0 f) + (u.2.2.2.2.2 0 f))) hx hb dL_areFunctionsRight_93 (nI_add _ _) ?_
      refine lv_istore (lv' := [(5, .int (nI ((totR u.2.2.2.2.2 0 f) + (u.2.2.2.2.2 0 f)))), (4, .int (nI ((fltN u.1 f) + ((chkA u.1 f).1)))), (3, .int (nI ((canN u.1 f) + 1))), (2, .int (nI ((cntB (u.1.1 2) f) + if hasB (u.1.1 2) f = true then 1 else 0))), (7, .int (nI 1)), (6, .int (nI f)), (0, .ref (b + 0)), (1, .ref (bb + 0))]) hx hb dL_areFunctionsRight_94 hl (by decide) rfl (fun ls hl => ?_)
      refine lv_iconst (v := nI 0) hx hb dL_areFunctionsRight_96 (by decide) ?_
      refine lv_istore (lv' := [(8, .int (nI 0)), (5, .int (nI ((totR u.2.2.2.2.2 0 f) + (u.2.2.2.2.2 0 f)))), (4, .int (nI ((fltN u.1 f) + ((chkA u.1 f).1)))), (3, .int (nI ((canN u.1 f) + 1))), (2, .int (nI ((cntB (u.1.1 2) f) + if hasB (u.1.1 2) f = true then 1 else 0))), (7, .int (nI 1)), (6, .int (nI f)), (0, .ref (b + 0)), (1, .ref (bb + 0))]) hx hb dL_areFunctionsRight_97 hl (by decide) rfl (fun ls hl => ?_)
      refine lv_iconst (v := nI 0) hx hb dL_areFunctionsRight_99 (by decide) ?_
      refine lv_istore (lv' := [(9, .int (nI 0)), (8, .int (nI 0)), (5, .int (nI ((totR u.2.2.2.2.2 0 f) + (u.2.2.2.2.2 0 f)))), (4, .int (nI ((fltN u.1 f) + ((chkA u.1 f).1)))), (3, .int (nI ((canN u.1 f) + 1))), (2, .int (nI ((cntB (u.1.1 2) f) + if hasB (u.1.1 2) f = true then 1 else 0))), (7, .int (nI 1)), (6, .int (nI f)), (0, .ref (b + 0)), (1, .ref (bb + 0))]) hx hb dL_areFunctionsRight_100 hl (by decide) rfl (fun ls hl => ?_)
      refine lv_iconst (v := (-1)) hx hb dL_areFunctionsRight_102 (by decide) ?_
      refine lv_istore (lv' := [(10, .int (-1)), (9, .int (nI 0)), (8, .int (nI 0)), (5, .int (nI ((totR u.2.2.2.2.2 0 f) + (u.2.2.2.2.2 0 f)))), (4, .int (nI ((fltN u.1 f) + ((chkA u.1 f).1)))), (3, .int (nI ((canN u.1 f) + 1))), (2, .int (nI ((cntB (u.1.1 2) f) + if hasB (u.1.1 2) f = true then 1 else 0))), (7, .int (nI 1)), (6, .int (nI f)), (0, .ref (b + 0)), (1, .ref (bb + 0))]) hx hb dL_areFunctionsRight_103 hl (by decide) rfl (fun ls hl => ?_)
      have key175 : ∀ (fu : Nat) (j : Nat) (F2 : FT), (j ≤ u.1.1 1 + 1) → (u.1.1 1 + 1 - j) < fu → ∀ (H : Heap) (locs : List Loc), ts_W D b 52 (cel q b (u.1, F2, u.2.2.1, u.2.2.2)) H → va_S (ts_AB b bb s.heap.size) s.heap H locs → Bl D q bb g H → bb < H.size → ∀ ls : Array Slot, lv_has ls 13 [(10, .int (zI j)), (9, .int (nI 0)), (8, .int (nI (sumN u.2.2.2.2.2 f j))), (5, .int (nI ((totR u.2.2.2.2.2 0 f) + (u.2.2.2.2.2 0 f)))), (4, .int (nI ((fltN u.1 f) + ((chkA u.1 f).1)))), (3, .int (nI ((canN u.1 f) + 1))), (2, .int (nI ((cntB (u.1.1 2) f) + if hasB (u.1.1 2) f = true then 1 else 0))), (7, .int (nI 1)), (6, .int (nI f)), (0, .ref (b + 0)), (1, .ref (bb + 0))] → W p l e ({ frames := 5, cells := 0, slots := 0, locals := 109 } : Room) s m [.ref (b + 0), .ref (bb + 0)].toArray below meth c H locs 0 0 (MQ below (cB D q b bb s.heap.size (fun r v => r = nI 1 ∧ ∃ F : FT, v = ((u.1, F, u.2.2), g))) [.ref (b + 0), .ref (bb + 0)].toArray s 0 0 (ts_AB b bb s.heap.size)) (F0 m 105 ls []) := by
        intro fu
        induction fu with
        | zero => intro j F2 _ hn; exact absurd hn (Nat.not_lt_zero _)
        | succ fu ih176 =>
          intro j F2 hj hn H locs hW hS hV hbz ls hl
          refine lv_iload hx hb dL_areFunctionsRight_105 (lv_at hl 0 rfl) ?_
          refine lv_aload_n hx hb dL_areFunctionsRight_107 rfl (lv_at hl 9 rfl) ?_
          refine lv_iconst (v := nI 0) hx hb dL_areFunctionsRight_108 (by decide) ?_
          refine ts_retI (va_runV (As := [.int (nI 0)]) (rest := [.int (zI j)]) ⟨hx, hb, hml, hown, hts⟩ (k_X5_many l D q b H.size (u.1, F2, u.2.2.1, u.2.2.2) 0 hwf (by omega)) (cwV 1 hts gL_areFunctionsRight_X5_many rfl rfl rfl (by decide +kernel) ⟨Nat.le_of_ble_eq_true rfl, Nat.le_of_ble_eq_true rfl⟩) (ts_preV hK hN hW 0 (by decide) cel_st rfl) rfl rfl hl.1 rfl (lv_room (Nat.le_of_ble_eq_true rfl)) dL_areFunctionsRight_109 ⟨Nat.zero_le _, Nat.zero_le _⟩) hS (fun x h => Or.inl (ts_Aup hS.1 h)) (fun r177 u178 H locs hp179 hW hz hk hS => ?_)
          have hV := ts_kept hV (fun x h1 h2 => hk x (by omega) (fun h => by unfold ts_A at h; omega))
          have hbz := Nat.lt_of_lt_of_le hbz hz
          obtain ⟨hp179r, F180, hp179u⟩ := hp179
          have hp179r : r177 = nI (u.1.1 1) := hp179r
          have hp179u : u178 = (u.1, F180, u.2.2.1, u.2.2.2) := hp179u
          rw [hp179r]
          rw [hp179u] at hW
          refine lv_icmp_ge (tgt := 134) hx hb dL_areFunctionsRight_112 (by decide) (fun c181 => ?_) (fun c181 => ?_)
          · skip
            rw [zI_le (by omega) (by omega)] at c181
            refine lv_iconst (v := nI 0) hx hb dL_areFunctionsRight_134 (by decide) ?_
            refine lv_istore (lv' := [(10, .int (nI 0)), (9, .int (nI 0)), (8, .int (nI (sumN u.2.2.2.2.2 f j))), (5, .int (nI ((totR u.2.2.2.2.2 0 f) + (u.2.2.2.2.2 0 f)))), (4, .int (nI ((fltN u.1 f) + ((chkA u.1 f).1)))), (3, .int (nI ((canN u.1 f) + 1))), (2, .int (nI ((cntB (u.1.1 2) f) + if hasB (u.1.1 2) f = true then 1 else 0))), (7, .int (nI 1)), (6, .int (nI f)), (0, .ref (b + 0)), (1, .ref (bb + 0))]) hx hb dL_areFunctionsRight_135 hl (by decide) rfl (fun ls hl => ?_)
            have key182 : ∀ (fu : Nat) (k : Nat) (F3 : FT), (k ≤ u.1.1 1) → (u.1.1 1 - k) < fu → ∀ (H : Heap) (locs : List Loc), ts_W D b 52 (cel q b (u.1, F3, u.2.2.1, u.2.2.2)) H → va_S (ts_AB b bb s.heap.size) s.heap H locs → Bl D q bb g H → bb < H.size → ∀ ls : Array Slot, lv_has ls 13 [(10, .int (nI k)), (9, .int (nI (calN u.1 f k))), (8, .int (nI (sumN u.2.2.2.2.2 f j))), (5, .int (nI ((totR u.2.2.2.2.2 0 f) + (u.2.2.2.2.2 0 f)))), (4, .int (nI ((fltN u.1 f) + ((chkA u.1 f).1)))), (3, .int (nI ((canN u.1 f) + 1))), (2, .int (nI ((cntB (u.1.1 2) f) + if hasB (u.1.1 2) f = true then 1 else 0))), (7, .int (nI 1)), (6, .int (nI f)), (0, .ref (b + 0)), (1, .ref (bb + 0))] → W p l e ({ frames := 5, cells := 0, slots := 0, locals := 109 } : Room) s m [.ref (b + 0), .ref (bb + 0)].toArray below meth c H locs 0 0 (MQ below (cB D q b bb s.heap.size (fun r v => r = nI 1 ∧ ∃ F : FT, v = ((u.1, F, u.2.2), g))) [.ref (b + 0), .ref (bb + 0)].toArray s 0 0 (ts_AB b bb s.heap.size)) (F0 m 137 ls []) := by
              intro fu
              induction fu with
              | zero => intro k F3 _ hn; exact absurd hn (Nat.not_lt_zero _)
              | succ fu ih183 =>
                intro k F3 hk hn H locs hW hS hV hbz ls hl
                refine lv_iload hx hb dL_areFunctionsRight_137 (lv_at hl 0 rfl) ?_
                refine lv_aload_n hx hb dL_areFunctionsRight_139 rfl (lv_at hl 9 rfl) ?_
                refine lv_iconst (v := nI 0) hx hb dL_areFunctionsRight_140 (by decide) ?_
                refine ts_retI (va_runV (As := [.int (nI 0)]) (rest := [.int (nI k)]) ⟨hx, hb, hml, hown, hts⟩ (k_X5_many l D q b H.size (u.1, F3, u.2.2.1, u.2.2.2) 0 hwf (by omega)) (cwV 1 hts gL_areFunctionsRight_X5_many rfl rfl rfl (by decide +kernel) ⟨Nat.le_of_ble_eq_true rfl, Nat.le_of_ble_eq_true rfl⟩) (ts_preV hK hN hW 0 (by decide) cel_st rfl) rfl rfl hl.1 rfl (lv_room (Nat.le_of_ble_eq_true rfl)) dL_areFunctionsRight_141 ⟨Nat.zero_le _, Nat.zero_le _⟩) hS (fun x h => Or.inl (ts_Aup hS.1 h)) (fun r184 u185 H locs hp186 hW hz hk hS => ?_)
                have hV := ts_kept hV (fun x h1 h2 => hk x (by omega) (fun h => by unfold ts_A at h; omega))
                have hbz := Nat.lt_of_lt_of_le hbz hz
                obtain ⟨hp186r, F187, hp186u⟩ := hp186
                have hp186r : r184 = nI (u.1.1 1) := hp186r
                have hp186u : u185 = (u.1, F187, u.2.2.1, u.2.2.2) := hp186u
                rw [hp186r]
                rw [hp186u] at hW
                refine lv_icmp_ge (tgt := 225) hx hb dL_areFunctionsRight_144 (by decide) (fun c188 => ?_) (fun c188 => ?_)
                · skip
                  rw [nI_leI (by omega) (by omega)] at c188
                  refine lv_aload_n hx hb dL_areFunctionsRight_225 rfl (lv_at hl 9 rfl) ?_
                  refine lv_iload hx hb dL_areFunctionsRight_226 (lv_at hl 8 rfl) ?_
                  refine lv_iconst (v := nI 3) hx hb dL_areFunctionsRight_228 (by decide) ?_
                  refine ts_retI (va_runV (As := [.int (nI f), .int (nI 3)]) (rest := []) ⟨hx, hb, hml, hown, hts⟩ (k_X5_ofFunction l D q b H.size (u.1, F187, u.2.2.1, u.2.2.2) f 3 hwf (by show f < u.1.1 1; omega) (by omega)) (cwV 2 hts gL_areFunctionsRight_X5_ofFunction rfl rfl rfl (by decide +kernel) ⟨Nat.le_of_ble_eq_true rfl, Nat.le_of_ble_eq_true rfl⟩) (ts_preV hK hN hW 0 (by decide) cel_st rfl) rfl rfl hl.1 rfl (lv_room (Nat.le_of_ble_eq_true rfl)) dL_areFunctionsRight_229 ⟨Nat.zero_le _, Nat.zero_le _⟩) hS (fun x h => Or.inl (ts_Aup hS.1 h)) (fun r189 u190 H locs hp191 hW hz hk hS => ?_)
                  have hV := ts_kept hV (fun x h1 h2 => hk x (by omega) (fun h => by unfold ts_A at h; omega))
                  have hbz := Nat.lt_of_lt_of_le hbz hz
                  obtain ⟨hp191r, F192, hp191u⟩ := hp191
                  have hp191r : r189 = b2i (hasB (u.1.1 2) f) := hp191r
                  have hp191u : u190 = (u.1, F192, u.2.2.1, u.2.2.2) := hp191u
                  rw [hp191r]
                  rw [hp191u] at hW
                  refine lv_iconst (v := nI 1) hx hb dL_areFunctionsRight_232 (by decide) ?_
                  refine lv_icmp_ne (tgt := 241) hx hb dL_areFunctionsRight_233 (by decide) (fun c193 => ?_) (fun c193 => ?_)
                  · skip
                    rw [ts_b1] at c193
                    refine lv_aload_n hx hb dL_areFunctionsRight_241 rfl (lv_at hl 9 rfl) ?_
                    refine lv_iload hx hb dL_areFunctionsRight_242 (lv_at hl 8 rfl) ?_
                    refine lv_bipush (v := nI 10) hx hb dL_areFunctionsRight_244 (by decide) ?_
                    refine ts_retI (va_runV (As := [.int (nI f), .int (nI 10)]) (rest := []) ⟨hx, hb, hml, hown, hts⟩ (k_X5_ofFunction l D q b H.size (u.1, F192, u.2.2.1, u.2.2.2) f 10 hwf (by show f < u.1.1 1; omega) (by omega)) (cwV 2 hts gL_areFunctionsRight_X5_ofFunction rfl rfl rfl (by decide +kernel) ⟨Nat.le_of_ble_eq_true rfl, Nat.le_of_ble_eq_true rfl⟩) (ts_preV hK hN hW 0 (by decide) cel_st rfl) rfl rfl hl.1 rfl (lv_room (Nat.le_of_ble_eq_true rfl)) dL_areFunctionsRight_246 ⟨Nat.zero_le _, Nat.zero_le _⟩) hS (fun x h => Or.inl (ts_Aup hS.1 h)) (fun r194 u195 H locs hp196 hW hz hk hS => ?_)
                    have hV := ts_kept hV (fun x h1 h2 => hk x (by omega) (fun h => by unfold ts_A at h; omega))
                    have hbz := Nat.lt_of_lt_of_le hbz hz
                    obtain ⟨hp196r, F197, hp196u⟩ := hp196
                    have hp196r : r194 = nI (sumN u.2.2.2.2.2 f 11) := hp196r
                    have hp196u : u195 = (u.1, F197, u.2.2.1, u.2.2.2) := hp196u
                    rw [hp196r]
                    rw [hp196u] at hW
                    refine lv_iload hx hb dL_areFunctionsRight_249 (lv_at hl 2 rfl) ?_
                    refine lv_icmp_ne (tgt := 331) hx hb dL_areFunctionsRight_251 (by decide) (fun c198 => ?_) (fun c198 => ?_)
                    · skip
                      exact absurd (congrArg nI ((sumN_tail (fun r h1 h2 => hrz r h1 h2 f) 11 (by omega) (by omega)).trans (by rw [show j = u.1.1 1 + 1 by omega]))) c198
                    refine lv_aload_n hx hb dL_areFunctionsRight_254 rfl (lv_at hl 9 rfl) ?_
                    refine lv_iload hx hb dL_areFunctionsRight_255 (lv_at hl 8 rfl) ?_
                    refine lv_bipush (v := nI 9) hx hb dL_areFunctionsRight_257 (by decide) ?_
                    refine ts_retI (va_runV (As := [.int (nI f), .int (nI 9)]) (rest := []) ⟨hx, hb, hml, hown, hts⟩ (k_X5_ofFunction l D q b H.size (u.1, F197, u.2.2.1, u.2.2.2) f 9 hwf (by show f < u.1.1 1; omega) (by omega)) (cwV 2 hts gL_areFunctionsRight_X5_ofFunction rfl rfl rfl (by decide +kernel) ⟨Nat.le_of_ble_eq_true rfl, Nat.le_of_ble_eq_true rfl⟩) (ts_preV hK hN hW 0 (by decide) cel_st rfl) rfl rfl hl.1 rfl (lv_room (Nat.le_of_ble_eq_true rfl)) dL_areFunctionsRight_259 ⟨Nat.zero_le _, Nat.zero_le _⟩) hS (fun x h => Or.inl (ts_Aup hS.1 h)) (fun r199 u200 H locs hp201 hW hz hk hS => ?_)
                    have hV := ts_kept hV (fun x h1 h2 => hk x (by omega) (fun h => by unfold ts_A at h; omega))
                    have hbz := Nat.lt_of_lt_of_le hbz hz
                    obtain ⟨hp201r, F202, hp201u⟩ := hp201
                    have hp201r : r199 = nI (calN u.1 f (u.1.1 1)) := hp201r
                    have hp201u : u200 = (u.1, F202, u.2.2.1, u.2.2.2) := hp201u
                    rw [hp201r]
                    rw [hp201u] at hW
                    refine lv_iload hx hb dL_areFunctionsRight_262 (lv_at hl 1 rfl) ?_
                    refine lv_icmp_ne (tgt := 331) hx hb dL_areFunctionsRight_264 (by decide) (fun c203 => ?_) (fun c203 => ?_)
                    · skip
                      exact absurd (congrArg nI (by rw [show k = u.1.1 1 by omega])) c203
                    refine lv_aload_n hx hb dL_areFunctionsRight_267 rfl (lv_at hl 9 rfl) ?_
                    refine lv_iload hx hb dL_areFunctionsRight_268 (lv_at hl 8 rfl) ?_
                    refine ts_retI (va_runV (As := [.int (nI f)]) (rest := []) ⟨hx, hb, hml, hown, hts⟩ (k_X5_blamed l D q b H.size (u.1, F202, u.2.2.1, u.2.2.2) f hwf (by show f < u.1.1 1; omega)) (cwV 1 hts gL_areFunctionsRight_X5_blamed rfl rfl rfl (by decide +kernel) ⟨Nat.le_of_ble_eq_true rfl, Nat.le_of_ble_eq_true rfl⟩) (ts_preV hK hN hW 0 (by decide) cel_st rfl) rfl rfl hl.1 rfl (lv_room (Nat.le_of_ble_eq_true rfl)) dL_areFunctionsRight_270 ⟨Nat.zero_le _, Nat.zero_le _⟩) hS (fun x h => Or.inl (ts_Aup hS.1 h)) (fun r204 u205 H locs hp206 hW hz hk hS => ?_)
                    have hV := ts_kept hV (fun x h1 h2 => hk x (by omega) (fun h => by unfold ts_A at h; omega))
                    have hbz := Nat.lt_of_lt_of_le hbz hz
                    have hp206r : r204 = nI (u.2.2.2.2.2 11 f) := hp206.1
                    have hp206u : u205 = (u.1, F202, u.2.2.1, u.2.2.2) := hp206.2
                    rw [hp206r]
                    rw [hp206u] at hW
                    refine lv_aload_n hx hb dL_areFunctionsRight_273 rfl (lv_at hl 10 rfl) ?_
                    refine lv_iload hx hb dL_areFunctionsRight_274 (lv_at hl 8 rfl) ?_
                    refine ts_iald (v := nI (g f)) hx hb hK hV 0 (by decide) 0 rfl rfl (by omega) (by decide) rfl dL_areFunctionsRight_276 ?_
                    refine lv_icmp_ne (tgt := 331) hx hb dL_areFunctionsRight_277 (by decide) (fun c207 => ?_) (fun c207 => ?_)
                    · skip
                      exact absurd (congrArg nI (hg f (by omega)).symm) c207
                    refine lv_aload_n hx hb dL_areFunctionsRight_280 rfl (lv_at hl 9 rfl) ?_
                    refine lv_iload hx hb dL_areFunctionsRight_281 (lv_at hl 8 rfl) ?_
                    refine lv_iconst (v := nI 5) hx hb dL_areFunctionsRight_283 (by decide) ?_
                    refine ts_retI (va_runV (As := [.int (nI f), .int (nI 5)]) (rest := []) ⟨hx, hb, hml, hown, hts⟩ (k_X5_ofFunction l D q b H.size (u.1, F202, u.2.2.1, u.2.2.2) f 5 hwf (by show f < u.1.1 1; omega) (by omega)) (cwV 2 hts gL_areFunctionsRight_X5_ofFunction rfl rfl rfl (by decide +kernel) ⟨Nat.le_of_ble_eq_true rfl, Nat.le_of_ble_eq_true rfl⟩) (ts_preV hK hN hW 0 (by decide) cel_st rfl) rfl rfl hl.1 rfl (lv_room (Nat.le_of_ble_eq_true rfl)) dL_areFunctionsRight_284 ⟨Nat.zero_le _, Nat.zero_le _⟩) hS (fun x h => Or.inl (ts_Aup hS.1 h)) (fun r208 u209 H locs hp210 hW hz hk hS => ?_)
                    have hV := ts_kept hV (fun x h1 h2 => hk x (by omega) (fun h => by unfold ts_A at h; omega))
                    have hbz := Nat.lt_of_lt_of_le hbz hz
                    obtain ⟨hp210r, F211, hp210u⟩ := hp210
                    have hp210r : r208 = (chkA u.1 f).2.1 := hp210r
                    have hp210u : u209 = (u.1, F211, u.2.2.1, u.2.2.2) := hp210u
                    rw [hp210r]
                    rw [hp210u] at hW
                    refine lv_iconst (v := (-1)) hx hb dL_areFunctionsRight_287 (by decide) ?_
                    refine lv_icmp_ne (tgt := 295) hx hb dL_areFunctionsRight_288 (by decide) (fun c212 => ?_) (fun c212 => ?_)
                    · skip
                      have hq5 := c212
                      refine lv_iconst (v := nI 0) hx hb dL_areFunctionsRight_295 (by decide) ?_
                      refine lv_aload_n hx hb dL_areFunctionsRight_296 rfl (lv_at hl 9 rfl) ?_
                      refine lv_iload hx hb dL_areFunctionsRight_297 (lv_at hl 8 rfl) ?_
                      refine lv_iconst (v := nI 4) hx hb dL_areFunctionsRight_299 (by decide) ?_
                      refine ts_retI (va_runV (As := [.int (nI f), .int (nI 4)]) (rest := [.int (nI 0)]) ⟨hx, hb, hml, hown, hts⟩ (k_X5_ofFunction l D q b H.size (u.1, F211, u.2.2.1, u.2.2.2) f 4 hwf (by show f < u.1.1 1; omega) (by omega)) (cwV 2 hts gL_areFunctionsRight_X5_ofFunction rfl rfl rfl (by decide +kernel) ⟨Nat.le_of_ble_eq_true rfl, Nat.le_of_ble_eq_true rfl⟩) (ts_preV hK hN hW 0 (by decide) cel_st rfl) rfl rfl hl.1 rfl (lv_room (Nat.le_of_ble_eq_true rfl)) dL_areFunctionsRight_300 ⟨Nat.zero_le _, Nat.zero_le _⟩) hS (fun x h => Or.inl (ts_Aup hS.1 h)) (fun r213 u214 H locs hp215 hW hz hk hS => ?_)
                      have hV := ts_kept hV (fun x h1 h2 => hk x (by omega) (fun h => by unfold ts_A at h; omega))
                      have hbz := Nat.lt_of_lt_of_le hbz hz
                      obtain ⟨hp215r, F216, hp215u⟩ := hp215
                      have hp215r : r213 = nI ((chkA u.1 f).1) := hp215r
                      have hp215u : u214 = (u.1, F216, u.2.2.1, u.2.2.2) := hp215u
                      rw [hp215r]
                      rw [hp215u] at hW
                      refine lv_if_ne (tgt := 310) hx hb dL_areFunctionsRight_303 (by decide) (fun c217 => ?_) (fun c217 => ?_)
                      · skip
                        rw [ts_eq0 (by omega)] at c217
                        have hq6 := c217
                        refine lv_iconst (v := nI 0) hx hb dL_areFunctionsRight_310 (by decide) ?_
                        refine lv_icmp_ne (tgt := 331) hx hb dL_areFunctionsRight_311 (by decide) (fun c218 => ?_) (fun c218 => ?_)
                        · skip
                          exfalso; revert c218; decide
                        refine lv_aload_n hx hb dL_areFunctionsRight_314 rfl (lv_at hl 9 rfl) ?_
                        refine lv_iload hx hb dL_areFunctionsRight_315 (lv_at hl 8 rfl) ?_
                        refine lv_iconst (v := nI 5) hx hb dL_areFunctionsRight_317 (by decide) ?_
                        refine ts_retI (va_runV (As := [.int (nI f), .int (nI 5)]) (rest := []) ⟨hx, hb, hml, hown, hts⟩ (k_X5_ofFunction l D q b H.size (u.1, F216, u.2.2.1, u.2.2.2) f 5 hwf (by show f < u.1.1 1; omega) (by omega)) (cwV 2 hts gL_areFunctionsRight_X5_ofFunction rfl rfl rfl (by decide +kernel) ⟨Nat.le_of_ble_eq_true rfl, Nat.le_of_ble_eq_true rfl⟩) (ts_preV hK hN hW 0 (by decide) cel_st rfl) rfl rfl hl.1 rfl (lv_room (Nat.le_of_ble_eq_true rfl)) dL_areFunctionsRight_318 ⟨Nat.zero_le _, Nat.zero_le _⟩) hS (fun x h => Or.inl (ts_Aup hS.1 h)) (fun r219 u220 H locs hp221 hW hz hk hS => ?_)
                        have hV := ts_kept hV (fun x h1 h2 => hk x (by omega) (fun h => by unfold ts_A at h; omega))
                        have hbz := Nat.lt_of_lt_of_le hbz hz
                        obtain ⟨hp221r, F222, hp221u⟩ := hp221
                        have hp221r : r219 = (chkA u.1 f).2.1 := hp221r
                        have hp221u : u220 = (u.1, F222, u.2.2.1, u.2.2.2) := hp221u
                        rw [hp221r]
                        rw [hp221u] at hW
                        refine lv_aload_n hx hb dL_areFunctionsRight_321 rfl (lv_at hl 9 rfl) ?_
                        refine lv_iload hx hb dL_areFunctionsRight_322 (lv_at hl 8 rfl) ?_
                        refine lv_iconst (v := nI 0) hx hb dL_areFunctionsRight_324 (by decide) ?_
                        refine ts_retI (va_runV (As := [.int (nI f), .int (nI 0)]) (rest := [.int ((chkA u.1 f).2.1)]) ⟨hx, hb, hml, hown, hts⟩ (k_X5_ofFunction l D q b H.size (u.1, F222, u.2.2.1, u.2.2.2) f 0 hwf (by show f < u.1.1 1; omega) (by omega)) (cwV 2 hts gL_areFunctionsRight_X5_ofFunction rfl rfl rfl (by decide +kernel) ⟨Nat.le_of_ble_eq_true rfl, Nat.le_of_ble_eq_true rfl⟩) (ts_preV hK hN hW 0 (by decide) cel_st rfl) rfl rfl hl.1 rfl (lv_room (Nat.le_of_ble_eq_true rfl)) dL_areFunctionsRight_325 ⟨Nat.zero_le _, Nat.zero_le _⟩) hS (fun x h => Or.inl (ts_Aup hS.1 h)) (fun r223 u224 H locs hp225 hW hz hk hS => ?_)
                        have hV := ts_kept hV (fun x h1 h2 => hk x (by omega) (fun h => by unfold ts_A at h; omega))
                        have hbz := Nat.lt_of_lt_of_le hbz hz
                        obtain ⟨hp225r, F226, hp225u⟩ := hp225
                        have hp225r : r223 = nI (u.1.1 (20 + f)) := hp225r
                        have hp225u : u224 = (u.1, F226, u.2.2.1, u.2.2.2) := hp225u
                        rw [hp225r]
                        rw [hp225u] at hW
                        refine lv_icmp_le (tgt := 333) hx hb dL_areFunctionsRight_328 (by decide) (fun c227 => ?_) (fun c227 => ?_)
                        · skip
                          refine lv_iinc (v := nI (f + 1)) (lv' := [(6, .int (nI (f + 1))), (10, .int (nI k)), (9, .int (nI (calN u.1 f k))), (8, .int (nI (sumN u.2.2.2.2.2 f j))), (5, .int (nI ((totR u.2.2.2.2.2 0 f) + (u.2.2.2.2.2 0 f)))), (4, .int (nI ((fltN u.1 f) + ((chkA u.1 f).1)))), (3, .int (nI ((canN u.1 f) + 1))), (2, .int (nI ((cntB (u.1.1 2) f) + if hasB (u.1.1 2) f = true then 1 else 0))), (7, .int (nI 1)), (0, .ref (b + 0)), (1, .ref (bb + 0))]) hx hb dL_areFunctionsRight_333 hl (k := 8) rfl (nI_add f 1) (by decide) rfl (fun ls hl => ?_)
                          refine lv_goto (tgt := 13) hx hb dL_areFunctionsRight_336 (by decide) ?_
                          have e228 : totR u.2.2.2.2.2 0 (f + 1) = (totR u.2.2.2.2.2 0 f) + (u.2.2.2.2.2 0 f) := by first | rfl | (simp [canN, hok]; done)
                          have e229 : fltN u.1 (f + 1) = (fltN u.1 f) + ((chkA u.1 f).1) := by first | rfl | (simp [canN, hok]; done)
                          have e230 : canN u.1 (f + 1) = (canN u.1 f) + 1 := by first | rfl | (simp [canN, hok]; done)
                          have e231 : cntB (u.1.1 2) (f + 1) = (cntB (u.1.1 2) f) + if hasB (u.1.1 2) f = true then 1 else 0 := by first | rfl | (simp [canN, hok]; done)
                          exact ih2 (f + 1) F226 (by omega) (by omega) H locs hW hS hV hbz ls (show lv_has ls 13 [(6, .int (nI (f + 1))), (5, .int (nI (totR u.2.2.2.2.2 0 (f + 1)))), (4, .int (nI (fltN u.1 (f + 1)))), (3, .int (nI (canN u.1 (f + 1)))), (2, .int (nI (cntB (u.1.1 2) (f + 1)))), (0, .ref (b + 0)), (1, .ref (bb + 0))] from by rw [e228, e229, e230, e231]; exact lv_sub hl [0, 4, 5, 6, 7, 9, 10] rfl)
                        exact absurd hcf.2 c227
                      rw [ts_eq0 (by omega)] at c217
                      have hq6 := c217
                      refine lv_iconst (v := nI 1) hx hb dL_areFunctionsRight_306 (by decide) ?_
                      refine lv_goto (tgt := 311) hx hb dL_areFunctionsRight_307 (by decide) ?_
                      refine lv_icmp_ne (tgt := 331) hx hb dL_areFunctionsRight_311 (by decide) (fun c232 => ?_) (fun c232 => ?_)
                      · skip
                        refine lv_iconst (v := nI 0) hx hb dL_areFunctionsRight_331 (by decide) ?_
                        exfalso; first | exact hcn (okF_to (hty _ hb9).2) | exact hq5 (hcf.1.mpr hq6) | exact hq6 (hcf.1.mp hq5)
                      exfalso; revert c232; decide
                    have hq5 := c212
                    refine lv_iconst (v := nI 1) hx hb dL_areFunctionsRight_291 (by decide) ?_
                    refine lv_goto (tgt := 296) hx hb dL_areFunctionsRight_292 (by decide) ?_
                    refine lv_aload_n hx hb dL_areFunctionsRight_296 rfl (lv_at hl 9 rfl) ?_
                    refine lv_iload hx hb dL_areFunctionsRight_297 (lv_at hl 8 rfl) ?_
                    refine lv_iconst (v := nI 4) hx hb dL_areFunctionsRight_299 (by decide) ?_
                    refine ts_retI (va_runV (As := [.int (nI f), .int (nI 4)]) (rest := [.int (nI 1)]) ⟨hx, hb, hml, hown, hts⟩ (k_X5_ofFunction l D q b H.size (u.1, F211, u.2.2.1, u.2.2.2) f 4 hwf (by show f < u.1.1 1; omega) (by omega)) (cwV 2 hts gL_areFunctionsRight_X5_ofFunction rfl rfl rfl (by decide +kernel) ⟨Nat.le_of_ble_eq_true rfl, Nat.le_of_ble_eq_true rfl⟩) (ts_preV hK hN hW 0 (by decide) cel_st rfl) rfl rfl hl.1 rfl (lv_room (Nat.le_of_ble_eq_true rfl)) dL_areFunctionsRight_300 ⟨Nat.zero_le _, Nat.zero_le _⟩) hS (fun x h => Or.inl (ts_Aup hS.1 h)) (fun r233 u234 H locs hp235 hW hz hk hS => ?_)
                    have hV := ts_kept hV (fun x h1 h2 => hk x (by omega) (fun h => by unfold ts_A at h; omega))
                    have hbz := Nat.lt_of_lt_of_le hbz hz
                    obtain ⟨hp235r, F236, hp235u⟩ := hp235
                    have hp235r : r233 = nI ((chkA u.1 f).1) := hp235r
                    have hp235u : u234 = (u.1, F236, u.2.2.1, u.2.2.2) := hp235u
                    rw [hp235r]
                    rw [hp235u] at hW
                    refine lv_if_ne (tgt := 310) hx hb dL_areFunctionsRight_303 (by decide) (fun c237 => ?_) (fun c237 => ?_)
                    · skip
                      rw [ts_eq0 (by omega)] at c237
                      have hq6 := c237
                      refine lv_iconst (v := nI 0) hx hb dL_areFunctionsRight_310 (by decide) ?_
                      refine lv_icmp_ne (tgt := 331) hx hb dL_areFunctionsRight_311 (by decide) (fun c238 => ?_) (fun c238 => ?_)
                      · skip
                        refine lv_iconst (v := nI 0) hx hb dL_areFunctionsRight_331 (by decide) ?_
                        exfalso; first | exact hcn (okF_to (hty _ hb9).2) | exact hq5 (hcf.1.mpr hq6) | exact hq6 (hcf.1.mp hq5)
                      exfalso; revert c238; decide
                    rw [ts_eq0 (by omega)] at c237
                    have hq6 := c237
                    refine lv_iconst (v := nI 1) hx hb dL_areFunctionsRight_306 (by decide) ?_
                    refine lv_goto (tgt := 311) hx hb dL_areFunctionsRight_307 (by decide) ?_
                    refine lv_icmp_ne (tgt := 331) hx hb dL_areFunctionsRight_311 (by decide) (fun c239 => ?_) (fun c239 => ?_)
                    · skip
                      exfalso; revert c239; decide
                    refine lv_aload_n hx hb dL_areFunctionsRight_314 rfl (lv_at hl 9 rfl) ?_
                    refine lv_iload hx hb dL_areFunctionsRight_315 (lv_at hl 8 rfl) ?_
                    refine lv_iconst (v := nI 5) hx hb dL_areFunctionsRight_317 (by decide) ?_
                    refine ts_retI (va_runV (As := [.int (nI f), .int (nI 5)]) (rest := []) ⟨hx, hb, hml, hown, hts⟩ (k_X5_ofFunction l D q b H.size (u.1, F236, u.2.2.1, u.2.2.2) f 5 hwf (by show f < u.1.1 1; omega) (by omega)) (cwV 2 hts gL_areFunctionsRight_X5_ofFunction rfl rfl rfl (by decide +kernel) ⟨Nat.le_of_ble_eq_true rfl, Nat.le_of_ble_eq_true rfl⟩) (ts_preV hK hN hW 0 (by decide) cel_st rfl) rfl rfl hl.1 rfl (lv_room (Nat.le_of_ble_eq_true rfl)) dL_areFunctionsRight_318 ⟨Nat.zero_le _, Nat.zero_le _⟩) hS (fun x h => Or.inl (ts_Aup hS.1 h)) (fun r240 u241 H locs hp242 hW hz hk hS => ?_)
                    have hV := ts_kept hV (fun x h1 h2 => hk x (by omega) (fun h => by unfold ts_A at h; omega))
                    have hbz := Nat.lt_of_lt_of_le hbz hz
                    obtain ⟨hp242r, F243, hp242u⟩ := hp242
                    have hp242r : r240 = (chkA u.1 f).2.1 := hp242r
                    have hp242u : u241 = (u.1, F243, u.2.2.1, u.2.2.2) := hp242u
                    rw [hp242r]
                    rw [hp242u] at hW
                    refine lv_aload_n hx hb dL_areFunctionsRight_321 rfl (lv_at hl 9 rfl) ?_
                    refine lv_iload hx hb dL_areFunctionsRight_322 (lv_at hl 8 rfl) ?_
                    refine lv_iconst (v := nI 0) hx hb dL_areFunctionsRight_324 (by decide) ?_
                    refine ts_retI (va_runV (As := [.int (nI f), .int (nI 0)]) (rest := [.int ((chkA u.1 f).2.1)]) ⟨hx, hb, hml, hown, hts⟩ (k_X5_ofFunction l D q b H.size (u.1, F243, u.2.2.1, u.2.2.2) f 0 hwf (by show f < u.1.1 1; omega) (by omega)) (cwV 2 hts gL_areFunctionsRight_X5_ofFunction rfl rfl rfl (by decide +kernel) ⟨Nat.le_of_ble_eq_true rfl, Nat.le_of_ble_eq_true rfl⟩) (ts_preV hK hN hW 0 (by decide) cel_st rfl) rfl rfl hl.1 rfl (lv_room (Nat.le_of_ble_eq_true rfl)) dL_areFunctionsRight_325 ⟨Nat.zero_le _, Nat.zero_le _⟩) hS (fun x h => Or.inl (ts_Aup hS.1 h)) (fun r244 u245 H locs hp246 hW hz hk hS => ?_)
                    have hV := ts_kept hV (fun x h1 h2 => hk x (by omega) (fun h => by unfold ts_A at h; omega))
                    have hbz := Nat.lt_of_lt_of_le hbz hz
                    obtain ⟨hp246r, F247, hp246u⟩ := hp246
                    have hp246r : r244 = nI (u.1.1 (20 + f)) := hp246r
                    have hp246u : u245 = (u.1, F247, u.2.2.1, u.2.2.2) := hp246u
                    rw [hp246r]
                    rw [hp246u] at hW
                    refine lv_icmp_le (tgt := 333) hx hb dL_areFunctionsRight_328 (by decide) (fun c248 => ?_) (fun c248 => ?_)
                    · skip
                      refine lv_iinc (v := nI (f + 1)) (lv' := [(6, .int (nI (f + 1))), (10, .int (nI k)), (9, .int (nI (calN u.1 f k))), (8, .int (nI (sumN u.2.2.2.2.2 f j))), (5, .int (nI ((totR u.2.2.2.2.2 0 f) + (u.2.2.2.2.2 0 f)))), (4, .int (nI ((fltN u.1 f) + ((chkA u.1 f).1)))), (3, .int (nI ((canN u.1 f) + 1))), (2, .int (nI ((cntB (u.1.1 2) f) + if hasB (u.1.1 2) f = true then 1 else 0))), (7, .int (nI 1)), (0, .ref (b + 0)), (1, .ref (bb + 0))]) hx hb dL_areFunctionsRight_333 hl (k := 8) rfl (nI_add f 1) (by decide) rfl (fun ls hl => ?_)
                      refine lv_goto (tgt := 13) hx hb dL_areFunctionsRight_336 (by decide) ?_
                      have e249 : totR u.2.2.2.2.2 0 (f + 1) = (totR u.2.2.2.2.2 0 f) + (u.2.2.2.2.2 0 f) := by first | rfl | (simp [canN, hok]; done)
                      have e250 : fltN u.1 (f + 1) = (fltN u.1 f) + ((chkA u.1 f).1) := by first | rfl | (simp [canN, hok]; done)
                      have e251 : canN u.1 (f + 1) = (canN u.1 f) + 1 := by first | rfl | (simp [canN, hok]; done)
                      have e252 : cntB (u.1.1 2) (f + 1) = (cntB (u.1.1 2) f) + if hasB (u.1.1 2) f = true then 1 else 0 := by first | rfl | (simp [canN, hok]; done)
                      exact ih2 (f + 1) F247 (by omega) (by omega) H locs hW hS hV hbz ls (show lv_has ls 13 [(6, .int (nI (f + 1))), (5, .int (nI (totR u.2.2.2.2.2 0 (f + 1)))), (4, .int (nI (fltN u.1 (f + 1)))), (3, .int (nI (canN u.1 (f + 1)))), (2, .int (nI (cntB (u.1.1 2) (f + 1)))), (0, .ref (b + 0)), (1, .ref (bb + 0))] from by rw [e249, e250, e251, e252]; exact lv_sub hl [0, 4, 5, 6, 7, 9, 10] rfl)
                    exact absurd hcf.2 c248
                  rw [ts_b1] at c193
                  have hb9 := c193
                  refine lv_iload hx hb dL_areFunctionsRight_236 (lv_at hl 7 rfl) ?_
                  refine lv_if_eq (tgt := 331) hx hb dL_areFunctionsRight_238 (by decide) (fun c253 => ?_) (fun c253 => ?_)
                  · skip
                    exfalso; revert c253; decide
                  refine lv_aload_n hx hb dL_areFunctionsRight_241 rfl (lv_at hl 9 rfl) ?_
                  refine lv_iload hx hb dL_areFunctionsRight_242 (lv_at hl 8 rfl) ?_
                  refine lv_bipush (v := nI 10) hx hb dL_areFunctionsRight_244 (by decide) ?_
                  refine ts_retI (va_runV (As := [.int (nI f), .int (nI 10)]) (rest := []) ⟨hx, hb, hml, hown, hts⟩ (k_X5_ofFunction l D q b H.size (u.1, F192, u.2.2.1, u.2.2.2) f 10 hwf (by show f < u.1.1 1; omega) (by omega)) (cwV 2 hts gL_areFunctionsRight_X5_ofFunction rfl rfl rfl (by decide +kernel) ⟨Nat.le_of_ble_eq_true rfl, Nat.le_of_ble_eq_true rfl⟩) (ts_preV hK hN hW 0 (by decide) cel_st rfl) rfl rfl hl.1 rfl (lv_room (Nat.le_of_ble_eq_true rfl)) dL_areFunctionsRight_246 ⟨Nat.zero_le _, Nat.zero_le _⟩) hS (fun x h => Or.inl (ts_Aup hS.1 h)) (fun r254 u255 H locs hp256 hW hz hk hS => ?_)
                  have hV := ts_kept hV (fun x h1 h2 => hk x (by omega) (fun h => by unfold ts_A at h; omega))
                  have hbz := Nat.lt_of_lt_of_le hbz hz
                  obtain ⟨hp256r, F257, hp256u⟩ := hp256
                  have hp256r : r254 = nI (sumN u.2.2.2.2.2 f 11) := hp256r
                  have hp256u : u255 = (u.1, F257, u.2.2.1, u.2.2.2) := hp256u
                  rw [hp256r]
                  rw [hp256u] at hW
                  refine lv_iload hx hb dL_areFunctionsRight_249 (lv_at hl 2 rfl) ?_
                  refine lv_icmp_ne (tgt := 331) hx hb dL_areFunctionsRight_251 (by decide) (fun c258 => ?_) (fun c258 => ?_)
                  · skip
                    exact absurd (congrArg nI ((sumN_tail (fun r h1 h2 => hrz r h1 h2 f) 11 (by omega) (by omega)).trans (by rw [show j = u.1.1 1 + 1 by omega]))) c258
                  refine lv_aload_n hx hb dL_areFunctionsRight_254 rfl (lv_at hl 9 rfl) ?_
                  refine lv_iload hx hb dL_areFunctionsRight_255 (lv_at hl 8 rfl) ?_
                  refine lv_bipush (v := nI 9) hx hb dL_areFunctionsRight_257 (by decide) ?_
                  refine ts_retI (va_runV (As := [.int (nI f), .int (nI 9)]) (rest := []) ⟨hx, hb, hml, hown, hts⟩ (k_X5_ofFunction l D q b H.size (u.1, F257, u.2.2.1, u.2.2.2) f 9 hwf (by show f < u.1.1 1; omega) (by omega)) (cwV 2 hts gL_areFunctionsRight_X5_ofFunction rfl rfl rfl (by decide +kernel) ⟨Nat.le_of_ble_eq_true rfl, Nat.le_of_ble_eq_true rfl⟩) (ts_preV hK hN hW 0 (by decide) cel_st rfl) rfl rfl hl.1 rfl (lv_room (Nat.le_of_ble_eq_true rfl)) dL_areFunctionsRight_259 ⟨Nat.zero_le _, Nat.zero_le _⟩) hS (fun x h => Or.inl (ts_Aup hS.1 h)) (fun r259 u260 H locs hp261 hW hz hk hS => ?_)
                  have hV := ts_kept hV (fun x h1 h2 => hk x (by omega) (fun h => by unfold ts_A at h; omega))
                  have hbz := Nat.lt_of_lt_of_le hbz hz
                  obtain ⟨hp261r, F262, hp261u⟩ := hp261
                  have hp261r : r259 = nI (calN u.1 f (u.1.1 1)) := hp261r
                  have hp261u : u260 = (u.1, F262, u.2.2.1, u.2.2.2) := hp261u
                  rw [hp261r]
                  rw [hp261u] at hW
                  refine lv_iload hx hb dL_areFunctionsRight_262 (lv_at hl 1 rfl) ?_
                  refine lv_icmp_ne (tgt := 331) hx hb dL_areFunctionsRight_264 (by decide) (fun c263 => ?_) (fun c263 => ?_)
                  · skip
                    exact absurd (congrArg nI (by rw [show k = u.1.1 1 by omega])) c263
                  refine lv_aload_n hx hb dL_areFunctionsRight_267 rfl (lv_at hl 9 rfl) ?_
                  refine lv_iload hx hb dL_areFunctionsRight_268 (lv_at hl 8 rfl) ?_
                  refine ts_retI (va_runV (As := [.int (nI f)]) (rest := []) ⟨hx, hb, hml, hown, hts⟩ (k_X5_blamed l D q b H.size (u.1, F262, u.2.2.1, u.2.2.2) f hwf (by show f < u.1.1 1; omega)) (cwV 1 hts gL_areFunctionsRight_X5_blamed rfl rfl rfl (by decide +kernel) ⟨Nat.le_of_ble_eq_true rfl, Nat.le_of_ble_eq_true rfl⟩) (ts_preV hK hN hW 0 (by decide) cel_st rfl) rfl rfl hl.1 rfl (lv_room (Nat.le_of_ble_eq_true rfl)) dL_areFunctionsRight_270 ⟨Nat.zero_le _, Nat.zero_le _⟩) hS (fun x h => Or.inl (ts_Aup hS.1 h)) (fun r264 u265 H locs hp266 hW hz hk hS => ?_)
                  have hV := ts_kept hV (fun x h1 h2 => hk x (by omega) (fun h => by unfold ts_A at h; omega))
                  have hbz := Nat.lt_of_lt_of_le hbz hz
                  have hp266r : r264 = nI (u.2.2.2.2.2 11 f) := hp266.1
                  have hp266u : u265 = (u.1, F262, u.2.2.1, u.2.2.2) := hp266.2
                  rw [hp266r]
                  rw [hp266u] at hW
                  refine lv_aload_n hx hb dL_areFunctionsRight_273 rfl (lv_at hl 10 rfl) ?_
                  refine lv_iload hx hb dL_areFunctionsRight_274 (lv_at hl 8 rfl) ?_
                  refine ts_iald (v := nI (g f)) hx hb hK hV 0 (by decide) 0 rfl rfl (by omega) (by decide) rfl dL_areFunctionsRight_276 ?_
                  refine lv_icmp_ne (tgt := 331) hx hb dL_areFunctionsRight_277 (by decide) (fun c267 => ?_) (fun c267 => ?_)
                  · skip
                    exact absurd (congrArg nI (hg f (by omega)).symm) c267
                  refine lv_aload_n hx hb dL_areFunctionsRight_280 rfl (lv_at hl 9 rfl) ?_
                  refine lv_iload hx hb dL_areFunctionsRight_281 (lv_at hl 8 rfl) ?_
                  refine lv_iconst (v := nI 5) hx hb dL_areFunctionsRight_283 (by decide) ?_
                  refine ts_retI (va_runV (As := [.int (nI f), .int (nI 5)]) (rest := []) ⟨hx, hb, hml, hown, hts⟩ (k_X5_ofFunction l D q b H.size (u.1, F262, u.2.2.1, u.2.2.2) f 5 hwf (by show f < u.1.1 1; omega) (by omega)) (cwV 2 hts gL_areFunctionsRight_X5_ofFunction rfl rfl rfl (by decide +kernel) ⟨Nat.le_of_ble_eq_true rfl, Nat.le_of_ble_eq_true rfl⟩) (ts_preV hK hN hW 0 (by decide) cel_st rfl) rfl rfl hl.1 rfl (lv_room (Nat.le_of_ble_eq_true rfl)) dL_areFunctionsRight_284 ⟨Nat.zero_le _, Nat.zero_le _⟩) hS (fun x h => Or.inl (ts_Aup hS.1 h)) (fun r268 u269 H locs hp270 hW hz hk hS => ?_)
                  have hV := ts_kept hV (fun x h1 h2 => hk x (by omega) (fun h => by unfold ts_A at h; omega))
                  have hbz := Nat.lt_of_lt_of_le hbz hz
                  obtain ⟨hp270r, F271, hp270u⟩ := hp270
                  have hp270r : r268 = (chkA u.1 f).2.1 := hp270r
                  have hp270u : u269 = (u.1, F271, u.2.2.1, u.2.2.2) := hp270u
                  rw [hp270r]
                  rw [hp270u] at hW
                  refine lv_iconst (v := (-1)) hx hb dL_areFunctionsRight_287 (by decide) ?_
                  refine lv_icmp_ne (tgt := 295) hx hb dL_areFunctionsRight_288 (by decide) (fun c272 => ?_) (fun c272 => ?_)
                  · skip
                    have hq5 := c272
                    refine lv_iconst (v := nI 0) hx hb dL_areFunctionsRight_295 (by decide) ?_
                    refine lv_aload_n hx hb dL_areFunctionsRight_296 rfl (lv_at hl 9 rfl) ?_
                    refine lv_iload hx hb dL_areFunctionsRight_297 (lv_at hl 8 rfl) ?_
                    refine lv_iconst (v := nI 4) hx hb dL_areFunctionsRight_299 (by decide) ?_
                    refine ts_retI (va_runV (As := [.int (nI f), .int (nI 4)]) (rest := [.int (nI 0)]) ⟨hx, hb, hml, hown, hts⟩ (k_X5_ofFunction l D q b H.size (u.1, F271, u.2.2.1, u.2.2.2) f 4 hwf (by show f < u.1.1 1; omega) (by omega)) (cwV 2 hts gL_areFunctionsRight_X5_ofFunction rfl rfl rfl (by decide +kernel) ⟨Nat.le_of_ble_eq_true rfl, Nat.le_of_ble_eq_true rfl⟩) (ts_preV hK hN hW 0 (by decide) cel_st rfl) rfl rfl hl.1 rfl (lv_room (Nat.le_of_ble_eq_true rfl)) dL_areFunctionsRight_300 ⟨Nat.zero_le _, Nat.zero_le _⟩) hS (fun x h => Or.inl (ts_Aup hS.1 h)) (fun r273 u274 H locs hp275 hW hz hk hS => ?_)
                    have hV := ts_kept hV (fun x h1 h2 => hk x (by omega) (fun h => by unfold ts_A at h; omega))
                    have hbz := Nat.lt_of_lt_of_le hbz hz
                    obtain ⟨hp275r, F276, hp275u⟩ := hp275
                    have hp275r : r273 = nI ((chkA u.1 f).1) := hp275r
                    have hp275u : u274 = (u.1, F276, u.2.2.1, u.2.2.2) := hp275u
                    rw [hp275r]
                    rw [hp275u] at hW
                    refine lv_if_ne (tgt := 310) hx hb dL_areFunctionsRight_303 (by decide) (fun c277 => ?_) (fun c277 => ?_)
                    · skip
                      rw [ts_eq0 (by omega)] at c277
                      have hq6 := c277
                      refine lv_iconst (v := nI 0) hx hb dL_areFunctionsRight_310 (by decide) ?_
                      refine lv_icmp_ne (tgt := 331) hx hb dL_areFunctionsRight_311 (by decide) (fun c278 => ?_) (fun c278 => ?_)
                      · skip
                        exfalso; revert c278; decide
                      refine lv_aload_n hx hb dL_areFunctionsRight_314 rfl (lv_at hl 9 rfl) ?_
                      refine lv_iload hx hb dL_areFunctionsRight_315 (lv_at hl 8 rfl) ?_
                      refine lv_iconst (v := nI 5) hx hb dL_areFunctionsRight_317 (by decide) ?_
                      refine ts_retI (va_runV (As := [.int (nI f), .int (nI 5)]) (rest := []) ⟨hx, hb, hml, hown, hts⟩ (k_X5_ofFunction l D q b H.size (u.1, F276, u.2.2.1, u.2.2.2) f 5 hwf (by show f < u.1.1 1; omega) (by omega)) (cwV 2 hts gL_areFunctionsRight_X5_ofFunction rfl rfl rfl (by decide +kernel) ⟨Nat.le_of_ble_eq_true rfl, Nat.le_of_ble_eq_true rfl⟩) (ts_preV hK hN hW 0 (by decide) cel_st rfl) rfl rfl hl.1 rfl (lv_room (Nat.le_of_ble_eq_true rfl)) dL_areFunctionsRight_318 ⟨Nat.zero_le _, Nat.zero_le _⟩) hS (fun x h => Or.inl (ts_Aup hS.1 h)) (fun r279 u280 H locs hp281 hW hz hk hS => ?_)
                      have hV := ts_kept hV (fun x h1 h2 => hk x (by omega) (fun h => by unfold ts_A at h; omega))
                      have hbz := Nat.lt_of_lt_of_le hbz hz
                      obtain ⟨hp281r, F282, hp281u⟩ := hp281
                      have hp281r : r279 = (chkA u.1 f).2.1 := hp281r
                      have hp281u : u280 = (u.1, F282, u.2.2.1, u.2.2.2) := hp281u
                      rw [hp281r]
                      rw [hp281u] at hW
                      refine lv_aload_n hx hb dL_areFunctionsRight_321 rfl (lv_at hl 9 rfl) ?_
                      refine lv_iload hx hb dL_areFunctionsRight_322 (lv_at hl 8 rfl) ?_
                      refine lv_iconst (v := nI 0) hx hb dL_areFunctionsRight_324 (by decide) ?_
                      refine ts_retI (va_runV (As := [.int (nI f), .int (nI 0)]) (rest := [.int ((chkA u.1 f).2.1)]) ⟨hx, hb, hml, hown, hts⟩ (k_X5_ofFunction l D q b H.size (u.1, F282, u.2.2.1, u.2.2.2) f 0 hwf (by show f < u.1.1 1; omega) (by omega)) (cwV 2 hts gL_areFunctionsRight_X5_ofFunction rfl rfl rfl (by decide +kernel) ⟨Nat.le_of_ble_eq_true rfl, Nat.le_of_ble_eq_true rfl⟩) (ts_preV hK hN hW 0 (by decide) cel_st rfl) rfl rfl hl.1 rfl (lv_room (Nat.le_of_ble_eq_true rfl)) dL_areFunctionsRight_325 ⟨Nat.zero_le _, Nat.zero_le _⟩) hS (fun x h => Or.inl (ts_Aup hS.1 h)) (fun r283 u284 H locs hp285 hW hz hk hS => ?_)
                      have hV := ts_kept hV (fun x h1 h2 => hk x (by omega) (fun h => by unfold ts_A at h; omega))
                      have hbz := Nat.lt_of_lt_of_le hbz hz
                      obtain ⟨hp285r, F286, hp285u⟩ := hp285
                      have hp285r : r283 = nI (u.1.1 (20 + f)) := hp285r
                      have hp285u : u284 = (u.1, F286, u.2.2.1, u.2.2.2) := hp285u
                      rw [hp285r]
                      rw [hp285u] at hW
                      refine lv_icmp_le (tgt := 333) hx hb dL_areFunctionsRight_328 (by decide) (fun c287 => ?_) (fun c287 => ?_)
                      · skip
                        refine lv_iinc (v := nI (f + 1)) (lv' := [(6, .int (nI (f + 1))), (10, .int (nI k)), (9, .int (nI (calN u.1 f k))), (8, .int (nI (sumN u.2.2.2.2.2 f j))), (5, .int (nI ((totR u.2.2.2.2.2 0 f) + (u.2.2.2.2.2 0 f)))), (4, .int (nI ((fltN u.1 f) + ((chkA u.1 f).1)))), (3, .int (nI ((canN u.1 f) + 1))), (2, .int (nI ((cntB (u.1.1 2) f) + if hasB (u.1.1 2) f = true then 1 else 0))), (7, .int (nI 1)), (0, .ref (b + 0)), (1, .ref (bb + 0))]) hx hb dL_areFunctionsRight_333 hl (k := 8) rfl (nI_add f 1) (by decide) rfl (fun ls hl => ?_)
                        refine lv_goto (tgt := 13) hx hb dL_areFunctionsRight_336 (by decide) ?_
                        have e288 : totR u.2.2.2.2.2 0 (f + 1) = (totR u.2.2.2.2.2 0 f) + (u.2.2.2.2.2 0 f) := by first | rfl | (simp [canN, hok]; done)
                        have e289 : fltN u.1 (f + 1) = (fltN u.1 f) + ((chkA u.1 f).1) := by first | rfl | (simp [canN, hok]; done)
                        have e290 : canN u.1 (f + 1) = (canN u.1 f) + 1 := by first | rfl | (simp [canN, hok]; done)
                        have e291 : cntB (u.1.1 2) (f + 1) = (cntB (u.1.1 2) f) + if hasB (u.1.1 2) f = true then 1 else 0 := by first | rfl | (simp [canN, hok]; done)
                        exact ih2 (f + 1) F286 (by omega) (by omega) H locs hW hS hV hbz ls (show lv_has ls 13 [(6, .int (nI (f + 1))), (5, .int (nI (totR u.2.2.2.2.2 0 (f + 1)))), (4, .int (nI (fltN u.1 (f + 1)))), (3, .int (nI (canN u.1 (f + 1)))), (2, .int (nI (cntB (u.1.1 2) (f + 1)))), (0, .ref (b + 0)), (1, .ref (bb + 0))] from by rw [e288, e289, e290, e291]; exact lv_sub hl [0, 4, 5, 6, 7, 9, 10] rfl)
                      exact absurd hcf.2 c287
                    rw [ts_eq0 (by omega)] at c277
                    have hq6 := c277
                    refine lv_iconst (v := nI 1) hx hb dL_areFunctionsRight_306 (by decide) ?_
                    refine lv_goto (tgt := 311) hx hb dL_areFunctionsRight_307 (by decide) ?_
                    refine lv_icmp_ne (tgt := 331) hx hb dL_areFunctionsRight_311 (by decide) (fun c292 => ?_) (fun c292 => ?_)
                    · skip
                      refine lv_iconst (v := nI 0) hx hb dL_areFunctionsRight_331 (by decide) ?_
                      exfalso; first | exact hcn (okF_to (hty _ hb9).2) | exact hq5 (hcf.1.mpr hq6) | exact hq6 (hcf.1.mp hq5)
                    exfalso; revert c292; decide
                  have hq5 := c272
                  refine lv_iconst (v := nI 1) hx hb dL_areFunctionsRight_291 (by decide) ?_
                  refine lv_goto (tgt := 296) hx hb dL_areFunctionsRight_292 (by decide) ?_
                  refine lv_aload_n hx hb dL_areFunctionsRight_296 rfl (lv_at hl 9 rfl) ?_
                  refine lv_iload hx hb dL_areFunctionsRight_297 (lv_at hl 8 rfl) ?_
                  refine lv_iconst (v := nI 4) hx hb dL_areFunctionsRight_299 (by decide) ?_
                  refine ts_retI (va_runV (As := [.int (nI f), .int (nI 4)]) (rest := [.int (nI 1)]) ⟨hx, hb, hml, hown, hts⟩ (k_X5_ofFunction l D q b H.size (u.1, F271, u.2.2.1, u.2.2.2) f 4 hwf (by show f < u.1.1 1; omega) (by omega)) (cwV 2 hts gL_areFunctionsRight_X5_ofFunction rfl rfl rfl (by decide +kernel) ⟨Nat.le_of_ble_eq_true rfl, Nat.le_of_ble_eq_true rfl⟩) (ts_preV hK hN hW 0 (by decide) cel_st rfl) rfl rfl hl.1 rfl (lv_room (Nat.le_of_ble_eq_true rfl)) dL_areFunctionsRight_300 ⟨Nat.zero_le _, Nat.zero_le _⟩) hS (fun x h => Or.inl (ts_Aup hS.1 h)) (fun r293 u294 H locs hp295 hW hz hk hS => ?_)
                  have hV := ts_kept hV (fun x h1 h2 => hk x (by omega) (fun h => by unfold ts_A at h; omega))
                  have hbz := Nat.lt_of_lt_of_le hbz hz
                  obtain ⟨hp295r, F296, hp295u⟩ := hp295
                  have hp295r : r293 = nI ((chkA u.1 f).1) := hp295r
                  have hp295u : u294 = (u.1, F296, u.2.2.1, u.2.2.2) := hp295u
                  rw [hp295r]
                  rw [hp295u] at hW
                  refine lv_if_ne (tgt := 310) hx hb dL_areFunctionsRight_303 (by decide) (fun c297 => ?_) (fun c297 => ?_)
                  · skip
                    rw [ts_eq0 (by omega)] at c297
                    have hq6 := c297
                    refine lv_iconst (v := nI 0) hx hb dL_areFunctionsRight_310 (by decide) ?_
                    refine lv_icmp_ne (tgt := 331) hx hb dL_areFunctionsRight_311 (by decide) (fun c298 => ?_) (fun c298 => ?_)
                    · skip
                      refine lv_iconst (v := nI 0) hx hb dL_areFunctionsRight_331 (by decide) ?_
                      exfalso; first | exact hcn (okF_to (hty _ hb9).2) | exact hq5 (hcf.1.mpr hq6) | exact hq6 (hcf.1.mp hq5)
                    exfalso; revert c298; decide
                  rw [ts_eq0 (by omega)] at c297
                  have hq6 := c297
                  refine lv_iconst (v := nI 1) hx hb dL_areFunctionsRight_306 (by decide) ?_
                  refine lv_goto (tgt := 311) hx hb dL_areFunctionsRight_307 (by decide) ?_
                  refine lv_icmp_ne (tgt := 331) hx hb dL_areFunctionsRight_311 (by decide) (fun c299 => ?_) (fun c299 => ?_)
                  · skip
                    exfalso; revert c299; decide
                  refine lv_aload_n hx hb dL_areFunctionsRight_314 rfl (lv_at hl 9 rfl) ?_
                  refine lv_iload hx hb dL_areFunctionsRight_315 (lv_at hl 8 rfl) ?_
                  refine lv_iconst (v := nI 5) hx hb dL_areFunctionsRight_317 (by decide) ?_
                  refine ts_retI (va_runV (As := [.int (nI f), .int (nI 5)]) (rest := []) ⟨hx, hb, hml, hown, hts⟩ (k_X5_ofFunction l D q b H.size (u.1, F296, u.2.2.1, u.2.2.2) f 5 hwf (by show f < u.1.1 1; omega) (by omega)) (cwV 2 hts gL_areFunctionsRight_X5_ofFunction rfl rfl rfl (by decide +kernel) ⟨Nat.le_of_ble_eq_true rfl, Nat.le_of_ble_eq_true rfl⟩) (ts_preV hK hN hW 0 (by decide) cel_st rfl) rfl rfl hl.1 rfl (lv_room (Nat.le_of_ble_eq_true rfl)) dL_areFunctionsRight_318 ⟨Nat.zero_le _, Nat.zero_le _⟩) hS (fun x h => Or.inl (ts_Aup hS.1 h)) (fun r300 u301 H locs hp302 hW hz hk hS => ?_)
                  have hV := ts_kept hV (fun x h1 h2 => hk x (by omega) (fun h => by unfold ts_A at h; omega))
                  have hbz := Nat.lt_of_lt_of_le hbz hz
                  obtain ⟨hp302r, F303, hp302u⟩ := hp302
                  have hp302r : r300 = (chkA u.1 f).2.1 := hp302r
                  have hp302u : u301 = (u.1, F303, u.2.2.1, u.2.2.2) := hp302u
                  rw [hp302r]
                  rw [hp302u] at hW
                  refine lv_aload_n hx hb dL_areFunctionsRight_321 rfl (lv_at hl 9 rfl) ?_
                  refine lv_iload hx hb dL_areFunctionsRight_322 (lv_at hl 8 rfl) ?_
                  refine lv_iconst (v := nI 0) hx hb dL_areFunctionsRight_324 (by decide) ?_
                  refine ts_retI (va_runV (As := [.int (nI f), .int (nI 0)]) (rest := [.int ((chkA u.1 f).2.1)]) ⟨hx, hb, hml, hown, hts⟩ (k_X5_ofFunction l D q b H.size (u.1, F303, u.2.2.1, u.2.2.2) f 0 hwf (by show f < u.1.1 1; omega) (by omega)) (cwV 2 hts gL_areFunctionsRight_X5_ofFunction rfl rfl rfl (by decide +kernel) ⟨Nat.le_of_ble_eq_true rfl, Nat.le_of_ble_eq_true rfl⟩) (ts_preV hK hN hW 0 (by decide) cel_st rfl) rfl rfl hl.1 rfl (lv_room (Nat.le_of_ble_eq_true rfl)) dL_areFunctionsRight_325 ⟨Nat.zero_le _, Nat.zero_le _⟩) hS (fun x h => Or.inl (ts_Aup hS.1 h)) (fun r304 u305 H locs hp306 hW hz hk hS => ?_)
                  have hV := ts_kept hV (fun x h1 h2 => hk x (by omega) (fun h => by unfold ts_A at h; omega))
                  have hbz := Nat.lt_of_lt_of_le hbz hz
                  obtain ⟨hp306r, F307, hp306u⟩ := hp306
                  have hp306r : r304 = nI (u.1.1 (20 + f)) := hp306r
                  have hp306u : u305 = (u.1, F307, u.2.2.1, u.2.2.2) := hp306u
                  rw [hp306r]
                  rw [hp306u] at hW
                  refine lv_icmp_le (tgt := 333) hx hb dL_areFunctionsRight_328 (by decide) (fun c308 => ?_) (fun c308 => ?_)
                  · skip
                    refine lv_iinc (v := nI (f + 1)) (lv' := [(6, .int (nI (f + 1))), (10, .int (nI k)), (9, .int (nI (calN u.1 f k))), (8, .int (nI (sumN u.2.2.2.2.2 f j))), (5, .int (nI ((totR u.2.2.2.2.2 0 f) + (u.2.2.2.2.2 0 f)))), (4, .int (nI ((fltN u.1 f) + ((chkA u.1 f).1)))), (3, .int (nI ((canN u.1 f) + 1))), (2, .int (nI ((cntB (u.1.1 2) f) + if hasB (u.1.1 2) f = true then 1 else 0))), (7, .int (nI 1)), (0, .ref (b + 0)), (1, .ref (bb + 0))]) hx hb dL_areFunctionsRight_333 hl (k := 8) rfl (nI_add f 1) (by decide) rfl (fun ls hl => ?_)
                    refine lv_goto (tgt := 13) hx hb dL_areFunctionsRight_336 (by decide) ?_
                    have e309 : totR u.2.2.2.2.2 0 (f + 1) = (totR u.2.2.2.2.2 0 f) + (u.2.2.2.2.2 0 f) := by first | rfl | (simp [canN, hok]; done)
                    have e310 : fltN u.1 (f + 1) = (fltN u.1 f) + ((chkA u.1 f).1) := by first | rfl | (simp [canN, hok]; done)
                    have e311 : canN u.1 (f + 1) = (canN u.1 f) + 1 := by first | rfl | (simp [canN, hok]; done)
                    have e312 : cntB (u.1.1 2) (f + 1) = (cntB (u.1.1 2) f) + if hasB (u.1.1 2) f = true then 1 else 0 := by first | rfl | (simp [canN, hok]; done)
                    exact ih2 (f + 1) F307 (by omega) (by omega) H locs hW hS hV hbz ls (show lv_has ls 13 [(6, .int (nI (f + 1))), (5, .int (nI (totR u.2.2.2.2.2 0 (f + 1)))), (4, .int (nI (fltN u.1 (f + 1)))), (3, .int (nI (canN u.1 (f + 1)))), (2, .int (nI (cntB (u.1.1 2) (f + 1)))), (0, .ref (b + 0)), (1, .ref (bb + 0))] from by rw [e309, e310, e311, e312]; exact lv_sub hl [0, 4, 5, 6, 7, 9, 10] rfl)
                  exact absurd hcf.2 c308
                rw [nI_leI (by omega) (by omega)] at c188
                have hks := hwf.fsz (i := k) (by omega)
                refine lv_iconst (v := nI 0) hx hb dL_areFunctionsRight_147 (by decide) ?_
                refine lv_istore (lv' := [(11, .int (nI 0)), (10, .int (nI k)), (9, .int (nI (calN u.1 f k))), (8, .int (nI (sumN u.2.2.2.2.2 f j))), (5, .int (nI ((totR u.2.2.2.2.2 0 f) + (u.2.2.2.2.2 0 f)))), (4, .int (nI ((fltN u.1 f) + ((chkA u.1 f).1)))), (3, .int (nI ((canN u.1 f) + 1))), (2, .int (nI ((cntB (u.1.1 2) f) + if hasB (u.1.1 2) f = true then 1 else 0))), (7, .int (nI 1)), (6, .int (nI f)), (0, .ref (b + 0)), (1, .ref (bb + 0))]) hx hb dL_areFunctionsRight_148 hl (by decide) rfl (fun ls hl => ?_)
                refine lv_iconst (v := nI 0) hx hb dL_areFunctionsRight_150 (by decide) ?_
                refine lv_istore (lv' := [(12, .int (nI 0)), (11, .int (nI 0)), (10, .int (nI k)), (9, .int (nI (calN u.1 f k))), (8, .int (nI (sumN u.2.2.2.2.2 f j))), (5, .int (nI ((totR u.2.2.2.2.2 0 f) + (u.2.2.2.2.2 0 f)))), (4, .int (nI ((fltN u.1 f) + ((chkA u.1 f).1)))), (3, .int (nI ((canN u.1 f) + 1))), (2, .int (nI ((cntB (u.1.1 2) f) + if hasB (u.1.1 2) f = true then 1 else 0))), (7, .int (nI 1)), (6, .int (nI f)), (0, .ref (b + 0)), (1, .ref (bb + 0))]) hx hb dL_areFunctionsRight_151 hl (by decide) rfl (fun ls hl => ?_)
                have key313 : ∀ (fu : Nat) (i : Nat) (F4 : FT), (i ≤ u.1.1 (20 + k)) → (u.1.1 (20 + k) - i) < fu → ∀ (H : Heap) (locs : List Loc), ts_W D b 52 (cel q b (u.1, F4, u.2.2.1, u.2.2.2)) H → va_S (ts_AB b bb s.heap.size) s.heap H locs → Bl D q bb g H → bb < H.size → ∀ ls : Array Slot, lv_has ls 13 [(12, .int (nI i)), (11, .int (b2i (mentB u.1 k (40 + f) i))), (10, .int (nI k)), (9, .int (nI (calN u.1 f k))), (8, .int (nI (sumN u.2.2.2.2.2 f j))), (5, .int (nI ((totR u.2.2.2.2.2 0 f) + (u.2.2.2.2.2 0 f)))), (4, .int (nI ((fltN u.1 f) + ((chkA u.1 f).1)))), (3, .int (nI ((canN u.1 f) + 1))), (2, .int (nI ((cntB (u.1.1 2) f) + if hasB (u.1.1 2) f = true then 1 else 0))), (7, .int (nI 1)), (6, .int (nI f)), (0, .ref (b + 0)), (1, .ref (bb + 0))] → W p l e ({ frames := 5, cells := 0, slots := 0, locals := 109 } : Room) s m [.ref (b + 0), .ref (bb + 0)].toArray below meth c H locs 0 0 (MQ below (cB D q b bb s.heap.size (fun r v => r = nI 1 ∧ ∃ F : FT, v = ((u.1, F, u.2.2), g))) [.ref (b + 0), .ref (bb + 0)].toArray s 0 0 (ts_AB b bb s.heap.size)) (F0 m 153 ls []) := by
                  intro fu
                  induction fu with
                  | zero => intro i F4 _ hn; exact absurd hn (Nat.not_lt_zero _)
                  | succ fu ih314 =>
                    intro i F4 hi hn H locs hW hS hV hbz ls hl
                    refine lv_iload hx hb dL_areFunctionsRight_153 (lv_at hl 0 rfl) ?_
                    refine lv_aload_n hx hb dL_areFunctionsRight_155 rfl (lv_at hl 11 rfl) ?_
                    refine lv_iload hx hb dL_areFunctionsRight_156 (lv_at hl 2 rfl) ?_
                    refine lv_iconst (v := nI 0) hx hb dL_areFunctionsRight_158 (by decide) ?_
                    refine ts_retI (va_runV (As := [.int (nI k), .int (nI 0)]) (rest := [.int (nI i)]) ⟨hx, hb, hml, hown, hts⟩ (k_X5_ofFunction l D q b H.size (u.1, F4, u.2.2.1, u.2.2.2) k 0 hwf (by show k < u.1.1 1; omega) (by omega)) (cwV 2 hts gL_areFunctionsRight_X5_ofFunction rfl rfl rfl (by decide +kernel) ⟨Nat.le_of_ble_eq_true rfl, Nat.le_of_ble_eq_true rfl⟩) (ts_preV hK hN hW 0 (by decide) cel_st rfl) rfl rfl hl.1 rfl (lv_room (Nat.le_of_ble_eq_true rfl)) dL_areFunctionsRight_159 ⟨Nat.zero_le _, Nat.zero_le _⟩) hS (fun x h => Or.inl (ts_Aup hS.1 h)) (fun r315 u316 H locs hp317 hW hz hk hS => ?_)
                    have hV := ts_kept hV (fun x h1 h2 => hk x (by omega) (fun h => by unfold ts_A at h; omega))
                    have hbz := Nat.lt_of_lt_of_le hbz hz
                    obtain ⟨hp317r, F318, hp317u⟩ := hp317
                    have hp317r : r315 = nI (u.1.1 (20 + k)) := hp317r
                    have hp317u : u316 = (u.1, F318, u.2.2.1, u.2.2.2) := hp317u
                    rw [hp317r]
                    rw [hp317u] at hW
                    refine lv_icmp_ge (tgt := 197) hx hb dL_areFunctionsRight_162 (by decide) (fun c319 => ?_) (fun c319 => ?_)
                    · skip
                      rw [nI_leI (by omega) (by omega)] at c319
                      have hii : i = u.1.1 (20 + k) := by omega
                      refine lv_iload hx hb dL_areFunctionsRight_197 (lv_at hl 3 rfl) ?_
                      refine lv_iload hx hb dL_areFunctionsRight_199 (lv_at hl 1 rfl) ?_
                      refine lv_if_eq (tgt := 215) hx hb dL_areFunctionsRight_201 (by decide) (fun c320 => ?_) (fun c320 => ?_)
                      · skip
                        have c320 := ts_bf c320
                        have hmm := c320
                        rw [hii] at hmm
                        refine lv_iconst (v := nI 0) hx hb dL_areFunctionsRight_215 (by decide) ?_
                        refine ts_iadd (v := nI ((calN u.1 f k) + 0)) hx hb dL_areFunctionsRight_216 (nI_add _ _) ?_
                        refine lv_istore (lv' := [(9, .int (nI ((calN u.1 f k) + 0))), (12, .int (nI i)), (11, .int (b2i (mentB u.1 k (40 + f) i))), (10, .int (nI k)), (8, .int (nI (sumN u.2.2.2.2.2 f j))), (5, .int (nI ((totR u.2.2.2.2.2 0 f) + (u.2.2.2.2.2 0 f)))), (4, .int (nI ((fltN u.1 f) + ((chkA u.1 f).1)))), (3, .int (nI ((canN u.1 f) + 1))), (2, .int (nI ((cntB (u.1.1 2) f) + if hasB (u.1.1 2) f = true then 1 else 0))), (7, .int (nI 1)), (6, .int (nI f)), (0, .ref (b + 0)), (1, .ref (bb + 0))]) hx hb dL_areFunctionsRight_217 hl (by decide) rfl (fun ls hl => ?_)
                        refine lv_iinc (v := nI (k + 1)) (lv' := [(10, .int (nI (k + 1))), (9, .int (nI ((calN u.1 f k) + 0))), (12, .int (nI i)), (11, .int (b2i (mentB u.1 k (40 + f) i))), (8, .int (nI (sumN u.2.2.2.2.2 f j))), (5, .int (nI ((totR u.2.2.2.2.2 0 f) + (u.2.2.2.2.2 0 f)))), (4, .int (nI ((fltN u.1 f) + ((chkA u.1 f).1)))), (3, .int (nI ((canN u.1 f) + 1))), (2, .int (nI ((cntB (u.1.1 2) f) + if hasB (u.1.1 2) f = true then 1 else 0))), (7, .int (nI 1)), (6, .int (nI f)), (0, .ref (b + 0)), (1, .ref (bb + 0))]) hx hb dL_areFunctionsRight_219 hl (k := 3) rfl (nI_add k 1) (by decide) rfl (fun ls hl => ?_)
                        refine lv_goto (tgt := 137) hx hb dL_areFunctionsRight_222 (by decide) ?_
                        have e321 : calN u.1 f (k + 1) = (calN u.1 f k) + 0 := by first | rfl | (simp [calN, *]; done)
                        exact ih183 (k + 1) F318 (by omega) (by omega) H locs hW hS hV hbz ls (show lv_has ls 13 [(10, .int (nI (k + 1))), (9, .int (nI (calN u.1 f (k + 1)))), (8, .int (nI (sumN u.2.2.2.2.2 f j))), (5, .int (nI ((totR u.2.2.2.2.2 0 f) + (u.2.2.2.2.2 0 f)))), (4, .int (nI ((fltN u.1 f) + ((chkA u.1 f).1)))), (3, .int (nI ((canN u.1 f) + 1))), (2, .int (nI ((cntB (u.1.1 2) f) + if hasB (u.1.1 2) f = true then 1 else 0))), (7, .int (nI 1)), (6, .int (nI f)), (0, .ref (b + 0)), (1, .ref (bb + 0))] from by rw [e321]; exact lv_sub hl [0, 1, 4, 5, 6, 7, 8, 9, 10, 11, 12] rfl)
                      have c320 := ts_bt c320
                      have hmm := c320
                      rw [hii] at hmm
                      refine lv_iload hx hb dL_areFunctionsRight_204 (lv_at hl 2 rfl) ?_
                      refine lv_iload hx hb dL_areFunctionsRight_206 (lv_at hl 10 rfl) ?_
                      refine lv_icmp_eq (tgt := 215) hx hb dL_areFunctionsRight_208 (by decide) (fun c322 => ?_) (fun c322 => ?_)
                      · skip
                        rw [nI_eq (by omega) (by omega)] at c322
                        refine lv_iconst (v := nI 0) hx hb dL_areFunctionsRight_215 (by decide) ?_
                        refine ts_iadd (v := nI ((calN u.1 f k) + 0)) hx hb dL_areFunctionsRight_216 (nI_add _ _) ?_
                        refine lv_istore (lv' := [(9, .int (nI ((calN u.1 f k) + 0))), (12, .int (nI i)), (11, .int (b2i (mentB u.1 k (40 + f) i))), (10, .int (nI k)), (8, .int (nI (sumN u.2.2.2.2.2 f j))), (5, .int (nI ((totR u.2.2.2.2.2 0 f) + (u.2.2.2.2.2 0 f)))), (4, .int (nI ((fltN u.1 f) + ((chkA u.1 f).1)))), (3, .int (nI ((canN u.1 f) + 1))), (2, .int (nI ((cntB (u.1.1 2) f) + if hasB (u.1.1 2) f = true then 1 else 0))), (7, .int (nI 1)), (6, .int (nI f)), (0, .ref (b + 0)), (1, .ref (bb + 0))]) hx hb dL_areFunctionsRight_217 hl (by decide) rfl (fun ls hl => ?_)
                        refine lv_iinc (v := nI (k + 1)) (lv' := [(10, .int (nI (k + 1))), (9, .int (nI ((calN u.1 f k) + 0))), (12, .int (nI i)), (11, .int (b2i (mentB u.1 k (40 + f) i))), (8, .int (nI (sumN u.2.2.2.2.2 f j))), (5, .int (nI ((totR u.2.2.2.2.2 0 f) + (u.2.2.2.2.2 0 f)))), (4, .int (nI ((fltN u.1 f) + ((chkA u.1 f).1)))), (3, .int (nI ((canN u.1 f) + 1))), (2, .int (nI ((cntB (u.1.1 2) f) + if hasB (u.1.1 2) f = true then 1 else 0))), (7, .int (nI 1)), (6, .int (nI f)), (0, .ref (b + 0)), (1, .ref (bb + 0))]) hx hb dL_areFunctionsRight_219 hl (k := 3) rfl (nI_add k 1) (by decide) rfl (fun ls hl => ?_)
                        refine lv_goto (tgt := 137) hx hb dL_areFunctionsRight_222 (by decide) ?_
                        have e323 : calN u.1 f (k + 1) = (calN u.1 f k) + 0 := by first | rfl | (simp [calN, *]; done)
                        exact ih183 (k + 1) F318 (by omega) (by omega) H locs hW hS hV hbz ls (show lv_has ls 13 [(10, .int (nI (k + 1))), (9, .int (nI (calN u.1 f (k + 1)))), (8, .int (nI (sumN u.2.2.2.2.2 f j))), (5, .int (nI ((totR u.2.2.2.2.2 0 f) + (u.2.2.2.2.2 0 f)))), (4, .int (nI ((fltN u.1 f) + ((chkA u.1 f).1)))), (3, .int (nI ((canN u.1 f) + 1))), (2, .int (nI ((cntB (u.1.1 2) f) + if hasB (u.1.1 2) f = true then 1 else 0))), (7, .int (nI 1)), (6, .int (nI f)), (0, .ref (b + 0)), (1, .ref (bb + 0))] from by rw [e323]; exact lv_sub hl [0, 1, 4, 5, 6, 7, 8, 9, 10, 11, 12] rfl)
                      rw [nI_eq (by omega) (by omega)] at c322
                      refine lv_iconst (v := nI 1) hx hb dL_areFunctionsRight_211 (by decide) ?_
                      refine lv_goto (tgt := 216) hx hb dL_areFunctionsRight_212 (by decide) ?_
                      refine ts_iadd (v := nI ((calN u.1 f k) + 1)) hx hb dL_areFunctionsRight_216 (nI_add _ _) ?_
                      refine lv_istore (lv' := [(9, .int (nI ((calN u.1 f k) + 1))), (12, .int (nI i)), (11, .int (b2i (mentB u.1 k (40 + f) i))), (10, .int (nI k)), (8, .int (nI (sumN u.2.2.2.2.2 f j))), (5, .int (nI ((totR u.2.2.2.2.2 0 f) + (u.2.2.2.2.2 0 f)))), (4, .int (nI ((fltN u.1 f) + ((chkA u.1 f).1)))), (3, .int (nI ((canN u.1 f) + 1))), (2, .int (nI ((cntB (u.1.1 2) f) + if hasB (u.1.1 2) f = true then 1 else 0))), (7, .int (nI 1)), (6, .int (nI f)), (0, .ref (b + 0)), (1, .ref (bb + 0))]) hx hb dL_areFunctionsRight_217 hl (by decide) rfl (fun ls hl => ?_)
                      refine lv_iinc (v := nI (k + 1)) (lv' := [(10, .int (nI (k + 1))), (9, .int (nI ((calN u.1 f k) + 1))), (12, .int (nI i)), (11, .int (b2i (mentB u.1 k (40 + f) i))), (8, .int (nI (sumN u.2.2.2.2.2 f j))), (5, .int (nI ((totR u.2.2.2.2.2 0 f) + (u.2.2.2.2.2 0 f)))), (4, .int (nI ((fltN u.1 f) + ((chkA u.1 f).1)))), (3, .int (nI ((canN u.1 f) + 1))), (2, .int (nI ((cntB (u.1.1 2) f) + if hasB (u.1.1 2) f = true then 1 else 0))), (7, .int (nI 1)), (6, .int (nI f)), (0, .ref (b + 0)), (1, .ref (bb + 0))]) hx hb dL_areFunctionsRight_219 hl (k := 3) rfl (nI_add k 1) (by decide) rfl (fun ls hl => ?_)
                      refine lv_goto (tgt := 137) hx hb dL_areFunctionsRight_222 (by decide) ?_
                      have e324 : calN u.1 f (k + 1) = (calN u.1 f k) + 1 := by first | rfl | (simp [calN, *]; done)
                      exact ih183 (k + 1) F318 (by omega) (by omega) H locs hW hS hV hbz ls (show lv_has ls 13 [(10, .int (nI (k + 1))), (9, .int (nI (calN u.1 f (k + 1)))), (8, .int (nI (sumN u.2.2.2.2.2 f j))), (5, .int (nI ((totR u.2.2.2.2.2 0 f) + (u.2.2.2.2.2 0 f)))), (4, .int (nI ((fltN u.1 f) + ((chkA u.1 f).1)))), (3, .int (nI ((canN u.1 f) + 1))), (2, .int (nI ((cntB (u.1.1 2) f) + if hasB (u.1.1 2) f = true then 1 else 0))), (7, .int (nI 1)), (6, .int (nI f)), (0, .ref (b + 0)), (1, .ref (bb + 0))] from by rw [e324]; exact lv_sub hl [0, 1, 4, 5, 6, 7, 8, 9, 10, 11, 12] rfl)
                    rw [nI_leI (by omega) (by omega)] at c319
                    have hst := hwf.stp (i := k) (j := i) (by omega) (by omega)
                    refine lv_iload hx hb dL_areFunctionsRight_165 (lv_at hl 1 rfl) ?_
                    refine lv_aload_n hx hb dL_areFunctionsRight_167 rfl (lv_at hl 11 rfl) ?_
                    refine lv_iload hx hb dL_areFunctionsRight_168 (lv_at hl 2 rfl) ?_
                    refine lv_iload hx hb dL_areFunctionsRight_170 (lv_at hl 0 rfl) ?_
                    refine ts_retI (va_runV (As := [.int (nI k), .int (nI i)]) (rest := [.int (b2i (mentB u.1 k (40 + f) i))]) ⟨hx, hb, hml, hown, hts⟩ (k_X5_stepAt l D q b H.size (u.1, F318, u.2.2.1, u.2.2.2) k i hwf (by show k < u.1.1 1; omega) (by show i < u.1.1 (20 + k); omega)) (cwV 2 hts gL_areFunctionsRight_X5_stepAt rfl rfl rfl (by decide +kernel) ⟨Nat.le_of_ble_eq_true rfl, Nat.le_of_ble_eq_true rfl⟩) (ts_preV hK hN hW 0 (by decide) cel_st rfl) rfl rfl hl.1 rfl (lv_room (Nat.le_of_ble_eq_true rfl)) dL_areFunctionsRight_172 ⟨Nat.zero_le _, Nat.zero_le _⟩) hS (fun x h => Or.inl (ts_Aup hS.1 h)) (fun r325 u326 H locs hp327 hW hz hk hS => ?_)
                    have hV := ts_kept hV (fun x h1 h2 => hk x (by omega) (fun h => by unfold ts_A at h; omega))
                    have hbz := Nat.lt_of_lt_of_le hbz hz
                    have hp327r : r325 = nI (u.1.2 k i) := hp327.1
                    have hp327u : u326 = (u.1, F318, u.2.2.1, u.2.2.2) := hp327.2
                    rw [hp327r]
                    rw [hp327u] at hW
                    refine lv_bipush (v := nI 40) hx hb dL_areFunctionsRight_175 (by decide) ?_
                    refine lv_iload hx hb dL_areFunctionsRight_177 (lv_at hl 10 rfl) ?_
                    refine ts_iadd (v := nI (40 + f)) hx hb dL_areFunctionsRight_179 (nI_add _ _) ?_
                    refine lv_icmp_ne (tgt := 187) hx hb dL_areFunctionsRight_180 (by decide) (fun c328 => ?_) (fun c328 => ?_)
                    · skip
                      rw [nI_eq (by omega) (by omega)] at c328
                      refine lv_iconst (v := nI 0) hx hb dL_areFunctionsRight_187 (by decide) ?_
                      refine ts_ior (v := b2i (mentB u.1 k (40 + f) i)) hx hb dL_areFunctionsRight_188 (or_b2i0 _) ?_
                      refine lv_istore (lv' := [(11, .int (b2i (mentB u.1 k (40 + f) i))), (12, .int (nI i)), (10, .int (nI k)), (9, .int (nI (calN u.1 f k))), (8, .int (nI (sumN u.2.2.2.2.2 f j))), (5, .int (nI ((totR u.2.2.2.2.2 0 f) + (u.2.2.2.2.2 0 f)))), (4, .int (nI ((fltN u.1 f) + ((chkA u.1 f).1)))), (3, .int (nI ((canN u.1 f) + 1))), (2, .int (nI ((cntB (u.1.1 2) f) + if hasB (u.1.1 2) f = true then 1 else 0))), (7, .int (nI 1)), (6, .int (nI f)), (0, .ref (b + 0)), (1, .ref (bb + 0))]) hx hb dL_areFunctionsRight_189 hl (by decide) rfl (fun ls hl => ?_)
                      refine lv_iinc (v := nI (i + 1)) (lv' := [(12, .int (nI (i + 1))), (11, .int (b2i (mentB u.1 k (40 + f) i))), (10, .int (nI k)), (9, .int (nI (calN u.1 f k))), (8, .int (nI (sumN u.2.2.2.2.2 f j))), (5, .int (nI ((totR u.2.2.2.2.2 0 f) + (u.2.2.2.2.2 0 f)))), (4, .int (nI ((fltN u.1 f) + ((chkA u.1 f).1)))), (3, .int (nI ((canN u.1 f) + 1))), (2, .int (nI ((cntB (u.1.1 2) f) + if hasB (u.1.1 2) f = true then 1 else 0))), (7, .int (nI 1)), (6, .int (nI f)), (0, .ref (b + 0)), (1, .ref (bb + 0))]) hx hb dL_areFunctionsRight_191 hl (k := 1) rfl (nI_add i 1) (by decide) rfl (fun ls hl => ?_)
                      refine lv_goto (tgt := 153) hx hb dL_areFunctionsRight_194 (by decide) ?_
                      have e329 : b2i (mentB u.1 k (40 + f) (i + 1)) = b2i (mentB u.1 k (40 + f) i) := by first | rfl | (simp [mentB, *]; done)
                      exact ih314 (i + 1) F318 (by omega) (by omega) H locs hW hS hV hbz ls (show lv_has ls 13 [(12, .int (nI (i + 1))), (11, .int (b2i (mentB u.1 k (40 + f) (i + 1)))), (10, .int (nI k)), (9, .int (nI (calN u.1 f k))), (8, .int (nI (sumN u.2.2.2.2.2 f j))), (5, .int (nI ((totR u.2.2.2.2.2 0 f) + (u.2.2.2.2.2 0 f)))), (4, .int (nI ((fltN u.1 f) + ((chkA u.1 f).1)))), (3, .int (nI ((canN u.1 f) + 1))), (2, .int (nI ((cntB (u.1.1 2) f) + if hasB (u.1.1 2) f = true then 1 else 0))), (7, .int (nI 1)), (6, .int (nI f)), (0, .ref (b + 0)), (1, .ref (bb + 0))] from by rw [e329]; exact lv_sub hl [0, 1, 2, 3, 4, 5, 6, 7, 8, 9, 10, 11, 12] rfl)
                    rw [nI_eq (by omega) (by omega)] at c328
                    refine lv_iconst (v := nI 1) hx hb dL_areFunctionsRight_183 (by decide) ?_
                    refine lv_goto (tgt := 188) hx hb dL_areFunctionsRight_184 (by decide) ?_
                    refine ts_ior (v := b2i true) hx hb dL_areFunctionsRight_188 (or_b2i1 _) ?_
                    refine lv_istore (lv' := [(11, .int (b2i true)), (12, .int (nI i)), (10, .int (nI k)), (9, .int (nI (calN u.1 f k))), (8, .int (nI (sumN u.2.2.2.2.2 f j))), (5, .int (nI ((totR u.2.2.2.2.2 0 f) + (u.2.2.2.2.2 0 f)))), (4, .int (nI ((fltN u.1 f) + ((chkA u.1 f).1)))), (3, .int (nI ((canN u.1 f) + 1))), (2, .int (nI ((cntB (u.1.1 2) f) + if hasB (u.1.1 2) f = true then 1 else 0))), (7, .int (nI 1)), (6, .int (nI f)), (0, .ref (b + 0)), (1, .ref (bb + 0))]) hx hb dL_areFunctionsRight_189 hl (by decide) rfl (fun ls hl => ?_)
                    refine lv_iinc (v := nI (i + 1)) (lv' := [(12, .int (nI (i + 1))), (11, .int (b2i true)), (10, .int (nI k)), (9, .int (nI (calN u.1 f k))), (8, .int (nI (sumN u.2.2.2.2.2 f j))), (5, .int (nI ((totR u.2.2.2.2.2 0 f) + (u.2.2.2.2.2 0 f)))), (4, .int (nI ((fltN u.1 f) + ((chkA u.1 f).1)))), (3, .int (nI ((canN u.1 f) + 1))), (2, .int (nI ((cntB (u.1.1 2) f) + if hasB (u.1.1 2) f = true then 1 else 0))), (7, .int (nI 1)), (6, .int (nI f)), (0, .ref (b + 0)), (1, .ref (bb + 0))]) hx hb dL_areFunctionsRight_191 hl (k := 1) rfl (nI_add i 1) (by decide) rfl (fun ls hl => ?_)
                    refine lv_goto (tgt := 153) hx hb dL_areFunctionsRight_194 (by decide) ?_
                    have e330 : b2i (mentB u.1 k (40 + f) (i + 1)) = b2i true := by first | rfl | (simp [mentB, *]; done)
                    exact ih314 (i + 1) F318 (by omega) (by omega) H locs hW hS hV hbz ls (show lv_has ls 13 [(12, .int (nI (i + 1))), (11, .int (b2i (mentB u.1 k (40 + f) (i + 1)))), (10, .int (nI k)), (9, .int (nI (calN u.1 f k))), (8, .int (nI (sumN u.2.2.2.2.2 f j))), (5, .int (nI ((totR u.2.2.2.2.2 0 f) + (u.2.2.2.2.2 0 f)))), (4, .int (nI ((fltN u.1 f) + ((chkA u.1 f).1)))), (3, .int (nI ((canN u.1 f) + 1))), (2, .int (nI ((cntB (u.1.1 2) f) + if hasB (u.1.1 2) f = true then 1 else 0))), (7, .int (nI 1)), (6, .int (nI f)), (0, .ref (b + 0)), (1, .ref (bb + 0))] from by rw [e330]; exact lv_sub hl [0, 1, 2, 3, 4, 5, 6, 7, 8, 9, 10, 11, 12] rfl)
                have e331 : b2i (mentB u.1 k (40 + f) 0) = nI 0 := by first | rfl | (simp [mentB, *]; done)
                exact key313 _ 0 F187 (by omega) (Nat.lt_succ_self _) _ _ hW hS hV hbz ls (show lv_has ls 13 [(12, .int (nI 0)), (11, .int (b2i (mentB u.1 k (40 + f) 0))), (10, .int (nI k)), (9, .int (nI (calN u.1 f k))), (8, .int (nI (sumN u.2.2.2.2.2 f j))), (5, .int (nI ((totR u.2.2.2.2.2 0 f) + (u.2.2.2.2.2 0 f)))), (4, .int (nI ((fltN u.1 f) + ((chkA u.1 f).1)))), (3, .int (nI ((canN u.1 f) + 1))), (2, .int (nI ((cntB (u.1.1 2) f) + if hasB (u.1.1 2) f = true then 1 else 0))), (7, .int (nI 1)), (6, .int (nI f)), (0, .ref (b + 0)), (1, .ref (bb + 0))] from by rw [e331]; exact lv_sub hl [0, 1, 2, 3, 4, 5, 6, 7, 8, 9, 10, 11, 12] rfl)
            have e332 : calN u.1 f 0 = 0 := by first | rfl | (simp [calN, *]; done)
            exact key182 _ 0 F180 (by omega) (Nat.lt_succ_self _) _ _ hW hS hV hbz ls (show lv_has ls 13 [(10, .int (nI 0)), (9, .int (nI (calN u.1 f 0))), (8, .int (nI (sumN u.2.2.2.2.2 f j))), (5, .int (nI ((totR u.2.2.2.2.2 0 f) + (u.2.2.2.2.2 0 f)))), (4, .int (nI ((fltN u.1 f) + ((chkA u.1 f).1)))), (3, .int (nI ((canN u.1 f) + 1))), (2, .int (nI ((cntB (u.1.1 2) f) + if hasB (u.1.1 2) f = true then 1 else 0))), (7, .int (nI 1)), (6, .int (nI f)), (0, .ref (b + 0)), (1, .ref (bb + 0))] from by rw [e332]; exact lv_sub hl [0, 1, 2, 3, 4, 5, 6, 7, 8, 9, 10] rfl)
          rw [zI_le (by omega) (by omega)] at c181
          refine lv_iload hx hb dL_areFunctionsRight_115 (lv_at hl 2 rfl) ?_
          refine lv_aload_n hx hb dL_areFunctionsRight_117 rfl (lv_at hl 9 rfl) ?_
          refine lv_iload hx hb dL_areFunctionsRight_118 (lv_at hl 0 rfl) ?_
          refine lv_iload hx hb dL_areFunctionsRight_120 (lv_at hl 8 rfl) ?_
          refine ts_retI (va_runV (As := [.int (zI j), .int (nI f)]) (rest := [.int (nI (sumN u.2.2.2.2.2 f j))]) ⟨hx, hb, hml, hown, hts⟩ (k_X5_counted l D q b H.size (u.1, F180, u.2.2.1, u.2.2.2) j f hwf (by show j ≤ u.1.1 1; omega) (by show f < u.1.1 1; omega)) (cwV 2 hts gL_areFunctionsRight_X5_counted rfl rfl rfl (by decide +kernel) ⟨Nat.le_of_ble_eq_true rfl, Nat.le_of_ble_eq_true rfl⟩) (ts_preV hK hN hW 0 (by decide) cel_st rfl) rfl rfl hl.1 rfl (lv_room (Nat.le_of_ble_eq_true rfl)) dL_areFunctionsRight_122 ⟨Nat.zero_le _, Nat.zero_le _⟩) hS (fun x h => Or.inl (ts_Aup hS.1 h)) (fun r333 u334 H locs hp335 hW hz hk hS => ?_)
          have hV := ts_kept hV (fun x h1 h2 => hk x (by omega) (fun h => by unfold ts_A at h; omega))
          have hbz := Nat.lt_of_lt_of_le hbz hz
          have hp335r : r333 = nI (u.2.2.2.2.2 j f) := hp335.1
          have hp335u : u334 = (u.1, F180, u.2.2.1, u.2.2.2) := hp335.2
          rw [hp335r]
          rw [hp335u] at hW
          refine ts_iadd (v := nI ((sumN u.2.2.2.2.2 f j) + (u.2.2.2.2.2 j f))) hx hb dL_areFunctionsRight_125 (nI_add _ _) ?_
          refine lv_istore (lv' := [(8, .int (nI ((sumN u.2.2.2.2.2 f j) + (u.2.2.2.2.2 j f)))), (10, .int (zI j)), (9, .int (nI 0)), (5, .int (nI ((totR u.2.2.2.2.2 0 f) + (u.2.2.2.2.2 0 f)))), (4, .int (nI ((fltN u.1 f) + ((chkA u.1 f).1)))), (3, .int (nI ((canN u.1 f) + 1))), (2, .int (nI ((cntB (u.1.1 2) f) + if hasB (u.1.1 2) f = true then 1 else 0))), (7, .int (nI 1)), (6, .int (nI f)), (0, .ref (b + 0)), (1, .ref (bb + 0))]) hx hb dL_areFunctionsRight_126 hl (by decide) rfl (fun ls hl => ?_)
          refine lv_iinc (v := zI (j + 1)) (lv' := [(10, .int (zI (j + 1))), (8, .int (nI ((sumN u.2.2.2.2.2 f j) + (u.2.2.2.2.2 j f)))), (9, .int (nI 0)), (5, .int (nI ((totR u.2.2.2.2.2 0 f) + (u.2.2.2.2.2 0 f)))), (4, .int (nI ((fltN u.1 f) + ((chkA u.1 f).1)))), (3, .int (nI ((canN u.1 f) + 1))), (2, .int (nI ((cntB (u.1.1 2) f) + if hasB (u.1.1 2) f = true then 1 else 0))), (7, .int (nI 1)), (6, .int (nI f)), (0, .ref (b + 0)), (1, .ref (bb + 0))]) hx hb dL_areFunctionsRight_128 hl (k := 1) rfl (zI_succ _) (by decide) rfl (fun ls hl => ?_)
          refine lv_goto (tgt := 105) hx hb dL_areFunctionsRight_131 (by decide) ?_
          have e336 : sumN u.2.2.2.2.2 f (j + 1) = (sumN u.2.2.2.2.2 f j) + (u.2.2.2.2.2 j f) := by rfl
          exact ih176 (j + 1) F180 (by omega) (by omega) H locs hW hS hV hbz ls (show lv_has ls 13 [(10, .int (zI (j + 1))), (9, .int (nI 0)), (8, .int (nI (sumN u.2.2.2.2.2 f (j + 1)))), (5, .int (nI ((totR u.2.2.2.2.2 0 f) + (u.2.2.2.2.2 0 f)))), (4, .int (nI ((fltN u.1 f) + ((chkA u.1 f).1)))), (3, .int (nI ((canN u.1 f) + 1))), (2, .int (nI ((cntB (u.1.1 2) f) + if hasB (u.1.1 2) f = true then 1 else 0))), (7, .int (nI 1)), (6, .int (nI f)), (0, .ref (b + 0)), (1, .ref (bb + 0))] from by rw [e336]; exact lv_sub hl [0, 2, 1, 3, 4, 5, 6, 7, 8, 9, 10] rfl)
      have e337 : zI 0 = (-1) := by rfl
      have e338 : sumN u.2.2.2.2.2 f 0 = 0 := by rfl
      exact key175 _ 0 F171 (by omega) (Nat.lt_succ_self _) _ _ hW hS hV hbz ls (show lv_has ls 13 [(10, .int (zI 0)), (9, .int (nI 0)), (8, .int (nI (sumN u.2.2.2.2.2 f 0))), (5, .int (nI ((totR u.2.2.2.2.2 0 f) + (u.2.2.2.2.2 0 f)))), (4, .int (nI ((fltN u.1 f) + ((chkA u.1 f).1)))), (3, .int (nI ((canN u.1 f) + 1))), (2, .int (nI ((cntB (u.1.1 2) f) + if hasB (u.1.1 2) f = true then 1 else 0))), (7, .int (nI 1)), (6, .int (nI f)), (0, .ref (b + 0)), (1, .ref (bb + 0))] from by rw [e337, e338]; exact lv_sub hl [0, 1, 2, 3, 4, 5, 6, 7, 8, 9, 10] rfl)
  have e339 : totR u.2.2.2.2.2 0 0 = 0 := by first | rfl | (simp [canN, hok]; done)
  have e340 : fltN u.1 0 = 0 := by first | rfl | (simp [canN, hok]; done)
  have e341 : canN u.1 0 = 0 := by first | rfl | (simp [canN, hok]; done)
  have e342 : cntB (u.1.1 2) 0 = 0 := by first | rfl | (simp [canN, hok]; done)
  exact key1 _ 0 u.2.1 (by omega) (Nat.lt_succ_self _) _ _ hW hS hV hbz ls (show lv_has ls 13 [(6, .int (nI 0)), (5, .int (nI (totR u.2.2.2.2.2 0 0))), (4, .int (nI (fltN u.1 0))), (3, .int (nI (canN u.1 0))), (2, .int (nI (cntB (u.1.1 2) 0))), (0, .ref (b + 0)), (1, .ref (bb + 0))] from by rw [e339, e340, e341, e342]; exact lv_sub hl [0, 1, 2, 3, 4, 5, 6] rfl)
