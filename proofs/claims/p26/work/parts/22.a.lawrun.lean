set_option maxHeartbeats 4000000 in
set_option maxRecDepth 100000 in
theorem k_L_isRunRight (l : Launch) (D : va_G) (q : CQ) (b sz : Nat) (u : ST) (bb : Nat) (g : Nat → Nat) (x : Int32) (f : Nat) (hwf : WP u.1) (hf : f < u.1.1 1) : Met l yL_isRunRight wsL_isRunRight ({ frames := 44, cells := 0, slots := 0, locals := 1122 } : Room) (va_Pc [.ref (b + 0), .int x, .int (nI f), .ref (bb + 0)] (PrB D q b sz u bb g)) (cB D q b bb sz (fun r v => r = nI 1 ∧ ∃ (F : FT) (T : TT), RT u.1 (fun c => if c = f then 1 else 0) 1 T ∧ WT T ∧ v = ((u.1, F, T, bookB T u.2.2.2), gB T g))) 0 0 (ts_AB b bb sz) := by
  refine ts_met (by decide) rfl (Nat.le_of_ble_eq_true rfl) ?_
  intro p e s m below meth c C0 hX ls hl
  obtain ⟨⟨hsz, hW, hK, hN⟩, hV, hbb, hbz⟩ := hX
  subst hsz
  obtain ⟨hx, hb, hml, hown, hts, -, -, -⟩ := id C0
  have hW : ts_W D b 52 (cel q b u) s.heap := hW
  have hV : Bl D q bb g s.heap := hV
  have hS : va_S (ts_AB b bb s.heap.size) s.heap s.heap [] := va_S.rf
  have hl : lv_has ls 11 [(0, .ref (b + 0)), (1, .int x), (2, .int (nI f)), (3, .ref (bb + 0))] := hl
  have hs := hwf.sz
  refine lv_iload_n hx hb dL_isRunRight_0 rfl (lv_at hl 1 rfl) ?_
  refine lv_iconst (v := nI 5) hx hb dL_isRunRight_1 (by decide) ?_
  refine ts_ishr (v := x >>> ((nI 5) &&& 31)) hx hb dL_isRunRight_2 rfl ?_
  refine lv_iconst (v := nI 3) hx hb dL_isRunRight_3 (by decide) ?_
  refine ts_retI (va_runS (As := [.int (x >>> ((nI 5) &&& 31)), .int (nI 3)]) (rest := []) ⟨hx, hb, hml, hown, hts⟩ (k_L_below l D q b s.heap.size u (x >>> ((nI 5) &&& 31)) 3 (by decide)) (va_cwS 2 hts gL_isRunRight_L_below rfl rfl rfl (by decide +kernel) ⟨Nat.le_of_ble_eq_true rfl, Nat.le_of_ble_eq_true rfl⟩) (ts_preS hK hN hW) rfl rfl hl.1 rfl (lv_room (Nat.le_of_ble_eq_true rfl)) dL_isRunRight_4 ⟨Nat.zero_le _, Nat.zero_le _⟩) hS (fun x h => Or.inl (ts_Aup hS.1 h)) (fun r1 u2 H locs hp3 hW hz hk hS => ?_)
  have hV := ts_kept hV (fun x h1 h2 => hk x (by omega) (fun h => by unfold ts_A at h; omega))
  have hbz := Nat.lt_of_lt_of_le hbz hz
  have hp3r : r1 = nI (blwN (x >>> ((nI 5) &&& 31)) 3) := hp3.1
  have hp3u : u2 = u := hp3.2
  rw [hp3r]
  rw [hp3u] at hW
  refine lv_istore (lv' := [(4, .int (nI (blwN (x >>> ((nI 5) &&& 31)) 3))), (0, .ref (b + 0)), (1, .int x), (2, .int (nI f)), (3, .ref (bb + 0))]) hx hb dL_isRunRight_7 hl (by decide) rfl (fun ls hl => ?_)
  have htl := blwN_lt (x >>> (nI 5 &&& 31)) (n := 3) (by decide)
  refine lv_iload hx hb dL_isRunRight_9 (lv_at hl 0 rfl) ?_
  refine lv_if_ne (tgt := 29) hx hb dL_isRunRight_11 (by decide) (fun c4 => ?_) (fun c4 => ?_)
  · skip
    rw [ts_eq0 (by omega)] at c4
    have hb3_ := blwN_lt (x >>> (nI 5 &&& 31)) (n := 3) (by decide)
    refine lv_iload hx hb dL_isRunRight_29 (lv_at hl 0 rfl) ?_
    refine lv_iconst (v := nI 1) hx hb dL_isRunRight_31 (by decide) ?_
    refine lv_icmp_ne (tgt := 47) hx hb dL_isRunRight_32 (by decide) (fun c5 => ?_) (fun c5 => ?_)
    · skip
      rw [nI_eq (by omega) (by omega)] at c5
      have hty2 : blwN (x >>> (nI 5 &&& 31)) 3 = 2 := by have := blwN_lt (x >>> (nI 5 &&& 31)) (n := 3) (by decide); omega
      refine lv_iload_n hx hb dL_isRunRight_47 rfl (lv_at hl 2 rfl) ?_
      refine lv_bipush (v := nI 6) hx hb dL_isRunRight_48 (by decide) ?_
      refine ts_ishr (v := x >>> ((nI 6) &&& 31)) hx hb dL_isRunRight_50 rfl ?_
      refine lv_iconst (v := nI 2) hx hb dL_isRunRight_51 (by decide) ?_
      refine ts_retI (va_runS (As := [.int (x >>> ((nI 6) &&& 31)), .int (nI 2)]) (rest := []) ⟨hx, hb, hml, hown, hts⟩ (k_L_below l D q b H.size u (x >>> ((nI 6) &&& 31)) 2 (by decide)) (va_cwS 2 hts gL_isRunRight_L_below rfl rfl rfl (by decide +kernel) ⟨Nat.le_of_ble_eq_true rfl, Nat.le_of_ble_eq_true rfl⟩) (ts_preS hK hN hW) rfl rfl hl.1 rfl (lv_room (Nat.le_of_ble_eq_true rfl)) dL_isRunRight_52 ⟨Nat.zero_le _, Nat.zero_le _⟩) hS (fun x h => Or.inl (ts_Aup hS.1 h)) (fun r6 u7 H locs hp8 hW hz hk hS => ?_)
      have hV := ts_kept hV (fun x h1 h2 => hk x (by omega) (fun h => by unfold ts_A at h; omega))
      have hbz := Nat.lt_of_lt_of_le hbz hz
      have hp8r : r6 = nI (blwN (x >>> ((nI 6) &&& 31)) 2) := hp8.1
      have hp8u : u7 = u := hp8.2
      rw [hp8r]
      rw [hp8u] at hW
      refine lv_istore (lv' := [(5, .int (nI (blwN (x >>> ((nI 6) &&& 31)) 2))), (4, .int (nI (blwN (x >>> ((nI 5) &&& 31)) 3))), (0, .ref (b + 0)), (1, .int x), (2, .int (nI f)), (3, .ref (bb + 0))]) hx hb dL_isRunRight_55 hl (by decide) rfl (fun ls hl => ?_)
      have hbu := hwf.bu
      have hty3 := blwN_lt (x >>> (nI 5 &&& 31)) (n := 3) (by decide)
      have hvl : valI (blwN (x >>> ((nI 5) &&& 31)) 3) (nI (blwN (x >>> ((nI 6) &&& 31)) 2)) := by first | (rw [hty0]; exact val_0 (blwN_lt _ (by decide))) | (rw [hty1]; exact val_1 (blwN_lt _ (by decide))) | (rw [hty2]; exact val_2 (blwN_lt _ (by decide)))
      have hRT := RT.run hwf hf (ty := blwN (x >>> ((nI 5) &&& 31)) 3) (num := nI (blwN (x >>> ((nI 6) &&& 31)) 2)) (bud := u.1.1 0)
      have hWT : WT (runT u.1 f (blwN (x >>> ((nI 5) &&& 31)) 3) (nI (blwN (x >>> ((nI 6) &&& 31)) 2)) (u.1.1 0)) := RT.type hwf hbu (by omega) hf
      obtain ⟨w0, w1, w2, w3, w5, w6, w7, w8, w9⟩ := id hWT
      have w15 := hRT.1.2
      have hcost : costT (runT u.1 f (blwN (x >>> ((nI 5) &&& 31)) 3) (nI (blwN (x >>> ((nI 6) &&& 31)) 2)) (u.1.1 0)) = (runT u.1 f (blwN (x >>> ((nI 5) &&& 31)) 3) (nI (blwN (x >>> ((nI 6) &&& 31)) 2)) (u.1.1 0)).1 2 + 2 * (runT u.1 f (blwN (x >>> ((nI 5) &&& 31)) 3) (nI (blwN (x >>> ((nI 6) &&& 31)) 2)) (u.1.1 0)).1 3 := rfl
      refine lv_aload_n hx hb dL_isRunRight_57 rfl (lv_at hl 2 rfl) ?_
      refine lv_bipush (v := nI 7) hx hb dL_isRunRight_58 (by decide) ?_
      refine ts_retI (va_runV (As := [.int (nI 7)]) (rest := []) ⟨hx, hb, hml, hown, hts⟩ (k_X5_many l D q b H.size u 7 hwf (by omega)) (cwV 1 hts gL_isRunRight_X5_many rfl rfl rfl (by decide +kernel) ⟨Nat.le_of_ble_eq_true rfl, Nat.le_of_ble_eq_true rfl⟩) (ts_preV hK hN hW 0 (by decide) cel_st rfl) rfl rfl hl.1 rfl (lv_room (Nat.le_of_ble_eq_true rfl)) dL_isRunRight_60 ⟨Nat.zero_le _, Nat.zero_le _⟩) hS (fun x h => Or.inl (ts_Aup hS.1 h)) (fun r9 u10 H locs hp11 hW hz hk hS => ?_)
      have hV := ts_kept hV (fun x h1 h2 => hk x (by omega) (fun h => by unfold ts_A at h; omega))
      have hbz := Nat.lt_of_lt_of_le hbz hz
      obtain ⟨hp11r, F12, hp11u⟩ := hp11
      have hp11r : r9 = nI (u.2.2.2.1 2) := hp11r
      have hp11u : u10 = (u.1, F12, u.2.2.1, u.2.2.2) := hp11u
      rw [hp11r]
      rw [hp11u] at hW
      refine lv_istore (lv' := [(6, .int (nI (u.2.2.2.1 2))), (5, .int (nI (blwN (x >>> ((nI 6) &&& 31)) 2))), (4, .int (nI (blwN (x >>> ((nI 5) &&& 31)) 3))), (0, .ref (b + 0)), (1, .int x), (2, .int (nI f)), (3, .ref (bb + 0))]) hx hb dL_isRunRight_63 hl (by decide) rfl (fun ls hl => ?_)
      refine lv_aload_n hx hb dL_isRunRight_65 rfl (lv_at hl 3 rfl) ?_
      refine lv_iconst (v := (-1)) hx hb dL_isRunRight_66 (by decide) ?_
      refine ts_int (y := zI 0) rfl ?_
      refine lv_iload_n hx hb dL_isRunRight_67 rfl (lv_at hl 5 rfl) ?_
      refine ts_retI (va_runV (As := [.int (zI 0), .int (nI f)]) (rest := []) ⟨hx, hb, hml, hown, hts⟩ (k_X5_counted l D q b H.size (u.1, F12, u.2.2.1, u.2.2.2) 0 f hwf (by show 0 ≤ u.1.1 1; omega) (by show f < u.1.1 1; omega)) (cwV 2 hts gL_isRunRight_X5_counted rfl rfl rfl (by decide +kernel) ⟨Nat.le_of_ble_eq_true rfl, Nat.le_of_ble_eq_true rfl⟩) (ts_preV hK hN hW 0 (by decide) cel_st rfl) rfl rfl hl.1 rfl (lv_room (Nat.le_of_ble_eq_true rfl)) dL_isRunRight_68 ⟨Nat.zero_le _, Nat.zero_le _⟩) hS (fun x h => Or.inl (ts_Aup hS.1 h)) (fun r13 u14 H locs hp15 hW hz hk hS => ?_)
      have hV := ts_kept hV (fun x h1 h2 => hk x (by omega) (fun h => by unfold ts_A at h; omega))
      have hbz := Nat.lt_of_lt_of_le hbz hz
      have hp15r : r13 = nI (u.2.2.2.2.2 0 f) := hp15.1
      have hp15u : u14 = (u.1, F12, u.2.2.1, u.2.2.2) := hp15.2
      rw [hp15r]
      rw [hp15u] at hW
      refine lv_istore (lv' := [(7, .int (nI (u.2.2.2.2.2 0 f))), (6, .int (nI (u.2.2.2.1 2))), (5, .int (nI (blwN (x >>> ((nI 6) &&& 31)) 2))), (4, .int (nI (blwN (x >>> ((nI 5) &&& 31)) 3))), (0, .ref (b + 0)), (1, .int x), (2, .int (nI f)), (3, .ref (bb + 0))]) hx hb dL_isRunRight_71 hl (by decide) rfl (fun ls hl => ?_)
      refine lv_aload_n hx hb dL_isRunRight_73 rfl (lv_at hl 4 rfl) ?_
      refine lv_iload_n hx hb dL_isRunRight_74 rfl (lv_at hl 6 rfl) ?_
      refine lv_iload hx hb dL_isRunRight_75 (lv_at hl 3 rfl) ?_
      refine lv_iload hx hb dL_isRunRight_77 (lv_at hl 2 rfl) ?_
      refine ts_retI (va_runV (As := [.int (nI f), .int (nI (blwN (x >>> ((nI 5) &&& 31)) 3)), .int (nI (blwN (x >>> ((nI 6) &&& 31)) 2))]) (rest := []) ⟨hx, hb, hml, hown, hts⟩ (k_X5_wouldBlame l D q b H.size (u.1, F12, u.2.2.1, u.2.2.2) f (blwN (x >>> ((nI 5) &&& 31)) 3) (nI (blwN (x >>> ((nI 6) &&& 31)) 2)) hwf (by show f < u.1.1 1; omega) hvl) (cwV 3 hts gL_isRunRight_X5_wouldBlame rfl rfl rfl (by decide +kernel) ⟨Nat.le_of_ble_eq_true rfl, Nat.le_of_ble_eq_true rfl⟩) (ts_preV hK hN hW 0 (by decide) cel_st rfl) rfl rfl hl.1 rfl (lv_room (Nat.le_of_ble_eq_true rfl)) dL_isRunRight_79 ⟨Nat.zero_le _, Nat.zero_le _⟩) hS (fun x h => Or.inl (ts_Aup hS.1 h)) (fun r16 u17 H locs hp18 hW hz hk hS => ?_)
      have hV := ts_kept hV (fun x h1 h2 => hk x (by omega) (fun h => by unfold ts_A at h; omega))
      have hbz := Nat.lt_of_lt_of_le hbz hz
      have hp18r : r16 = zI ((runT u.1 f (blwN (x >>> ((nI 5) &&& 31)) 3) (nI (blwN (x >>> ((nI 6) &&& 31)) 2)) (u.1.1 0)).1 8) := hp18.1
      have hp18u : u17 = (u.1, F12, (runT u.1 f (blwN (x >>> ((nI 5) &&& 31)) 3) (nI (blwN (x >>> ((nI 6) &&& 31)) 2)) (u.1.1 0)), u.2.2.2) := hp18.2
      rw [hp18r]
      rw [hp18u] at hW
      refine lv_istore (lv' := [(8, .int (zI ((runT u.1 f (blwN (x >>> ((nI 5) &&& 31)) 3) (nI (blwN (x >>> ((nI 6) &&& 31)) 2)) (u.1.1 0)).1 8))), (7, .int (nI (u.2.2.2.2.2 0 f))), (6, .int (nI (u.2.2.2.1 2))), (5, .int (nI (blwN (x >>> ((nI 6) &&& 31)) 2))), (4, .int (nI (blwN (x >>> ((nI 5) &&& 31)) 3))), (0, .ref (b + 0)), (1, .int x), (2, .int (nI f)), (3, .ref (bb + 0))]) hx hb dL_isRunRight_82 hl (by decide) rfl (fun ls hl => ?_)
      refine lv_aload_n hx hb dL_isRunRight_84 rfl (lv_at hl 5 rfl) ?_
      refine lv_iload_n hx hb dL_isRunRight_85 rfl (lv_at hl 7 rfl) ?_
      refine lv_iload hx hb dL_isRunRight_86 (lv_at hl 4 rfl) ?_
      refine lv_iload hx hb dL_isRunRight_88 (lv_at hl 3 rfl) ?_
      refine ts_retI (va_runV (As := [.int (nI f), .int (nI (blwN (x >>> ((nI 5) &&& 31)) 3)), .int (nI (blwN (x >>> ((nI 6) &&& 31)) 2))]) (rest := []) ⟨hx, hb, hml, hown, hts⟩ (k_X5_run l D q b H.size (u.1, F12, (runT u.1 f (blwN (x >>> ((nI 5) &&& 31)) 3) (nI (blwN (x >>> ((nI 6) &&& 31)) 2)) (u.1.1 0)), u.2.2.2) f (blwN (x >>> ((nI 5) &&& 31)) 3) (nI (blwN (x >>> ((nI 6) &&& 31)) 2)) hwf (by show f < u.1.1 1; omega) hvl) (cwV 3 hts gL_isRunRight_X5_run rfl rfl rfl (by decide +kernel) ⟨Nat.le_of_ble_eq_true rfl, Nat.le_of_ble_eq_true rfl⟩) (ts_preV hK hN hW 0 (by decide) cel_st rfl) rfl rfl hl.1 rfl (lv_room (Nat.le_of_ble_eq_true rfl)) dL_isRunRight_90 ⟨Nat.zero_le _, Nat.zero_le _⟩) hS (fun x h => Or.inl (ts_Aup hS.1 h)) (fun r19 u20 H locs hp21 hW hz hk hS => ?_)
      have hV := ts_kept hV (fun x h1 h2 => hk x (by omega) (fun h => by unfold ts_A at h; omega))
      have hbz := Nat.lt_of_lt_of_le hbz hz
      have hp21r : r19 = nI ((runT u.1 f (blwN (x >>> ((nI 5) &&& 31)) 3) (nI (blwN (x >>> ((nI 6) &&& 31)) 2)) (u.1.1 0)).1 6) := hp21.1
      have hp21u : u20 = (u.1, F12, (runT u.1 f (blwN (x >>> ((nI 5) &&& 31)) 3) (nI (blwN (x >>> ((nI 6) &&& 31)) 2)) (u.1.1 0)), (bookB (runT u.1 f (blwN (x >>> ((nI 5) &&& 31)) 3) (nI (blwN (x >>> ((nI 6) &&& 31)) 2)) (u.1.1 0)) u.2.2.2)) := hp21.2
      rw [hp21r]
      rw [hp21u] at hW
      refine lv_istore (lv' := [(9, .int (nI ((runT u.1 f (blwN (x >>> ((nI 5) &&& 31)) 3) (nI (blwN (x >>> ((nI 6) &&& 31)) 2)) (u.1.1 0)).1 6))), (8, .int (zI ((runT u.1 f (blwN (x >>> ((nI 5) &&& 31)) 3) (nI (blwN (x >>> ((nI 6) &&& 31)) 2)) (u.1.1 0)).1 8))), (7, .int (nI (u.2.2.2.2.2 0 f))), (6, .int (nI (u.2.2.2.1 2))), (5, .int (nI (blwN (x >>> ((nI 6) &&& 31)) 2))), (4, .int (nI (blwN (x >>> ((nI 5) &&& 31)) 3))), (0, .ref (b + 0)), (1, .int x), (2, .int (nI f)), (3, .ref (bb + 0))]) hx hb dL_isRunRight_93 hl (by decide) rfl (fun ls hl => ?_)
      refine lv_aload_n hx hb dL_isRunRight_95 rfl (lv_at hl 6 rfl) ?_
      refine lv_iconst (v := nI 1) hx hb dL_isRunRight_96 (by decide) ?_
      refine ts_retI (va_runV (As := [.int (nI 1)]) (rest := []) ⟨hx, hb, hml, hown, hts⟩ (k_X5_latest l D q b H.size (u.1, F12, (runT u.1 f (blwN (x >>> ((nI 5) &&& 31)) 3) (nI (blwN (x >>> ((nI 6) &&& 31)) 2)) (u.1.1 0)), (bookB (runT u.1 f (blwN (x >>> ((nI 5) &&& 31)) 3) (nI (blwN (x >>> ((nI 6) &&& 31)) 2)) (u.1.1 0)) u.2.2.2)) 1 (by omega)) (cwV 1 hts gL_isRunRight_X5_latest rfl rfl rfl (by decide +kernel) ⟨Nat.le_of_ble_eq_true rfl, Nat.le_of_ble_eq_true rfl⟩) (ts_preV hK hN hW 0 (by decide) cel_st rfl) rfl rfl hl.1 rfl (lv_room (Nat.le_of_ble_eq_true rfl)) dL_isRunRight_97 ⟨Nat.zero_le _, Nat.zero_le _⟩) hS (fun x h => Or.inl (ts_Aup hS.1 h)) (fun r22 u23 H locs hp24 hW hz hk hS => ?_)
      have hV := ts_kept hV (fun x h1 h2 => hk x (by omega) (fun h => by unfold ts_A at h; omega))
      have hbz := Nat.lt_of_lt_of_le hbz hz
      have hp24r : r22 = zI ((runT u.1 f (blwN (x >>> ((nI 5) &&& 31)) 3) (nI (blwN (x >>> ((nI 6) &&& 31)) 2)) (u.1.1 0)).1 8) := hp24.1.trans (lat_1 _ _)
      have hp24u : u23 = (u.1, F12, (runT u.1 f (blwN (x >>> ((nI 5) &&& 31)) 3) (nI (blwN (x >>> ((nI 6) &&& 31)) 2)) (u.1.1 0)), (bookB (runT u.1 f (blwN (x >>> ((nI 5) &&& 31)) 3) (nI (blwN (x >>> ((nI 6) &&& 31)) 2)) (u.1.1 0)) u.2.2.2)) := hp24.2
      rw [hp24r]
      rw [hp24u] at hW
      refine lv_istore (lv' := [(10, .int (zI ((runT u.1 f (blwN (x >>> ((nI 5) &&& 31)) 3) (nI (blwN (x >>> ((nI 6) &&& 31)) 2)) (u.1.1 0)).1 8))), (9, .int (nI ((runT u.1 f (blwN (x >>> ((nI 5) &&& 31)) 3) (nI (blwN (x >>> ((nI 6) &&& 31)) 2)) (u.1.1 0)).1 6))), (8, .int (zI ((runT u.1 f (blwN (x >>> ((nI 5) &&& 31)) 3) (nI (blwN (x >>> ((nI 6) &&& 31)) 2)) (u.1.1 0)).1 8))), (7, .int (nI (u.2.2.2.2.2 0 f))), (6, .int (nI (u.2.2.2.1 2))), (5, .int (nI (blwN (x >>> ((nI 6) &&& 31)) 2))), (4, .int (nI (blwN (x >>> ((nI 5) &&& 31)) 3))), (0, .ref (b + 0)), (1, .int x), (2, .int (nI f)), (3, .ref (bb + 0))]) hx hb dL_isRunRight_100 hl (by decide) rfl (fun ls hl => ?_)
      refine lv_iload hx hb dL_isRunRight_102 (lv_at hl 1 rfl) ?_
      refine lv_aload_n hx hb dL_isRunRight_104 rfl (lv_at hl 7 rfl) ?_
      refine lv_iconst (v := nI 0) hx hb dL_isRunRight_105 (by decide) ?_
      refine ts_retI (va_runV (As := [.int (nI 0)]) (rest := [.int (nI ((runT u.1 f (blwN (x >>> ((nI 5) &&& 31)) 3) (nI (blwN (x >>> ((nI 6) &&& 31)) 2)) (u.1.1 0)).1 6))]) ⟨hx, hb, hml, hown, hts⟩ (k_X5_latest l D q b H.size (u.1, F12, (runT u.1 f (blwN (x >>> ((nI 5) &&& 31)) 3) (nI (blwN (x >>> ((nI 6) &&& 31)) 2)) (u.1.1 0)), (bookB (runT u.1 f (blwN (x >>> ((nI 5) &&& 31)) 3) (nI (blwN (x >>> ((nI 6) &&& 31)) 2)) (u.1.1 0)) u.2.2.2)) 0 (by omega)) (cwV 1 hts gL_isRunRight_X5_latest rfl rfl rfl (by decide +kernel) ⟨Nat.le_of_ble_eq_true rfl, Nat.le_of_ble_eq_true rfl⟩) (ts_preV hK hN hW 0 (by decide) cel_st rfl) rfl rfl hl.1 rfl (lv_room (Nat.le_of_ble_eq_true rfl)) dL_isRunRight_106 ⟨Nat.zero_le _, Nat.zero_le _⟩) hS (fun x h => Or.inl (ts_Aup hS.1 h)) (fun r25 u26 H locs hp27 hW hz hk hS => ?_)
      have hV := ts_kept hV (fun x h1 h2 => hk x (by omega) (fun h => by unfold ts_A at h; omega))
      have hbz := Nat.lt_of_lt_of_le hbz hz
      have hp27r : r25 = nI ((runT u.1 f (blwN (x >>> ((nI 5) &&& 31)) 3) (nI (blwN (x >>> ((nI 6) &&& 31)) 2)) (u.1.1 0)).1 6) := hp27.1.trans (lat_0 _ _)
      have hp27u : u26 = (u.1, F12, (runT u.1 f (blwN (x >>> ((nI 5) &&& 31)) 3) (nI (blwN (x >>> ((nI 6) &&& 31)) 2)) (u.1.1 0)), (bookB (runT u.1 f (blwN (x >>> ((nI 5) &&& 31)) 3) (nI (blwN (x >>> ((nI 6) &&& 31)) 2)) (u.1.1 0)) u.2.2.2)) := hp27.2
      rw [hp27r]
      rw [hp27u] at hW
      refine lv_icmp_ne (tgt := 185) hx hb dL_isRunRight_109 (by decide) (fun c28 => ?_) (fun c28 => ?_)
      · skip
        exact absurd rfl c28
      refine lv_iload hx hb dL_isRunRight_112 (lv_at hl 0 rfl) ?_
      refine lv_iload hx hb dL_isRunRight_114 (lv_at hl 2 rfl) ?_
      refine lv_icmp_ne (tgt := 185) hx hb dL_isRunRight_116 (by decide) (fun c29 => ?_) (fun c29 => ?_)
      · skip
        exact absurd rfl c29
      refine lv_aload_n hx hb dL_isRunRight_119 rfl (lv_at hl 7 rfl) ?_
      refine lv_iconst (v := (-1)) hx hb dL_isRunRight_120 (by decide) ?_
      refine ts_int (y := zI 0) rfl ?_
      refine lv_iload_n hx hb dL_isRunRight_121 rfl (lv_at hl 9 rfl) ?_
      refine ts_retI (va_runV (As := [.int (zI 0), .int (nI f)]) (rest := []) ⟨hx, hb, hml, hown, hts⟩ (k_X5_counted l D q b H.size (u.1, F12, (runT u.1 f (blwN (x >>> ((nI 5) &&& 31)) 3) (nI (blwN (x >>> ((nI 6) &&& 31)) 2)) (u.1.1 0)), (bookB (runT u.1 f (blwN (x >>> ((nI 5) &&& 31)) 3) (nI (blwN (x >>> ((nI 6) &&& 31)) 2)) (u.1.1 0)) u.2.2.2)) 0 f hwf (by show 0 ≤ u.1.1 1; omega) (by show f < u.1.1 1; omega)) (cwV 2 hts gL_isRunRight_X5_counted rfl rfl rfl (by decide +kernel) ⟨Nat.le_of_ble_eq_true rfl, Nat.le_of_ble_eq_true rfl⟩) (ts_preV hK hN hW 0 (by decide) cel_st rfl) rfl rfl hl.1 rfl (lv_room (Nat.le_of_ble_eq_true rfl)) dL_isRunRight_122 ⟨Nat.zero_le _, Nat.zero_le _⟩) hS (fun x h => Or.inl (ts_Aup hS.1 h)) (fun r30 u31 H locs hp32 hW hz hk hS => ?_)
      have hV := ts_kept hV (fun x h1 h2 => hk x (by omega) (fun h => by unfold ts_A at h; omega))
      have hbz := Nat.lt_of_lt_of_le hbz hz
      have hp32r : r30 = nI ((((bookB (runT u.1 f (blwN (x >>> ((nI 5) &&& 31)) 3) (nI (blwN (x >>> ((nI 6) &&& 31)) 2)) (u.1.1 0)) u.2.2.2)).2.2) 0 f) := hp32.1
      have hp32u : u31 = (u.1, F12, (runT u.1 f (blwN (x >>> ((nI 5) &&& 31)) 3) (nI (blwN (x >>> ((nI 6) &&& 31)) 2)) (u.1.1 0)), (bookB (runT u.1 f (blwN (x >>> ((nI 5) &&& 31)) 3) (nI (blwN (x >>> ((nI 6) &&& 31)) 2)) (u.1.1 0)) u.2.2.2)) := hp32.2
      rw [hp32r]
      rw [hp32u] at hW
      refine lv_iload hx hb dL_isRunRight_125 (lv_at hl 3 rfl) ?_
      refine lv_iconst (v := nI 1) hx hb dL_isRunRight_127 (by decide) ?_
      refine ts_iadd (v := nI ((u.2.2.2.2.2 0 f) + 1)) hx hb dL_isRunRight_128 (nI_add _ _) ?_
      refine lv_icmp_ne (tgt := 185) hx hb dL_isRunRight_129 (by decide) (fun c33 => ?_) (fun c33 => ?_)
      · skip
        exact absurd (congrArg nI ((book_row _ _ (by decide) (by omega)).trans (congrArg (u.2.2.2.2.2 0 f + ·) ((congrFun hRT.1.1 f).trans (if_pos rfl))))) c33
      refine lv_aload_n hx hb dL_isRunRight_132 rfl (lv_at hl 7 rfl) ?_
      refine lv_bipush (v := nI 7) hx hb dL_isRunRight_133 (by decide) ?_
      refine ts_retI (va_runV (As := [.int (nI 7)]) (rest := []) ⟨hx, hb, hml, hown, hts⟩ (k_X5_many l D q b H.size (u.1, F12, (runT u.1 f (blwN (x >>> ((nI 5) &&& 31)) 3) (nI (blwN (x >>> ((nI 6) &&& 31)) 2)) (u.1.1 0)), (bookB (runT u.1 f (blwN (x >>> ((nI 5) &&& 31)) 3) (nI (blwN (x >>> ((nI 6) &&& 31)) 2)) (u.1.1 0)) u.2.2.2)) 7 hwf (by omega)) (cwV 1 hts gL_isRunRight_X5_many rfl rfl rfl (by decide +kernel) ⟨Nat.le_of_ble_eq_true rfl, Nat.le_of_ble_eq_true rfl⟩) (ts_preV hK hN hW 0 (by decide) cel_st rfl) rfl rfl hl.1 rfl (lv_room (Nat.le_of_ble_eq_true rfl)) dL_isRunRight_135 ⟨Nat.zero_le _, Nat.zero_le _⟩) hS (fun x h => Or.inl (ts_Aup hS.1 h)) (fun r34 u35 H locs hp36 hW hz hk hS => ?_)
      have hV := ts_kept hV (fun x h1 h2 => hk x (by omega) (fun h => by unfold ts_A at h; omega))
      have hbz := Nat.lt_of_lt_of_le hbz hz
      obtain ⟨hp36r, F37, hp36u⟩ := hp36
      have hp36r : r34 = nI ((((bookB (runT u.1 f (blwN (x >>> ((nI 5) &&& 31)) 3) (nI (blwN (x >>> ((nI 6) &&& 31)) 2)) (u.1.1 0)) u.2.2.2)).1) 2) := hp36r
      have hp36u : u35 = (u.1, F37, (runT u.1 f (blwN (x >>> ((nI 5) &&& 31)) 3) (nI (blwN (x >>> ((nI 6) &&& 31)) 2)) (u.1.1 0)), (bookB (runT u.1 f (blwN (x >>> ((nI 5) &&& 31)) 3) (nI (blwN (x >>> ((nI 6) &&& 31)) 2)) (u.1.1 0)) u.2.2.2)) := hp36u
      rw [hp36r]
      rw [hp36u] at hW
      refine lv_iload hx hb dL_isRunRight_138 (lv_at hl 4 rfl) ?_
      refine lv_aload_n hx hb dL_isRunRight_140 rfl (lv_at hl 7 rfl) ?_
      refine lv_iconst (v := nI 2) hx hb dL_isRunRight_141 (by decide) ?_
      refine ts_retI (va_runV (As := [.int (nI 2)]) (rest := [.int (nI (u.2.2.2.1 2)), .int (nI ((((bookB (runT u.1 f (blwN (x >>> ((nI 5) &&& 31)) 3) (nI (blwN (x >>> ((nI 6) &&& 31)) 2)) (u.1.1 0)) u.2.2.2)).1) 2))]) ⟨hx, hb, hml, hown, hts⟩ (k_X5_latest l D q b H.size (u.1, F37, (runT u.1 f (blwN (x >>> ((nI 5) &&& 31)) 3) (nI (blwN (x >>> ((nI 6) &&& 31)) 2)) (u.1.1 0)), (bookB (runT u.1 f (blwN (x >>> ((nI 5) &&& 31)) 3) (nI (blwN (x >>> ((nI 6) &&& 31)) 2)) (u.1.1 0)) u.2.2.2)) 2 (by omega)) (cwV 1 hts gL_isRunRight_X5_latest rfl rfl rfl (by decide +kernel) ⟨Nat.le_of_ble_eq_true rfl, Nat.le_of_ble_eq_true rfl⟩) (ts_preV hK hN hW 0 (by decide) cel_st rfl) rfl rfl hl.1 rfl (lv_room (Nat.le_of_ble_eq_true rfl)) dL_isRunRight_142 ⟨Nat.zero_le _, Nat.zero_le _⟩) hS (fun x h => Or.inl (ts_Aup hS.1 h)) (fun r38 u39 H locs hp40 hW hz hk hS => ?_)
      have hV := ts_kept hV (fun x h1 h2 => hk x (by omega) (fun h => by unfold ts_A at h; omega))
      have hbz := Nat.lt_of_lt_of_le hbz hz
      have hp40r : r38 = nI (costT (runT u.1 f (blwN (x >>> ((nI 5) &&& 31)) 3) (nI (blwN (x >>> ((nI 6) &&& 31)) 2)) (u.1.1 0))) := hp40.1.trans (lat_2 _ _)
      have hp40u : u39 = (u.1, F37, (runT u.1 f (blwN (x >>> ((nI 5) &&& 31)) 3) (nI (blwN (x >>> ((nI 6) &&& 31)) 2)) (u.1.1 0)), (bookB (runT u.1 f (blwN (x >>> ((nI 5) &&& 31)) 3) (nI (blwN (x >>> ((nI 6) &&& 31)) 2)) (u.1.1 0)) u.2.2.2)) := hp40.2
      rw [hp40r]
      rw [hp40u] at hW
      refine ts_iadd (v := nI ((u.2.2.2.1 2) + (costT (runT u.1 f (blwN (x >>> ((nI 5) &&& 31)) 3) (nI (blwN (x >>> ((nI 6) &&& 31)) 2)) (u.1.1 0))))) hx hb dL_isRunRight_145 (nI_add _ _) ?_
      refine lv_icmp_ne (tgt := 185) hx hb dL_isRunRight_146 (by decide) (fun c41 => ?_) (fun c41 => ?_)
      · skip
        exact absurd (congrArg nI (book_2 _ _)) c41
      refine lv_aload_n hx hb dL_isRunRight_149 rfl (lv_at hl 7 rfl) ?_
      refine lv_iconst (v := nI 2) hx hb dL_isRunRight_150 (by decide) ?_
      refine ts_retI (va_runV (As := [.int (nI 2)]) (rest := []) ⟨hx, hb, hml, hown, hts⟩ (k_X5_latest l D q b H.size (u.1, F37, (runT u.1 f (blwN (x >>> ((nI 5) &&& 31)) 3) (nI (blwN (x >>> ((nI 6) &&& 31)) 2)) (u.1.1 0)), (bookB (runT u.1 f (blwN (x >>> ((nI 5) &&& 31)) 3) (nI (blwN (x >>> ((nI 6) &&& 31)) 2)) (u.1.1 0)) u.2.2.2)) 2 (by omega)) (cwV 1 hts gL_isRunRight_X5_latest rfl rfl rfl (by decide +kernel) ⟨Nat.le_of_ble_eq_true rfl, Nat.le_of_ble_eq_true rfl⟩) (ts_preV hK hN hW 0 (by decide) cel_st rfl) rfl rfl hl.1 rfl (lv_room (Nat.le_of_ble_eq_true rfl)) dL_isRunRight_151 ⟨Nat.zero_le _, Nat.zero_le _⟩) hS (fun x h => Or.inl (ts_Aup hS.1 h)) (fun r42 u43 H locs hp44 hW hz hk hS => ?_)
      have hV := ts_kept hV (fun x h1 h2 => hk x (by omega) (fun h => by unfold ts_A at h; omega))
      have hbz := Nat.lt_of_lt_of_le hbz hz
      have hp44r : r42 = nI (costT (runT u.1 f (blwN (x >>> ((nI 5) &&& 31)) 3) (nI (blwN (x >>> ((nI 6) &&& 31)) 2)) (u.1.1 0))) := hp44.1.trans (lat_2 _ _)
      have hp44u : u43 = (u.1, F37, (runT u.1 f (blwN (x >>> ((nI 5) &&& 31)) 3) (nI (blwN (x >>> ((nI 6) &&& 31)) 2)) (u.1.1 0)), (bookB (runT u.1 f (blwN (x >>> ((nI 5) &&& 31)) 3) (nI (blwN (x >>> ((nI 6) &&& 31)) 2)) (u.1.1 0)) u.2.2.2)) := hp44.2
      rw [hp44r]
      rw [hp44u] at hW
      refine lv_iconst (v := nI 2) hx hb dL_isRunRight_154 (by decide) ?_
      refine lv_aload_n hx hb dL_isRunRight_155 rfl (lv_at hl 7 rfl) ?_
      refine lv_iconst (v := nI 3) hx hb dL_isRunRight_156 (by decide) ?_
      refine ts_retI (va_runV (As := [.int (nI 3)]) (rest := [.int (nI 2), .int (nI (costT (runT u.1 f (blwN (x >>> ((nI 5) &&& 31)) 3) (nI (blwN (x >>> ((nI 6) &&& 31)) 2)) (u.1.1 0))))]) ⟨hx, hb, hml, hown, hts⟩ (k_X5_latest l D q b H.size (u.1, F37, (runT u.1 f (blwN (x >>> ((nI 5) &&& 31)) 3) (nI (blwN (x >>> ((nI 6) &&& 31)) 2)) (u.1.1 0)), (bookB (runT u.1 f (blwN (x >>> ((nI 5) &&& 31)) 3) (nI (blwN (x >>> ((nI 6) &&& 31)) 2)) (u.1.1 0)) u.2.2.2)) 3 (by omega)) (cwV 1 hts gL_isRunRight_X5_latest rfl rfl rfl (by decide +kernel) ⟨Nat.le_of_ble_eq_true rfl, Nat.le_of_ble_eq_true rfl⟩) (ts_preV hK hN hW 0 (by decide) cel_st rfl) rfl rfl hl.1 rfl (lv_room (Nat.le_of_ble_eq_true rfl)) dL_isRunRight_157 ⟨Nat.zero_le _, Nat.zero_le _⟩) hS (fun x h => Or.inl (ts_Aup hS.1 h)) (fun r45 u46 H locs hp47 hW hz hk hS => ?_)
      have hV := ts_kept hV (fun x h1 h2 => hk x (by omega) (fun h => by unfold ts_A at h; omega))
      have hbz := Nat.lt_of_lt_of_le hbz hz
      have hp47r : r45 = nI ((runT u.1 f (blwN (x >>> ((nI 5) &&& 31)) 3) (nI (blwN (x >>> ((nI 6) &&& 31)) 2)) (u.1.1 0)).1 3) := hp47.1.trans (lat_3 _ _)
      have hp47u : u46 = (u.1, F37, (runT u.1 f (blwN (x >>> ((nI 5) &&& 31)) 3) (nI (blwN (x >>> ((nI 6) &&& 31)) 2)) (u.1.1 0)), (bookB (runT u.1 f (blwN (x >>> ((nI 5) &&& 31)) 3) (nI (blwN (x >>> ((nI 6) &&& 31)) 2)) (u.1.1 0)) u.2.2.2)) := hp47.2
      rw [hp47r]
      rw [hp47u] at hW
      refine ts_imul (v := nI (2 * ((runT u.1 f (blwN (x >>> ((nI 5) &&& 31)) 3) (nI (blwN (x >>> ((nI 6) &&& 31)) 2)) (u.1.1 0)).1 3))) hx hb dL_isRunRight_160 (pk_mul _ _) ?_
      refine lv_icmp_lt (tgt := 185) hx hb dL_isRunRight_161 (by decide) (fun c48 => ?_) (fun c48 => ?_)
      · skip
        rw [nI_ltI (by omega) (by omega)] at c48
        exfalso; omega
      rw [nI_ltI (by omega) (by omega)] at c48
      refine lv_aload_n hx hb dL_isRunRight_164 rfl (lv_at hl 7 rfl) ?_
      refine lv_bipush (v := nI 7) hx hb dL_isRunRight_165 (by decide) ?_
      refine ts_retI (va_runV (As := [.int (nI 7)]) (rest := []) ⟨hx, hb, hml, hown, hts⟩ (k_X5_latest l D q b H.size (u.1, F37, (runT u.1 f (blwN (x >>> ((nI 5) &&& 31)) 3) (nI (blwN (x >>> ((nI 6) &&& 31)) 2)) (u.1.1 0)), (bookB (runT u.1 f (blwN (x >>> ((nI 5) &&& 31)) 3) (nI (blwN (x >>> ((nI 6) &&& 31)) 2)) (u.1.1 0)) u.2.2.2)) 7 (by omega)) (cwV 1 hts gL_isRunRight_X5_latest rfl rfl rfl (by decide +kernel) ⟨Nat.le_of_ble_eq_true rfl, Nat.le_of_ble_eq_true rfl⟩) (ts_preV hK hN hW 0 (by decide) cel_st rfl) rfl rfl hl.1 rfl (lv_room (Nat.le_of_ble_eq_true rfl)) dL_isRunRight_167 ⟨Nat.zero_le _, Nat.zero_le _⟩) hS (fun x h => Or.inl (ts_Aup hS.1 h)) (fun r49 u50 H locs hp51 hW hz hk hS => ?_)
      have hV := ts_kept hV (fun x h1 h2 => hk x (by omega) (fun h => by unfold ts_A at h; omega))
      have hbz := Nat.lt_of_lt_of_le hbz hz
      have hp51r : r49 = nI ((runT u.1 f (blwN (x >>> ((nI 5) &&& 31)) 3) (nI (blwN (x >>> ((nI 6) &&& 31)) 2)) (u.1.1 0)).1 5) := hp51.1.trans (lat_7 _ _)
      have hp51u : u50 = (u.1, F37, (runT u.1 f (blwN (x >>> ((nI 5) &&& 31)) 3) (nI (blwN (x >>> ((nI 6) &&& 31)) 2)) (u.1.1 0)), (bookB (runT u.1 f (blwN (x >>> ((nI 5) &&& 31)) 3) (nI (blwN (x >>> ((nI 6) &&& 31)) 2)) (u.1.1 0)) u.2.2.2)) := hp51.2
      rw [hp51r]
      rw [hp51u] at hW
      refine lv_iconst (v := nI 1) hx hb dL_isRunRight_170 (by decide) ?_
      refine lv_icmp_lt (tgt := 185) hx hb dL_isRunRight_171 (by decide) (fun c52 => ?_) (fun c52 => ?_)
      · skip
        rw [nI_ltI (by omega) (by omega)] at c52
        exfalso; omega
      rw [nI_ltI (by omega) (by omega)] at c52
      refine lv_aload_n hx hb dL_isRunRight_174 rfl (lv_at hl 7 rfl) ?_
      refine lv_bipush (v := nI 7) hx hb dL_isRunRight_175 (by decide) ?_
      refine ts_retI (va_runV (As := [.int (nI 7)]) (rest := []) ⟨hx, hb, hml, hown, hts⟩ (k_X5_latest l D q b H.size (u.1, F37, (runT u.1 f (blwN (x >>> ((nI 5) &&& 31)) 3) (nI (blwN (x >>> ((nI 6) &&& 31)) 2)) (u.1.1 0)), (bookB (runT u.1 f (blwN (x >>> ((nI 5) &&& 31)) 3) (nI (blwN (x >>> ((nI 6) &&& 31)) 2)) (u.1.1 0)) u.2.2.2)) 7 (by omega)) (cwV 1 hts gL_isRunRight_X5_latest rfl rfl rfl (by decide +kernel) ⟨Nat.le_of_ble_eq_true rfl, Nat.le_of_ble_eq_true rfl⟩) (ts_preV hK hN hW 0 (by decide) cel_st rfl) rfl rfl hl.1 rfl (lv_room (Nat.le_of_ble_eq_true rfl)) dL_isRunRight_177 ⟨Nat.zero_le _, Nat.zero_le _⟩) hS (fun x h => Or.inl (ts_Aup hS.1 h)) (fun r53 u54 H locs hp55 hW hz hk hS => ?_)
      have hV := ts_kept hV (fun x h1 h2 => hk x (by omega) (fun h => by unfold ts_A at h; omega))
      have hbz := Nat.lt_of_lt_of_le hbz hz
      have hp55r : r53 = nI ((runT u.1 f (blwN (x >>> ((nI 5) &&& 31)) 3) (nI (blwN (x >>> ((nI 6) &&& 31)) 2)) (u.1.1 0)).1 5) := hp55.1.trans (lat_7 _ _)
      have hp55u : u54 = (u.1, F37, (runT u.1 f (blwN (x >>> ((nI 5) &&& 31)) 3) (nI (blwN (x >>> ((nI 6) &&& 31)) 2)) (u.1.1 0)), (bookB (runT u.1 f (blwN (x >>> ((nI 5) &&& 31)) 3) (nI (blwN (x >>> ((nI 6) &&& 31)) 2)) (u.1.1 0)) u.2.2.2)) := hp55.2
      rw [hp55r]
      rw [hp55u] at hW
      refine lv_bipush (v := nI 12) hx hb dL_isRunRight_180 (by decide) ?_
      refine lv_icmp_le (tgt := 187) hx hb dL_isRunRight_182 (by decide) (fun c56 => ?_) (fun c56 => ?_)
      · skip
        rw [nI_leI (by omega) (by omega)] at c56
        refine lv_iload hx hb dL_isRunRight_187 (lv_at hl 0 rfl) ?_
        refine lv_if_lt (tgt := 200) hx hb dL_isRunRight_189 (by decide) (fun c57 => ?_) (fun c57 => ?_)
        · skip
          rw [zI_lt0 (by omega)] at c57
          have h8z := c57
          refine lv_iload hx hb dL_isRunRight_200 (lv_at hl 0 rfl) ?_
          refine lv_if_lt (tgt := 229) hx hb dL_isRunRight_202 (by decide) (fun c58 => ?_) (fun c58 => ?_)
          · skip
            rw [zI_lt0 (by omega)] at c58
            refine lv_iload hx hb dL_isRunRight_229 (lv_at hl 1 rfl) ?_
            refine lv_if_ne (tgt := 257) hx hb dL_isRunRight_231 (by decide) (fun c59 => ?_) (fun c59 => ?_)
            · skip
              rw [ts_eq0 (by omega)] at c59
              have hT6 := c59
              refine lv_aload_n hx hb dL_isRunRight_257 rfl (lv_at hl 7 rfl) ?_
              refine lv_iconst (v := nI 5) hx hb dL_isRunRight_258 (by decide) ?_
              refine ts_retI (va_runV (As := [.int (nI 5)]) (rest := []) ⟨hx, hb, hml, hown, hts⟩ (k_X5_latest l D q b H.size (u.1, F37, (runT u.1 f (blwN (x >>> ((nI 5) &&& 31)) 3) (nI (blwN (x >>> ((nI 6) &&& 31)) 2)) (u.1.1 0)), (bookB (runT u.1 f (blwN (x >>> ((nI 5) &&& 31)) 3) (nI (blwN (x >>> ((nI 6) &&& 31)) 2)) (u.1.1 0)) u.2.2.2)) 5 (by omega)) (cwV 1 hts gL_isRunRight_X5_latest rfl rfl rfl (by decide +kernel) ⟨Nat.le_of_ble_eq_true rfl, Nat.le_of_ble_eq_true rfl⟩) (ts_preV hK hN hW 0 (by decide) cel_st rfl) rfl rfl hl.1 rfl (lv_room (Nat.le_of_ble_eq_true rfl)) dL_isRunRight_259 ⟨Nat.zero_le _, Nat.zero_le _⟩) hS (fun x h => Or.inl (ts_Aup hS.1 h)) (fun r60 u61 H locs hp62 hW hz hk hS => ?_)
              have hV := ts_kept hV (fun x h1 h2 => hk x (by omega) (fun h => by unfold ts_A at h; omega))
              have hbz := Nat.lt_of_lt_of_le hbz hz
              have hp62r : r60 = nI 3 := hp62.1.trans ((lat_5 _ _).trans (congrArg nI (if_neg hT6)))
              have hp62u : u61 = (u.1, F37, (runT u.1 f (blwN (x >>> ((nI 5) &&& 31)) 3) (nI (blwN (x >>> ((nI 6) &&& 31)) 2)) (u.1.1 0)), (bookB (runT u.1 f (blwN (x >>> ((nI 5) &&& 31)) 3) (nI (blwN (x >>> ((nI 6) &&& 31)) 2)) (u.1.1 0)) u.2.2.2)) := hp62.2
              rw [hp62r]
              rw [hp62u] at hW
              refine lv_iconst (v := nI 3) hx hb dL_isRunRight_262 (by decide) ?_
              refine lv_icmp_ne (tgt := 279) hx hb dL_isRunRight_263 (by decide) (fun c63 => ?_) (fun c63 => ?_)
              · skip
                exfalso; revert c63; decide
              refine lv_aload_n hx hb dL_isRunRight_266 rfl (lv_at hl 7 rfl) ?_
              refine lv_bipush (v := nI 6) hx hb dL_isRunRight_267 (by decide) ?_
              refine ts_retI (va_runV (As := [.int (nI 6)]) (rest := []) ⟨hx, hb, hml, hown, hts⟩ (k_X5_latest l D q b H.size (u.1, F37, (runT u.1 f (blwN (x >>> ((nI 5) &&& 31)) 3) (nI (blwN (x >>> ((nI 6) &&& 31)) 2)) (u.1.1 0)), (bookB (runT u.1 f (blwN (x >>> ((nI 5) &&& 31)) 3) (nI (blwN (x >>> ((nI 6) &&& 31)) 2)) (u.1.1 0)) u.2.2.2)) 6 (by omega)) (cwV 1 hts gL_isRunRight_X5_latest rfl rfl rfl (by decide +kernel) ⟨Nat.le_of_ble_eq_true rfl, Nat.le_of_ble_eq_true rfl⟩) (ts_preV hK hN hW 0 (by decide) cel_st rfl) rfl rfl hl.1 rfl (lv_room (Nat.le_of_ble_eq_true rfl)) dL_isRunRight_269 ⟨Nat.zero_le _, Nat.zero_le _⟩) hS (fun x h => Or.inl (ts_Aup hS.1 h)) (fun r64 u65 H locs hp66 hW hz hk hS => ?_)
              have hV := ts_kept hV (fun x h1 h2 => hk x (by omega) (fun h => by unfold ts_A at h; omega))
              have hbz := Nat.lt_of_lt_of_le hbz hz
              have hp66r : r64 = nI 0 := hp66.1.trans (lat_6 _ _ hT6)
              have hp66u : u65 = (u.1, F37, (runT u.1 f (blwN (x >>> ((nI 5) &&& 31)) 3) (nI (blwN (x >>> ((nI 6) &&& 31)) 2)) (u.1.1 0)), (bookB (runT u.1 f (blwN (x >>> ((nI 5) &&& 31)) 3) (nI (blwN (x >>> ((nI 6) &&& 31)) 2)) (u.1.1 0)) u.2.2.2)) := hp66.2
              rw [hp66r]
              rw [hp66u] at hW
              refine lv_if_ne (tgt := 279) hx hb dL_isRunRight_272 (by decide) (fun c67 => ?_) (fun c67 => ?_)
              · skip
                exfalso; revert c67; decide
              refine lv_iconst (v := nI 1) hx hb dL_isRunRight_275 (by decide) ?_
              refine lv_goto (tgt := 280) hx hb dL_isRunRight_276 (by decide) ?_
              exact ts_zretB (u := (u.1, F37, (runT u.1 f (blwN (x >>> ((nI 5) &&& 31)) 3) (nI (blwN (x >>> ((nI 6) &&& 31)) 2)) (u.1.1 0)), (bookB (runT u.1 f (blwN (x >>> ((nI 5) &&& 31)) 3) (nI (blwN (x >>> ((nI 6) &&& 31)) 2)) (u.1.1 0)) u.2.2.2))) (g := g) (v := nI 1) C0 rfl hW hV hS (by exact ⟨rfl, F37, (runT u.1 f (blwN (x >>> ((nI 5) &&& 31)) 3) (nI (blwN (x >>> ((nI 6) &&& 31)) 2)) (u.1.1 0)), hRT, hWT, by rw [gB_0 h8z]⟩) dL_isRunRight_280
            rw [ts_eq0 (by omega)] at c59
            have hT6 := c59
            refine lv_aload_n hx hb dL_isRunRight_234 rfl (lv_at hl 7 rfl) ?_
            refine lv_iconst (v := nI 5) hx hb dL_isRunRight_235 (by decide) ?_
            refine ts_retI (va_runV (As := [.int (nI 5)]) (rest := []) ⟨hx, hb, hml, hown, hts⟩ (k_X5_latest l D q b H.size (u.1, F37, (runT u.1 f (blwN (x >>> ((nI 5) &&& 31)) 3) (nI (blwN (x >>> ((nI 6) &&& 31)) 2)) (u.1.1 0)), (bookB (runT u.1 f (blwN (x >>> ((nI 5) &&& 31)) 3) (nI (blwN (x >>> ((nI 6) &&& 31)) 2)) (u.1.1 0)) u.2.2.2)) 5 (by omega)) (cwV 1 hts gL_isRunRight_X5_latest rfl rfl rfl (by decide +kernel) ⟨Nat.le_of_ble_eq_true rfl, Nat.le_of_ble_eq_true rfl⟩) (ts_preV hK hN hW 0 (by decide) cel_st rfl) rfl rfl hl.1 rfl (lv_room (Nat.le_of_ble_eq_true rfl)) dL_isRunRight_236 ⟨Nat.zero_le _, Nat.zero_le _⟩) hS (fun x h => Or.inl (ts_Aup hS.1 h)) (fun r68 u69 H locs hp70 hW hz hk hS => ?_)
            have hV := ts_kept hV (fun x h1 h2 => hk x (by omega) (fun h => by unfold ts_A at h; omega))
            have hbz := Nat.lt_of_lt_of_le hbz hz
            have hp70r : r68 = nI ((runT u.1 f (blwN (x >>> ((nI 5) &&& 31)) 3) (nI (blwN (x >>> ((nI 6) &&& 31)) 2)) (u.1.1 0)).1 1) := hp70.1.trans ((lat_5 _ _).trans (congrArg nI (if_pos hT6)))
            have hp70u : u69 = (u.1, F37, (runT u.1 f (blwN (x >>> ((nI 5) &&& 31)) 3) (nI (blwN (x >>> ((nI 6) &&& 31)) 2)) (u.1.1 0)), (bookB (runT u.1 f (blwN (x >>> ((nI 5) &&& 31)) 3) (nI (blwN (x >>> ((nI 6) &&& 31)) 2)) (u.1.1 0)) u.2.2.2)) := hp70.2
            rw [hp70r]
            rw [hp70u] at hW
            refine lv_iconst (v := nI 3) hx hb dL_isRunRight_239 (by decide) ?_
            refine lv_icmp_ge (tgt := 253) hx hb dL_isRunRight_240 (by decide) (fun c71 => ?_) (fun c71 => ?_)
            · skip
              rw [nI_leI (by omega) (by omega)] at c71
              exfalso; omega
            rw [nI_leI (by omega) (by omega)] at c71
            refine lv_iload hx hb dL_isRunRight_243 (lv_at hl 0 rfl) ?_
            refine lv_iconst (v := (-1)) hx hb dL_isRunRight_245 (by decide) ?_
            refine lv_icmp_ne (tgt := 253) hx hb dL_isRunRight_246 (by decide) (fun c72 => ?_) (fun c72 => ?_)
            · skip
              rw [zI_m1 (by omega)] at c72
              exact absurd (hRT.2.2.1.1 hT6) c72
            rw [zI_m1 (by omega)] at c72
            refine lv_iconst (v := nI 1) hx hb dL_isRunRight_249 (by decide) ?_
            refine lv_goto (tgt := 280) hx hb dL_isRunRight_250 (by decide) ?_
            exact ts_zretB (u := (u.1, F37, (runT u.1 f (blwN (x >>> ((nI 5) &&& 31)) 3) (nI (blwN (x >>> ((nI 6) &&& 31)) 2)) (u.1.1 0)), (bookB (runT u.1 f (blwN (x >>> ((nI 5) &&& 31)) 3) (nI (blwN (x >>> ((nI 6) &&& 31)) 2)) (u.1.1 0)) u.2.2.2))) (g := g) (v := nI 1) C0 rfl hW hV hS (by exact ⟨rfl, F37, (runT u.1 f (blwN (x >>> ((nI 5) &&& 31)) 3) (nI (blwN (x >>> ((nI 6) &&& 31)) 2)) (u.1.1 0)), hRT, hWT, by rw [gB_0 h8z]⟩) dL_isRunRight_280
          rw [zI_lt0 (by omega)] at c58
          exact absurd h8z c58
        rw [zI_lt0 (by omega)] at c57
        have h8n := c57
        refine lv_aload_n hx hb dL_isRunRight_192 rfl (lv_at hl 10 rfl) ?_
        refine lv_iload hx hb dL_isRunRight_193 (lv_at hl 0 rfl) ?_
        refine ts_int (y := nI ((runT u.1 f (blwN (x >>> ((nI 5) &&& 31)) 3) (nI (blwN (x >>> ((nI 6) &&& 31)) 2)) (u.1.1 0)).1 8 - 1)) (zI_pred h8n) ?_
        obtain ⟨hb1, hb2, hb3, hb4⟩ := hRT.blame h8n
        refine lv_dup2_11 hx hb dL_isRunRight_195 rfl rfl ?_
        refine ts_iald (v := nI (g ((runT u.1 f (blwN (x >>> ((nI 5) &&& 31)) 3) (nI (blwN (x >>> ((nI 6) &&& 31)) 2)) (u.1.1 0)).1 8 - 1))) hx hb hK hV 0 (by decide) 0 rfl rfl (by omega) (by decide) rfl dL_isRunRight_196 ?_
        refine lv_iconst (v := nI 1) hx hb dL_isRunRight_197 (by decide) ?_
        refine ts_iadd (v := nI ((g ((runT u.1 f (blwN (x >>> ((nI 5) &&& 31)) 3) (nI (blwN (x >>> ((nI 6) &&& 31)) 2)) (u.1.1 0)).1 8 - 1)) + 1)) hx hb dL_isRunRight_198 (nI_add _ _) ?_
        refine ts_iast (v := nI ((g ((runT u.1 f (blwN (x >>> ((nI 5) &&& 31)) 3) (nI (blwN (x >>> ((nI 6) &&& 31)) 2)) (u.1.1 0)).1 8 - 1)) + 1)) hx hb hK hV hS (fun k hk => Or.inr (by omega)) 0 (by decide) 0 rfl rfl (by omega) (by decide) (fun _ => .inl (q.1, 10, .inl (fnat (va_up g ((runT u.1 f (blwN (x >>> ((nI 5) &&& 31)) 3) (nI (blwN (x >>> ((nI 6) &&& 31)) 2)) (u.1.1 0)).1 8 - 1) ((g ((runT u.1 f (blwN (x >>> ((nI 5) &&& 31)) 3) (nI (blwN (x >>> ((nI 6) &&& 31)) 2)) (u.1.1 0)).1 8 - 1)) + 1))))) rfl (fnat_up _ _ _) (fun j hj h0 => absurd hj (by omega)) dL_isRunRight_199 (fun H locs oq zq hV hS => ?_)
        have hW := ts_kept hW (fun x h1 h2 => oq x (by omega))
        have hbz := Nat.lt_of_lt_of_eq hbz zq.symm
        refine lv_iload hx hb dL_isRunRight_200 (lv_at hl 0 rfl) ?_
        refine lv_if_lt (tgt := 229) hx hb dL_isRunRight_202 (by decide) (fun c73 => ?_) (fun c73 => ?_)
        · skip
          rw [zI_lt0 (by omega)] at c73
          exact absurd c73 h8n
        rw [zI_lt0 (by omega)] at c73
        refine lv_iload hx hb dL_isRunRight_205 (lv_at hl 1 rfl) ?_
        refine lv_if_eq (tgt := 227) hx hb dL_isRunRight_207 (by decide) (fun c74 => ?_) (fun c74 => ?_)
        · skip
          rw [ts_eq0 (by omega)] at c74
          exact absurd c74 hb1
        rw [ts_eq0 (by omega)] at c74
        refine lv_iload hx hb dL_isRunRight_210 (lv_at hl 1 rfl) ?_
        refine lv_iconst (v := nI 3) hx hb dL_isRunRight_212 (by decide) ?_
        refine lv_icmp_gt (tgt := 227) hx hb dL_isRunRight_213 (by decide) (fun c75 => ?_) (fun c75 => ?_)
        · skip
          rw [nI_ltI (by omega) (by omega)] at c75
          exfalso; omega
        rw [nI_ltI (by omega) (by omega)] at c75
        refine lv_aload_n hx hb dL_isRunRight_216 rfl (lv_at hl 7 rfl) ?_
        refine lv_iload hx hb dL_isRunRight_217 (lv_at hl 0 rfl) ?_
        refine ts_int (y := nI ((runT u.1 f (blwN (x >>> ((nI 5) &&& 31)) 3) (nI (blwN (x >>> ((nI 6) &&& 31)) 2)) (u.1.1 0)).1 8 - 1)) (zI_pred h8n) ?_
        refine lv_iconst (v := nI 3) hx hb dL_isRunRight_219 (by decide) ?_
        refine ts_retI (va_runV (As := [.int (nI ((runT u.1 f (blwN (x >>> ((nI 5) &&& 31)) 3) (nI (blwN (x >>> ((nI 6) &&& 31)) 2)) (u.1.1 0)).1 8 - 1)), .int (nI 3)]) (rest := []) ⟨hx, hb, hml, hown, hts⟩ (k_X5_ofFunction l D q b H.size (u.1, F37, (runT u.1 f (blwN (x >>> ((nI 5) &&& 31)) 3) (nI (blwN (x >>> ((nI 6) &&& 31)) 2)) (u.1.1 0)), (bookB (runT u.1 f (blwN (x >>> ((nI 5) &&& 31)) 3) (nI (blwN (x >>> ((nI 6) &&& 31)) 2)) (u.1.1 0)) u.2.2.2)) ((runT u.1 f (blwN (x >>> ((nI 5) &&& 31)) 3) (nI (blwN (x >>> ((nI 6) &&& 31)) 2)) (u.1.1 0)).1 8 - 1) 3 hwf (by show ((runT u.1 f (blwN (x >>> ((nI 5) &&& 31)) 3) (nI (blwN (x >>> ((nI 6) &&& 31)) 2)) (u.1.1 0)).1 8 - 1) < u.1.1 1; omega) (by omega)) (cwV 2 hts gL_isRunRight_X5_ofFunction rfl rfl rfl (by decide +kernel) ⟨Nat.le_of_ble_eq_true rfl, Nat.le_of_ble_eq_true rfl⟩) (ts_preV hK hN hW 0 (by decide) cel_st rfl) rfl rfl hl.1 rfl (lv_room (Nat.le_of_ble_eq_true rfl)) dL_isRunRight_220 ⟨Nat.zero_le _, Nat.zero_le _⟩) hS (fun x h => Or.inl (ts_Aup hS.1 h)) (fun r76 u77 H locs hp78 hW hz hk hS => ?_)
        have hV := ts_kept hV (fun x h1 h2 => hk x (by omega) (fun h => by unfold ts_A at h; omega))
        have hbz := Nat.lt_of_lt_of_le hbz hz
        obtain ⟨hp78r, F79, hp78u⟩ := hp78
        have hp78r : r76 = b2i (hasB (u.1.1 2) ((runT u.1 f (blwN (x >>> ((nI 5) &&& 31)) 3) (nI (blwN (x >>> ((nI 6) &&& 31)) 2)) (u.1.1 0)).1 8 - 1)) := hp78r
        have hp78u : u77 = (u.1, F79, (runT u.1 f (blwN (x >>> ((nI 5) &&& 31)) 3) (nI (blwN (x >>> ((nI 6) &&& 31)) 2)) (u.1.1 0)), (bookB (runT u.1 f (blwN (x >>> ((nI 5) &&& 31)) 3) (nI (blwN (x >>> ((nI 6) &&& 31)) 2)) (u.1.1 0)) u.2.2.2)) := hp78u
        rw [hp78r]
        rw [hp78u] at hW
        refine lv_iconst (v := nI 1) hx hb dL_isRunRight_223 (by decide) ?_
        refine lv_icmp_ne (tgt := 229) hx hb dL_isRunRight_224 (by decide) (fun c80 => ?_) (fun c80 => ?_)
        · skip
          rw [ts_b1] at c80
          refine lv_iload hx hb dL_isRunRight_229 (lv_at hl 1 rfl) ?_
          refine lv_if_ne (tgt := 257) hx hb dL_isRunRight_231 (by decide) (fun c81 => ?_) (fun c81 => ?_)
          · skip
            rw [ts_eq0 (by omega)] at c81
            have hT6 := c81
            refine lv_aload_n hx hb dL_isRunRight_257 rfl (lv_at hl 7 rfl) ?_
            refine lv_iconst (v := nI 5) hx hb dL_isRunRight_258 (by decide) ?_
            refine ts_retI (va_runV (As := [.int (nI 5)]) (rest := []) ⟨hx, hb, hml, hown, hts⟩ (k_X5_latest l D q b H.size (u.1, F79, (runT u.1 f (blwN (x >>> ((nI 5) &&& 31)) 3) (nI (blwN (x >>> ((nI 6) &&& 31)) 2)) (u.1.1 0)), (bookB (runT u.1 f (blwN (x >>> ((nI 5) &&& 31)) 3) (nI (blwN (x >>> ((nI 6) &&& 31)) 2)) (u.1.1 0)) u.2.2.2)) 5 (by omega)) (cwV 1 hts gL_isRunRight_X5_latest rfl rfl rfl (by decide +kernel) ⟨Nat.le_of_ble_eq_true rfl, Nat.le_of_ble_eq_true rfl⟩) (ts_preV hK hN hW 0 (by decide) cel_st rfl) rfl rfl hl.1 rfl (lv_room (Nat.le_of_ble_eq_true rfl)) dL_isRunRight_259 ⟨Nat.zero_le _, Nat.zero_le _⟩) hS (fun x h => Or.inl (ts_Aup hS.1 h)) (fun r82 u83 H locs hp84 hW hz hk hS => ?_)
            have hV := ts_kept hV (fun x h1 h2 => hk x (by omega) (fun h => by unfold ts_A at h; omega))
            have hbz := Nat.lt_of_lt_of_le hbz hz
            have hp84r : r82 = nI 3 := hp84.1.trans ((lat_5 _ _).trans (congrArg nI (if_neg hT6)))
            have hp84u : u83 = (u.1, F79, (runT u.1 f (blwN (x >>> ((nI 5) &&& 31)) 3) (nI (blwN (x >>> ((nI 6) &&& 31)) 2)) (u.1.1 0)), (bookB (runT u.1 f (blwN (x >>> ((nI 5) &&& 31)) 3) (nI (blwN (x >>> ((nI 6) &&& 31)) 2)) (u.1.1 0)) u.2.2.2)) := hp84.2
            rw [hp84r]
            rw [hp84u] at hW
            refine lv_iconst (v := nI 3) hx hb dL_isRunRight_262 (by decide) ?_
            refine lv_icmp_ne (tgt := 279) hx hb dL_isRunRight_263 (by decide) (fun c85 => ?_) (fun c85 => ?_)
            · skip
              exfalso; revert c85; decide
            refine lv_aload_n hx hb dL_isRunRight_266 rfl (lv_at hl 7 rfl) ?_
            refine lv_bipush (v := nI 6) hx hb dL_isRunRight_267 (by decide) ?_
            refine ts_retI (va_runV (As := [.int (nI 6)]) (rest := []) ⟨hx, hb, hml, hown, hts⟩ (k_X5_latest l D q b H.size (u.1, F79, (runT u.1 f (blwN (x >>> ((nI 5) &&& 31)) 3) (nI (blwN (x >>> ((nI 6) &&& 31)) 2)) (u.1.1 0)), (bookB (runT u.1 f (blwN (x >>> ((nI 5) &&& 31)) 3) (nI (blwN (x >>> ((nI 6) &&& 31)) 2)) (u.1.1 0)) u.2.2.2)) 6 (by omega)) (cwV 1 hts gL_isRunRight_X5_latest rfl rfl rfl (by decide +kernel) ⟨Nat.le_of_ble_eq_true rfl, Nat.le_of_ble_eq_true rfl⟩) (ts_preV hK hN hW 0 (by decide) cel_st rfl) rfl rfl hl.1 rfl (lv_room (Nat.le_of_ble_eq_true rfl)) dL_isRunRight_269 ⟨Nat.zero_le _, Nat.zero_le _⟩) hS (fun x h => Or.inl (ts_Aup hS.1 h)) (fun r86 u87 H locs hp88 hW hz hk hS => ?_)
            have hV := ts_kept hV (fun x h1 h2 => hk x (by omega) (fun h => by unfold ts_A at h; omega))
            have hbz := Nat.lt_of_lt_of_le hbz hz
            have hp88r : r86 = nI 0 := hp88.1.trans (lat_6 _ _ hT6)
            have hp88u : u87 = (u.1, F79, (runT u.1 f (blwN (x >>> ((nI 5) &&& 31)) 3) (nI (blwN (x >>> ((nI 6) &&& 31)) 2)) (u.1.1 0)), (bookB (runT u.1 f (blwN (x >>> ((nI 5) &&& 31)) 3) (nI (blwN (x >>> ((nI 6) &&& 31)) 2)) (u.1.1 0)) u.2.2.2)) := hp88.2
            rw [hp88r]
            rw [hp88u] at hW
            refine lv_if_ne (tgt := 279) hx hb dL_isRunRight_272 (by decide) (fun c89 => ?_) (fun c89 => ?_)
            · skip
              exfalso; revert c89; decide
            refine lv_iconst (v := nI 1) hx hb dL_isRunRight_275 (by decide) ?_
            refine lv_goto (tgt := 280) hx hb dL_isRunRight_276 (by decide) ?_
            exact ts_zretB (u := (u.1, F79, (runT u.1 f (blwN (x >>> ((nI 5) &&& 31)) 3) (nI (blwN (x >>> ((nI 6) &&& 31)) 2)) (u.1.1 0)), (bookB (runT u.1 f (blwN (x >>> ((nI 5) &&& 31)) 3) (nI (blwN (x >>> ((nI 6) &&& 31)) 2)) (u.1.1 0)) u.2.2.2))) (g := va_up g ((runT u.1 f (blwN (x >>> ((nI 5) &&& 31)) 3) (nI (blwN (x >>> ((nI 6) &&& 31)) 2)) (u.1.1 0)).1 8 - 1) ((g ((runT u.1 f (blwN (x >>> ((nI 5) &&& 31)) 3) (nI (blwN (x >>> ((nI 6) &&& 31)) 2)) (u.1.1 0)).1 8 - 1)) + 1)) (v := nI 1) C0 rfl hW hV hS (by exact ⟨rfl, F79, (runT u.1 f (blwN (x >>> ((nI 5) &&& 31)) 3) (nI (blwN (x >>> ((nI 6) &&& 31)) 2)) (u.1.1 0)), hRT, hWT, by rw [gB_1 h8n]⟩) dL_isRunRight_280
          rw [ts_eq0 (by omega)] at c81
          have hT6 := c81
          refine lv_aload_n hx hb dL_isRunRight_234 rfl (lv_at hl 7 rfl) ?_
          refine lv_iconst (v := nI 5) hx hb dL_isRunRight_235 (by decide) ?_
          refine ts_retI (va_runV (As := [.int (nI 5)]) (rest := []) ⟨hx, hb, hml, hown, hts⟩ (k_X5_latest l D q b H.size (u.1, F79, (runT u.1 f (blwN (x >>> ((nI 5) &&& 31)) 3) (nI (blwN (x >>> ((nI 6) &&& 31)) 2)) (u.1.1 0)), (bookB (runT u.1 f (blwN (x >>> ((nI 5) &&& 31)) 3) (nI (blwN (x >>> ((nI 6) &&& 31)) 2)) (u.1.1 0)) u.2.2.2)) 5 (by omega)) (cwV 1 hts gL_isRunRight_X5_latest rfl rfl rfl (by decide +kernel) ⟨Nat.le_of_ble_eq_true rfl, Nat.le_of_ble_eq_true rfl⟩) (ts_preV hK hN hW 0 (by decide) cel_st rfl) rfl rfl hl.1 rfl (lv_room (Nat.le_of_ble_eq_true rfl)) dL_isRunRight_236 ⟨Nat.zero_le _, Nat.zero_le _⟩) hS (fun x h => Or.inl (ts_Aup hS.1 h)) (fun r90 u91 H locs hp92 hW hz hk hS => ?_)
          have hV := ts_kept hV (fun x h1 h2 => hk x (by omega) (fun h => by unfold ts_A at h; omega))
          have hbz := Nat.lt_of_lt_of_le hbz hz
          have hp92r : r90 = nI ((runT u.1 f (blwN (x >>> ((nI 5) &&& 31)) 3) (nI (blwN (x >>> ((nI 6) &&& 31)) 2)) (u.1.1 0)).1 1) := hp92.1.trans ((lat_5 _ _).trans (congrArg nI (if_pos hT6)))
          have hp92u : u91 = (u.1, F79, (runT u.1 f (blwN (x >>> ((nI 5) &&& 31)) 3) (nI (blwN (x >>> ((nI 6) &&& 31)) 2)) (u.1.1 0)), (bookB (runT u.1 f (blwN (x >>> ((nI 5) &&& 31)) 3) (nI (blwN (x >>> ((nI 6) &&& 31)) 2)) (u.1.1 0)) u.2.2.2)) := hp92.2
          rw [hp92r]
          rw [hp92u] at hW
          refine lv_iconst (v := nI 3) hx hb dL_isRunRight_239 (by decide) ?_
          refine lv_icmp_ge (tgt := 253) hx hb dL_isRunRight_240 (by decide) (fun c93 => ?_) (fun c93 => ?_)
          · skip
            rw [nI_leI (by omega) (by omega)] at c93
            exfalso; omega
          rw [nI_leI (by omega) (by omega)] at c93
          refine lv_iload hx hb dL_isRunRight_243 (lv_at hl 0 rfl) ?_
          refine lv_iconst (v := (-1)) hx hb dL_isRunRight_245 (by decide) ?_
          refine lv_icmp_ne (tgt := 253) hx hb dL_isRunRight_246 (by decide) (fun c94 => ?_) (fun c94 => ?_)
          · skip
            rw [zI_m1 (by omega)] at c94
            exact absurd (hRT.2.2.1.1 hT6) c94
          rw [zI_m1 (by omega)] at c94
          refine lv_iconst (v := nI 1) hx hb dL_isRunRight_249 (by decide) ?_
          refine lv_goto (tgt := 280) hx hb dL_isRunRight_250 (by decide) ?_
          exact ts_zretB (u := (u.1, F79, (runT u.1 f (blwN (x >>> ((nI 5) &&& 31)) 3) (nI (blwN (x >>> ((nI 6) &&& 31)) 2)) (u.1.1 0)), (bookB (runT u.1 f (blwN (x >>> ((nI 5) &&& 31)) 3) (nI (blwN (x >>> ((nI 6) &&& 31)) 2)) (u.1.1 0)) u.2.2.2))) (g := va_up g ((runT u.1 f (blwN (x >>> ((nI 5) &&& 31)) 3) (nI (blwN (x >>> ((nI 6) &&& 31)) 2)) (u.1.1 0)).1 8 - 1) ((g ((runT u.1 f (blwN (x >>> ((nI 5) &&& 31)) 3) (nI (blwN (x >>> ((nI 6) &&& 31)) 2)) (u.1.1 0)).1 8 - 1)) + 1)) (v := nI 1) C0 rfl hW hV hS (by exact ⟨rfl, F79, (runT u.1 f (blwN (x >>> ((nI 5) &&& 31)) 3) (nI (blwN (x >>> ((nI 6) &&& 31)) 2)) (u.1.1 0)), hRT, hWT, by rw [gB_1 h8n]⟩) dL_isRunRight_280
        rw [ts_b1] at c80
        exact absurd (hb4.symm.trans c80) (by decide)
      rw [nI_leI (by omega) (by omega)] at c56
      exfalso; omega
    rw [nI_eq (by omega) (by omega)] at c5
    have hty1 := c5
    refine lv_iload_n hx hb dL_isRunRight_35 rfl (lv_at hl 2 rfl) ?_
    refine lv_bipush (v := nI 6) hx hb dL_isRunRight_36 (by decide) ?_
    refine ts_ishr (v := x >>> ((nI 6) &&& 31)) hx hb dL_isRunRight_38 rfl ?_
    refine lv_bipush (v := nI 50) hx hb dL_isRunRight_39 (by decide) ?_
    refine ts_retI (va_runS (As := [.int (x >>> ((nI 6) &&& 31)), .int (nI 50)]) (rest := []) ⟨hx, hb, hml, hown, hts⟩ (k_L_below l D q b H.size u (x >>> ((nI 6) &&& 31)) 50 (by decide)) (va_cwS 2 hts gL_isRunRight_L_below rfl rfl rfl (by decide +kernel) ⟨Nat.le_of_ble_eq_true rfl, Nat.le_of_ble_eq_true rfl⟩) (ts_preS hK hN hW) rfl rfl hl.1 rfl (lv_room (Nat.le_of_ble_eq_true rfl)) dL_isRunRight_41 ⟨Nat.zero_le _, Nat.zero_le _⟩) hS (fun x h => Or.inl (ts_Aup hS.1 h)) (fun r95 u96 H locs hp97 hW hz hk hS => ?_)
    have hV := ts_kept hV (fun x h1 h2 => hk x (by omega) (fun h => by unfold ts_A at h; omega))
    have hbz := Nat.lt_of_lt_of_le hbz hz
    have hp97r : r95 = nI (blwN (x >>> ((nI 6) &&& 31)) 50) := hp97.1
    have hp97u : u96 = u := hp97.2
    rw [hp97r]
    rw [hp97u] at hW
    refine lv_goto (tgt := 55) hx hb dL_isRunRight_44 (by decide) ?_
    refine lv_istore (lv' := [(5, .int (nI (blwN (x >>> ((nI 6) &&& 31)) 50))), (4, .int (nI (blwN (x >>> ((nI 5) &&& 31)) 3))), (0, .ref (b + 0)), (1, .int x), (2, .int (nI f)), (3, .ref (bb + 0))]) hx hb dL_isRunRight_55 hl (by decide) rfl (fun ls hl => ?_)
    have hbu := hwf.bu
    have hty3 := blwN_lt (x >>> (nI 5 &&& 31)) (n := 3) (by decide)
    have hvl : valI (blwN (x >>> ((nI 5) &&& 31)) 3) (nI (blwN (x >>> ((nI 6) &&& 31)) 50)) := by first | (rw [hty0]; exact val_0 (blwN_lt _ (by decide))) | (rw [hty1]; exact val_1 (blwN_lt _ (by decide))) | (rw [hty2]; exact val_2 (blwN_lt _ (by decide)))
    have hRT := RT.run hwf hf (ty := blwN (x >>> ((nI 5) &&& 31)) 3) (num := nI (blwN (x >>> ((nI 6) &&& 31)) 50)) (bud := u.1.1 0)
    have hWT : WT (runT u.1 f (blwN (x >>> ((nI 5) &&& 31)) 3) (nI (blwN (x >>> ((nI 6) &&& 31)) 50)) (u.1.1 0)) := RT.type hwf hbu (by omega) hf
    obtain ⟨w0, w1, w2, w3, w5, w6, w7, w8, w9⟩ := id hWT
    have w15 := hRT.1.2
    have hcost : costT (runT u.1 f (blwN (x >>> ((nI 5) &&& 31)) 3) (nI (blwN (x >>> ((nI 6) &&& 31)) 50)) (u.1.1 0)) = (runT u.1 f (blwN (x >>> ((nI 5) &&& 31)) 3) (nI (blwN (x >>> ((nI 6) &&& 31)) 50)) (u.1.1 0)).1 2 + 2 * (runT u.1 f (blwN (x >>> ((nI 5) &&& 31)) 3) (nI (blwN (x >>> ((nI 6) &&& 31)) 50)) (u.1.1 0)).1 3 := rfl
    refine lv_aload_n hx hb dL_isRunRight_57 rfl (lv_at hl 2 rfl) ?_
    refine lv_bipush (v := nI 7) hx hb dL_isRunRight_58 (by decide) ?_
    refine ts_retI (va_runV (As := [.int (nI 7)]) (rest := []) ⟨hx, hb, hml, hown, hts⟩ (k_X5_many l D q b H.size u 7 hwf (by omega)) (cwV 1 hts gL_isRunRight_X5_many rfl rfl rfl (by decide +kernel) ⟨Nat.le_of_ble_eq_true rfl, Nat.le_of_ble_eq_true rfl⟩) (ts_preV hK hN hW 0 (by decide) cel_st rfl) rfl rfl hl.1 rfl (lv_room (Nat.le_of_ble_eq_true rfl)) dL_isRunRight_60 ⟨Nat.zero_le _, Nat.zero_le _⟩) hS (fun x h => Or.inl (ts_Aup hS.1 h)) (fun r98 u99 H locs hp100 hW hz hk hS => ?_)
    have hV := ts_kept hV (fun x h1 h2 => hk x (by omega) (fun h => by unfold ts_A at h; omega))
    have hbz := Nat.lt_of_lt_of_le hbz hz
    obtain ⟨hp100r, F101, hp100u⟩ := hp100
    have hp100r : r98 = nI (u.2.2.2.1 2) := hp100r
    have hp100u : u99 = (u.1, F101, u.2.2.1, u.2.2.2) := hp100u
    rw [hp100r]
    rw [hp100u] at hW
    refine lv_istore (lv' := [(6, .int (nI (u.2.2.2.1 2))), (5, .int (nI (blwN (x >>> ((nI 6) &&& 31)) 50))), (4, .int (nI (blwN (x >>> ((nI 5) &&& 31)) 3))), (0, .ref (b + 0)), (1, .int x), (2, .int (nI f)), (3, .ref (bb + 0))]) hx hb dL_isRunRight_63 hl (by decide) rfl (fun ls hl => ?_)
    refine lv_aload_n hx hb dL_isRunRight_65 rfl (lv_at hl 3 rfl) ?_
    refine lv_iconst (v := (-1)) hx hb dL_isRunRight_66 (by decide) ?_
    refine ts_int (y := zI 0) rfl ?_
    refine lv_iload_n hx hb dL_isRunRight_67 rfl (lv_at hl 5 rfl) ?_
    refine ts_retI (va_runV (As := [.int (zI 0), .int (nI f)]) (rest := []) ⟨hx, hb, hml, hown, hts⟩ (k_X5_counted l D q b H.size (u.1, F101, u.2.2.1, u.2.2.2) 0 f hwf (by show 0 ≤ u.1.1 1; omega) (by show f < u.1.1 1; omega)) (cwV 2 hts gL_isRunRight_X5_counted rfl rfl rfl (by decide +kernel) ⟨Nat.le_of_ble_eq_true rfl, Nat.le_of_ble_eq_true rfl⟩) (ts_preV hK hN hW 0 (by decide) cel_st rfl) rfl rfl hl.1 rfl (lv_room (Nat.le_of_ble_eq_true rfl)) dL_isRunRight_68 ⟨Nat.zero_le _, Nat.zero_le _⟩) hS (fun x h => Or.inl (ts_Aup hS.1 h)) (fun r102 u103 H locs hp104 hW hz hk hS => ?_)
    have hV := ts_kept hV (fun x h1 h2 => hk x (by omega) (fun h => by unfold ts_A at h; omega))
    have hbz := Nat.lt_of_lt_of_le hbz hz
    have hp104r : r102 = nI (u.2.2.2.2.2 0 f) := hp104.1
    have hp104u : u103 = (u.1, F101, u.2.2.1, u.2.2.2) := hp104.2
    rw [hp104r]
    rw [hp104u] at hW
    refine lv_istore (lv' := [(7, .int (nI (u.2.2.2.2.2 0 f))), (6, .int (nI (u.2.2.2.1 2))), (5, .int (nI (blwN (x >>> ((nI 6) &&& 31)) 50))), (4, .int (nI (blwN (x >>> ((nI 5) &&& 31)) 3))), (0, .ref (b + 0)), (1, .int x), (2, .int (nI f)), (3, .ref (bb + 0))]) hx hb dL_isRunRight_71 hl (by decide) rfl (fun ls hl => ?_)
    refine lv_aload_n hx hb dL_isRunRight_73 rfl (lv_at hl 4 rfl) ?_
    refine lv_iload_n hx hb dL_isRunRight_74 rfl (lv_at hl 6 rfl) ?_
    refine lv_iload hx hb dL_isRunRight_75 (lv_at hl 3 rfl) ?_
    refine lv_iload hx hb dL_isRunRight_77 (lv_at hl 2 rfl) ?_
    refine ts_retI (va_runV (As := [.int (nI f), .int (nI (blwN (x >>> ((nI 5) &&& 31)) 3)), .int (nI (blwN (x >>> ((nI 6) &&& 31)) 50))]) (rest := []) ⟨hx, hb, hml, hown, hts⟩ (k_X5_wouldBlame l D q b H.size (u.1, F101, u.2.2.1, u.2.2.2) f (blwN (x >>> ((nI 5) &&& 31)) 3) (nI (blwN (x >>> ((nI 6) &&& 31)) 50)) hwf (by show f < u.1.1 1; omega) hvl) (cwV 3 hts gL_isRunRight_X5_wouldBlame rfl rfl rfl (by decide +kernel) ⟨Nat.le_of_ble_eq_true rfl, Nat.le_of_ble_eq_true rfl⟩) (ts_preV hK hN hW 0 (by decide) cel_st rfl) rfl rfl hl.1 rfl (lv_room (Nat.le_of_ble_eq_true rfl)) dL_isRunRight_79 ⟨Nat.zero_le _, Nat.zero_le _⟩) hS (fun x h => Or.inl (ts_Aup hS.1 h)) (fun r105 u106 H locs hp107 hW hz hk hS => ?_)
    have hV := ts_kept hV (fun x h1 h2 => hk x (by omega) (fun h => by unfold ts_A at h; omega))
    have hbz := Nat.lt_of_lt_of_le hbz hz
    have hp107r : r105 = zI ((runT u.1 f (blwN (x >>> ((nI 5) &&& 31)) 3) (nI (blwN (x >>> ((nI 6) &&& 31)) 50)) (u.1.1 0)).1 8) := hp107.1
    have hp107u : u106 = (u.1, F101, (runT u.1 f (blwN (x >>> ((nI 5) &&& 31)) 3) (nI (blwN (x >>> ((nI 6) &&& 31)) 50)) (u.1.1 0)), u.2.2.2) := hp107.2
    rw [hp107r]
    rw [hp107u] at hW
    refine lv_istore (lv' := [(8, .int (zI ((runT u.1 f (blwN (x >>> ((nI 5) &&& 31)) 3) (nI (blwN (x >>> ((nI 6) &&& 31)) 50)) (u.1.1 0)).1 8))), (7, .int (nI (u.2.2.2.2.2 0 f))), (6, .int (nI (u.2.2.2.1 2))), (5, .int (nI (blwN (x >>> ((nI 6) &&& 31)) 50))), (4, .int (nI (blwN (x >>> ((nI 5) &&& 31)) 3))), (0, .ref (b + 0)), (1, .int x), (2, .int (nI f)), (3, .ref (bb + 0))]) hx hb dL_isRunRight_82 hl (by decide) rfl (fun ls hl => ?_)
    refine lv_aload_n hx hb dL_isRunRight_84 rfl (lv_at hl 5 rfl) ?_
    refine lv_iload_n hx hb dL_isRunRight_85 rfl (lv_at hl 7 rfl) ?_
    refine lv_iload hx hb dL_isRunRight_86 (lv_at hl 4 rfl) ?_
    refine lv_iload hx hb dL_isRunRight_88 (lv_at hl 3 rfl) ?_
    refine ts_retI (va_runV (As := [.int (nI f), .int (nI (blwN (x >>> ((nI 5) &&& 31)) 3)), .int (nI (blwN (x >>> ((nI 6) &&& 31)) 50))]) (rest := []) ⟨hx, hb, hml, hown, hts⟩ (k_X5_run l D q b H.size (u.1, F101, (runT u.1 f (blwN (x >>> ((nI 5) &&& 31)) 3) (nI (blwN (x >>> ((nI 6) &&& 31)) 50)) (u.1.1 0)), u.2.2.2) f (blwN (x >>> ((nI 5) &&& 31)) 3) (nI (blwN (x >>> ((nI 6) &&& 31)) 50)) hwf (by show f < u.1.1 1; omega) hvl) (cwV 3 hts gL_isRunRight_X5_run rfl rfl rfl (by decide +kernel) ⟨Nat.le_of_ble_eq_true rfl, Nat.le_of_ble_eq_true rfl⟩) (ts_preV hK hN hW 0 (by decide) cel_st rfl) rfl rfl hl.1 rfl (lv_room (Nat.le_of_ble_eq_true rfl)) dL_isRunRight_90 ⟨Nat.zero_le _, Nat.zero_le _⟩) hS (fun x h => Or.inl (ts_Aup hS.1 h)) (fun r108 u109 H locs hp110 hW hz hk hS => ?_)
    have hV := ts_kept hV (fun x h1 h2 => hk x (by omega) (fun h => by unfold ts_A at h; omega))
    have hbz := Nat.lt_of_lt_of_le hbz hz
    have hp110r : r108 = nI ((runT u.1 f (blwN (x >>> ((nI 5) &&& 31)) 3) (nI (blwN (x >>> ((nI 6) &&& 31)) 50)) (u.1.1 0)).1 6) := hp110.1
    have hp110u : u109 = (u.1, F101, (runT u.1 f (blwN (x >>> ((nI 5) &&& 31)) 3) (nI (blwN (x >>> ((nI 6) &&& 31)) 50)) (u.1.1 0)), (bookB (runT u.1 f (blwN (x >>> ((nI 5) &&& 31)) 3) (nI (blwN (x >>> ((nI 6) &&& 31)) 50)) (u.1.1 0)) u.2.2.2)) := hp110.2
    rw [hp110r]
    rw [hp110u] at hW
    refine lv_istore (lv' := [(9, .int (nI ((runT u.1 f (blwN (x >>> ((nI 5) &&& 31)) 3) (nI (blwN (x >>> ((nI 6) &&& 31)) 50)) (u.1.1 0)).1 6))), (8, .int (zI ((runT u.1 f (blwN (x >>> ((nI 5) &&& 31)) 3) (nI (blwN (x >>> ((nI 6) &&& 31)) 50)) (u.1.1 0)).1 8))), (7, .int (nI (u.2.2.2.2.2 0 f))), (6, .int (nI (u.2.2.2.1 2))), (5, .int (nI (blwN (x >>> ((nI 6) &&& 31)) 50))), (4, .int (nI (blwN (x >>> ((nI 5) &&& 31)) 3))), (0, .ref (b + 0)), (1, .int x), (2, .int (nI f)), (3, .ref (bb + 0))]) hx hb dL_isRunRight_93 hl (by decide) rfl (fun ls hl => ?_)
    refine lv_aload_n hx hb dL_isRunRight_95 rfl (lv_at hl 6 rfl) ?_
    refine lv_iconst (v := nI 1) hx hb dL_isRunRight_96 (by decide) ?_
    refine ts_retI (va_runV (As := [.int (nI 1)]) (rest := []) ⟨hx, hb, hml, hown, hts⟩ (k_X5_latest l D q b H.size (u.1, F101, (runT u.1 f (blwN (x >>> ((nI 5) &&& 31)) 3) (nI (blwN (x >>> ((nI 6) &&& 31)) 50)) (u.1.1 0)), (bookB (runT u.1 f (blwN (x >>> ((nI 5) &&& 31)) 3) (nI (blwN (x >>> ((nI 6) &&& 31)) 50)) (u.1.1 0)) u.2.2.2)) 1 (by omega)) (cwV 1 hts gL_isRunRight_X5_latest rfl rfl rfl (by decide +kernel) ⟨Nat.le_of_ble_eq_true rfl, Nat.le_of_ble_eq_true rfl⟩) (ts_preV hK hN hW 0 (by decide) cel_st rfl) rfl rfl hl.1 rfl (lv_room (Nat.le_of_ble_eq_true rfl)) dL_isRunRight_97 ⟨Nat.zero_le _, Nat.zero_le _⟩) hS (fun x h => Or.inl (ts_Aup hS.1 h)) (fun r111 u112 H locs hp113 hW hz hk hS => ?_)
    have hV := ts_kept hV (fun x h1 h2 => hk x (by omega) (fun h => by unfold ts_A at h; omega))
    have hbz := Nat.lt_of_lt_of_le hbz hz
    have hp113r : r111 = zI ((runT u.1 f (blwN (x >>> ((nI 5) &&& 31)) 3) (nI (blwN (x >>> ((nI 6) &&& 31)) 50)) (u.1.1 0)).1 8) := hp113.1.trans (lat_1 _ _)
    have hp113u : u112 = (u.1, F101, (runT u.1 f (blwN (x >>> ((nI 5) &&& 31)) 3) (nI (blwN (x >>> ((nI 6) &&& 31)) 50)) (u.1.1 0)), (bookB (runT u.1 f (blwN (x >>> ((nI 5) &&& 31)) 3) (nI (blwN (x >>> ((nI 6) &&& 31)) 50)) (u.1.1 0)) u.2.2.2)) := hp113.2
    rw [hp113r]
    rw [hp113u] at hW
    refine lv_istore (lv' := [(10, .int (zI ((runT u.1 f (blwN (x >>> ((nI 5) &&& 31)) 3) (nI (blwN (x >>> ((nI 6) &&& 31)) 50)) (u.1.1 0)).1 8))), (9, .int (nI ((runT u.1 f (blwN (x >>> ((nI 5) &&& 31)) 3) (nI (blwN (x >>> ((nI 6) &&& 31)) 50)) (u.1.1 0)).1 6))), (8, .int (zI ((runT u.1 f (blwN (x >>> ((nI 5) &&& 31)) 3) (nI (blwN (x >>> ((nI 6) &&& 31)) 50)) (u.1.1 0)).1 8))), (7, .int (nI (u.2.2.2.2.2 0 f))), (6, .int (nI (u.2.2.2.1 2))), (5, .int (nI (blwN (x >>> ((nI 6) &&& 31)) 50))), (4, .int (nI (blwN (x >>> ((nI 5) &&& 31)) 3))), (0, .ref (b + 0)), (1, .int x), (2, .int (nI f)), (3, .ref (bb + 0))]) hx hb dL_isRunRight_100 hl (by decide) rfl (fun ls hl => ?_)
    refine lv_iload hx hb dL_isRunRight_102 (lv_at hl 1 rfl) ?_
    refine lv_aload_n hx hb dL_isRunRight_104 rfl (lv_at hl 7 rfl) ?_
    refine lv_iconst (v := nI 0) hx hb dL_isRunRight_105 (by decide) ?_
    refine ts_retI (va_runV (As := [.int (nI 0)]) (rest := [.int (nI ((runT u.1 f (blwN (x >>> ((nI 5) &&& 31)) 3) (nI (blwN (x >>> ((nI 6) &&& 31)) 50)) (u.1.1 0)).1 6))]) ⟨hx, hb, hml, hown, hts⟩ (k_X5_latest l D q b H.size (u.1, F101, (runT u.1 f (blwN (x >>> ((nI 5) &&& 31)) 3) (nI (blwN (x >>> ((nI 6) &&& 31)) 50)) (u.1.1 0)), (bookB (runT u.1 f (blwN (x >>> ((nI 5) &&& 31)) 3) (nI (blwN (x >>> ((nI 6) &&& 31)) 50)) (u.1.1 0)) u.2.2.2)) 0 (by omega)) (cwV 1 hts gL_isRunRight_X5_latest rfl rfl rfl (by decide +kernel) ⟨Nat.le_of_ble_eq_true rfl, Nat.le_of_ble_eq_true rfl⟩) (ts_preV hK hN hW 0 (by decide) cel_st rfl) rfl rfl hl.1 rfl (lv_room (Nat.le_of_ble_eq_true rfl)) dL_isRunRight_106 ⟨Nat.zero_le _, Nat.zero_le _⟩) hS (fun x h => Or.inl (ts_Aup hS.1 h)) (fun r114 u115 H locs hp116 hW hz hk hS => ?_)
    have hV := ts_kept hV (fun x h1 h2 => hk x (by omega) (fun h => by unfold ts_A at h; omega))
    have hbz := Nat.lt_of_lt_of_le hbz hz
    have hp116r : r114 = nI ((runT u.1 f (blwN (x >>> ((nI 5) &&& 31)) 3) (nI (blwN (x >>> ((nI 6) &&& 31)) 50)) (u.1.1 0)).1 6) := hp116.1.trans (lat_0 _ _)
    have hp116u : u115 = (u.1, F101, (runT u.1 f (blwN (x >>> ((nI 5) &&& 31)) 3) (nI (blwN (x >>> ((nI 6) &&& 31)) 50)) (u.1.1 0)), (bookB (runT u.1 f (blwN (x >>> ((nI 5) &&& 31)) 3) (nI (blwN (x >>> ((nI 6) &&& 31)) 50)) (u.1.1 0)) u.2.2.2)) := hp116.2
    rw [hp116r]
    rw [hp116u] at hW
    refine lv_icmp_ne (tgt := 185) hx hb dL_isRunRight_109 (by decide) (fun c117 => ?_) (fun c117 => ?_)
    · skip
      exact absurd rfl c117
    refine lv_iload hx hb dL_isRunRight_112 (lv_at hl 0 rfl) ?_
    refine lv_iload hx hb dL_isRunRight_114 (lv_at hl 2 rfl) ?_
    refine lv_icmp_ne (tgt := 185) hx hb dL_isRunRight_116 (by decide) (fun c118 => ?_) (fun c118 => ?_)
    · skip
      exact absurd rfl c118
    refine lv_aload_n hx hb dL_isRunRight_119 rfl (lv_at hl 7 rfl) ?_
    refine lv_iconst (v := (-1)) hx hb dL_isRunRight_120 (by decide) ?_
    refine ts_int (y := zI 0) rfl ?_
    refine lv_iload_n hx hb dL_isRunRight_121 rfl (lv_at hl 9 rfl) ?_
    refine ts_retI (va_runV (As := [.int (zI 0), .int (nI f)]) (rest := []) ⟨hx, hb, hml, hown, hts⟩ (k_X5_counted l D q b H.size (u.1, F101, (runT u.1 f (blwN (x >>> ((nI 5) &&& 31)) 3) (nI (blwN (x >>> ((nI 6) &&& 31)) 50)) (u.1.1 0)), (bookB (runT u.1 f (blwN (x >>> ((nI 5) &&& 31)) 3) (nI (blwN (x >>> ((nI 6) &&& 31)) 50)) (u.1.1 0)) u.2.2.2)) 0 f hwf (by show 0 ≤ u.1.1 1; omega) (by show f < u.1.1 1; omega)) (cwV 2 hts gL_isRunRight_X5_counted rfl rfl rfl (by decide +kernel) ⟨Nat.le_of_ble_eq_true rfl, Nat.le_of_ble_eq_true rfl⟩) (ts_preV hK hN hW 0 (by decide) cel_st rfl) rfl rfl hl.1 rfl (lv_room (Nat.le_of_ble_eq_true rfl)) dL_isRunRight_122 ⟨Nat.zero_le _, Nat.zero_le _⟩) hS (fun x h => Or.inl (ts_Aup hS.1 h)) (fun r119 u120 H locs hp121 hW hz hk hS => ?_)
    have hV := ts_kept hV (fun x h1 h2 => hk x (by omega) (fun h => by unfold ts_A at h; omega))
    have hbz := Nat.lt_of_lt_of_le hbz hz
    have hp121r : r119 = nI ((((bookB (runT u.1 f (blwN (x >>> ((nI 5) &&& 31)) 3) (nI (blwN (x >>> ((nI 6) &&& 31)) 50)) (u.1.1 0)) u.2.2.2)).2.2) 0 f) := hp121.1
    have hp121u : u120 = (u.1, F101, (runT u.1 f (blwN (x >>> ((nI 5) &&& 31)) 3) (nI (blwN (x >>> ((nI 6) &&& 31)) 50)) (u.1.1 0)), (bookB (runT u.1 f (blwN (x >>> ((nI 5) &&& 31)) 3) (nI (blwN (x >>> ((nI 6) &&& 31)) 50)) (u.1.1 0)) u.2.2.2)) := hp121.2
    rw [hp121r]
    rw [hp121u] at hW
    refine lv_iload hx hb dL_isRunRight_125 (lv_at hl 3 rfl) ?_
    refine lv_iconst (v := nI 1) hx hb dL_isRunRight_127 (by decide) ?_
    refine ts_iadd (v := nI ((u.2.2.2.2.2 0 f) + 1)) hx hb dL_isRunRight_128 (nI_add _ _) ?_
    refine lv_icmp_ne (tgt := 185) hx hb dL_isRunRight_129 (by decide) (fun c122 => ?_) (fun c122 => ?_)
    · skip
      exact absurd (congrArg nI ((book_row _ _ (by decide) (by omega)).trans (congrArg (u.2.2.2.2.2 0 f + ·) ((congrFun hRT.1.1 f).trans (if_pos rfl))))) c122
    refine lv_aload_n hx hb dL_isRunRight_132 rfl (lv_at hl 7 rfl) ?_
    refine lv_bipush (v := nI 7) hx hb dL_isRunRight_133 (by decide) ?_
    refine ts_retI (va_runV (As := [.int (nI 7)]) (rest := []) ⟨hx, hb, hml, hown, hts⟩ (k_X5_many l D q b H.size (u.1, F101, (runT u.1 f (blwN (x >>> ((nI 5) &&& 31)) 3) (nI (blwN (x >>> ((nI 6) &&& 31)) 50)) (u.1.1 0)), (bookB (runT u.1 f (blwN (x >>> ((nI 5) &&& 31)) 3) (nI (blwN (x >>> ((nI 6) &&& 31)) 50)) (u.1.1 0)) u.2.2.2)) 7 hwf (by omega)) (cwV 1 hts gL_isRunRight_X5_many rfl rfl rfl (by decide +kernel) ⟨Nat.le_of_ble_eq_true rfl, Nat.le_of_ble_eq_true rfl⟩) (ts_preV hK hN hW 0 (by decide) cel_st rfl) rfl rfl hl.1 rfl (lv_room (Nat.le_of_ble_eq_true rfl)) dL_isRunRight_135 ⟨Nat.zero_le _, Nat.zero_le _⟩) hS (fun x h => Or.inl (ts_Aup hS.1 h)) (fun r123 u124 H locs hp125 hW hz hk hS => ?_)
    have hV := ts_kept hV (fun x h1 h2 => hk x (by omega) (fun h => by unfold ts_A at h; omega))
    have hbz := Nat.lt_of_lt_of_le hbz hz
    obtain ⟨hp125r, F126, hp125u⟩ := hp125
    have hp125r : r123 = nI ((((bookB (runT u.1 f (blwN (x >>> ((nI 5) &&& 31)) 3) (nI (blwN (x >>> ((nI 6) &&& 31)) 50)) (u.1.1 0)) u.2.2.2)).1) 2) := hp125r
    have hp125u : u124 = (u.1, F126, (runT u.1 f (blwN (x >>> ((nI 5) &&& 31)) 3) (nI (blwN (x >>> ((nI 6) &&& 31)) 50)) (u.1.1 0)), (bookB (runT u.1 f (blwN (x >>> ((nI 5) &&& 31)) 3) (nI (blwN (x >>> ((nI 6) &&& 31)) 50)) (u.1.1 0)) u.2.2.2)) := hp125u
    rw [hp125r]
    rw [hp125u] at hW
    refine lv_iload hx hb dL_isRunRight_138 (lv_at hl 4 rfl) ?_
    refine lv_aload_n hx hb dL_isRunRight_140 rfl (lv_at hl 7 rfl) ?_
    refine lv_iconst (v := nI 2) hx hb dL_isRunRight_141 (by decide) ?_
    refine ts_retI (va_runV (As := [.int (nI 2)]) (rest := [.int (nI (u.2.2.2.1 2)), .int (nI ((((bookB (runT u.1 f (blwN (x >>> ((nI 5) &&& 31)) 3) (nI (blwN (x >>> ((nI 6) &&& 31)) 50)) (u.1.1 0)) u.2.2.2)).1) 2))]) ⟨hx, hb, hml, hown, hts⟩ (k_X5_latest l D q b H.size (u.1, F126, (runT u.1 f (blwN (x >>> ((nI 5) &&& 31)) 3) (nI (blwN (x >>> ((nI 6) &&& 31)) 50)) (u.1.1 0)), (bookB (runT u.1 f (blwN (x >>> ((nI 5) &&& 31)) 3) (nI (blwN (x >>> ((nI 6) &&& 31)) 50)) (u.1.1 0)) u.2.2.2)) 2 (by omega)) (cwV 1 hts gL_isRunRight_X5_latest rfl rfl rfl (by decide +kernel) ⟨Nat.le_of_ble_eq_true rfl, Nat.le_of_ble_eq_true rfl⟩) (ts_preV hK hN hW 0 (by decide) cel_st rfl) rfl rfl hl.1 rfl (lv_room (Nat.le_of_ble_eq_true rfl)) dL_isRunRight_142 ⟨Nat.zero_le _, Nat.zero_le _⟩) hS (fun x h => Or.inl (ts_Aup hS.1 h)) (fun r127 u128 H locs hp129 hW hz hk hS => ?_)
    have hV := ts_kept hV (fun x h1 h2 => hk x (by omega) (fun h => by unfold ts_A at h; omega))
    have hbz := Nat.lt_of_lt_of_le hbz hz
    have hp129r : r127 = nI (costT (runT u.1 f (blwN (x >>> ((nI 5) &&& 31)) 3) (nI (blwN (x >>> ((nI 6) &&& 31)) 50)) (u.1.1 0))) := hp129.1.trans (lat_2 _ _)
    have hp129u : u128 = (u.1, F126, (runT u.1 f (blwN (x >>> ((nI 5) &&& 31)) 3) (nI (blwN (x >>> ((nI 6) &&& 31)) 50)) (u.1.1 0)), (bookB (runT u.1 f (blwN (x >>> ((nI 5) &&& 31)) 3) (nI (blwN (x >>> ((nI 6) &&& 31)) 50)) (u.1.1 0)) u.2.2.2)) := hp129.2
    rw [hp129r]
    rw [hp129u] at hW
    refine ts_iadd (v := nI ((u.2.2.2.1 2) + (costT (runT u.1 f (blwN (x >>> ((nI 5) &&& 31)) 3) (nI (blwN (x >>> ((nI 6) &&& 31)) 50)) (u.1.1 0))))) hx hb dL_isRunRight_145 (nI_add _ _) ?_
    refine lv_icmp_ne (tgt := 185) hx hb dL_isRunRight_146 (by decide) (fun c130 => ?_) (fun c130 => ?_)
    · skip
      exact absurd (congrArg nI (book_2 _ _)) c130
    refine lv_aload_n hx hb dL_isRunRight_149 rfl (lv_at hl 7 rfl) ?_
    refine lv_iconst (v := nI 2) hx hb dL_isRunRight_150 (by decide) ?_
    refine ts_retI (va_runV (As := [.int (nI 2)]) (rest := []) ⟨hx, hb, hml, hown, hts⟩ (k_X5_latest l D q b H.size (u.1, F126, (runT u.1 f (blwN (x >>> ((nI 5) &&& 31)) 3) (nI (blwN (x >>> ((nI 6) &&& 31)) 50)) (u.1.1 0)), (bookB (runT u.1 f (blwN (x >>> ((nI 5) &&& 31)) 3) (nI (blwN (x >>> ((nI 6) &&& 31)) 50)) (u.1.1 0)) u.2.2.2)) 2 (by omega)) (cwV 1 hts gL_isRunRight_X5_latest rfl rfl rfl (by decide +kernel) ⟨Nat.le_of_ble_eq_true rfl, Nat.le_of_ble_eq_true rfl⟩) (ts_preV hK hN hW 0 (by decide) cel_st rfl) rfl rfl hl.1 rfl (lv_room (Nat.le_of_ble_eq_true rfl)) dL_isRunRight_151 ⟨Nat.zero_le _, Nat.zero_le _⟩) hS (fun x h => Or.inl (ts_Aup hS.1 h)) (fun r131 u132 H locs hp133 hW hz hk hS => ?_)
    have hV := ts_kept hV (fun x h1 h2 => hk x (by omega) (fun h => by unfold ts_A at h; omega))
    have hbz := Nat.lt_of_lt_of_le hbz hz
    have hp133r : r131 = nI (costT (runT u.1 f (blwN (x >>> ((nI 5) &&& 31)) 3) (nI (blwN (x >>> ((nI 6) &&& 31)) 50)) (u.1.1 0))) := hp133.1.trans (lat_2 _ _)
    have hp133u : u132 = (u.1, F126, (runT u.1 f (blwN (x >>> ((nI 5) &&& 31)) 3) (nI (blwN (x >>> ((nI 6) &&& 31)) 50)) (u.1.1 0)), (bookB (runT u.1 f (blwN (x >>> ((nI 5) &&& 31)) 3) (nI (blwN (x >>> ((nI 6) &&& 31)) 50)) (u.1.1 0)) u.2.2.2)) := hp133.2
    rw [hp133r]
    rw [hp133u] at hW
    refine lv_iconst (v := nI 2) hx hb dL_isRunRight_154 (by decide) ?_
    refine lv_aload_n hx hb dL_isRunRight_155 rfl (lv_at hl 7 rfl) ?_
    refine lv_iconst (v := nI 3) hx hb dL_isRunRight_156 (by decide) ?_
    refine ts_retI (va_runV (As := [.int (nI 3)]) (rest := [.int (nI 2), .int (nI (costT (runT u.1 f (blwN (x >>> ((nI 5) &&& 31)) 3) (nI (blwN (x >>> ((nI 6) &&& 31)) 50)) (u.1.1 0))))]) ⟨hx, hb, hml, hown, hts⟩ (k_X5_latest l D q b H.size (u.1, F126, (runT u.1 f (blwN (x >>> ((nI 5) &&& 31)) 3) (nI (blwN (x >>> ((nI 6) &&& 31)) 50)) (u.1.1 0)), (bookB (runT u.1 f (blwN (x >>> ((nI 5) &&& 31)) 3) (nI (blwN (x >>> ((nI 6) &&& 31)) 50)) (u.1.1 0)) u.2.2.2)) 3 (by omega)) (cwV 1 hts gL_isRunRight_X5_latest rfl rfl rfl (by decide +kernel) ⟨Nat.le_of_ble_eq_true rfl, Nat.le_of_ble_eq_true rfl⟩) (ts_preV hK hN hW 0 (by decide) cel_st rfl) rfl rfl hl.1 rfl (lv_room (Nat.le_of_ble_eq_true rfl)) dL_isRunRight_157 ⟨Nat.zero_le _, Nat.zero_le _⟩) hS (fun x h => Or.inl (ts_Aup hS.1 h)) (fun r134 u135 H locs hp136 hW hz hk hS => ?_)
    have hV := ts_kept hV (fun x h1 h2 => hk x (by omega) (fun h => by unfold ts_A at h; omega))
    have hbz := Nat.lt_of_lt_of_le hbz hz
    have hp136r : r134 = nI ((runT u.1 f (blwN (x >>> ((nI 5) &&& 31)) 3) (nI (blwN (x >>> ((nI 6) &&& 31)) 50)) (u.1.1 0)).1 3) := hp136.1.trans (lat_3 _ _)
    have hp136u : u135 = (u.1, F126, (runT u.1 f (blwN (x >>> ((nI 5) &&& 31)) 3) (nI (blwN (x >>> ((nI 6) &&& 31)) 50)) (u.1.1 0)), (bookB (runT u.1 f (blwN (x >>> ((nI 5) &&& 31)) 3) (nI (blwN (x >>> ((nI 6) &&& 31)) 50)) (u.1.1 0)) u.2.2.2)) := hp136.2
    rw [hp136r]
    rw [hp136u] at hW
    refine ts_imul (v := nI (2 * ((runT u.1 f (blwN (x >>> ((nI 5) &&& 31)) 3) (nI (blwN (x >>> ((nI 6) &&& 31)) 50)) (u.1.1 0)).1 3))) hx hb dL_isRunRight_160 (pk_mul _ _) ?_
    refine lv_icmp_lt (tgt := 185) hx hb dL_isRunRight_161 (by decide) (fun c137 => ?_) (fun c137 => ?_)
    · skip
      rw [nI_ltI (by omega) (by omega)] at c137
      exfalso; omega
    rw [nI_ltI (by omega) (by omega)] at c137
    refine lv_aload_n hx hb dL_isRunRight_164 rfl (lv_at hl 7 rfl) ?_
    refine lv_bipush (v := nI 7) hx hb dL_isRunRight_165 (by decide) ?_
    refine ts_retI (va_runV (As := [.int (nI 7)]) (rest := []) ⟨hx, hb, hml, hown, hts⟩ (k_X5_latest l D q b H.size (u.1, F126, (runT u.1 f (blwN (x >>> ((nI 5) &&& 31)) 3) (nI (blwN (x >>> ((nI 6) &&& 31)) 50)) (u.1.1 0)), (bookB (runT u.1 f (blwN (x >>> ((nI 5) &&& 31)) 3) (nI (blwN (x >>> ((nI 6) &&& 31)) 50)) (u.1.1 0)) u.2.2.2)) 7 (by omega)) (cwV 1 hts gL_isRunRight_X5_latest rfl rfl rfl (by decide +kernel) ⟨Nat.le_of_ble_eq_true rfl, Nat.le_of_ble_eq_true rfl⟩) (ts_preV hK hN hW 0 (by decide) cel_st rfl) rfl rfl hl.1 rfl (lv_room (Nat.le_of_ble_eq_true rfl)) dL_isRunRight_167 ⟨Nat.zero_le _, Nat.zero_le _⟩) hS (fun x h => Or.inl (ts_Aup hS.1 h)) (fun r138 u139 H locs hp140 hW hz hk hS => ?_)
    have hV := ts_kept hV (fun x h1 h2 => hk x (by omega) (fun h => by unfold ts_A at h; omega))
    have hbz := Nat.lt_of_lt_of_le hbz hz
    have hp140r : r138 = nI ((runT u.1 f (blwN (x >>> ((nI 5) &&& 31)) 3) (nI (blwN (x >>> ((nI 6) &&& 31)) 50)) (u.1.1 0)).1 5) := hp140.1.trans (lat_7 _ _)
    have hp140u : u139 = (u.1, F126, (runT u.1 f (blwN (x >>> ((nI 5) &&& 31)) 3) (nI (blwN (x >>> ((nI 6) &&& 31)) 50)) (u.1.1 0)), (bookB (runT u.1 f (blwN (x >>> ((nI 5) &&& 31)) 3) (nI (blwN (x >>> ((nI 6) &&& 31)) 50)) (u.1.1 0)) u.2.2.2)) := hp140.2
    rw [hp140r]
    rw [hp140u] at hW
    refine lv_iconst (v := nI 1) hx hb dL_isRunRight_170 (by decide) ?_
    refine lv_icmp_lt (tgt := 185) hx hb dL_isRunRight_171 (by decide) (fun c141 => ?_) (fun c141 => ?_)
    · skip
      rw [nI_ltI (by omega) (by omega)] at c141
      exfalso; omega
    rw [nI_ltI (by omega) (by omega)] at c141
    refine lv_aload_n hx hb dL_isRunRight_174 rfl (lv_at hl 7 rfl) ?_
    refine lv_bipush (v := nI 7) hx hb dL_isRunRight_175 (by decide) ?_
    refine ts_retI (va_runV (As := [.int (nI 7)]) (rest := []) ⟨hx, hb, hml, hown, hts⟩ (k_X5_latest l D q b H.size (u.1, F126, (runT u.1 f (blwN (x >>> ((nI 5) &&& 31)) 3) (nI (blwN (x >>> ((nI 6) &&& 31)) 50)) (u.1.1 0)), (bookB (runT u.1 f (blwN (x >>> ((nI 5) &&& 31)) 3) (nI (blwN (x >>> ((nI 6) &&& 31)) 50)) (u.1.1 0)) u.2.2.2)) 7 (by omega)) (cwV 1 hts gL_isRunRight_X5_latest rfl rfl rfl (by decide +kernel) ⟨Nat.le_of_ble_eq_true rfl, Nat.le_of_ble_eq_true rfl⟩) (ts_preV hK hN hW 0 (by decide) cel_st rfl) rfl rfl hl.1 rfl (lv_room (Nat.le_of_ble_eq_true rfl)) dL_isRunRight_177 ⟨Nat.zero_le _, Nat.zero_le _⟩) hS (fun x h => Or.inl (ts_Aup hS.1 h)) (fun r142 u143 H locs hp144 hW hz hk hS => ?_)
    have hV := ts_kept hV (fun x h1 h2 => hk x (by omega) (fun h => by unfold ts_A at h; omega))
    have hbz := Nat.lt_of_lt_of_le hbz hz
    have hp144r : r142 = nI ((runT u.1 f (blwN (x >>> ((nI 5) &&& 31)) 3) (nI (blwN (x >>> ((nI 6) &&& 31)) 50)) (u.1.1 0)).1 5) := hp144.1.trans (lat_7 _ _)
    have hp144u : u143 = (u.1, F126, (runT u.1 f (blwN (x >>> ((nI 5) &&& 31)) 3) (nI (blwN (x >>> ((nI 6) &&& 31)) 50)) (u.1.1 0)), (bookB (runT u.1 f (blwN (x >>> ((nI 5) &&& 31)) 3) (nI (blwN (x >>> ((nI 6) &&& 31)) 50)) (u.1.1 0)) u.2.2.2)) := hp144.2
    rw [hp144r]
    rw [hp144u] at hW
    refine lv_bipush (v := nI 12) hx hb dL_isRunRight_180 (by decide) ?_
    refine lv_icmp_le (tgt := 187) hx hb dL_isRunRight_182 (by decide) (fun c145 => ?_) (fun c145 => ?_)
    · skip
      rw [nI_leI (by omega) (by omega)] at c145
      refine lv_iload hx hb dL_isRunRight_187 (lv_at hl 0 rfl) ?_
      refine lv_if_lt (tgt := 200) hx hb dL_isRunRight_189 (by decide) (fun c146 => ?_) (fun c146 => ?_)
      · skip
        rw [zI_lt0 (by omega)] at c146
        have h8z := c146
        refine lv_iload hx hb dL_isRunRight_200 (lv_at hl 0 rfl) ?_
        refine lv_if_lt (tgt := 229) hx hb dL_isRunRight_202 (by decide) (fun c147 => ?_) (fun c147 => ?_)
        · skip
          rw [zI_lt0 (by omega)] at c147
          refine lv_iload hx hb dL_isRunRight_229 (lv_at hl 1 rfl) ?_
          refine lv_if_ne (tgt := 257) hx hb dL_isRunRight_231 (by decide) (fun c148 => ?_) (fun c148 => ?_)
          · skip
            rw [ts_eq0 (by omega)] at c148
            have hT6 := c148
            refine lv_aload_n hx hb dL_isRunRight_257 rfl (lv_at hl 7 rfl) ?_
            refine lv_iconst (v := nI 5) hx hb dL_isRunRight_258 (by decide) ?_
            refine ts_retI (va_runV (As := [.int (nI 5)]) (rest := []) ⟨hx, hb, hml, hown, hts⟩ (k_X5_latest l D q b H.size (u.1, F126, (runT u.1 f (blwN (x >>> ((nI 5) &&& 31)) 3) (nI (blwN (x >>> ((nI 6) &&& 31)) 50)) (u.1.1 0)), (bookB (runT u.1 f (blwN (x >>> ((nI 5) &&& 31)) 3) (nI (blwN (x >>> ((nI 6) &&& 31)) 50)) (u.1.1 0)) u.2.2.2)) 5 (by omega)) (cwV 1 hts gL_isRunRight_X5_latest rfl rfl rfl (by decide +kernel) ⟨Nat.le_of_ble_eq_true rfl, Nat.le_of_ble_eq_true rfl⟩) (ts_preV hK hN hW 0 (by decide) cel_st rfl) rfl rfl hl.1 rfl (lv_room (Nat.le_of_ble_eq_true rfl)) dL_isRunRight_259 ⟨Nat.zero_le _, Nat.zero_le _⟩) hS (fun x h => Or.inl (ts_Aup hS.1 h)) (fun r149 u150 H locs hp151 hW hz hk hS => ?_)
            have hV := ts_kept hV (fun x h1 h2 => hk x (by omega) (fun h => by unfold ts_A at h; omega))
            have hbz := Nat.lt_of_lt_of_le hbz hz
            have hp151r : r149 = nI 3 := hp151.1.trans ((lat_5 _ _).trans (congrArg nI (if_neg hT6)))
            have hp151u : u150 = (u.1, F126, (runT u.1 f (blwN (x >>> ((nI 5) &&& 31)) 3) (nI (blwN (x >>> ((nI 6) &&& 31)) 50)) (u.1.1 0)), (bookB (runT u.1 f (blwN (x >>> ((nI 5) &&& 31)) 3) (nI (blwN (x >>> ((nI 6) &&& 31)) 50)) (u.1.1 0)) u.2.2.2)) := hp151.2
            rw [hp151r]
            rw [hp151u] at hW
            refine lv_iconst (v := nI 3) hx hb dL_isRunRight_262 (by decide) ?_
            refine lv_icmp_ne (tgt := 279) hx hb dL_isRunRight_263 (by decide) (fun c152 => ?_) (fun c152 => ?_)
            · skip
              exfalso; revert c152; decide
            refine lv_aload_n hx hb dL_isRunRight_266 rfl (lv_at hl 7 rfl) ?_
            refine lv_bipush (v := nI 6) hx hb dL_isRunRight_267 (by decide) ?_
            refine ts_retI (va_runV (As := [.int (nI 6)]) (rest := []) ⟨hx, hb, hml, hown, hts⟩ (k_X5_latest l D q b H.size (u.1, F126, (runT u.1 f (blwN (x >>> ((nI 5) &&& 31)) 3) (nI (blwN (x >>> ((nI 6) &&& 31)) 50)) (u.1.1 0)), (bookB (runT u.1 f (blwN (x >>> ((nI 5) &&& 31)) 3) (nI (blwN (x >>> ((nI 6) &&& 31)) 50)) (u.1.1 0)) u.2.2.2)) 6 (by omega)) (cwV 1 hts gL_isRunRight_X5_latest rfl rfl rfl (by decide +kernel) ⟨Nat.le_of_ble_eq_true rfl, Nat.le_of_ble_eq_true rfl⟩) (ts_preV hK hN hW 0 (by decide) cel_st rfl) rfl rfl hl.1 rfl (lv_room (Nat.le_of_ble_eq_true rfl)) dL_isRunRight_269 ⟨Nat.zero_le _, Nat.zero_le _⟩) hS (fun x h => Or.inl (ts_Aup hS.1 h)) (fun r153 u154 H locs hp155 hW hz hk hS => ?_)
            have hV := ts_kept hV (fun x h1 h2 => hk x (by omega) (fun h => by unfold ts_A at h; omega))
            have hbz := Nat.lt_of_lt_of_le hbz hz
            have hp155r : r153 = nI 0 := hp155.1.trans (lat_6 _ _ hT6)
            have hp155u : u154 = (u.1, F126, (runT u.1 f (blwN (x >>> ((nI 5) &&& 31)) 3) (nI (blwN (x >>> ((nI 6) &&& 31)) 50)) (u.1.1 0)), (bookB (runT u.1 f (blwN (x >>> ((nI 5) &&& 31)) 3) (nI (blwN (x >>> ((nI 6) &&& 31)) 50)) (u.1.1 0)) u.2.2.2)) := hp155.2
            rw [hp155r]
            rw [hp155u] at hW
            refine lv_if_ne (tgt := 279) hx hb dL_isRunRight_272 (by decide) (fun c156 => ?_) (fun c156 => ?_)
            · skip
              exfalso; revert c156; decide
            refine lv_iconst (v := nI 1) hx hb dL_isRunRight_275 (by decide) ?_
            refine lv_goto (tgt := 280) hx hb dL_isRunRight_276 (by decide) ?_
            exact ts_zretB (u := (u.1, F126, (runT u.1 f (blwN (x >>> ((nI 5) &&& 31)) 3) (nI (blwN (x >>> ((nI 6) &&& 31)) 50)) (u.1.1 0)), (bookB (runT u.1 f (blwN (x >>> ((nI 5) &&& 31)) 3) (nI (blwN (x >>> ((nI 6) &&& 31)) 50)) (u.1.1 0)) u.2.2.2))) (g := g) (v := nI 1) C0 rfl hW hV hS (by exact ⟨rfl, F126, (runT u.1 f (blwN (x >>> ((nI 5) &&& 31)) 3) (nI (blwN (x >>> ((nI 6) &&& 31)) 50)) (u.1.1 0)), hRT, hWT, by rw [gB_0 h8z]⟩) dL_isRunRight_280
          rw [ts_eq0 (by omega)] at c148
          have hT6 := c148
          refine lv_aload_n hx hb dL_isRunRight_234 rfl (lv_at hl 7 rfl) ?_
          refine lv_iconst (v := nI 5) hx hb dL_isRunRight_235 (by decide) ?_
          refine ts_retI (va_runV (As := [.int (nI 5)]) (rest := []) ⟨hx, hb, hml, hown, hts⟩ (k_X5_latest l D q b H.size (u.1, F126, (runT u.1 f (blwN (x >>> ((nI 5) &&& 31)) 3) (nI (blwN (x >>> ((nI 6) &&& 31)) 50)) (u.1.1 0)), (bookB (runT u.1 f (blwN (x >>> ((nI 5) &&& 31)) 3) (nI (blwN (x >>> ((nI 6) &&& 31)) 50)) (u.1.1 0)) u.2.2.2)) 5 (by omega)) (cwV 1 hts gL_isRunRight_X5_latest rfl rfl rfl (by decide +kernel) ⟨Nat.le_of_ble_eq_true rfl, Nat.le_of_ble_eq_true rfl⟩) (ts_preV hK hN hW 0 (by decide) cel_st rfl) rfl rfl hl.1 rfl (lv_room (Nat.le_of_ble_eq_true rfl)) dL_isRunRight_236 ⟨Nat.zero_le _, Nat.zero_le _⟩) hS (fun x h => Or.inl (ts_Aup hS.1 h)) (fun r157 u158 H locs hp159 hW hz hk hS => ?_)
          have hV := ts_kept hV (fun x h1 h2 => hk x (by omega) (fun h => by unfold ts_A at h; omega))
          have hbz := Nat.lt_of_lt_of_le hbz hz
          have hp159r : r157 = nI ((runT u.1 f (blwN (x >>> ((nI 5) &&& 31)) 3) (nI (blwN (x >>> ((nI 6) &&& 31)) 50)) (u.1.1 0)).1 1) := hp159.1.trans ((lat_5 _ _).trans (congrArg nI (if_pos hT6)))
          have hp159u : u158 = (u.1, F126, (runT u.1 f (blwN (x >>> ((nI 5) &&& 31)) 3) (nI (blwN (x >>> ((nI 6) &&& 31)) 50)) (u.1.1 0)), (bookB (runT u.1 f (blwN (x >>> ((nI 5) &&& 31)) 3) (nI (blwN (x >>> ((nI 6) &&& 31)) 50)) (u.1.1 0)) u.2.2.2)) := hp159.2
          rw [hp159r]
          rw [hp159u] at hW
          refine lv_iconst (v := nI 3) hx hb dL_isRunRight_239 (by decide) ?_
          refine lv_icmp_ge (tgt := 253) hx hb dL_isRunRight_240 (by decide) (fun c160 => ?_) (fun c160 => ?_)
          · skip
            rw [nI_leI (by omega) (by omega)] at c160
            exfalso; omega
          rw [nI_leI (by omega) (by omega)] at c160
          refine lv_iload hx hb dL_isRunRight_243 (lv_at hl 0 rfl) ?_
          refine lv_iconst (v := (-1)) hx hb dL_isRunRight_245 (by decide) ?_
          refine lv_icmp_ne (tgt := 253) hx hb dL_isRunRight_246 (by decide) (fun c161 => ?_) (fun c161 => ?_)
          · skip
            rw [zI_m1 (by omega)] at c161
            exact absurd (hRT.2.2.1.1 hT6) c161
          rw [zI_m1 (by omega)] at c161
          refine lv_iconst (v := nI 1) hx hb dL_isRunRight_249 (by decide) ?_
          refine lv_goto (tgt := 280) hx hb dL_isRunRight_250 (by decide) ?_
          exact ts_zretB (u := (u.1, F126, (runT u.1 f (blwN (x >>> ((nI 5) &&& 31)) 3) (nI (blwN (x >>> ((nI 6) &&& 31)) 50)) (u.1.1 0)), (bookB (runT u.1 f (blwN (x >>> ((nI 5) &&& 31)) 3) (nI (blwN (x >>> ((nI 6) &&& 31)) 50)) (u.1.1 0)) u.2.2.2))) (g := g) (v := nI 1) C0 rfl hW hV hS (by exact ⟨rfl, F126, (runT u.1 f (blwN (x >>> ((nI 5) &&& 31)) 3) (nI (blwN (x >>> ((nI 6) &&& 31)) 50)) (u.1.1 0)), hRT, hWT, by rw [gB_0 h8z]⟩) dL_isRunRight_280
        rw [zI_lt0 (by omega)] at c147
        exact absurd h8z c147
      rw [zI_lt0 (by omega)] at c146
      have h8n := c146
      refine lv_aload_n hx hb dL_isRunRight_192 rfl (lv_at hl 10 rfl) ?_
      refine lv_iload hx hb dL_isRunRight_193 (lv_at hl 0 rfl) ?_
      refine ts_int (y := nI ((runT u.1 f (blwN (x >>> ((nI 5) &&& 31)) 3) (nI (blwN (x >>> ((nI 6) &&& 31)) 50)) (u.1.1 0)).1 8 - 1)) (zI_pred h8n) ?_
      obtain ⟨hb1, hb2, hb3, hb4⟩ := hRT.blame h8n
      refine lv_dup2_11 hx hb dL_isRunRight_195 rfl rfl ?_
      refine ts_iald (v := nI (g ((runT u.1 f (blwN (x >>> ((nI 5) &&& 31)) 3) (nI (blwN (x >>> ((nI 6) &&& 31)) 50)) (u.1.1 0)).1 8 - 1))) hx hb hK hV 0 (by decide) 0 rfl rfl (by omega) (by decide) rfl dL_isRunRight_196 ?_
      refine lv_iconst (v := nI 1) hx hb dL_isRunRight_197 (by decide) ?_
      refine ts_iadd (v := nI ((g ((runT u.1 f (blwN (x >>> ((nI 5) &&& 31)) 3) (nI (blwN (x >>> ((nI 6) &&& 31)) 50)) (u.1.1 0)).1 8 - 1)) + 1)) hx hb dL_isRunRight_198 (nI_add _ _) ?_
      refine ts_iast (v := nI ((g ((runT u.1 f (blwN (x >>> ((nI 5) &&& 31)) 3) (nI (blwN (x >>> ((nI 6) &&& 31)) 50)) (u.1.1 0)).1 8 - 1)) + 1)) hx hb hK hV hS (fun k hk => Or.inr (by omega)) 0 (by decide) 0 rfl rfl (by omega) (by decide) (fun _ => .inl (q.1, 10, .inl (fnat (va_up g ((runT u.1 f (blwN (x >>> ((nI 5) &&& 31)) 3) (nI (blwN (x >>> ((nI 6) &&& 31)) 50)) (u.1.1 0)).1 8 - 1) ((g ((runT u.1 f (blwN (x >>> ((nI 5) &&& 31)) 3) (nI (blwN (x >>> ((nI 6) &&& 31)) 50)) (u.1.1 0)).1 8 - 1)) + 1))))) rfl (fnat_up _ _ _) (fun j hj h0 => absurd hj (by omega)) dL_isRunRight_199 (fun H locs oq zq hV hS => ?_)
      have hW := ts_kept hW (fun x h1 h2 => oq x (by omega))
      have hbz := Nat.lt_of_lt_of_eq hbz zq.symm
      refine lv_iload hx hb dL_isRunRight_200 (lv_at hl 0 rfl) ?_
      refine lv_if_lt (tgt := 229) hx hb dL_isRunRight_202 (by decide) (fun c162 => ?_) (fun c162 => ?_)
      · skip
        rw [zI_lt0 (by omega)] at c162
        exact absurd c162 h8n
      rw [zI_lt0 (by omega)] at c162
      refine lv_iload hx hb dL_isRunRight_205 (lv_at hl 1 rfl) ?_
      refine lv_if_eq (tgt := 227) hx hb dL_isRunRight_207 (by decide) (fun c163 => ?_) (fun c163 => ?_)
      · skip
        rw [ts_eq0 (by omega)] at c163
        exact absurd c163 hb1
      rw [ts_eq0 (by omega)] at c163
      refine lv_iload hx hb dL_isRunRight_210 (lv_at hl 1 rfl) ?_
      refine lv_iconst (v := nI 3) hx hb dL_isRunRight_212 (by decide) ?_
      refine lv_icmp_gt (tgt := 227) hx hb dL_isRunRight_213 (by decide) (fun c164 => ?_) (fun c164 => ?_)
      · skip
        rw [nI_ltI (by omega) (by omega)] at c164
        exfalso; omega
      rw [nI_ltI (by omega) (by omega)] at c164
      refine lv_aload_n hx hb dL_isRunRight_216 rfl (lv_at hl 7 rfl) ?_
      refine lv_iload hx hb dL_isRunRight_217 (lv_at hl 0 rfl) ?_
      refine ts_int (y := nI ((runT u.1 f (blwN (x >>> ((nI 5) &&& 31)) 3) (nI (blwN (x >>> ((nI 6) &&& 31)) 50)) (u.1.1 0)).1 8 - 1)) (zI_pred h8n) ?_
      refine lv_iconst (v := nI 3) hx hb dL_isRunRight_219 (by decide) ?_
      refine ts_retI (va_runV (As := [.int (nI ((runT u.1 f (blwN (x >>> ((nI 5) &&& 31)) 3) (nI (blwN (x >>> ((nI 6) &&& 31)) 50)) (u.1.1 0)).1 8 - 1)), .int (nI 3)]) (rest := []) ⟨hx, hb, hml, hown, hts⟩ (k_X5_ofFunction l D q b H.size (u.1, F126, (runT u.1 f (blwN (x >>> ((nI 5) &&& 31)) 3) (nI (blwN (x >>> ((nI 6) &&& 31)) 50)) (u.1.1 0)), (bookB (runT u.1 f (blwN (x >>> ((nI 5) &&& 31)) 3) (nI (blwN (x >>> ((nI 6) &&& 31)) 50)) (u.1.1 0)) u.2.2.2)) ((runT u.1 f (blwN (x >>> ((nI 5) &&& 31)) 3) (nI (blwN (x >>> ((nI 6) &&& 31)) 50)) (u.1.1 0)).1 8 - 1) 3 hwf (by show ((runT u.1 f (blwN (x >>> ((nI 5) &&& 31)) 3) (nI (blwN (x >>> ((nI 6) &&& 31)) 50)) (u.1.1 0)).1 8 - 1) < u.1.1 1; omega) (by omega)) (cwV 2 hts gL_isRunRight_X5_ofFunction rfl rfl rfl (by decide +kernel) ⟨Nat.le_of_ble_eq_true rfl, Nat.le_of_ble_eq_true rfl⟩) (ts_preV hK hN hW 0 (by decide) cel_st rfl) rfl rfl hl.1 rfl (lv_room (Nat.le_of_ble_eq_true rfl)) dL_isRunRight_220 ⟨Nat.zero_le _, Nat.zero_le _⟩) hS (fun x h => Or.inl (ts_Aup hS.1 h)) (fun r165 u166 H locs hp167 hW hz hk hS => ?_)
      have hV := ts_kept hV (fun x h1 h2 => hk x (by omega) (fun h => by unfold ts_A at h; omega))
      have hbz := Nat.lt_of_lt_of_le hbz hz
      obtain ⟨hp167r, F168, hp167u⟩ := hp167
      have hp167r : r165 = b2i (hasB (u.1.1 2) ((runT u.1 f (blwN (x >>> ((nI 5) &&& 31)) 3) (nI (blwN (x >>> ((nI 6) &&& 31)) 50)) (u.1.1 0)).1 8 - 1)) := hp167r
      have hp167u : u166 = (u.1, F168, (runT u.1 f (blwN (x >>> ((nI 5) &&& 31)) 3) (nI (blwN (x >>> ((nI 6) &&& 31)) 50)) (u.1.1 0)), (bookB (runT u.1 f (blwN (x >>> ((nI 5) &&& 31)) 3) (nI (blwN (x >>> ((nI 6) &&& 31)) 50)) (u.1.1 0)) u.2.2.2)) := hp167u
      rw [hp167r]
      rw [hp167u] at hW
      refine lv_iconst (v := nI 1) hx hb dL_isRunRight_223 (by decide) ?_
      refine lv_icmp_ne (tgt := 229) hx hb dL_isRunRight_224 (by decide) (fun c169 => ?_) (fun c169 => ?_)
      · skip
        rw [ts_b1] at c169
        refine lv_iload hx hb dL_isRunRight_229 (lv_at hl 1 rfl) ?_
        refine lv_if_ne (tgt := 257) hx hb dL_isRunRight_231 (by decide) (fun c170 => ?_) (fun c170 => ?_)
        · skip
          rw [ts_eq0 (by omega)] at c170
          have hT6 := c170
          refine lv_aload_n hx hb dL_isRunRight_257 rfl (lv_at hl 7 rfl) ?_
          refine lv_iconst (v := nI 5) hx hb dL_isRunRight_258 (by decide) ?_
          refine ts_retI (va_runV (As := [.int (nI 5)]) (rest := []) ⟨hx, hb, hml, hown, hts⟩ (k_X5_latest l D q b H.size (u.1, F168, (runT u.1 f (blwN (x >>> ((nI 5) &&& 31)) 3) (nI (blwN (x >>> ((nI 6) &&& 31)) 50)) (u.1.1 0)), (bookB (runT u.1 f (blwN (x >>> ((nI 5) &&& 31)) 3) (nI (blwN (x >>> ((nI 6) &&& 31)) 50)) (u.1.1 0)) u.2.2.2)) 5 (by omega)) (cwV 1 hts gL_isRunRight_X5_latest rfl rfl rfl (by decide +kernel) ⟨Nat.le_of_ble_eq_true rfl, Nat.le_of_ble_eq_true rfl⟩) (ts_preV hK hN hW 0 (by decide) cel_st rfl) rfl rfl hl.1 rfl (lv_room (Nat.le_of_ble_eq_true rfl)) dL_isRunRight_259 ⟨Nat.zero_le _, Nat.zero_le _⟩) hS (fun x h => Or.inl (ts_Aup hS.1 h)) (fun r171 u172 H locs hp173 hW hz hk hS => ?_)
          have hV := ts_kept hV (fun x h1 h2 => hk x (by omega) (fun h => by unfold ts_A at h; omega))
          have hbz := Nat.lt_of_lt_of_le hbz hz
          have hp173r : r171 = nI 3 := hp173.1.trans ((lat_5 _ _).trans (congrArg nI (if_neg hT6)))
          have hp173u : u172 = (u.1, F168, (runT u.1 f (blwN (x >>> ((nI 5) &&& 31)) 3) (nI (blwN (x >>> ((nI 6) &&& 31)) 50)) (u.1.1 0)), (bookB (runT u.1 f (blwN (x >>> ((nI 5) &&& 31)) 3) (nI (blwN (x >>> ((nI 6) &&& 31)) 50)) (u.1.1 0)) u.2.2.2)) := hp173.2
          rw [hp173r]
          rw [hp173u] at hW
          refine lv_iconst (v := nI 3) hx hb dL_isRunRight_262 (by decide) ?_
          refine lv_icmp_ne (tgt := 279) hx hb dL_isRunRight_263 (by decide) (fun c174 => ?_) (fun c174 => ?_)
          · skip
            exfalso; revert c174; decide
          refine lv_aload_n hx hb dL_isRunRight_266 rfl (lv_at hl 7 rfl) ?_
          refine lv_bipush (v := nI 6) hx hb dL_isRunRight_267 (by decide) ?_
          refine ts_retI (va_runV (As := [.int (nI 6)]) (rest := []) ⟨hx, hb, hml, hown, hts⟩ (k_X5_latest l D q b H.size (u.1, F168, (runT u.1 f (blwN (x >>> ((nI 5) &&& 31)) 3) (nI (blwN (x >>> ((nI 6) &&& 31)) 50)) (u.1.1 0)), (bookB (runT u.1 f (blwN (x >>> ((nI 5) &&& 31)) 3) (nI (blwN (x >>> ((nI 6) &&& 31)) 50)) (u.1.1 0)) u.2.2.2)) 6 (by omega)) (cwV 1 hts gL_isRunRight_X5_latest rfl rfl rfl (by decide +kernel) ⟨Nat.le_of_ble_eq_true rfl, Nat.le_of_ble_eq_true rfl⟩) (ts_preV hK hN hW 0 (by decide) cel_st rfl) rfl rfl hl.1 rfl (lv_room (Nat.le_of_ble_eq_true rfl)) dL_isRunRight_269 ⟨Nat.zero_le _, Nat.zero_le _⟩) hS (fun x h => Or.inl (ts_Aup hS.1 h)) (fun r175 u176 H locs hp177 hW hz hk hS => ?_)
          have hV := ts_kept hV (fun x h1 h2 => hk x (by omega) (fun h => by unfold ts_A at h; omega))
          have hbz := Nat.lt_of_lt_of_le hbz hz
          have hp177r : r175 = nI 0 := hp177.1.trans (lat_6 _ _ hT6)
          have hp177u : u176 = (u.1, F168, (runT u.1 f (blwN (x >>> ((nI 5) &&& 31)) 3) (nI (blwN (x >>> ((nI 6) &&& 31)) 50)) (u.1.1 0)), (bookB (runT u.1 f (blwN (x >>> ((nI 5) &&& 31)) 3) (nI (blwN (x >>> ((nI 6) &&& 31)) 50)) (u.1.1 0)) u.2.2.2)) := hp177.2
          rw [hp177r]
          rw [hp177u] at hW
          refine lv_if_ne (tgt := 279) hx hb dL_isRunRight_272 (by decide) (fun c178 => ?_) (fun c178 => ?_)
          · skip
            exfalso; revert c178; decide
          refine lv_iconst (v := nI 1) hx hb dL_isRunRight_275 (by decide) ?_
          refine lv_goto (tgt := 280) hx hb dL_isRunRight_276 (by decide) ?_
          exact ts_zretB (u := (u.1, F168, (runT u.1 f (blwN (x >>> ((nI 5) &&& 31)) 3) (nI (blwN (x >>> ((nI 6) &&& 31)) 50)) (u.1.1 0)), (bookB (runT u.1 f (blwN (x >>> ((nI 5) &&& 31)) 3) (nI (blwN (x >>> ((nI 6) &&& 31)) 50)) (u.1.1 0)) u.2.2.2))) (g := va_up g ((runT u.1 f (blwN (x >>> ((nI 5) &&& 31)) 3) (nI (blwN (x >>> ((nI 6) &&& 31)) 50)) (u.1.1 0)).1 8 - 1) ((g ((runT u.1 f (blwN (x >>> ((nI 5) &&& 31)) 3) (nI (blwN (x >>> ((nI 6) &&& 31)) 50)) (u.1.1 0)).1 8 - 1)) + 1)) (v := nI 1) C0 rfl hW hV hS (by exact ⟨rfl, F168, (runT u.1 f (blwN (x >>> ((nI 5) &&& 31)) 3) (nI (blwN (x >>> ((nI 6) &&& 31)) 50)) (u.1.1 0)), hRT, hWT, by rw [gB_1 h8n]⟩) dL_isRunRight_280
        rw [ts_eq0 (by omega)] at c170
        have hT6 := c170
        refine lv_aload_n hx hb dL_isRunRight_234 rfl (lv_at hl 7 rfl) ?_
        refine lv_iconst (v := nI 5) hx hb dL_isRunRight_235 (by decide) ?_
        refine ts_retI (va_runV (As := [.int (nI 5)]) (rest := []) ⟨hx, hb, hml, hown, hts⟩ (k_X5_latest l D q b H.size (u.1, F168, (runT u.1 f (blwN (x >>> ((nI 5) &&& 31)) 3) (nI (blwN (x >>> ((nI 6) &&& 31)) 50)) (u.1.1 0)), (bookB (runT u.1 f (blwN (x >>> ((nI 5) &&& 31)) 3) (nI (blwN (x >>> ((nI 6) &&& 31)) 50)) (u.1.1 0)) u.2.2.2)) 5 (by omega)) (cwV 1 hts gL_isRunRight_X5_latest rfl rfl rfl (by decide +kernel) ⟨Nat.le_of_ble_eq_true rfl, Nat.le_of_ble_eq_true rfl⟩) (ts_preV hK hN hW 0 (by decide) cel_st rfl) rfl rfl hl.1 rfl (lv_room (Nat.le_of_ble_eq_true rfl)) dL_isRunRight_236 ⟨Nat.zero_le _, Nat.zero_le _⟩) hS (fun x h => Or.inl (ts_Aup hS.1 h)) (fun r179 u180 H locs hp181 hW hz hk hS => ?_)
        have hV := ts_kept hV (fun x h1 h2 => hk x (by omega) (fun h => by unfold ts_A at h; omega))
        have hbz := Nat.lt_of_lt_of_le hbz hz
        have hp181r : r179 = nI ((runT u.1 f (blwN (x >>> ((nI 5) &&& 31)) 3) (nI (blwN (x >>> ((nI 6) &&& 31)) 50)) (u.1.1 0)).1 1) := hp181.1.trans ((lat_5 _ _).trans (congrArg nI (if_pos hT6)))
        have hp181u : u180 = (u.1, F168, (runT u.1 f (blwN (x >>> ((nI 5) &&& 31)) 3) (nI (blwN (x >>> ((nI 6) &&& 31)) 50)) (u.1.1 0)), (bookB (runT u.1 f (blwN (x >>> ((nI 5) &&& 31)) 3) (nI (blwN (x >>> ((nI 6) &&& 31)) 50)) (u.1.1 0)) u.2.2.2)) := hp181.2
        rw [hp181r]
        rw [hp181u] at hW
        refine lv_iconst (v := nI 3) hx hb dL_isRunRight_239 (by decide) ?_
        refine lv_icmp_ge (tgt := 253) hx hb dL_isRunRight_240 (by decide) (fun c182 => ?_) (fun c182 => ?_)
        · skip
          rw [nI_leI (by omega) (by omega)] at c182
          exfalso; omega
        rw [nI_leI (by omega) (by omega)] at c182
        refine lv_iload hx hb dL_isRunRight_243 (lv_at hl 0 rfl) ?_
        refine lv_iconst (v := (-1)) hx hb dL_isRunRight_245 (by decide) ?_
        refine lv_icmp_ne (tgt := 253) hx hb dL_isRunRight_246 (by decide) (fun c183 => ?_) (fun c183 => ?_)
        · skip
          rw [zI_m1 (by omega)] at c183
          exact absurd (hRT.2.2.1.1 hT6) c183
        rw [zI_m1 (by omega)] at c183
        refine lv_iconst (v := nI 1) hx hb dL_isRunRight_249 (by decide) ?_
        refine lv_goto (tgt := 280) hx hb dL_isRunRight_250 (by decide) ?_
        exact ts_zretB (u := (u.1, F168, (runT u.1 f (blwN (x >>> ((nI 5) &&& 31)) 3) (nI (blwN (x >>> ((nI 6) &&& 31)) 50)) (u.1.1 0)), (bookB (runT u.1 f (blwN (x >>> ((nI 5) &&& 31)) 3) (nI (blwN (x >>> ((nI 6) &&& 31)) 50)) (u.1.1 0)) u.2.2.2))) (g := va_up g ((runT u.1 f (blwN (x >>> ((nI 5) &&& 31)) 3) (nI (blwN (x >>> ((nI 6) &&& 31)) 50)) (u.1.1 0)).1 8 - 1) ((g ((runT u.1 f (blwN (x >>> ((nI 5) &&& 31)) 3) (nI (blwN (x >>> ((nI 6) &&& 31)) 50)) (u.1.1 0)).1 8 - 1)) + 1)) (v := nI 1) C0 rfl hW hV hS (by exact ⟨rfl, F168, (runT u.1 f (blwN (x >>> ((nI 5) &&& 31)) 3) (nI (blwN (x >>> ((nI 6) &&& 31)) 50)) (u.1.1 0)), hRT, hWT, by rw [gB_1 h8n]⟩) dL_isRunRight_280
      rw [ts_b1] at c169
      exact absurd (hb4.symm.trans c169) (by decide)
    rw [nI_leI (by omega) (by omega)] at c145
    exfalso; omega
  rw [ts_eq0 (by omega)] at c4
  have hty0 := c4
  refine lv_iload_n hx hb dL_isRunRight_14 rfl (lv_at hl 2 rfl) ?_
  refine lv_bipush (v := nI 6) hx hb dL_isRunRight_15 (by decide) ?_
  refine ts_ishr (v := x >>> ((nI 6) &&& 31)) hx hb dL_isRunRight_17 rfl ?_
  refine lv_bipush (v := nI 50) hx hb dL_isRunRight_18 (by decide) ?_
  refine ts_retI (va_runS (As := [.int (x >>> ((nI 6) &&& 31)), .int (nI 50)]) (rest := []) ⟨hx, hb, hml, hown, hts⟩ (k_L_below l D q b H.size u (x >>> ((nI 6) &&& 31)) 50 (by decide)) (va_cwS 2 hts gL_isRunRight_L_below rfl rfl rfl (by decide +kernel) ⟨Nat.le_of_ble_eq_true rfl, Nat.le_of_ble_eq_true rfl⟩) (ts_preS hK hN hW) rfl rfl hl.1 rfl (lv_room (Nat.le_of_ble_eq_true rfl)) dL_isRunRight_20 ⟨Nat.zero_le _, Nat.zero_le _⟩) hS (fun x h => Or.inl (ts_Aup hS.1 h)) (fun r184 u185 H locs hp186 hW hz hk hS => ?_)
  have hV := ts_kept hV (fun x h1 h2 => hk x (by omega) (fun h => by unfold ts_A at h; omega))
  have hbz := Nat.lt_of_lt_of_le hbz hz
  have hp186r : r184 = nI (blwN (x >>> ((nI 6) &&& 31)) 50) := hp186.1
  have hp186u : u185 = u := hp186.2
  rw [hp186r]
  rw [hp186u] at hW
  refine lv_bipush (v := nI 25) hx hb dL_isRunRight_23 (by decide) ?_
  refine ts_isub (v := (nI (blwN (x >>> ((nI 6) &&& 31)) 50)) - (nI 25)) hx hb dL_isRunRight_25 rfl ?_
  refine lv_goto (tgt := 55) hx hb dL_isRunRight_26 (by decide) ?_
  refine lv_istore (lv' := [(5, .int ((nI (blwN (x >>> ((nI 6) &&& 31)) 50)) - (nI 25))), (4, .int (nI (blwN (x >>> ((nI 5) &&& 31)) 3))), (0, .ref (b + 0)), (1, .int x), (2, .int (nI f)), (3, .ref (bb + 0))]) hx hb dL_isRunRight_55 hl (by decide) rfl (fun ls hl => ?_)
  have hbu := hwf.bu
  have hty3 := blwN_lt (x >>> (nI 5 &&& 31)) (n := 3) (by decide)
  have hvl : valI (blwN (x >>> ((nI 5) &&& 31)) 3) ((nI (blwN (x >>> ((nI 6) &&& 31)) 50)) - (nI 25)) := by first | (rw [hty0]; exact val_0 (blwN_lt _ (by decide))) | (rw [hty1]; exact val_1 (blwN_lt _ (by decide))) | (rw [hty2]; exact val_2 (blwN_lt _ (by decide)))
  have hRT := RT.run hwf hf (ty := blwN (x >>> ((nI 5) &&& 31)) 3) (num := (nI (blwN (x >>> ((nI 6) &&& 31)) 50)) - (nI 25)) (bud := u.1.1 0)
  have hWT : WT (runT u.1 f (blwN (x >>> ((nI 5) &&& 31)) 3) ((nI (blwN (x >>> ((nI 6) &&& 31)) 50)) - (nI 25)) (u.1.1 0)) := RT.type hwf hbu (by omega) hf
  obtain ⟨w0, w1, w2, w3, w5, w6, w7, w8, w9⟩ := id hWT
  have w15 := hRT.1.2
  have hcost : costT (runT u.1 f (blwN (x >>> ((nI 5) &&& 31)) 3) ((nI (blwN (x >>> ((nI 6) &&& 31)) 50)) - (nI 25)) (u.1.1 0)) = (runT u.1 f (blwN (x >>> ((nI 5) &&& 31)) 3) ((nI (blwN (x >>> ((nI 6) &&& 31)) 50)) - (nI 25)) (u.1.1 0)).1 2 + 2 * (runT u.1 f (blwN (x >>> ((nI 5) &&& 31)) 3) ((nI (blwN (x >>> ((nI 6) &&& 31)) 50)) - (nI 25)) (u.1.1 0)).1 3 := rfl
  refine lv_aload_n hx hb dL_isRunRight_57 rfl (lv_at hl 2 rfl) ?_
  refine lv_bipush (v := nI 7) hx hb dL_isRunRight_58 (by decide) ?_
  refine ts_retI (va_runV (As := [.int (nI 7)]) (rest := []) ⟨hx, hb, hml, hown, hts⟩ (k_X5_many l D q b H.size u 7 hwf (by omega)) (cwV 1 hts gL_isRunRight_X5_many rfl rfl rfl (by decide +kernel) ⟨Nat.le_of_ble_eq_true rfl, Nat.le_of_ble_eq_true rfl⟩) (ts_preV hK hN hW 0 (by decide) cel_st rfl) rfl rfl hl.1 rfl (lv_room (Nat.le_of_ble_eq_true rfl)) dL_isRunRight_60 ⟨Nat.zero_le _, Nat.zero_le _⟩) hS (fun x h => Or.inl (ts_Aup hS.1 h)) (fun r187 u188 H locs hp189 hW hz hk hS => ?_)
  have hV := ts_kept hV (fun x h1 h2 => hk x (by omega) (fun h => by unfold ts_A at h; omega))
  have hbz := Nat.lt_of_lt_of_le hbz hz
  obtain ⟨hp189r, F190, hp189u⟩ := hp189
  have hp189r : r187 = nI (u.2.2.2.1 2) := hp189r
  have hp189u : u188 = (u.1, F190, u.2.2.1, u.2.2.2) := hp189u
  rw [hp189r]
  rw [hp189u] at hW
  refine lv_istore (lv' := [(6, .int (nI (u.2.2.2.1 2))), (5, .int ((nI (blwN (x >>> ((nI 6) &&& 31)) 50)) - (nI 25))), (4, .int (nI (blwN (x >>> ((nI 5) &&& 31)) 3))), (0, .ref (b + 0)), (1, .int x), (2, .int (nI f)), (3, .ref (bb + 0))]) hx hb dL_isRunRight_63 hl (by decide) rfl (fun ls hl => ?_)
  refine lv_aload_n hx hb dL_isRunRight_65 rfl (lv_at hl 3 rfl) ?_
  refine lv_iconst (v := (-1)) hx hb dL_isRunRight_66 (by decide) ?_
  refine ts_int (y := zI 0) rfl ?_
  refine lv_iload_n hx hb dL_isRunRight_67 rfl (lv_at hl 5 rfl) ?_
  refine ts_retI (va_runV (As := [.int (zI 0), .int (nI f)]) (rest := []) ⟨hx, hb, hml, hown, hts⟩ (k_X5_counted l D q b H.size (u.1, F190, u.2.2.1, u.2.2.2) 0 f hwf (by show 0 ≤ u.1.1 1; omega) (by show f < u.1.1 1; omega)) (cwV 2 hts gL_isRunRight_X5_counted rfl rfl rfl (by decide +kernel) ⟨Nat.le_of_ble_eq_true rfl, Nat.le_of_ble_eq_true rfl⟩) (ts_preV hK hN hW 0 (by decide) cel_st rfl) rfl rfl hl.1 rfl (lv_room (Nat.le_of_ble_eq_true rfl)) dL_isRunRight_68 ⟨Nat.zero_le _, Nat.zero_le _⟩) hS (fun x h => Or.inl (ts_Aup hS.1 h)) (fun r191 u192 H locs hp193 hW hz hk hS => ?_)
  have hV := ts_kept hV (fun x h1 h2 => hk x (by omega) (fun h => by unfold ts_A at h; omega))
  have hbz := Nat.lt_of_lt_of_le hbz hz
  have hp193r : r191 = nI (u.2.2.2.2.2 0 f) := hp193.1
  have hp193u : u192 = (u.1, F190, u.2.2.1, u.2.2.2) := hp193.2
  rw [hp193r]
  rw [hp193u] at hW
  refine lv_istore (lv' := [(7, .int (nI (u.2.2.2.2.2 0 f))), (6, .int (nI (u.2.2.2.1 2))), (5, .int ((nI (blwN (x >>> ((nI 6) &&& 31)) 50)) - (nI 25))), (4, .int (nI (blwN (x >>> ((nI 5) &&& 31)) 3))), (0, .ref (b + 0)), (1, .int x), (2, .int (nI f)), (3, .ref (bb + 0))]) hx hb dL_isRunRight_71 hl (by decide) rfl (fun ls hl => ?_)
  refine lv_aload_n hx hb dL_isRunRight_73 rfl (lv_at hl 4 rfl) ?_
  refine lv_iload_n hx hb dL_isRunRight_74 rfl (lv_at hl 6 rfl) ?_
  refine lv_iload hx hb dL_isRunRight_75 (lv_at hl 3 rfl) ?_
  refine lv_iload hx hb dL_isRunRight_77 (lv_at hl 2 rfl) ?_
  refine ts_retI (va_runV (As := [.int (nI f), .int (nI (blwN (x >>> ((nI 5) &&& 31)) 3)), .int ((nI (blwN (x >>> ((nI 6) &&& 31)) 50)) - (nI 25))]) (rest := []) ⟨hx, hb, hml, hown, hts⟩ (k_X5_wouldBlame l D q b H.size (u.1, F190, u.2.2.1, u.2.2.2) f (blwN (x >>> ((nI 5) &&& 31)) 3) ((nI (blwN (x >>> ((nI 6) &&& 31)) 50)) - (nI 25)) hwf (by show f < u.1.1 1; omega) hvl) (cwV 3 hts gL_isRunRight_X5_wouldBlame rfl rfl rfl (by decide +kernel) ⟨Nat.le_of_ble_eq_true rfl, Nat.le_of_ble_eq_true rfl⟩) (ts_preV hK hN hW 0 (by decide) cel_st rfl) rfl rfl hl.1 rfl (lv_room (Nat.le_of_ble_eq_true rfl)) dL_isRunRight_79 ⟨Nat.zero_le _, Nat.zero_le _⟩) hS (fun x h => Or.inl (ts_Aup hS.1 h)) (fun r194 u195 H locs hp196 hW hz hk hS => ?_)
  have hV := ts_kept hV (fun x h1 h2 => hk x (by omega) (fun h => by unfold ts_A at h; omega))
  have hbz := Nat.lt_of_lt_of_le hbz hz
  have hp196r : r194 = zI ((runT u.1 f (blwN (x >>> ((nI 5) &&& 31)) 3) ((nI (blwN (x >>> ((nI 6) &&& 31)) 50)) - (nI 25)) (u.1.1 0)).1 8) := hp196.1
  have hp196u : u195 = (u.1, F190, (runT u.1 f (blwN (x >>> ((nI 5) &&& 31)) 3) ((nI (blwN (x >>> ((nI 6) &&& 31)) 50)) - (nI 25)) (u.1.1 0)), u.2.2.2) := hp196.2
  rw [hp196r]
  rw [hp196u] at hW
  refine lv_istore (lv' := [(8, .int (zI ((runT u.1 f (blwN (x >>> ((nI 5) &&& 31)) 3) ((nI (blwN (x >>> ((nI 6) &&& 31)) 50)) - (nI 25)) (u.1.1 0)).1 8))), (7, .int (nI (u.2.2.2.2.2 0 f))), (6, .int (nI (u.2.2.2.1 2))), (5, .int ((nI (blwN (x >>> ((nI 6) &&& 31)) 50)) - (nI 25))), (4, .int (nI (blwN (x >>> ((nI 5) &&& 31)) 3))), (0, .ref (b + 0)), (1, .int x), (2, .int (nI f)), (3, .ref (bb + 0))]) hx hb dL_isRunRight_82 hl (by decide) rfl (fun ls hl => ?_)
  refine lv_aload_n hx hb dL_isRunRight_84 rfl (lv_at hl 5 rfl) ?_
  refine lv_iload_n hx hb dL_isRunRight_85 rfl (lv_at hl 7 rfl) ?_
  refine lv_iload hx hb dL_isRunRight_86 (lv_at hl 4 rfl) ?_
  refine lv_iload hx hb dL_isRunRight_88 (lv_at hl 3 rfl) ?_
  refine ts_retI (va_runV (As := [.int (nI f), .int (nI (blwN (x >>> ((nI 5) &&& 31)) 3)), .int ((nI (blwN (x >>> ((nI 6) &&& 31)) 50)) - (nI 25))]) (rest := []) ⟨hx, hb, hml, hown, hts⟩ (k_X5_run l D q b H.size (u.1, F190, (runT u.1 f (blwN (x >>> ((nI 5) &&& 31)) 3) ((nI (blwN (x >>> ((nI 6) &&& 31)) 50)) - (nI 25)) (u.1.1 0)), u.2.2.2) f (blwN (x >>> ((nI 5) &&& 31)) 3) ((nI (blwN (x >>> ((nI 6) &&& 31)) 50)) - (nI 25)) hwf (by show f < u.1.1 1; omega) hvl) (cwV 3 hts gL_isRunRight_X5_run rfl rfl rfl (by decide +kernel) ⟨Nat.le_of_ble_eq_true rfl, Nat.le_of_ble_eq_true rfl⟩) (ts_preV hK hN hW 0 (by decide) cel_st rfl) rfl rfl hl.1 rfl (lv_room (Nat.le_of_ble_eq_true rfl)) dL_isRunRight_90 ⟨Nat.zero_le _, Nat.zero_le _⟩) hS (fun x h => Or.inl (ts_Aup hS.1 h)) (fun r197 u198 H locs hp199 hW hz hk hS => ?_)
  have hV := ts_kept hV (fun x h1 h2 => hk x (by omega) (fun h => by unfold ts_A at h; omega))
  have hbz := Nat.lt_of_lt_of_le hbz hz
  have hp199r : r197 = nI ((runT u.1 f (blwN (x >>> ((nI 5) &&& 31)) 3) ((nI (blwN (x >>> ((nI 6) &&& 31)) 50)) - (nI 25)) (u.1.1 0)).1 6) := hp199.1
  have hp199u : u198 = (u.1, F190, (runT u.1 f (blwN (x >>> ((nI 5) &&& 31)) 3) ((nI (blwN (x >>> ((nI 6) &&& 31)) 50)) - (nI 25)) (u.1.1 0)), (bookB (runT u.1 f (blwN (x >>> ((nI 5) &&& 31)) 3) ((nI (blwN (x >>> ((nI 6) &&& 31)) 50)) - (nI 25)) (u.1.1 0)) u.2.2.2)) := hp199.2
  rw [hp199r]
  rw [hp199u] at hW
  refine lv_istore (lv' := [(9, .int (nI ((runT u.1 f (blwN (x >>> ((nI 5) &&& 31)) 3) ((nI (blwN (x >>> ((nI 6) &&& 31)) 50)) - (nI 25)) (u.1.1 0)).1 6))), (8, .int (zI ((runT u.1 f (blwN (x >>> ((nI 5) &&& 31)) 3) ((nI (blwN (x >>> ((nI 6) &&& 31)) 50)) - (nI 25)) (u.1.1 0)).1 8))), (7, .int (nI (u.2.2.2.2.2 0 f))), (6, .int (nI (u.2.2.2.1 2))), (5, .int ((nI (blwN (x >>> ((nI 6) &&& 31)) 50)) - (nI 25))), (4, .int (nI (blwN (x >>> ((nI 5) &&& 31)) 3))), (0, .ref (b + 0)), (1, .int x), (2, .int (nI f)), (3, .ref (bb + 0))]) hx hb dL_isRunRight_93 hl (by decide) rfl (fun ls hl => ?_)
  refine lv_aload_n hx hb dL_isRunRight_95 rfl (lv_at hl 6 rfl) ?_
  refine lv_iconst (v := nI 1) hx hb dL_isRunRight_96 (by decide) ?_
  refine ts_retI (va_runV (As := [.int (nI 1)]) (rest := []) ⟨hx, hb, hml, hown, hts⟩ (k_X5_latest l D q b H.size (u.1, F190, (runT u.1 f (blwN (x >>> ((nI 5) &&& 31)) 3) ((nI (blwN (x >>> ((nI 6) &&& 31)) 50)) - (nI 25)) (u.1.1 0)), (bookB (runT u.1 f (blwN (x >>> ((nI 5) &&& 31)) 3) ((nI (blwN (x >>> ((nI 6) &&& 31)) 50)) - (nI 25)) (u.1.1 0)) u.2.2.2)) 1 (by omega)) (cwV 1 hts gL_isRunRight_X5_latest rfl rfl rfl (by decide +kernel) ⟨Nat.le_of_ble_eq_true rfl, Nat.le_of_ble_eq_true rfl⟩) (ts_preV hK hN hW 0 (by decide) cel_st rfl) rfl rfl hl.1 rfl (lv_room (Nat.le_of_ble_eq_true rfl)) dL_isRunRight_97 ⟨Nat.zero_le _, Nat.zero_le _⟩) hS (fun x h => Or.inl (ts_Aup hS.1 h)) (fun r200 u201 H locs hp202 hW hz hk hS => ?_)
  have hV := ts_kept hV (fun x h1 h2 => hk x (by omega) (fun h => by unfold ts_A at h; omega))
  have hbz := Nat.lt_of_lt_of_le hbz hz
  have hp202r : r200 = zI ((runT u.1 f (blwN (x >>> ((nI 5) &&& 31)) 3) ((nI (blwN (x >>> ((nI 6) &&& 31)) 50)) - (nI 25)) (u.1.1 0)).1 8) := hp202.1.trans (lat_1 _ _)
  have hp202u : u201 = (u.1, F190, (runT u.1 f (blwN (x >>> ((nI 5) &&& 31)) 3) ((nI (blwN (x >>> ((nI 6) &&& 31)) 50)) - (nI 25)) (u.1.1 0)), (bookB (runT u.1 f (blwN (x >>> ((nI 5) &&& 31)) 3) ((nI (blwN (x >>> ((nI 6) &&& 31)) 50)) - (nI 25)) (u.1.1 0)) u.2.2.2)) := hp202.2
  rw [hp202r]
  rw [hp202u] at hW
  refine lv_istore (lv' := [(10, .int (zI ((runT u.1 f (blwN (x >>> ((nI 5) &&& 31)) 3) ((nI (blwN (x >>> ((nI 6) &&& 31)) 50)) - (nI 25)) (u.1.1 0)).1 8))), (9, .int (nI ((runT u.1 f (blwN (x >>> ((nI 5) &&& 31)) 3) ((nI (blwN (x >>> ((nI 6) &&& 31)) 50)) - (nI 25)) (u.1.1 0)).1 6))), (8, .int (zI ((runT u.1 f (blwN (x >>> ((nI 5) &&& 31)) 3) ((nI (blwN (x >>> ((nI 6) &&& 31)) 50)) - (nI 25)) (u.1.1 0)).1 8))), (7, .int (nI (u.2.2.2.2.2 0 f))), (6, .int (nI (u.2.2.2.1 2))), (5, .int ((nI (blwN (x >>> ((nI 6) &&& 31)) 50)) - (nI 25))), (4, .int (nI (blwN (x >>> ((nI 5) &&& 31)) 3))), (0, .ref (b + 0)), (1, .int x), (2, .int (nI f)), (3, .ref (bb + 0))]) hx hb dL_isRunRight_100 hl (by decide) rfl (fun ls hl => ?_)
  refine lv_iload hx hb dL_isRunRight_102 (lv_at hl 1 rfl) ?_
  refine lv_aload_n hx hb dL_isRunRight_104 rfl (lv_at hl 7 rfl) ?_
  refine lv_iconst (v := nI 0) hx hb dL_isRunRight_105 (by decide) ?_
  refine ts_retI (va_runV (As := [.int (nI 0)]) (rest := [.int (nI ((runT u.1 f (blwN (x >>> ((nI 5) &&& 31)) 3) ((nI (blwN (x >>> ((nI 6) &&& 31)) 50)) - (nI 25)) (u.1.1 0)).1 6))]) ⟨hx, hb, hml, hown, hts⟩ (k_X5_latest l D q b H.size (u.1, F190, (runT u.1 f (blwN (x >>> ((nI 5) &&& 31)) 3) ((nI (blwN (x >>> ((nI 6) &&& 31)) 50)) - (nI 25)) (u.1.1 0)), (bookB (runT u.1 f (blwN (x >>> ((nI 5) &&& 31)) 3) ((nI (blwN (x >>> ((nI 6) &&& 31)) 50)) - (nI 25)) (u.1.1 0)) u.2.2.2)) 0 (by omega)) (cwV 1 hts gL_isRunRight_X5_latest rfl rfl rfl (by decide +kernel) ⟨Nat.le_of_ble_eq_true rfl, Nat.le_of_ble_eq_true rfl⟩) (ts_preV hK hN hW 0 (by decide) cel_st rfl) rfl rfl hl.1 rfl (lv_room (Nat.le_of_ble_eq_true rfl)) dL_isRunRight_106 ⟨Nat.zero_le _, Nat.zero_le _⟩) hS (fun x h => Or.inl (ts_Aup hS.1 h)) (fun r203 u204 H locs hp205 hW hz hk hS => ?_)
  have hV := ts_kept hV (fun x h1 h2 => hk x (by omega) (fun h => by unfold ts_A at h; omega))
  have hbz := Nat.lt_of_lt_of_le hbz hz
  have hp205r : r203 = nI ((runT u.1 f (blwN (x >>> ((nI 5) &&& 31)) 3) ((nI (blwN (x >>> ((nI 6) &&& 31)) 50)) - (nI 25)) (u.1.1 0)).1 6) := hp205.1.trans (lat_0 _ _)
  have hp205u : u204 = (u.1, F190, (runT u.1 f (blwN (x >>> ((nI 5) &&& 31)) 3) ((nI (blwN (x >>> ((nI 6) &&& 31)) 50)) - (nI 25)) (u.1.1 0)), (bookB (runT u.1 f (blwN (x >>> ((nI 5) &&& 31)) 3) ((nI (blwN (x >>> ((nI 6) &&& 31)) 50)) - (nI 25)) (u.1.1 0)) u.2.2.2)) := hp205.2
  rw [hp205r]
  rw [hp205u] at hW
  refine lv_icmp_ne (tgt := 185) hx hb dL_isRunRight_109 (by decide) (fun c206 => ?_) (fun c206 => ?_)
  · skip
    exact absurd rfl c206
  refine lv_iload hx hb dL_isRunRight_112 (lv_at hl 0 rfl) ?_
  refine lv_iload hx hb dL_isRunRight_114 (lv_at hl 2 rfl) ?_
  refine lv_icmp_ne (tgt := 185) hx hb dL_isRunRight_116 (by decide) (fun c207 => ?_) (fun c207 => ?_)
  · skip
    exact absurd rfl c207
  refine lv_aload_n hx hb dL_isRunRight_119 rfl (lv_at hl 7 rfl) ?_
  refine lv_iconst (v := (-1)) hx hb dL_isRunRight_120 (by decide) ?_
  refine ts_int (y := zI 0) rfl ?_
  refine lv_iload_n hx hb dL_isRunRight_121 rfl (lv_at hl 9 rfl) ?_
  refine ts_retI (va_runV (As := [.int (zI 0), .int (nI f)]) (rest := []) ⟨hx, hb, hml, hown, hts⟩ (k_X5_counted l D q b H.size (u.1, F190, (runT u.1 f (blwN (x >>> ((nI 5) &&& 31)) 3) ((nI (blwN (x >>> ((nI 6) &&& 31)) 50)) - (nI 25)) (u.1.1 0)), (bookB (runT u.1 f (blwN (x >>> ((nI 5) &&& 31)) 3) ((nI (blwN (x >>> ((nI 6) &&& 31)) 50)) - (nI 25)) (u.1.1 0)) u.2.2.2)) 0 f hwf (by show 0 ≤ u.1.1 1; omega) (by show f < u.1.1 1; omega)) (cwV 2 hts gL_isRunRight_X5_counted rfl rfl rfl (by decide +kernel) ⟨Nat.le_of_ble_eq_true rfl, Nat.le_of_ble_eq_true rfl⟩) (ts_preV hK hN hW 0 (by decide) cel_st rfl) rfl rfl hl.1 rfl (lv_room (Nat.le_of_ble_eq_true rfl)) dL_isRunRight_122 ⟨Nat.zero_le _, Nat.zero_le _⟩) hS (fun x h => Or.inl (ts_Aup hS.1 h)) (fun r208 u209 H locs hp210 hW hz hk hS => ?_)
  have hV := ts_kept hV (fun x h1 h2 => hk x (by omega) (fun h => by unfold ts_A at h; omega))
  have hbz := Nat.lt_of_lt_of_le hbz hz
  have hp210r : r208 = nI ((((bookB (runT u.1 f (blwN (x >>> ((nI 5) &&& 31)) 3) ((nI (blwN (x >>> ((nI 6) &&& 31)) 50)) - (nI 25)) (u.1.1 0)) u.2.2.2)).2.2) 0 f) := hp210.1
  have hp210u : u209 = (u.1, F190, (runT u.1 f (blwN (x >>> ((nI 5) &&& 31)) 3) ((nI (blwN (x >>> ((nI 6) &&& 31)) 50)) - (nI 25)) (u.1.1 0)), (bookB (runT u.1 f (blwN (x >>> ((nI 5) &&& 31)) 3) ((nI (blwN (x >>> ((nI 6) &&& 31)) 50)) - (nI 25)) (u.1.1 0)) u.2.2.2)) := hp210.2
  rw [hp210r]
  rw [hp210u] at hW
  refine lv_iload hx hb dL_isRunRight_125 (lv_at hl 3 rfl) ?_
  refine lv_iconst (v := nI 1) hx hb dL_isRunRight_127 (by decide) ?_
  refine ts_iadd (v := nI ((u.2.2.2.2.2 0 f) + 1)) hx hb dL_isRunRight_128 (nI_add _ _) ?_
  refine lv_icmp_ne (tgt := 185) hx hb dL_isRunRight_129 (by decide) (fun c211 => ?_) (fun c211 => ?_)
  · skip
    exact absurd (congrArg nI ((book_row _ _ (by decide) (by omega)).trans (congrArg (u.2.2.2.2.2 0 f + ·) ((congrFun hRT.1.1 f).trans (if_pos rfl))))) c211
  refine lv_aload_n hx hb dL_isRunRight_132 rfl (lv_at hl 7 rfl) ?_
  refine lv_bipush (v := nI 7) hx hb dL_isRunRight_133 (by decide) ?_
  refine ts_retI (va_runV (As := [.int (nI 7)]) (rest := []) ⟨hx, hb, hml, hown, hts⟩ (k_X5_many l D q b H.size (u.1, F190, (runT u.1 f (blwN (x >>> ((nI 5) &&& 31)) 3) ((nI (blwN (x >>> ((nI 6) &&& 31)) 50)) - (nI 25)) (u.1.1 0)), (bookB (runT u.1 f (blwN (x >>> ((nI 5) &&& 31)) 3) ((nI (blwN (x >>> ((nI 6) &&& 31)) 50)) - (nI 25)) (u.1.1 0)) u.2.2.2)) 7 hwf (by omega)) (cwV 1 hts gL_isRunRight_X5_many rfl rfl rfl (by decide +kernel) ⟨Nat.le_of_ble_eq_true rfl, Nat.le_of_ble_eq_true rfl⟩) (ts_preV hK hN hW 0 (by decide) cel_st rfl) rfl rfl hl.1 rfl (lv_room (Nat.le_of_ble_eq_true rfl)) dL_isRunRight_135 ⟨Nat.zero_le _, Nat.zero_le _⟩) hS (fun x h => Or.inl (ts_Aup hS.1 h)) (fun r212 u213 H locs hp214 hW hz hk hS => ?_)
  have hV := ts_kept hV (fun x h1 h2 => hk x (by omega) (fun h => by unfold ts_A at h; omega))
  have hbz := Nat.lt_of_lt_of_le hbz hz
  obtain ⟨hp214r, F215, hp214u⟩ := hp214
  have hp214r : r212 = nI ((((bookB (runT u.1 f (blwN (x >>> ((nI 5) &&& 31)) 3) ((nI (blwN (x >>> ((nI 6) &&& 31)) 50)) - (nI 25)) (u.1.1 0)) u.2.2.2)).1) 2) := hp214r
  have hp214u : u213 = (u.1, F215, (runT u.1 f (blwN (x >>> ((nI 5) &&& 31)) 3) ((nI (blwN (x >>> ((nI 6) &&& 31)) 50)) - (nI 25)) (u.1.1 0)), (bookB (runT u.1 f (blwN (x >>> ((nI 5) &&& 31)) 3) ((nI (blwN (x >>> ((nI 6) &&& 31)) 50)) - (nI 25)) (u.1.1 0)) u.2.2.2)) := hp214u
  rw [hp214r]
  rw [hp214u] at hW
  refine lv_iload hx hb dL_isRunRight_138 (lv_at hl 4 rfl) ?_
  refine lv_aload_n hx hb dL_isRunRight_140 rfl (lv_at hl 7 rfl) ?_
  refine lv_iconst (v := nI 2) hx hb dL_isRunRight_141 (by decide) ?_
  refine ts_retI (va_runV (As := [.int (nI 2)]) (rest := [.int (nI (u.2.2.2.1 2)), .int (nI ((((bookB (runT u.1 f (blwN (x >>> ((nI 5) &&& 31)) 3) ((nI (blwN (x >>> ((nI 6) &&& 31)) 50)) - (nI 25)) (u.1.1 0)) u.2.2.2)).1) 2))]) ⟨hx, hb, hml, hown, hts⟩ (k_X5_latest l D q b H.size (u.1, F215, (runT u.1 f (blwN (x >>> ((nI 5) &&& 31)) 3) ((nI (blwN (x >>> ((nI 6) &&& 31)) 50)) - (nI 25)) (u.1.1 0)), (bookB (runT u.1 f (blwN (x >>> ((nI 5) &&& 31)) 3) ((nI (blwN (x >>> ((nI 6) &&& 31)) 50)) - (nI 25)) (u.1.1 0)) u.2.2.2)) 2 (by omega)) (cwV 1 hts gL_isRunRight_X5_latest rfl rfl rfl (by decide +kernel) ⟨Nat.le_of_ble_eq_true rfl, Nat.le_of_ble_eq_true rfl⟩) (ts_preV hK hN hW 0 (by decide) cel_st rfl) rfl rfl hl.1 rfl (lv_room (Nat.le_of_ble_eq_true rfl)) dL_isRunRight_142 ⟨Nat.zero_le _, Nat.zero_le _⟩) hS (fun x h => Or.inl (ts_Aup hS.1 h)) (fun r216 u217 H locs hp218 hW hz hk hS => ?_)
  have hV := ts_kept hV (fun x h1 h2 => hk x (by omega) (fun h => by unfold ts_A at h; omega))
  have hbz := Nat.lt_of_lt_of_le hbz hz
  have hp218r : r216 = nI (costT (runT u.1 f (blwN (x >>> ((nI 5) &&& 31)) 3) ((nI (blwN (x >>> ((nI 6) &&& 31)) 50)) - (nI 25)) (u.1.1 0))) := hp218.1.trans (lat_2 _ _)
  have hp218u : u217 = (u.1, F215, (runT u.1 f (blwN (x >>> ((nI 5) &&& 31)) 3) ((nI (blwN (x >>> ((nI 6) &&& 31)) 50)) - (nI 25)) (u.1.1 0)), (bookB (runT u.1 f (blwN (x >>> ((nI 5) &&& 31)) 3) ((nI (blwN (x >>> ((nI 6) &&& 31)) 50)) - (nI 25)) (u.1.1 0)) u.2.2.2)) := hp218.2
  rw [hp218r]
  rw [hp218u] at hW
  refine ts_iadd (v := nI ((u.2.2.2.1 2) + (costT (runT u.1 f (blwN (x >>> ((nI 5) &&& 31)) 3) ((nI (blwN (x >>> ((nI 6) &&& 31)) 50)) - (nI 25)) (u.1.1 0))))) hx hb dL_isRunRight_145 (nI_add _ _) ?_
  refine lv_icmp_ne (tgt := 185) hx hb dL_isRunRight_146 (by decide) (fun c219 => ?_) (fun c219 => ?_)
  · skip
    exact absurd (congrArg nI (book_2 _ _)) c219
  refine lv_aload_n hx hb dL_isRunRight_149 rfl (lv_at hl 7 rfl) ?_
  refine lv_iconst (v := nI 2) hx hb dL_isRunRight_150 (by decide) ?_
  refine ts_retI (va_runV (As := [.int (nI 2)]) (rest := []) ⟨hx, hb, hml, hown, hts⟩ (k_X5_latest l D q b H.size (u.1, F215, (runT u.1 f (blwN (x >>> ((nI 5) &&& 31)) 3) ((nI (blwN (x >>> ((nI 6) &&& 31)) 50)) - (nI 25)) (u.1.1 0)), (bookB (runT u.1 f (blwN (x >>> ((nI 5) &&& 31)) 3) ((nI (blwN (x >>> ((nI 6) &&& 31)) 50)) - (nI 25)) (u.1.1 0)) u.2.2.2)) 2 (by omega)) (cwV 1 hts gL_isRunRight_X5_latest rfl rfl rfl (by decide +kernel) ⟨Nat.le_of_ble_eq_true rfl, Nat.le_of_ble_eq_true rfl⟩) (ts_preV hK hN hW 0 (by decide) cel_st rfl) rfl rfl hl.1 rfl (lv_room (Nat.le_of_ble_eq_true rfl)) dL_isRunRight_151 ⟨Nat.zero_le _, Nat.zero_le _⟩) hS (fun x h => Or.inl (ts_Aup hS.1 h)) (fun r220 u221 H locs hp222 hW hz hk hS => ?_)
  have hV := ts_kept hV (fun x h1 h2 => hk x (by omega) (fun h => by unfold ts_A at h; omega))
  have hbz := Nat.lt_of_lt_of_le hbz hz
  have hp222r : r220 = nI (costT (runT u.1 f (blwN (x >>> ((nI 5) &&& 31)) 3) ((nI (blwN (x >>> ((nI 6) &&& 31)) 50)) - (nI 25)) (u.1.1 0))) := hp222.1.trans (lat_2 _ _)
  have hp222u : u221 = (u.1, F215, (runT u.1 f (blwN (x >>> ((nI 5) &&& 31)) 3) ((nI (blwN (x >>> ((nI 6) &&& 31)) 50)) - (nI 25)) (u.1.1 0)), (bookB (runT u.1 f (blwN (x >>> ((nI 5) &&& 31)) 3) ((nI (blwN (x >>> ((nI 6) &&& 31)) 50)) - (nI 25)) (u.1.1 0)) u.2.2.2)) := hp222.2
  rw [hp222r]
  rw [hp222u] at hW
  refine lv_iconst (v := nI 2) hx hb dL_isRunRight_154 (by decide) ?_
  refine lv_aload_n hx hb dL_isRunRight_155 rfl (lv_at hl 7 rfl) ?_
  refine lv_iconst (v := nI 3) hx hb dL_isRunRight_156 (by decide) ?_
  refine ts_retI (va_runV (As := [.int (nI 3)]) (rest := [.int (nI 2), .int (nI (costT (runT u.1 f (blwN (x >>> ((nI 5) &&& 31)) 3) ((nI (blwN (x >>> ((nI 6) &&& 31)) 50)) - (nI 25)) (u.1.1 0))))]) ⟨hx, hb, hml, hown, hts⟩ (k_X5_latest l D q b H.size (u.1, F215, (runT u.1 f (blwN (x >>> ((nI 5) &&& 31)) 3) ((nI (blwN (x >>> ((nI 6) &&& 31)) 50)) - (nI 25)) (u.1.1 0)), (bookB (runT u.1 f (blwN (x >>> ((nI 5) &&& 31)) 3) ((nI (blwN (x >>> ((nI 6) &&& 31)) 50)) - (nI 25)) (u.1.1 0)) u.2.2.2)) 3 (by omega)) (cwV 1 hts gL_isRunRight_X5_latest rfl rfl rfl (by decide +kernel) ⟨Nat.le_of_ble_eq_true rfl, Nat.le_of_ble_eq_true rfl⟩) (ts_preV hK hN hW 0 (by decide) cel_st rfl) rfl rfl hl.1 rfl (lv_room (Nat.le_of_ble_eq_true rfl)) dL_isRunRight_157 ⟨Nat.zero_le _, Nat.zero_le _⟩) hS (fun x h => Or.inl (ts_Aup hS.1 h)) (fun r223 u224 H locs hp225 hW hz hk hS => ?_)
  have hV := ts_kept hV (fun x h1 h2 => hk x (by omega) (fun h => by unfold ts_A at h; omega))
  have hbz := Nat.lt_of_lt_of_le hbz hz
  have hp225r : r223 = nI ((runT u.1 f (blwN (x >>> ((nI 5) &&& 31)) 3) ((nI (blwN (x >>> ((nI 6) &&& 31)) 50)) - (nI 25)) (u.1.1 0)).1 3) := hp225.1.trans (lat_3 _ _)
  have hp225u : u224 = (u.1, F215, (runT u.1 f (blwN (x >>> ((nI 5) &&& 31)) 3) ((nI (blwN (x >>> ((nI 6) &&& 31)) 50)) - (nI 25)) (u.1.1 0)), (bookB (runT u.1 f (blwN (x >>> ((nI 5) &&& 31)) 3) ((nI (blwN (x >>> ((nI 6) &&& 31)) 50)) - (nI 25)) (u.1.1 0)) u.2.2.2)) := hp225.2
  rw [hp225r]
  rw [hp225u] at hW
  refine ts_imul (v := nI (2 * ((runT u.1 f (blwN (x >>> ((nI 5) &&& 31)) 3) ((nI (blwN (x >>> ((nI 6) &&& 31)) 50)) - (nI 25)) (u.1.1 0)).1 3))) hx hb dL_isRunRight_160 (pk_mul _ _) ?_
  refine lv_icmp_lt (tgt := 185) hx hb dL_isRunRight_161 (by decide) (fun c226 => ?_) (fun c226 => ?_)
  · skip
    rw [nI_ltI (by omega) (by omega)] at c226
    exfalso; omega
  rw [nI_ltI (by omega) (by omega)] at c226
  refine lv_aload_n hx hb dL_isRunRight_164 rfl (lv_at hl 7 rfl) ?_
  refine lv_bipush (v := nI 7) hx hb dL_isRunRight_165 (by decide) ?_
  refine ts_retI (va_runV (As := [.int (nI 7)]) (rest := []) ⟨hx, hb, hml, hown, hts⟩ (k_X5_latest l D q b H.size (u.1, F215, (runT u.1 f (blwN (x >>> ((nI 5) &&& 31)) 3) ((nI (blwN (x >>> ((nI 6) &&& 31)) 50)) - (nI 25)) (u.1.1 0)), (bookB (runT u.1 f (blwN (x >>> ((nI 5) &&& 31)) 3) ((nI (blwN (x >>> ((nI 6) &&& 31)) 50)) - (nI 25)) (u.1.1 0)) u.2.2.2)) 7 (by omega)) (cwV 1 hts gL_isRunRight_X5_latest rfl rfl rfl (by decide +kernel) ⟨Nat.le_of_ble_eq_true rfl, Nat.le_of_ble_eq_true rfl⟩) (ts_preV hK hN hW 0 (by decide) cel_st rfl) rfl rfl hl.1 rfl (lv_room (Nat.le_of_ble_eq_true rfl)) dL_isRunRight_167 ⟨Nat.zero_le _, Nat.zero_le _⟩) hS (fun x h => Or.inl (ts_Aup hS.1 h)) (fun r227 u228 H locs hp229 hW hz hk hS => ?_)
  have hV := ts_kept hV (fun x h1 h2 => hk x (by omega) (fun h => by unfold ts_A at h; omega))
  have hbz := Nat.lt_of_lt_of_le hbz hz
  have hp229r : r227 = nI ((runT u.1 f (blwN (x >>> ((nI 5) &&& 31)) 3) ((nI (blwN (x >>> ((nI 6) &&& 31)) 50)) - (nI 25)) (u.1.1 0)).1 5) := hp229.1.trans (lat_7 _ _)
  have hp229u : u228 = (u.1, F215, (runT u.1 f (blwN (x >>> ((nI 5) &&& 31)) 3) ((nI (blwN (x >>> ((nI 6) &&& 31)) 50)) - (nI 25)) (u.1.1 0)), (bookB (runT u.1 f (blwN (x >>> ((nI 5) &&& 31)) 3) ((nI (blwN (x >>> ((nI 6) &&& 31)) 50)) - (nI 25)) (u.1.1 0)) u.2.2.2)) := hp229.2
  rw [hp229r]
  rw [hp229u] at hW
  refine lv_iconst (v := nI 1) hx hb dL_isRunRight_170 (by decide) ?_
  refine lv_icmp_lt (tgt := 185) hx hb dL_isRunRight_171 (by decide) (fun c230 => ?_) (fun c230 => ?_)
  · skip
    rw [nI_ltI (by omega) (by omega)] at c230
    exfalso; omega
  rw [nI_ltI (by omega) (by omega)] at c230
  refine lv_aload_n hx hb dL_isRunRight_174 rfl (lv_at hl 7 rfl) ?_
  refine lv_bipush (v := nI 7) hx hb dL_isRunRight_175 (by decide) ?_
  refine ts_retI (va_runV (As := [.int (nI 7)]) (rest := []) ⟨hx, hb, hml, hown, hts⟩ (k_X5_latest l D q b H.size (u.1, F215, (runT u.1 f (blwN (x >>> ((nI 5) &&& 31)) 3) ((nI (blwN (x >>> ((nI 6) &&& 31)) 50)) - (nI 25)) (u.1.1 0)), (bookB (runT u.1 f (blwN (x >>> ((nI 5) &&& 31)) 3) ((nI (blwN (x >>> ((nI 6) &&& 31)) 50)) - (nI 25)) (u.1.1 0)) u.2.2.2)) 7 (by omega)) (cwV 1 hts gL_isRunRight_X5_latest rfl rfl rfl (by decide +kernel) ⟨Nat.le_of_ble_eq_true rfl, Nat.le_of_ble_eq_true rfl⟩) (ts_preV hK hN hW 0 (by decide) cel_st rfl) rfl rfl hl.1 rfl (lv_room (Nat.le_of_ble_eq_true rfl)) dL_isRunRight_177 ⟨Nat.zero_le _, Nat.zero_le _⟩) hS (fun x h => Or.inl (ts_Aup hS.1 h)) (fun r231 u232 H locs hp233 hW hz hk hS => ?_)
  have hV := ts_kept hV (fun x h1 h2 => hk x (by omega) (fun h => by unfold ts_A at h; omega))
  have hbz := Nat.lt_of_lt_of_le hbz hz
  have hp233r : r231 = nI ((runT u.1 f (blwN (x >>> ((nI 5) &&& 31)) 3) ((nI (blwN (x >>> ((nI 6) &&& 31)) 50)) - (nI 25)) (u.1.1 0)).1 5) := hp233.1.trans (lat_7 _ _)
  have hp233u : u232 = (u.1, F215, (runT u.1 f (blwN (x >>> ((nI 5) &&& 31)) 3) ((nI (blwN (x >>> ((nI 6) &&& 31)) 50)) - (nI 25)) (u.1.1 0)), (bookB (runT u.1 f (blwN (x >>> ((nI 5) &&& 31)) 3) ((nI (blwN (x >>> ((nI 6) &&& 31)) 50)) - (nI 25)) (u.1.1 0)) u.2.2.2)) := hp233.2
  rw [hp233r]
  rw [hp233u] at hW
  refine lv_bipush (v := nI 12) hx hb dL_isRunRight_180 (by decide) ?_
  refine lv_icmp_le (tgt := 187) hx hb dL_isRunRight_182 (by decide) (fun c234 => ?_) (fun c234 => ?_)
  · skip
    rw [nI_leI (by omega) (by omega)] at c234
    refine lv_iload hx hb dL_isRunRight_187 (lv_at hl 0 rfl) ?_
    refine lv_if_lt (tgt := 200) hx hb dL_isRunRight_189 (by decide) (fun c235 => ?_) (fun c235 => ?_)
    · skip
      rw [zI_lt0 (by omega)] at c235
      have h8z := c235
      refine lv_iload hx hb dL_isRunRight_200 (lv_at hl 0 rfl) ?_
      refine lv_if_lt (tgt := 229) hx hb dL_isRunRight_202 (by decide) (fun c236 => ?_) (fun c236 => ?_)
      · skip
        rw [zI_lt0 (by omega)] at c236
        refine lv_iload hx hb dL_isRunRight_229 (lv_at hl 1 rfl) ?_
        refine lv_if_ne (tgt := 257) hx hb dL_isRunRight_231 (by decide) (fun c237 => ?_) (fun c237 => ?_)
        · skip
          rw [ts_eq0 (by omega)] at c237
          have hT6 := c237
          refine lv_aload_n hx hb dL_isRunRight_257 rfl (lv_at hl 7 rfl) ?_
          refine lv_iconst (v := nI 5) hx hb dL_isRunRight_258 (by decide) ?_
          refine ts_retI (va_runV (As := [.int (nI 5)]) (rest := []) ⟨hx, hb, hml, hown, hts⟩ (k_X5_latest l D q b H.size (u.1, F215, (runT u.1 f (blwN (x >>> ((nI 5) &&& 31)) 3) ((nI (blwN (x >>> ((nI 6) &&& 31)) 50)) - (nI 25)) (u.1.1 0)), (bookB (runT u.1 f (blwN (x >>> ((nI 5) &&& 31)) 3) ((nI (blwN (x >>> ((nI 6) &&& 31)) 50)) - (nI 25)) (u.1.1 0)) u.2.2.2)) 5 (by omega)) (cwV 1 hts gL_isRunRight_X5_latest rfl rfl rfl (by decide +kernel) ⟨Nat.le_of_ble_eq_true rfl, Nat.le_of_ble_eq_true rfl⟩) (ts_preV hK hN hW 0 (by decide) cel_st rfl) rfl rfl hl.1 rfl (lv_room (Nat.le_of_ble_eq_true rfl)) dL_isRunRight_259 ⟨Nat.zero_le _, Nat.zero_le _⟩) hS (fun x h => Or.inl (ts_Aup hS.1 h)) (fun r238 u239 H locs hp240 hW hz hk hS => ?_)
          have hV := ts_kept hV (fun x h1 h2 => hk x (by omega) (fun h => by unfold ts_A at h; omega))
          have hbz := Nat.lt_of_lt_of_le hbz hz
          have hp240r : r238 = nI 3 := hp240.1.trans ((lat_5 _ _).trans (congrArg nI (if_neg hT6)))
          have hp240u : u239 = (u.1, F215, (runT u.1 f (blwN (x >>> ((nI 5) &&& 31)) 3) ((nI (blwN (x >>> ((nI 6) &&& 31)) 50)) - (nI 25)) (u.1.1 0)), (bookB (runT u.1 f (blwN (x >>> ((nI 5) &&& 31)) 3) ((nI (blwN (x >>> ((nI 6) &&& 31)) 50)) - (nI 25)) (u.1.1 0)) u.2.2.2)) := hp240.2
          rw [hp240r]
          rw [hp240u] at hW
          refine lv_iconst (v := nI 3) hx hb dL_isRunRight_262 (by decide) ?_
          refine lv_icmp_ne (tgt := 279) hx hb dL_isRunRight_263 (by decide) (fun c241 => ?_) (fun c241 => ?_)
          · skip
            exfalso; revert c241; decide
          refine lv_aload_n hx hb dL_isRunRight_266 rfl (lv_at hl 7 rfl) ?_
          refine lv_bipush (v := nI 6) hx hb dL_isRunRight_267 (by decide) ?_
          refine ts_retI (va_runV (As := [.int (nI 6)]) (rest := []) ⟨hx, hb, hml, hown, hts⟩ (k_X5_latest l D q b H.size (u.1, F215, (runT u.1 f (blwN (x >>> ((nI 5) &&& 31)) 3) ((nI (blwN (x >>> ((nI 6) &&& 31)) 50)) - (nI 25)) (u.1.1 0)), (bookB (runT u.1 f (blwN (x >>> ((nI 5) &&& 31)) 3) ((nI (blwN (x >>> ((nI 6) &&& 31)) 50)) - (nI 25)) (u.1.1 0)) u.2.2.2)) 6 (by omega)) (cwV 1 hts gL_isRunRight_X5_latest rfl rfl rfl (by decide +kernel) ⟨Nat.le_of_ble_eq_true rfl, Nat.le_of_ble_eq_true rfl⟩) (ts_preV hK hN hW 0 (by decide) cel_st rfl) rfl rfl hl.1 rfl (lv_room (Nat.le_of_ble_eq_true rfl)) dL_isRunRight_269 ⟨Nat.zero_le _, Nat.zero_le _⟩) hS (fun x h => Or.inl (ts_Aup hS.1 h)) (fun r242 u243 H locs hp244 hW hz hk hS => ?_)
          have hV := ts_kept hV (fun x h1 h2 => hk x (by omega) (fun h => by unfold ts_A at h; omega))
          have hbz := Nat.lt_of_lt_of_le hbz hz
          have hp244r : r242 = nI 0 := hp244.1.trans (lat_6 _ _ hT6)
          have hp244u : u243 = (u.1, F215, (runT u.1 f (blwN (x >>> ((nI 5) &&& 31)) 3) ((nI (blwN (x >>> ((nI 6) &&& 31)) 50)) - (nI 25)) (u.1.1 0)), (bookB (runT u.1 f (blwN (x >>> ((nI 5) &&& 31)) 3) ((nI (blwN (x >>> ((nI 6) &&& 31)) 50)) - (nI 25)) (u.1.1 0)) u.2.2.2)) := hp244.2
          rw [hp244r]
          rw [hp244u] at hW
          refine lv_if_ne (tgt := 279) hx hb dL_isRunRight_272 (by decide) (fun c245 => ?_) (fun c245 => ?_)
          · skip
            exfalso; revert c245; decide
          refine lv_iconst (v := nI 1) hx hb dL_isRunRight_275 (by decide) ?_
          refine lv_goto (tgt := 280) hx hb dL_isRunRight_276 (by decide) ?_
          exact ts_zretB (u := (u.1, F215, (runT u.1 f (blwN (x >>> ((nI 5) &&& 31)) 3) ((nI (blwN (x >>> ((nI 6) &&& 31)) 50)) - (nI 25)) (u.1.1 0)), (bookB (runT u.1 f (blwN (x >>> ((nI 5) &&& 31)) 3) ((nI (blwN (x >>> ((nI 6) &&& 31)) 50)) - (nI 25)) (u.1.1 0)) u.2.2.2))) (g := g) (v := nI 1) C0 rfl hW hV hS (by exact ⟨rfl, F215, (runT u.1 f (blwN (x >>> ((nI 5) &&& 31)) 3) ((nI (blwN (x >>> ((nI 6) &&& 31)) 50)) - (nI 25)) (u.1.1 0)), hRT, hWT, by rw [gB_0 h8z]⟩) dL_isRunRight_280
        rw [ts_eq0 (by omega)] at c237
        have hT6 := c237
        refine lv_aload_n hx hb dL_isRunRight_234 rfl (lv_at hl 7 rfl) ?_
        refine lv_iconst (v := nI 5) hx hb dL_isRunRight_235 (by decide) ?_
        refine ts_retI (va_runV (As := [.int (nI 5)]) (rest := []) ⟨hx, hb, hml, hown, hts⟩ (k_X5_latest l D q b H.size (u.1, F215, (runT u.1 f (blwN (x >>> ((nI 5) &&& 31)) 3) ((nI (blwN (x >>> ((nI 6) &&& 31)) 50)) - (nI 25)) (u.1.1 0)), (bookB (runT u.1 f (blwN (x >>> ((nI 5) &&& 31)) 3) ((nI (blwN (x >>> ((nI 6) &&& 31)) 50)) - (nI 25)) (u.1.1 0)) u.2.2.2)) 5 (by omega)) (cwV 1 hts gL_isRunRight_X5_latest rfl rfl rfl (by decide +kernel) ⟨Nat.le_of_ble_eq_true rfl, Nat.le_of_ble_eq_true rfl⟩) (ts_preV hK hN hW 0 (by decide) cel_st rfl) rfl rfl hl.1 rfl (lv_room (Nat.le_of_ble_eq_true rfl)) dL_isRunRight_236 ⟨Nat.zero_le _, Nat.zero_le _⟩) hS (fun x h => Or.inl (ts_Aup hS.1 h)) (fun r246 u247 H locs hp248 hW hz hk hS => ?_)
        have hV := ts_kept hV (fun x h1 h2 => hk x (by omega) (fun h => by unfold ts_A at h; omega))
        have hbz := Nat.lt_of_lt_of_le hbz hz
        have hp248r : r246 = nI ((runT u.1 f (blwN (x >>> ((nI 5) &&& 31)) 3) ((nI (blwN (x >>> ((nI 6) &&& 31)) 50)) - (nI 25)) (u.1.1 0)).1 1) := hp248.1.trans ((lat_5 _ _).trans (congrArg nI (if_pos hT6)))
        have hp248u : u247 = (u.1, F215, (runT u.1 f (blwN (x >>> ((nI 5) &&& 31)) 3) ((nI (blwN (x >>> ((nI 6) &&& 31)) 50)) - (nI 25)) (u.1.1 0)), (bookB (runT u.1 f (blwN (x >>> ((nI 5) &&& 31)) 3) ((nI (blwN (x >>> ((nI 6) &&& 31)) 50)) - (nI 25)) (u.1.1 0)) u.2.2.2)) := hp248.2
        rw [hp248r]
        rw [hp248u] at hW
        refine lv_iconst (v := nI 3) hx hb dL_isRunRight_239 (by decide) ?_
        refine lv_icmp_ge (tgt := 253) hx hb dL_isRunRight_240 (by decide) (fun c249 => ?_) (fun c249 => ?_)
        · skip
          rw [nI_leI (by omega) (by omega)] at c249
          exfalso; omega
        rw [nI_leI (by omega) (by omega)] at c249
        refine lv_iload hx hb dL_isRunRight_243 (lv_at hl 0 rfl) ?_
        refine lv_iconst (v := (-1)) hx hb dL_isRunRight_245 (by decide) ?_
        refine lv_icmp_ne (tgt := 253) hx hb dL_isRunRight_246 (by decide) (fun c250 => ?_) (fun c250 => ?_)
        · skip
          rw [zI_m1 (by omega)] at c250
          exact absurd (hRT.2.2.1.1 hT6) c250
        rw [zI_m1 (by omega)] at c250
        refine lv_iconst (v := nI 1) hx hb dL_isRunRight_249 (by decide) ?_
        refine lv_goto (tgt := 280) hx hb dL_isRunRight_250 (by decide) ?_
        exact ts_zretB (u := (u.1, F215, (runT u.1 f (blwN (x >>> ((nI 5) &&& 31)) 3) ((nI (blwN (x >>> ((nI 6) &&& 31)) 50)) - (nI 25)) (u.1.1 0)), (bookB (runT u.1 f (blwN (x >>> ((nI 5) &&& 31)) 3) ((nI (blwN (x >>> ((nI 6) &&& 31)) 50)) - (nI 25)) (u.1.1 0)) u.2.2.2))) (g := g) (v := nI 1) C0 rfl hW hV hS (by exact ⟨rfl, F215, (runT u.1 f (blwN (x >>> ((nI 5) &&& 31)) 3) ((nI (blwN (x >>> ((nI 6) &&& 31)) 50)) - (nI 25)) (u.1.1 0)), hRT, hWT, by rw [gB_0 h8z]⟩) dL_isRunRight_280
      rw [zI_lt0 (by omega)] at c236
      exact absurd h8z c236
    rw [zI_lt0 (by omega)] at c235
    have h8n := c235
    refine lv_aload_n hx hb dL_isRunRight_192 rfl (lv_at hl 10 rfl) ?_
    refine lv_iload hx hb dL_isRunRight_193 (lv_at hl 0 rfl) ?_
    refine ts_int (y := nI ((runT u.1 f (blwN (x >>> ((nI 5) &&& 31)) 3) ((nI (blwN (x >>> ((nI 6) &&& 31)) 50)) - (nI 25)) (u.1.1 0)).1 8 - 1)) (zI_pred h8n) ?_
    obtain ⟨hb1, hb2, hb3, hb4⟩ := hRT.blame h8n
    refine lv_dup2_11 hx hb dL_isRunRight_195 rfl rfl ?_
    refine ts_iald (v := nI (g ((runT u.1 f (blwN (x >>> ((nI 5) &&& 31)) 3) ((nI (blwN (x >>> ((nI 6) &&& 31)) 50)) - (nI 25)) (u.1.1 0)).1 8 - 1))) hx hb hK hV 0 (by decide) 0 rfl rfl (by omega) (by decide) rfl dL_isRunRight_196 ?_
    refine lv_iconst (v := nI 1) hx hb dL_isRunRight_197 (by decide) ?_
    refine ts_iadd (v := nI ((g ((runT u.1 f (blwN (x >>> ((nI 5) &&& 31)) 3) ((nI (blwN (x >>> ((nI 6) &&& 31)) 50)) - (nI 25)) (u.1.1 0)).1 8 - 1)) + 1)) hx hb dL_isRunRight_198 (nI_add _ _) ?_
    refine ts_iast (v := nI ((g ((runT u.1 f (blwN (x >>> ((nI 5) &&& 31)) 3) ((nI (blwN (x >>> ((nI 6) &&& 31)) 50)) - (nI 25)) (u.1.1 0)).1 8 - 1)) + 1)) hx hb hK hV hS (fun k hk => Or.inr (by omega)) 0 (by decide) 0 rfl rfl (by omega) (by decide) (fun _ => .inl (q.1, 10, .inl (fnat (va_up g ((runT u.1 f (blwN (x >>> ((nI 5) &&& 31)) 3) ((nI (blwN (x >>> ((nI 6) &&& 31)) 50)) - (nI 25)) (u.1.1 0)).1 8 - 1) ((g ((runT u.1 f (blwN (x >>> ((nI 5) &&& 31)) 3) ((nI (blwN (x >>> ((nI 6) &&& 31)) 50)) - (nI 25)) (u.1.1 0)).1 8 - 1)) + 1))))) rfl (fnat_up _ _ _) (fun j hj h0 => absurd hj (by omega)) dL_isRunRight_199 (fun H locs oq zq hV hS => ?_)
    have hW := ts_kept hW (fun x h1 h2 => oq x (by omega))
    have hbz := Nat.lt_of_lt_of_eq hbz zq.symm
    refine lv_iload hx hb dL_isRunRight_200 (lv_at hl 0 rfl) ?_
    refine lv_if_lt (tgt := 229) hx hb dL_isRunRight_202 (by decide) (fun c251 => ?_) (fun c251 => ?_)
    · skip
      rw [zI_lt0 (by omega)] at c251
      exact absurd c251 h8n
    rw [zI_lt0 (by omega)] at c251
    refine lv_iload hx hb dL_isRunRight_205 (lv_at hl 1 rfl) ?_
    refine lv_if_eq (tgt := 227) hx hb dL_isRunRight_207 (by decide) (fun c252 => ?_) (fun c252 => ?_)
    · skip
      rw [ts_eq0 (by omega)] at c252
      exact absurd c252 hb1
    rw [ts_eq0 (by omega)] at c252
    refine lv_iload hx hb dL_isRunRight_210 (lv_at hl 1 rfl) ?_
    refine lv_iconst (v := nI 3) hx hb dL_isRunRight_212 (by decide) ?_
    refine lv_icmp_gt (tgt := 227) hx hb dL_isRunRight_213 (by decide) (fun c253 => ?_) (fun c253 => ?_)
    · skip
      rw [nI_ltI (by omega) (by omega)] at c253
      exfalso; omega
    rw [nI_ltI (by omega) (by omega)] at c253
    refine lv_aload_n hx hb dL_isRunRight_216 rfl (lv_at hl 7 rfl) ?_
    refine lv_iload hx hb dL_isRunRight_217 (lv_at hl 0 rfl) ?_
    refine ts_int (y := nI ((runT u.1 f (blwN (x >>> ((nI 5) &&& 31)) 3) ((nI (blwN (x >>> ((nI 6) &&& 31)) 50)) - (nI 25)) (u.1.1 0)).1 8 - 1)) (zI_pred h8n) ?_
    refine lv_iconst (v := nI 3) hx hb dL_isRunRight_219 (by decide) ?_
    refine ts_retI (va_runV (As := [.int (nI ((runT u.1 f (blwN (x >>> ((nI 5) &&& 31)) 3) ((nI (blwN (x >>> ((nI 6) &&& 31)) 50)) - (nI 25)) (u.1.1 0)).1 8 - 1)), .int (nI 3)]) (rest := []) ⟨hx, hb, hml, hown, hts⟩ (k_X5_ofFunction l D q b H.size (u.1, F215, (runT u.1 f (blwN (x >>> ((nI 5) &&& 31)) 3) ((nI (blwN (x >>> ((nI 6) &&& 31)) 50)) - (nI 25)) (u.1.1 0)), (bookB (runT u.1 f (blwN (x >>> ((nI 5) &&& 31)) 3) ((nI (blwN (x >>> ((nI 6) &&& 31)) 50)) - (nI 25)) (u.1.1 0)) u.2.2.2)) ((runT u.1 f (blwN (x >>> ((nI 5) &&& 31)) 3) ((nI (blwN (x >>> ((nI 6) &&& 31)) 50)) - (nI 25)) (u.1.1 0)).1 8 - 1) 3 hwf (by show ((runT u.1 f (blwN (x >>> ((nI 5) &&& 31)) 3) ((nI (blwN (x >>> ((nI 6) &&& 31)) 50)) - (nI 25)) (u.1.1 0)).1 8 - 1) < u.1.1 1; omega) (by omega)) (cwV 2 hts gL_isRunRight_X5_ofFunction rfl rfl rfl (by decide +kernel) ⟨Nat.le_of_ble_eq_true rfl, Nat.le_of_ble_eq_true rfl⟩) (ts_preV hK hN hW 0 (by decide) cel_st rfl) rfl rfl hl.1 rfl (lv_room (Nat.le_of_ble_eq_true rfl)) dL_isRunRight_220 ⟨Nat.zero_le _, Nat.zero_le _⟩) hS (fun x h => Or.inl (ts_Aup hS.1 h)) (fun r254 u255 H locs hp256 hW hz hk hS => ?_)
    have hV := ts_kept hV (fun x h1 h2 => hk x (by omega) (fun h => by unfold ts_A at h; omega))
    have hbz := Nat.lt_of_lt_of_le hbz hz
    obtain ⟨hp256r, F257, hp256u⟩ := hp256
    have hp256r : r254 = b2i (hasB (u.1.1 2) ((runT u.1 f (blwN (x >>> ((nI 5) &&& 31)) 3) ((nI (blwN (x >>> ((nI 6) &&& 31)) 50)) - (nI 25)) (u.1.1 0)).1 8 - 1)) := hp256r
    have hp256u : u255 = (u.1, F257, (runT u.1 f (blwN (x >>> ((nI 5) &&& 31)) 3) ((nI (blwN (x >>> ((nI 6) &&& 31)) 50)) - (nI 25)) (u.1.1 0)), (bookB (runT u.1 f (blwN (x >>> ((nI 5) &&& 31)) 3) ((nI (blwN (x >>> ((nI 6) &&& 31)) 50)) - (nI 25)) (u.1.1 0)) u.2.2.2)) := hp256u
    rw [hp256r]
    rw [hp256u] at hW
    refine lv_iconst (v := nI 1) hx hb dL_isRunRight_223 (by decide) ?_
    refine lv_icmp_ne (tgt := 229) hx hb dL_isRunRight_224 (by decide) (fun c258 => ?_) (fun c258 => ?_)
    · skip
      rw [ts_b1] at c258
      refine lv_iload hx hb dL_isRunRight_229 (lv_at hl 1 rfl) ?_
      refine lv_if_ne (tgt := 257) hx hb dL_isRunRight_231 (by decide) (fun c259 => ?_) (fun c259 => ?_)
      · skip
        rw [ts_eq0 (by omega)] at c259
        have hT6 := c259
        refine lv_aload_n hx hb dL_isRunRight_257 rfl (lv_at hl 7 rfl) ?_
        refine lv_iconst (v := nI 5) hx hb dL_isRunRight_258 (by decide) ?_
        refine ts_retI (va_runV (As := [.int (nI 5)]) (rest := []) ⟨hx, hb, hml, hown, hts⟩ (k_X5_latest l D q b H.size (u.1, F257, (runT u.1 f (blwN (x >>> ((nI 5) &&& 31)) 3) ((nI (blwN (x >>> ((nI 6) &&& 31)) 50)) - (nI 25)) (u.1.1 0)), (bookB (runT u.1 f (blwN (x >>> ((nI 5) &&& 31)) 3) ((nI (blwN (x >>> ((nI 6) &&& 31)) 50)) - (nI 25)) (u.1.1 0)) u.2.2.2)) 5 (by omega)) (cwV 1 hts gL_isRunRight_X5_latest rfl rfl rfl (by decide +kernel) ⟨Nat.le_of_ble_eq_true rfl, Nat.le_of_ble_eq_true rfl⟩) (ts_preV hK hN hW 0 (by decide) cel_st rfl) rfl rfl hl.1 rfl (lv_room (Nat.le_of_ble_eq_true rfl)) dL_isRunRight_259 ⟨Nat.zero_le _, Nat.zero_le _⟩) hS (fun x h => Or.inl (ts_Aup hS.1 h)) (fun r260 u261 H locs hp262 hW hz hk hS => ?_)
        have hV := ts_kept hV (fun x h1 h2 => hk x (by omega) (fun h => by unfold ts_A at h; omega))
        have hbz := Nat.lt_of_lt_of_le hbz hz
        have hp262r : r260 = nI 3 := hp262.1.trans ((lat_5 _ _).trans (congrArg nI (if_neg hT6)))
        have hp262u : u261 = (u.1, F257, (runT u.1 f (blwN (x >>> ((nI 5) &&& 31)) 3) ((nI (blwN (x >>> ((nI 6) &&& 31)) 50)) - (nI 25)) (u.1.1 0)), (bookB (runT u.1 f (blwN (x >>> ((nI 5) &&& 31)) 3) ((nI (blwN (x >>> ((nI 6) &&& 31)) 50)) - (nI 25)) (u.1.1 0)) u.2.2.2)) := hp262.2
        rw [hp262r]
        rw [hp262u] at hW
        refine lv_iconst (v := nI 3) hx hb dL_isRunRight_262 (by decide) ?_
        refine lv_icmp_ne (tgt := 279) hx hb dL_isRunRight_263 (by decide) (fun c263 => ?_) (fun c263 => ?_)
        · skip
          exfalso; revert c263; decide
        refine lv_aload_n hx hb dL_isRunRight_266 rfl (lv_at hl 7 rfl) ?_
        refine lv_bipush (v := nI 6) hx hb dL_isRunRight_267 (by decide) ?_
        refine ts_retI (va_runV (As := [.int (nI 6)]) (rest := []) ⟨hx, hb, hml, hown, hts⟩ (k_X5_latest l D q b H.size (u.1, F257, (runT u.1 f (blwN (x >>> ((nI 5) &&& 31)) 3) ((nI (blwN (x >>> ((nI 6) &&& 31)) 50)) - (nI 25)) (u.1.1 0)), (bookB (runT u.1 f (blwN (x >>> ((nI 5) &&& 31)) 3) ((nI (blwN (x >>> ((nI 6) &&& 31)) 50)) - (nI 25)) (u.1.1 0)) u.2.2.2)) 6 (by omega)) (cwV 1 hts gL_isRunRight_X5_latest rfl rfl rfl (by decide +kernel) ⟨Nat.le_of_ble_eq_true rfl, Nat.le_of_ble_eq_true rfl⟩) (ts_preV hK hN hW 0 (by decide) cel_st rfl) rfl rfl hl.1 rfl (lv_room (Nat.le_of_ble_eq_true rfl)) dL_isRunRight_269 ⟨Nat.zero_le _, Nat.zero_le _⟩) hS (fun x h => Or.inl (ts_Aup hS.1 h)) (fun r264 u265 H locs hp266 hW hz hk hS => ?_)
        have hV := ts_kept hV (fun x h1 h2 => hk x (by omega) (fun h => by unfold ts_A at h; omega))
        have hbz := Nat.lt_of_lt_of_le hbz hz
        have hp266r : r264 = nI 0 := hp266.1.trans (lat_6 _ _ hT6)
        have hp266u : u265 = (u.1, F257, (runT u.1 f (blwN (x >>> ((nI 5) &&& 31)) 3) ((nI (blwN (x >>> ((nI 6) &&& 31)) 50)) - (nI 25)) (u.1.1 0)), (bookB (runT u.1 f (blwN (x >>> ((nI 5) &&& 31)) 3) ((nI (blwN (x >>> ((nI 6) &&& 31)) 50)) - (nI 25)) (u.1.1 0)) u.2.2.2)) := hp266.2
        rw [hp266r]
        rw [hp266u] at hW
        refine lv_if_ne (tgt := 279) hx hb dL_isRunRight_272 (by decide) (fun c267 => ?_) (fun c267 => ?_)
        · skip
          exfalso; revert c267; decide
        refine lv_iconst (v := nI 1) hx hb dL_isRunRight_275 (by decide) ?_
        refine lv_goto (tgt := 280) hx hb dL_isRunRight_276 (by decide) ?_
        exact ts_zretB (u := (u.1, F257, (runT u.1 f (blwN (x >>> ((nI 5) &&& 31)) 3) ((nI (blwN (x >>> ((nI 6) &&& 31)) 50)) - (nI 25)) (u.1.1 0)), (bookB (runT u.1 f (blwN (x >>> ((nI 5) &&& 31)) 3) ((nI (blwN (x >>> ((nI 6) &&& 31)) 50)) - (nI 25)) (u.1.1 0)) u.2.2.2))) (g := va_up g ((runT u.1 f (blwN (x >>> ((nI 5) &&& 31)) 3) ((nI (blwN (x >>> ((nI 6) &&& 31)) 50)) - (nI 25)) (u.1.1 0)).1 8 - 1) ((g ((runT u.1 f (blwN (x >>> ((nI 5) &&& 31)) 3) ((nI (blwN (x >>> ((nI 6) &&& 31)) 50)) - (nI 25)) (u.1.1 0)).1 8 - 1)) + 1)) (v := nI 1) C0 rfl hW hV hS (by exact ⟨rfl, F257, (runT u.1 f (blwN (x >>> ((nI 5) &&& 31)) 3) ((nI (blwN (x >>> ((nI 6) &&& 31)) 50)) - (nI 25)) (u.1.1 0)), hRT, hWT, by rw [gB_1 h8n]⟩) dL_isRunRight_280
      rw [ts_eq0 (by omega)] at c259
      have hT6 := c259
      refine lv_aload_n hx hb dL_isRunRight_234 rfl (lv_at hl 7 rfl) ?_
      refine lv_iconst (v := nI 5) hx hb dL_isRunRight_235 (by decide) ?_
      refine ts_retI (va_runV (As := [.int (nI 5)]) (rest := []) ⟨hx, hb, hml, hown, hts⟩ (k_X5_latest l D q b H.size (u.1, F257, (runT u.1 f (blwN (x >>> ((nI 5) &&& 31)) 3) ((nI (blwN (x >>> ((nI 6) &&& 31)) 50)) - (nI 25)) (u.1.1 0)), (bookB (runT u.1 f (blwN (x >>> ((nI 5) &&& 31)) 3) ((nI (blwN (x >>> ((nI 6) &&& 31)) 50)) - (nI 25)) (u.1.1 0)) u.2.2.2)) 5 (by omega)) (cwV 1 hts gL_isRunRight_X5_latest rfl rfl rfl (by decide +kernel) ⟨Nat.le_of_ble_eq_true rfl, Nat.le_of_ble_eq_true rfl⟩) (ts_preV hK hN hW 0 (by decide) cel_st rfl) rfl rfl hl.1 rfl (lv_room (Nat.le_of_ble_eq_true rfl)) dL_isRunRight_236 ⟨Nat.zero_le _, Nat.zero_le _⟩) hS (fun x h => Or.inl (ts_Aup hS.1 h)) (fun r268 u269 H locs hp270 hW hz hk hS => ?_)
      have hV := ts_kept hV (fun x h1 h2 => hk x (by omega) (fun h => by unfold ts_A at h; omega))
      have hbz := Nat.lt_of_lt_of_le hbz hz
      have hp270r : r268 = nI ((runT u.1 f (blwN (x >>> ((nI 5) &&& 31)) 3) ((nI (blwN (x >>> ((nI 6) &&& 31)) 50)) - (nI 25)) (u.1.1 0)).1 1) := hp270.1.trans ((lat_5 _ _).trans (congrArg nI (if_pos hT6)))
      have hp270u : u269 = (u.1, F257, (runT u.1 f (blwN (x >>> ((nI 5) &&& 31)) 3) ((nI (blwN (x >>> ((nI 6) &&& 31)) 50)) - (nI 25)) (u.1.1 0)), (bookB (runT u.1 f (blwN (x >>> ((nI 5) &&& 31)) 3) ((nI (blwN (x >>> ((nI 6) &&& 31)) 50)) - (nI 25)) (u.1.1 0)) u.2.2.2)) := hp270.2
      rw [hp270r]
      rw [hp270u] at hW
      refine lv_iconst (v := nI 3) hx hb dL_isRunRight_239 (by decide) ?_
      refine lv_icmp_ge (tgt := 253) hx hb dL_isRunRight_240 (by decide) (fun c271 => ?_) (fun c271 => ?_)
      · skip
        rw [nI_leI (by omega) (by omega)] at c271
        exfalso; omega
      rw [nI_leI (by omega) (by omega)] at c271
      refine lv_iload hx hb dL_isRunRight_243 (lv_at hl 0 rfl) ?_
      refine lv_iconst (v := (-1)) hx hb dL_isRunRight_245 (by decide) ?_
      refine lv_icmp_ne (tgt := 253) hx hb dL_isRunRight_246 (by decide) (fun c272 => ?_) (fun c272 => ?_)
      · skip
        rw [zI_m1 (by omega)] at c272
        exact absurd (hRT.2.2.1.1 hT6) c272
      rw [zI_m1 (by omega)] at c272
      refine lv_iconst (v := nI 1) hx hb dL_isRunRight_249 (by decide) ?_
      refine lv_goto (tgt := 280) hx hb dL_isRunRight_250 (by decide) ?_
      exact ts_zretB (u := (u.1, F257, (runT u.1 f (blwN (x >>> ((nI 5) &&& 31)) 3) ((nI (blwN (x >>> ((nI 6) &&& 31)) 50)) - (nI 25)) (u.1.1 0)), (bookB (runT u.1 f (blwN (x >>> ((nI 5) &&& 31)) 3) ((nI (blwN (x >>> ((nI 6) &&& 31)) 50)) - (nI 25)) (u.1.1 0)) u.2.2.2))) (g := va_up g ((runT u.1 f (blwN (x >>> ((nI 5) &&& 31)) 3) ((nI (blwN (x >>> ((nI 6) &&& 31)) 50)) - (nI 25)) (u.1.1 0)).1 8 - 1) ((g ((runT u.1 f (blwN (x >>> ((nI 5) &&& 31)) 3) ((nI (blwN (x >>> ((nI 6) &&& 31)) 50)) - (nI 25)) (u.1.1 0)).1 8 - 1)) + 1)) (v := nI 1) C0 rfl hW hV hS (by exact ⟨rfl, F257, (runT u.1 f (blwN (x >>> ((nI 5) &&& 31)) 3) ((nI (blwN (x >>> ((nI 6) &&& 31)) 50)) - (nI 25)) (u.1.1 0)), hRT, hWT, by rw [gB_1 h8n]⟩) dL_isRunRight_280
    rw [ts_b1] at c258
    exact absurd (hb4.symm.trans c258) (by decide)
  rw [nI_leI (by omega) (by omega)] at c234
  exfalso; omega
