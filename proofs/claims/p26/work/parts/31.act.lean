set_option maxHeartbeats 4000000 in
set_option maxRecDepth 100000 in
theorem k_L_act (l : Launch) (hlt : l.stackTraces = false) (D : va_G) (q : CQ) (b sz : Nat) (u : ST) (bb : Nat) (g : Nat → Nat) (a1 a2 a3 : Nat) (x : Int32) (f : Nat) (hwf : WP u.1) (hf : f < u.1.1 1) (hty : tyOK u.1) : vx_Met l yL_act wsL_act ({ frames := 45, cells := 1, slots := 6, locals := 1152 } : Room) (va_Pc [.ref (b + 0), .int x, .int (nI f), .ref (bb + 0)] (PrA D q b sz u bb g a1 a2 a3)) (cB D q b bb sz (fun r v => r = nI 1 ∧ ActR u g f v)) (fun _ _ _ => False) 1 6 (ts_AB b bb sz) := by
  refine ts_metH (by decide) rfl (Nat.le_of_ble_eq_true rfl) ?_
  intro p e s m below meth c C0 hT hX ls hl
  obtain ⟨⟨⟨hsz, hW, hK, hN⟩, hV, hbb, hbz⟩, hE⟩ := hX
  subst hsz
  obtain ⟨hx, hb, hml, hown, hts, -, -, -⟩ := id C0
  have hW : ts_W D b 52 (cel q b u) s.heap := hW
  have hV : Bl D q bb g s.heap := hV
  have hS : va_S (ts_AB b bb s.heap.size) s.heap s.heap [] := va_S.rf
  have hl : lv_has ls 8 [(0, .ref (b + 0)), (1, .int x), (2, .int (nI f)), (3, .ref (bb + 0))] := hl
  have hs := hwf.sz
  have hcn := hty.cnt hs
  have hbu := hwf.bu
  have hbw := blwN_lt x (n := 11) (by decide)
  have hfs := hwf.fsz (i := f) (by omega)
  have hck := chkA_le hwf (f := f) (by omega)
  refine lv_aload_n hx hb dL_act_0 rfl (lv_at hl 0 rfl) ?_
  refine lv_iconst (v := nI 0) hx hb dL_act_1 (by decide) ?_
  refine ts_retI (va_runV (As := [.int (nI 0)]) (rest := []) ⟨hx, hb, hml, hown, hts⟩ (k_X5_many l D q b s.heap.size u 0 hwf (by omega)) (cwV 1 hts gL_act_X5_many rfl rfl rfl (by decide +kernel) ⟨Nat.le_of_ble_eq_true rfl, Nat.le_of_ble_eq_true rfl⟩) (ts_preV hK hN hW 0 (by decide) cel_st rfl) rfl rfl hl.1 rfl (lv_room (Nat.le_of_ble_eq_true rfl)) dL_act_2 ⟨Nat.le_of_ble_eq_true rfl, Nat.le_of_ble_eq_true rfl⟩) hS (fun x h => Or.inl (ts_Aup hS.1 h)) (fun r1 u2 H locs hp3 hW hz hk hS => ?_)
  have hV := ts_kept hV (fun x h1 h2 => hk x (by omega) (fun h => by unfold ts_A at h; omega))
  have hbz := Nat.lt_of_lt_of_le hbz hz
  obtain ⟨hp3r, F4, hp3u⟩ := hp3
  have hp3r : r1 = nI (u.1.1 1) := hp3r
  have hp3u : u2 = (u.1, F4, u.2.2.1, u.2.2.2) := hp3u
  rw [hp3r]
  rw [hp3u] at hW
  refine lv_aload_n hx hb dL_act_5 rfl (lv_at hl 0 rfl) ?_
  refine lv_iconst (v := nI 1) hx hb dL_act_6 (by decide) ?_
  refine ts_retI (va_runV (As := [.int (nI 1)]) (rest := [.int (nI (u.1.1 1))]) ⟨hx, hb, hml, hown, hts⟩ (k_X5_many l D q b H.size (u.1, F4, u.2.2.1, u.2.2.2) 1 hwf (by omega)) (cwV 1 hts gL_act_X5_many rfl rfl rfl (by decide +kernel) ⟨Nat.le_of_ble_eq_true rfl, Nat.le_of_ble_eq_true rfl⟩) (ts_preV hK hN hW 0 (by decide) cel_st rfl) rfl rfl hl.1 rfl (lv_room (Nat.le_of_ble_eq_true rfl)) dL_act_7 ⟨Nat.le_of_ble_eq_true rfl, Nat.le_of_ble_eq_true rfl⟩) hS (fun x h => Or.inl (ts_Aup hS.1 h)) (fun r5 u6 H locs hp7 hW hz hk hS => ?_)
  have hV := ts_kept hV (fun x h1 h2 => hk x (by omega) (fun h => by unfold ts_A at h; omega))
  have hbz := Nat.lt_of_lt_of_le hbz hz
  obtain ⟨hp7r, F8, hp7u⟩ := hp7
  have hp7r : r5 = nI (cntB (u.1.1 2) 10) := hp7r
  have hp7u : u6 = (u.1, F8, u.2.2.1, u.2.2.2) := hp7u
  rw [hp7r]
  rw [hp7u] at hW
  refine ts_isub (v := nI ((u.1.1 1) - (cntB (u.1.1 2) 10))) hx hb dL_act_10 (pk_sub (by omega)) ?_
  refine lv_istore (lv' := [(4, .int (nI ((u.1.1 1) - (cntB (u.1.1 2) 10)))), (0, .ref (b + 0)), (1, .int x), (2, .int (nI f)), (3, .ref (bb + 0))]) hx hb dL_act_11 hl (by decide) rfl (fun ls hl => ?_)
  refine lv_iload_n hx hb dL_act_13 rfl (lv_at hl 2 rfl) ?_
  refine lv_bipush (v := nI 11) hx hb dL_act_14 (by decide) ?_
  refine ts_retI (va_runS (As := [.int x, .int (nI 11)]) (rest := []) ⟨hx, hb, hml, hown, hts⟩ (k_L_below l D q b H.size (u.1, F8, u.2.2.1, u.2.2.2) x 11 ⟨by omega, by omega⟩) (va_cwS 2 hts gL_act_L_below rfl rfl rfl (by decide +kernel) ⟨Nat.le_of_ble_eq_true rfl, Nat.le_of_ble_eq_true rfl⟩) (ts_preS hK hN hW) rfl rfl hl.1 rfl (lv_room (Nat.le_of_ble_eq_true rfl)) dL_act_16 ⟨Nat.le_of_ble_eq_true rfl, Nat.le_of_ble_eq_true rfl⟩) hS (fun x h => Or.inl (ts_Aup hS.1 h)) (fun r9 u10 H locs hp11 hW hz hk hS => ?_)
  have hV := ts_kept hV (fun x h1 h2 => hk x (by omega) (fun h => by unfold ts_A at h; omega))
  have hbz := Nat.lt_of_lt_of_le hbz hz
  have hp11r : r9 = nI (blwN x 11) := hp11.1
  have hp11u : u10 = (u.1, F8, u.2.2.1, u.2.2.2) := hp11.2
  rw [hp11r]
  rw [hp11u] at hW
  have hq12 := blwN_lt x (n := 11) (by omega)
  by_cases c13 : blwN x 11 = 0
  · skip
    refine lv_tableIn (tgt := 64) hx hb dL_act_19 (by rw [c13]; decide) (by rw [c13]; decide) (by rw [c13]; rfl) (by decide) ?_
    refine lv_aload_n hx hb dL_act_64 rfl (lv_at hl 1 rfl) ?_
    refine lv_iload_n hx hb dL_act_65 rfl (lv_at hl 3 rfl) ?_
    refine lv_iload_n hx hb dL_act_66 rfl (lv_at hl 2 rfl) ?_
    refine lv_iconst (v := nI 4) hx hb dL_act_67 (by decide) ?_
    refine ts_ishr (v := x >>> ((nI 4) &&& 31)) hx hb dL_act_68 rfl ?_
    refine lv_iload_n hx hb dL_act_69 rfl (lv_at hl 2 rfl) ?_
    refine lv_bipush (v := nI 6) hx hb dL_act_70 (by decide) ?_
    refine ts_ishr (v := x >>> ((nI 6) &&& 31)) hx hb dL_act_72 rfl ?_
    refine lv_iconst (v := nI 4) hx hb dL_act_73 (by decide) ?_
    refine ts_retI (va_runS (As := [.int (x >>> ((nI 6) &&& 31)), .int (nI 4)]) (rest := [.int (x >>> ((nI 4) &&& 31)), .int (nI f), .ref (b + 0)]) ⟨hx, hb, hml, hown, hts⟩ (k_L_below l D q b H.size (u.1, F8, u.2.2.1, u.2.2.2) (x >>> ((nI 6) &&& 31)) 4 ⟨by omega, by omega⟩) (va_cwS 2 hts gL_act_L_below rfl rfl rfl (by decide +kernel) ⟨Nat.le_of_ble_eq_true rfl, Nat.le_of_ble_eq_true rfl⟩) (ts_preS hK hN hW) rfl rfl hl.1 rfl (lv_room (Nat.le_of_ble_eq_true rfl)) dL_act_74 ⟨Nat.le_of_ble_eq_true rfl, Nat.le_of_ble_eq_true rfl⟩) hS (fun x h => Or.inl (ts_Aup hS.1 h)) (fun r14 u15 H locs hp16 hW hz hk hS => ?_)
    have hV := ts_kept hV (fun x h1 h2 => hk x (by omega) (fun h => by unfold ts_A at h; omega))
    have hbz := Nat.lt_of_lt_of_le hbz hz
    have hp16r : r14 = nI (blwN (x >>> ((nI 6) &&& 31)) 4) := hp16.1
    have hp16u : u15 = (u.1, F8, u.2.2.1, u.2.2.2) := hp16.2
    rw [hp16r]
    rw [hp16u] at hW
    have hq17 := blwN_lt (x >>> ((nI 6) &&& 31)) (n := 4) (by omega)
    refine lv_aload_n hx hb dL_act_77 rfl (lv_at hl 1 rfl) ?_
    refine lv_iconst (v := nI 0) hx hb dL_act_78 (by decide) ?_
    refine ts_retI (va_runV (As := [.int (nI 0)]) (rest := [.int (nI (blwN (x >>> ((nI 6) &&& 31)) 4)), .int (x >>> ((nI 4) &&& 31)), .int (nI f), .ref (b + 0)]) ⟨hx, hb, hml, hown, hts⟩ (k_X5_many l D q b H.size (u.1, F8, u.2.2.1, u.2.2.2) 0 hwf (by omega)) (cwV 1 hts gL_act_X5_many rfl rfl rfl (by decide +kernel) ⟨Nat.le_of_ble_eq_true rfl, Nat.le_of_ble_eq_true rfl⟩) (ts_preV hK hN hW 0 (by decide) cel_st rfl) rfl rfl hl.1 rfl (lv_room (Nat.le_of_ble_eq_true rfl)) dL_act_79 ⟨Nat.le_of_ble_eq_true rfl, Nat.le_of_ble_eq_true rfl⟩) hS (fun x h => Or.inl (ts_Aup hS.1 h)) (fun r18 u19 H locs hp20 hW hz hk hS => ?_)
    have hV := ts_kept hV (fun x h1 h2 => hk x (by omega) (fun h => by unfold ts_A at h; omega))
    have hbz := Nat.lt_of_lt_of_le hbz hz
    obtain ⟨hp20r, F21, hp20u⟩ := hp20
    have hp20r : r18 = nI (u.1.1 1) := hp20r
    have hp20u : u19 = (u.1, F21, u.2.2.1, u.2.2.2) := hp20u
    rw [hp20r]
    rw [hp20u] at hW
    refine ts_retI (va_runSN (As := [.int (x >>> ((nI 4) &&& 31)), .int (nI (blwN (x >>> ((nI 6) &&& 31)) 4)), .int (nI (u.1.1 1))]) (rest := [.int (nI f), .ref (b + 0)]) ⟨hx, hb, hml, hown, hts⟩ (k_X6_step l D q b H.size (u.1, F21, u.2.2.1, u.2.2.2) (x >>> ((nI 4) &&& 31)) (nI (blwN (x >>> ((nI 6) &&& 31)) 4)) (u.1.1 1) ⟨by omega, by omega⟩) ⟨va_cnB 3 hts gL_act_X6_step_n53 rfl rfl rfl (hN _ (List.mem_of_getElem? (i := 16) rfl)) (hts _ (List.mem_of_getElem? (i := 104) rfl)) (by decide +kernel) ⟨Nat.le_of_ble_eq_true rfl, Nat.le_of_ble_eq_true rfl⟩, hts _ (List.mem_of_getElem? (i := 103) rfl), trivial⟩ (ts_preS hK hN hW) rfl rfl hl.1 rfl (lv_room (Nat.le_of_ble_eq_true rfl)) dL_act_82 ⟨Nat.le_of_ble_eq_true rfl, Nat.le_of_ble_eq_true rfl⟩) hS (fun x h => Or.inl (ts_Aup hS.1 h)) (fun r22 u23 H locs hp24 hW hz hk hS => ?_)
    have hV := ts_kept hV (fun x h1 h2 => hk x (by omega) (fun h => by unfold ts_A at h; omega))
    have hbz := Nat.lt_of_lt_of_le hbz hz
    obtain ⟨⟨v25, hp24r, hp24v⟩, hp24u⟩ := hp24
    have hp24u : u23 = (u.1, F21, u.2.2.1, u.2.2.2) := hp24u
    rw [hp24r]
    rw [hp24u] at hW
    by_cases hzc : u.1.1 (20 + f) < 6
    · skip
      refine ts_retI (va_runV (As := [.int (nI f), .int (nI v25)]) (rest := []) ⟨hx, hb, hml, hown, hts⟩ (k_X5_step l D q b H.size (u.1, F21, u.2.2.1, u.2.2.2) f v25 hwf (show f < u.1.1 1 by omega) (show v25 ≤ 9 ∨ (20 ≤ v25 ∧ v25 ≤ 24) ∨ (40 ≤ v25 ∧ v25 < 40 + u.1.1 1) by omega) hzc) (cwV 2 hts gL_act_X5_step rfl rfl rfl (by decide +kernel) ⟨Nat.le_of_ble_eq_true rfl, Nat.le_of_ble_eq_true rfl⟩) (ts_preV hK hN hW 0 (by decide) cel_st rfl) rfl rfl hl.1 rfl (lv_room (Nat.le_of_ble_eq_true rfl)) dL_act_85 ⟨Nat.le_of_ble_eq_true rfl, Nat.le_of_ble_eq_true rfl⟩) hS (fun x h => Or.inl (ts_Aup hS.1 h)) (fun r26 u27 H locs hp28 hW hz hk hS => ?_)
      have hV := ts_kept hV (fun x h1 h2 => hk x (by omega) (fun h => by unfold ts_A at h; omega))
      have hbz := Nat.lt_of_lt_of_le hbz hz
      obtain ⟨hp28r, F29, hp28u⟩ := hp28
      have hp28r : r26 = nI (u.1.1 (20 + f) + 1) := hp28r
      have hp28u : u27 = ((dropP (chkP (stepP u.1 f v25) 1)), F29, u.2.2.1, u.2.2.2) := hp28u
      rw [hp28r]
      rw [hp28u] at hW
      have hov : v25 ≤ 9 ∨ (20 ≤ v25 ∧ v25 ≤ 24) ∨ (40 ≤ v25 ∧ v25 < 40 + u.1.1 1) := by omega
      have hwf2 : WP (dropP (chkP (stepP u.1 f v25) 1)) := WP.drop ((hwf.step (by omega) hzc hov).chk _)
      have hn2 : (dropP (chkP (stepP u.1 f v25) 1)).1 1 = u.1.1 1 := (dp_ne _ (show 1 ≠ 2 by decide)).trans ((chk_ne _ _ (show 1 ≠ 3 by decide)).trans (va_up_ne _ _ (show 1 ≠ 20 + f by omega)))
      have hs2 : (dropP (chkP (stepP u.1 f v25) 1)).1 (20 + f) = u.1.1 (20 + f) + 1 := (dropP_fn _ _ (by omega)).trans (va_up_self _ _ _)
      refine lv_aload_n hx hb dL_act_88 rfl (lv_at hl 1 rfl) ?_
      refine lv_iload_n hx hb dL_act_89 rfl (lv_at hl 3 rfl) ?_
      refine lv_iconst (v := nI 0) hx hb dL_act_90 (by decide) ?_
      refine ts_retI (va_runV (As := [.int (nI f), .int (nI 0)]) (rest := [.int (nI (u.1.1 (20 + f) + 1))]) ⟨hx, hb, hml, hown, hts⟩ (k_X5_ofFunction l D q b H.size ((dropP (chkP (stepP u.1 f v25) 1)), F29, u.2.2.1, u.2.2.2) f 0 hwf2 (by show f < ((dropP (chkP (stepP u.1 f v25) 1))).1 1; omega) (by omega)) (cwV 2 hts gL_act_X5_ofFunction rfl rfl rfl (by decide +kernel) ⟨Nat.le_of_ble_eq_true rfl, Nat.le_of_ble_eq_true rfl⟩) (ts_preV hK hN hW 0 (by decide) cel_st rfl) rfl rfl hl.1 rfl (lv_room (Nat.le_of_ble_eq_true rfl)) dL_act_91 ⟨Nat.le_of_ble_eq_true rfl, Nat.le_of_ble_eq_true rfl⟩) hS (fun x h => Or.inl (ts_Aup hS.1 h)) (fun r30 u31 H locs hp32 hW hz hk hS => ?_)
      have hV := ts_kept hV (fun x h1 h2 => hk x (by omega) (fun h => by unfold ts_A at h; omega))
      have hbz := Nat.lt_of_lt_of_le hbz hz
      obtain ⟨hp32r, F33, hp32u⟩ := hp32
      have hp32r : r30 = nI ((((dropP (chkP (stepP u.1 f v25) 1))).1) (20 + f)) := hp32r
      have hp32u : u31 = ((dropP (chkP (stepP u.1 f v25) 1)), F33, u.2.2.1, u.2.2.2) := hp32u
      rw [hp32r]
      rw [hp32u] at hW
      refine lv_icmp_ne (tgt := 101) hx hb dL_act_94 (by decide) (fun c34 => ?_) (fun c34 => ?_)
      · skip
        exact absurd (congrArg nI hs2.symm) c34
      refine lv_iconst (v := nI 1) hx hb dL_act_97 (by decide) ?_
      refine lv_goto (tgt := 102) hx hb dL_act_98 (by decide) ?_
      refine W.widen (k := 1) (n := 6) (by omega) (by omega) ?_
      exact ts_zretA (u := ((dropP (chkP (stepP u.1 f v25) 1)), F33, u.2.2.1, u.2.2.2)) (g := g) (v := nI 1) C0 rfl hW hV hS (by exact ⟨rfl, Or.inr (Or.inl ⟨v25, F33, hov, hzc, rfl⟩)⟩) dL_act_102
    have hzc : u.1.1 (20 + f) = 6 := by have := hwf.fsz (i := f) (by omega); omega
    refine ts_xcall (vx_runV (As := [.int (nI f), .int (nI v25)]) (rest := []) ⟨hx, hb, hml, hown, hts⟩ (x_X5_step l hlt D q b H.size (u.1, F21, u.2.2.1, u.2.2.2) a1 a2 a3 f v25 hwf (show f < u.1.1 1 by omega) (show v25 ≤ 9 ∨ (20 ≤ v25 ∧ v25 ≤ 24) ∨ (40 ≤ v25 ∧ v25 < 40 + u.1.1 1) by omega) hzc) (cwV 2 hts gL_act_X5_step rfl rfl rfl (by decide +kernel) ⟨Nat.le_of_ble_eq_true rfl, Nat.le_of_ble_eq_true rfl⟩) (ts_preE hK hN hW (hE.kept (fun a h1 h2 => hS.2.1 a h1 (fun h => by unfold ts_AB ts_A at h; omega)))) rfl rfl hl.1 rfl (lv_room (Nat.le_of_ble_eq_true rfl)) dL_act_85 ⟨Nat.le_of_ble_eq_true rfl, Nat.le_of_ble_eq_true rfl⟩) hS (fun x h => Or.inl (ts_Aup hS.1 h)) hown (hh := [(13, 102, 400, 90), (103, 159, 400, 90), (160, 264, 400, 90), (265, 286, 400, 90), (287, 332, 400, 90), (333, 368, 400, 90), (369, 391, 400, 90), (392, 399, 400, 90)]) hT ((tableOf [(13, 102, 400, 90), (103, 159, 400, 90), (160, 264, 400, 90), (265, 286, 400, 90), (287, 332, 400, 90), (333, 368, 400, 90), (369, 391, 400, 90), (392, 399, 400, 90)]).take 0) ((tableOf [(13, 102, 400, 90), (103, 159, 400, 90), (160, 264, 400, 90), (265, 286, 400, 90), (287, 332, 400, 90), (333, 368, 400, 90), (369, 391, 400, 90), (392, 399, 400, 90)])[0]) ((tableOf [(13, 102, 400, 90), (103, 159, 400, 90), (160, 264, 400, 90), (265, 286, 400, 90), (287, 332, 400, 90), (333, 368, 400, 90), (369, 391, 400, 90), (392, 399, 400, 90)]).drop (0 + 1)) rfl (by decide) rfl rfl rfl (hts _ (List.mem_of_getElem? (i := 1) rfl)) (va_tabs rfl rfl (hE.2.2 _ (by unfold th_L; simp))) (fun q9 F35 H locs hW hz hk hS => ?_)
    have hV := ts_kept hV (fun x h1 h2 => hk x (by omega) (fun h => by unfold ts_A at h; omega))
    have hbz := Nat.lt_of_lt_of_le hbz hz
    refine lv_astore (lv' := [(5, .ref q9), (4, .int (nI ((u.1.1 1) - (cntB (u.1.1 2) 10)))), (0, .ref (b + 0)), (1, .int x), (2, .int (nI f)), (3, .ref (bb + 0))]) hx hb dL_act_400 hl (by decide) rfl (fun ls hl => ?_)
    refine lv_iload_n hx hb dL_act_402 rfl (lv_at hl 3 rfl) ?_
    refine lv_bipush (v := nI 11) hx hb dL_act_403 (by decide) ?_
    refine ts_retI (va_runS (As := [.int x, .int (nI 11)]) (rest := []) ⟨hx, hb, hml, hown, hts⟩ (k_L_below l D q b H.size (u.1, F35, u.2.2.1, u.2.2.2) x 11 ⟨by omega, by omega⟩) (va_cwS 2 hts gL_act_L_below rfl rfl rfl (by decide +kernel) ⟨Nat.le_of_ble_eq_true rfl, Nat.le_of_ble_eq_true rfl⟩) (ts_preS hK hN hW) rfl rfl hl.1 rfl (lv_room (Nat.le_of_ble_eq_true rfl)) dL_act_405 ⟨Nat.le_of_ble_eq_true rfl, Nat.le_of_ble_eq_true rfl⟩) hS (fun x h => Or.inl (ts_Aup hS.1 h)) (fun r36 u37 H locs hp38 hW hz hk hS => ?_)
    have hV := ts_kept hV (fun x h1 h2 => hk x (by omega) (fun h => by unfold ts_A at h; omega))
    have hbz := Nat.lt_of_lt_of_le hbz hz
    have hp38r : r36 = nI (blwN x 11) := hp38.1
    have hp38u : u37 = (u.1, F35, u.2.2.1, u.2.2.2) := hp38.2
    rw [hp38r]
    rw [hp38u] at hW
    have hq39 := blwN_lt x (n := 11) (by omega)
    refine lv_iconst (v := nI 2) hx hb dL_act_408 (by decide) ?_
    refine lv_icmp_lt (tgt := 448) hx hb dL_act_409 (by decide) (fun c40 => ?_) (fun c40 => ?_)
    · skip
      rw [nI_ltI (by omega) (by omega)] at c40
      refine lv_iconst (v := nI 1) hx hb dL_act_448 (by decide) ?_
      refine lv_goto (tgt := 453) hx hb dL_act_449 (by decide) ?_
      refine W.widen (k := 1) (n := 6) (by omega) (by omega) ?_
      exact ts_zretA (u := (u.1, F35, u.2.2.1, u.2.2.2)) (g := g) (v := nI 1) C0 rfl hW hV hS (by exact ⟨rfl, Or.inl ⟨F35, rfl⟩⟩) dL_act_453
    rw [nI_ltI (by omega) (by omega)] at c40
    exfalso; omega
  by_cases c41 : blwN x 11 = 1
  · skip
    refine lv_tableIn (tgt := 103) hx hb dL_act_19 (by rw [c41]; decide) (by rw [c41]; decide) (by rw [c41]; rfl) (by decide) ?_
    refine lv_aload_n hx hb dL_act_103 rfl (lv_at hl 1 rfl) ?_
    refine lv_iload_n hx hb dL_act_104 rfl (lv_at hl 3 rfl) ?_
    refine lv_iconst (v := nI 0) hx hb dL_act_105 (by decide) ?_
    refine ts_retI (va_runV (As := [.int (nI f), .int (nI 0)]) (rest := []) ⟨hx, hb, hml, hown, hts⟩ (k_X5_ofFunction l D q b H.size (u.1, F8, u.2.2.1, u.2.2.2) f 0 hwf (by show f < u.1.1 1; omega) (by omega)) (cwV 2 hts gL_act_X5_ofFunction rfl rfl rfl (by decide +kernel) ⟨Nat.le_of_ble_eq_true rfl, Nat.le_of_ble_eq_true rfl⟩) (ts_preV hK hN hW 0 (by decide) cel_st rfl) rfl rfl hl.1 rfl (lv_room (Nat.le_of_ble_eq_true rfl)) dL_act_106 ⟨Nat.le_of_ble_eq_true rfl, Nat.le_of_ble_eq_true rfl⟩) hS (fun x h => Or.inl (ts_Aup hS.1 h)) (fun r42 u43 H locs hp44 hW hz hk hS => ?_)
    have hV := ts_kept hV (fun x h1 h2 => hk x (by omega) (fun h => by unfold ts_A at h; omega))
    have hbz := Nat.lt_of_lt_of_le hbz hz
    obtain ⟨hp44r, F45, hp44u⟩ := hp44
    have hp44r : r42 = nI (u.1.1 (20 + f)) := hp44r
    have hp44u : u43 = (u.1, F45, u.2.2.1, u.2.2.2) := hp44u
    rw [hp44r]
    rw [hp44u] at hW
    refine lv_istore (lv' := [(5, .int (nI (u.1.1 (20 + f)))), (4, .int (nI ((u.1.1 1) - (cntB (u.1.1 2) 10)))), (0, .ref (b + 0)), (1, .int x), (2, .int (nI f)), (3, .ref (bb + 0))]) hx hb dL_act_109 hl (by decide) rfl (fun ls hl => ?_)
    refine lv_iload hx hb dL_act_111 (lv_at hl 0 rfl) ?_
    refine lv_if_ne (tgt := 120) hx hb dL_act_113 (by decide) (fun c46 => ?_) (fun c46 => ?_)
    · skip
      rw [ts_eq0 (by omega)] at c46
      refine lv_aload_n hx hb dL_act_120 rfl (lv_at hl 2 rfl) ?_
      refine lv_iload_n hx hb dL_act_121 rfl (lv_at hl 4 rfl) ?_
      refine lv_iload hx hb dL_act_122 (lv_at hl 0 rfl) ?_
      refine lv_iconst (v := nI 1) hx hb dL_act_124 (by decide) ?_
      refine ts_isub (v := nI ((u.1.1 (20 + f)) - 1)) hx hb dL_act_125 (pk_sub (by omega)) ?_
      refine ts_retI (va_runV (As := [.int (nI f), .int (nI ((u.1.1 (20 + f)) - 1))]) (rest := []) ⟨hx, hb, hml, hown, hts⟩ (k_X5_stepAt l D q b H.size (u.1, F45, u.2.2.1, u.2.2.2) f ((u.1.1 (20 + f)) - 1) hwf (show f < u.1.1 1 by omega) (show (u.1.1 (20 + f)) - 1 < u.1.1 (20 + f) by omega)) (cwV 2 hts gL_act_X5_stepAt rfl rfl rfl (by decide +kernel) ⟨Nat.le_of_ble_eq_true rfl, Nat.le_of_ble_eq_true rfl⟩) (ts_preV hK hN hW 0 (by decide) cel_st rfl) rfl rfl hl.1 rfl (lv_room (Nat.le_of_ble_eq_true rfl)) dL_act_126 ⟨Nat.le_of_ble_eq_true rfl, Nat.le_of_ble_eq_true rfl⟩) hS (fun x h => Or.inl (ts_Aup hS.1 h)) (fun r47 u48 H locs hp49 hW hz hk hS => ?_)
      have hV := ts_kept hV (fun x h1 h2 => hk x (by omega) (fun h => by unfold ts_A at h; omega))
      have hbz := Nat.lt_of_lt_of_le hbz hz
      have hp49r : r47 = nI (u.1.2 f ((u.1.1 (20 + f)) - 1)) := hp49.1
      have hp49u : u48 = (u.1, F45, u.2.2.1, u.2.2.2) := hp49.2
      rw [hp49r]
      rw [hp49u] at hW
      refine lv_istore (lv' := [(6, .int (nI (u.1.2 f ((u.1.1 (20 + f)) - 1)))), (5, .int (nI (u.1.1 (20 + f)))), (4, .int (nI ((u.1.1 1) - (cntB (u.1.1 2) 10)))), (0, .ref (b + 0)), (1, .int x), (2, .int (nI f)), (3, .ref (bb + 0))]) hx hb dL_act_129 hl (by decide) rfl (fun ls hl => ?_)
      refine lv_aload_n hx hb dL_act_131 rfl (lv_at hl 3 rfl) ?_
      refine lv_iload_n hx hb dL_act_132 rfl (lv_at hl 5 rfl) ?_
      have hzc : 0 < u.1.1 (20 + f) := by omega
      refine ts_retI (va_runV (As := [.int (nI f)]) (rest := []) ⟨hx, hb, hml, hown, hts⟩ (k_X5_unstep l D q b H.size (u.1, F45, u.2.2.1, u.2.2.2) f hwf (show f < u.1.1 1 by omega) hzc) (cwV 1 hts gL_act_X5_unstep rfl rfl rfl (by decide +kernel) ⟨Nat.le_of_ble_eq_true rfl, Nat.le_of_ble_eq_true rfl⟩) (ts_preV hK hN hW 0 (by decide) cel_st rfl) rfl rfl hl.1 rfl (lv_room (Nat.le_of_ble_eq_true rfl)) dL_act_133 ⟨Nat.le_of_ble_eq_true rfl, Nat.le_of_ble_eq_true rfl⟩) hS (fun x h => Or.inl (ts_Aup hS.1 h)) (fun r50 u51 H locs hp52 hW hz hk hS => ?_)
      have hV := ts_kept hV (fun x h1 h2 => hk x (by omega) (fun h => by unfold ts_A at h; omega))
      have hbz := Nat.lt_of_lt_of_le hbz hz
      obtain ⟨hp52r, F53, hp52u⟩ := hp52
      have hp52r : r50 = nI (u.1.2 f (u.1.1 (20 + f) - 1)) := hp52r
      have hp52u : u51 = ((dropP (chkP (unsP u.1 f) 1)), F53, u.2.2.1, u.2.2.2) := hp52u
      rw [hp52r]
      rw [hp52u] at hW
      have hwf2 : WP (dropP (chkP (unsP u.1 f) 1)) := WP.drop ((hwf.uns (by omega)).chk _)
      have hn2 : (dropP (chkP (unsP u.1 f) 1)).1 1 = u.1.1 1 := (dp_ne _ (show 1 ≠ 2 by decide)).trans ((chk_ne _ _ (show 1 ≠ 3 by decide)).trans (va_up_ne _ _ (show 1 ≠ 20 + f by omega)))
      have hs2 : (dropP (chkP (unsP u.1 f) 1)).1 (20 + f) = u.1.1 (20 + f) - 1 := (dropP_fn _ _ (by omega)).trans (va_up_self _ _ _)
      refine lv_iload hx hb dL_act_136 (lv_at hl 0 rfl) ?_
      refine lv_icmp_ne (tgt := 158) hx hb dL_act_138 (by decide) (fun c54 => ?_) (fun c54 => ?_)
      · skip
        exact absurd rfl c54
      refine lv_aload_n hx hb dL_act_141 rfl (lv_at hl 3 rfl) ?_
      refine lv_iload_n hx hb dL_act_142 rfl (lv_at hl 5 rfl) ?_
      refine lv_iconst (v := nI 0) hx hb dL_act_143 (by decide) ?_
      refine ts_retI (va_runV (As := [.int (nI f), .int (nI 0)]) (rest := []) ⟨hx, hb, hml, hown, hts⟩ (k_X5_ofFunction l D q b H.size ((dropP (chkP (unsP u.1 f) 1)), F53, u.2.2.1, u.2.2.2) f 0 hwf2 (by show f < ((dropP (chkP (unsP u.1 f) 1))).1 1; omega) (by omega)) (cwV 2 hts gL_act_X5_ofFunction rfl rfl rfl (by decide +kernel) ⟨Nat.le_of_ble_eq_true rfl, Nat.le_of_ble_eq_true rfl⟩) (ts_preV hK hN hW 0 (by decide) cel_st rfl) rfl rfl hl.1 rfl (lv_room (Nat.le_of_ble_eq_true rfl)) dL_act_144 ⟨Nat.le_of_ble_eq_true rfl, Nat.le_of_ble_eq_true rfl⟩) hS (fun x h => Or.inl (ts_Aup hS.1 h)) (fun r55 u56 H locs hp57 hW hz hk hS => ?_)
      have hV := ts_kept hV (fun x h1 h2 => hk x (by omega) (fun h => by unfold ts_A at h; omega))
      have hbz := Nat.lt_of_lt_of_le hbz hz
      obtain ⟨hp57r, F58, hp57u⟩ := hp57
      have hp57r : r55 = nI ((((dropP (chkP (unsP u.1 f) 1))).1) (20 + f)) := hp57r
      have hp57u : u56 = ((dropP (chkP (unsP u.1 f) 1)), F58, u.2.2.1, u.2.2.2) := hp57u
      rw [hp57r]
      rw [hp57u] at hW
      refine lv_iload hx hb dL_act_147 (lv_at hl 1 rfl) ?_
      refine lv_iconst (v := nI 1) hx hb dL_act_149 (by decide) ?_
      refine ts_isub (v := nI ((u.1.1 (20 + f)) - 1)) hx hb dL_act_150 (pk_sub (by omega)) ?_
      refine lv_icmp_ne (tgt := 158) hx hb dL_act_151 (by decide) (fun c59 => ?_) (fun c59 => ?_)
      · skip
        exact absurd (congrArg nI hs2) c59
      refine lv_iconst (v := nI 1) hx hb dL_act_154 (by decide) ?_
      refine lv_goto (tgt := 159) hx hb dL_act_155 (by decide) ?_
      refine W.widen (k := 1) (n := 6) (by omega) (by omega) ?_
      exact ts_zretA (u := ((dropP (chkP (unsP u.1 f) 1)), F58, u.2.2.1, u.2.2.2)) (g := g) (v := nI 1) C0 rfl hW hV hS (by exact ⟨rfl, Or.inr (Or.inr (Or.inl ⟨F58, hzc, rfl⟩))⟩) dL_act_159
    rw [ts_eq0 (by omega)] at c46
    refine lv_iconst (v := (-1)) hx hb dL_act_116 (by decide) ?_
    refine lv_goto (tgt := 129) hx hb dL_act_117 (by decide) ?_
    refine lv_istore (lv' := [(6, .int (-1)), (5, .int (nI (u.1.1 (20 + f)))), (4, .int (nI ((u.1.1 1) - (cntB (u.1.1 2) 10)))), (0, .ref (b + 0)), (1, .int x), (2, .int (nI f)), (3, .ref (bb + 0))]) hx hb dL_act_129 hl (by decide) rfl (fun ls hl => ?_)
    refine lv_aload_n hx hb dL_act_131 rfl (lv_at hl 3 rfl) ?_
    refine lv_iload_n hx hb dL_act_132 rfl (lv_at hl 5 rfl) ?_
    have hzc : u.1.1 (20 + f) = 0 := by omega
    refine ts_xcall (vx_runV (As := [.int (nI f)]) (rest := []) ⟨hx, hb, hml, hown, hts⟩ (x_X5_unstep l hlt D q b H.size (u.1, F45, u.2.2.1, u.2.2.2) a1 a2 a3 f hwf (show f < u.1.1 1 by omega) hzc) (cwV 1 hts gL_act_X5_unstep rfl rfl rfl (by decide +kernel) ⟨Nat.le_of_ble_eq_true rfl, Nat.le_of_ble_eq_true rfl⟩) (ts_preE hK hN hW (hE.kept (fun a h1 h2 => hS.2.1 a h1 (fun h => by unfold ts_AB ts_A at h; omega)))) rfl rfl hl.1 rfl (lv_room (Nat.le_of_ble_eq_true rfl)) dL_act_133 ⟨Nat.le_of_ble_eq_true rfl, Nat.le_of_ble_eq_true rfl⟩) hS (fun x h => Or.inl (ts_Aup hS.1 h)) hown (hh := [(13, 102, 400, 90), (103, 159, 400, 90), (160, 264, 400, 90), (265, 286, 400, 90), (287, 332, 400, 90), (333, 368, 400, 90), (369, 391, 400, 90), (392, 399, 400, 90)]) hT ((tableOf [(13, 102, 400, 90), (103, 159, 400, 90), (160, 264, 400, 90), (265, 286, 400, 90), (287, 332, 400, 90), (333, 368, 400, 90), (369, 391, 400, 90), (392, 399, 400, 90)]).take 1) ((tableOf [(13, 102, 400, 90), (103, 159, 400, 90), (160, 264, 400, 90), (265, 286, 400, 90), (287, 332, 400, 90), (333, 368, 400, 90), (369, 391, 400, 90), (392, 399, 400, 90)])[1]) ((tableOf [(13, 102, 400, 90), (103, 159, 400, 90), (160, 264, 400, 90), (265, 286, 400, 90), (287, 332, 400, 90), (333, 368, 400, 90), (369, 391, 400, 90), (392, 399, 400, 90)]).drop (1 + 1)) rfl (by decide) rfl rfl rfl (hts _ (List.mem_of_getElem? (i := 1) rfl)) (va_tabs rfl rfl (hE.2.2 _ (by unfold th_L; simp))) (fun q9 F60 H locs hW hz hk hS => ?_)
    have hV := ts_kept hV (fun x h1 h2 => hk x (by omega) (fun h => by unfold ts_A at h; omega))
    have hbz := Nat.lt_of_lt_of_le hbz hz
    refine lv_astore (lv' := [(5, .ref q9), (6, .int (-1)), (4, .int (nI ((u.1.1 1) - (cntB (u.1.1 2) 10)))), (0, .ref (b + 0)), (1, .int x), (2, .int (nI f)), (3, .ref (bb + 0))]) hx hb dL_act_400 hl (by decide) rfl (fun ls hl => ?_)
    refine lv_iload_n hx hb dL_act_402 rfl (lv_at hl 4 rfl) ?_
    refine lv_bipush (v := nI 11) hx hb dL_act_403 (by decide) ?_
    refine ts_retI (va_runS (As := [.int x, .int (nI 11)]) (rest := []) ⟨hx, hb, hml, hown, hts⟩ (k_L_below l D q b H.size (u.1, F60, u.2.2.1, u.2.2.2) x 11 ⟨by omega, by omega⟩) (va_cwS 2 hts gL_act_L_below rfl rfl rfl (by decide +kernel) ⟨Nat.le_of_ble_eq_true rfl, Nat.le_of_ble_eq_true rfl⟩) (ts_preS hK hN hW) rfl rfl hl.1 rfl (lv_room (Nat.le_of_ble_eq_true rfl)) dL_act_405 ⟨Nat.le_of_ble_eq_true rfl, Nat.le_of_ble_eq_true rfl⟩) hS (fun x h => Or.inl (ts_Aup hS.1 h)) (fun r61 u62 H locs hp63 hW hz hk hS => ?_)
    have hV := ts_kept hV (fun x h1 h2 => hk x (by omega) (fun h => by unfold ts_A at h; omega))
    have hbz := Nat.lt_of_lt_of_le hbz hz
    have hp63r : r61 = nI (blwN x 11) := hp63.1
    have hp63u : u62 = (u.1, F60, u.2.2.1, u.2.2.2) := hp63.2
    rw [hp63r]
    rw [hp63u] at hW
    have hq64 := blwN_lt x (n := 11) (by omega)
    refine lv_iconst (v := nI 2) hx hb dL_act_408 (by decide) ?_
    refine lv_icmp_lt (tgt := 448) hx hb dL_act_409 (by decide) (fun c65 => ?_) (fun c65 => ?_)
    · skip
      rw [nI_ltI (by omega) (by omega)] at c65
      refine lv_iconst (v := nI 1) hx hb dL_act_448 (by decide) ?_
      refine lv_goto (tgt := 453) hx hb dL_act_449 (by decide) ?_
      refine W.widen (k := 1) (n := 6) (by omega) (by omega) ?_
      exact ts_zretA (u := (u.1, F60, u.2.2.1, u.2.2.2)) (g := g) (v := nI 1) C0 rfl hW hV hS (by exact ⟨rfl, Or.inl ⟨F60, rfl⟩⟩) dL_act_453
    rw [nI_ltI (by omega) (by omega)] at c65
    exfalso; omega
  by_cases c66 : blwN x 11 = 2
  · skip
    refine lv_tableIn (tgt := 160) hx hb dL_act_19 (by rw [c66]; decide) (by rw [c66]; decide) (by rw [c66]; rfl) (by decide) ?_
    refine lv_aload_n hx hb dL_act_160 rfl (lv_at hl 1 rfl) ?_
    refine lv_iload_n hx hb dL_act_161 rfl (lv_at hl 3 rfl) ?_
    refine lv_iload_n hx hb dL_act_162 rfl (lv_at hl 2 rfl) ?_
    refine lv_iconst (v := nI 5) hx hb dL_act_163 (by decide) ?_
    refine ts_ishr (v := x >>> ((nI 5) &&& 31)) hx hb dL_act_164 rfl ?_
    refine lv_iconst (v := nI 4) hx hb dL_act_165 (by decide) ?_
    refine ts_retI (va_runS (As := [.int (x >>> ((nI 5) &&& 31)), .int (nI 4)]) (rest := [.int (nI f), .ref (b + 0)]) ⟨hx, hb, hml, hown, hts⟩ (k_L_below l D q b H.size (u.1, F8, u.2.2.1, u.2.2.2) (x >>> ((nI 5) &&& 31)) 4 ⟨by omega, by omega⟩) (va_cwS 2 hts gL_act_L_below rfl rfl rfl (by decide +kernel) ⟨Nat.le_of_ble_eq_true rfl, Nat.le_of_ble_eq_true rfl⟩) (ts_preS hK hN hW) rfl rfl hl.1 rfl (lv_room (Nat.le_of_ble_eq_true rfl)) dL_act_166 ⟨Nat.le_of_ble_eq_true rfl, Nat.le_of_ble_eq_true rfl⟩) hS (fun x h => Or.inl (ts_Aup hS.1 h)) (fun r67 u68 H locs hp69 hW hz hk hS => ?_)
    have hV := ts_kept hV (fun x h1 h2 => hk x (by omega) (fun h => by unfold ts_A at h; omega))
    have hbz := Nat.lt_of_lt_of_le hbz hz
    have hp69r : r67 = nI (blwN (x >>> ((nI 5) &&& 31)) 4) := hp69.1
    have hp69u : u68 = (u.1, F8, u.2.2.1, u.2.2.2) := hp69.2
    rw [hp69r]
    rw [hp69u] at hW
    have hq70 := blwN_lt (x >>> ((nI 5) &&& 31)) (n := 4) (by omega)
    refine lv_iload_n hx hb dL_act_169 rfl (lv_at hl 2 rfl) ?_
    refine lv_bipush (v := nI 7) hx hb dL_act_170 (by decide) ?_
    refine ts_ishr (v := x >>> ((nI 7) &&& 31)) hx hb dL_act_172 rfl ?_
    refine lv_iconst (v := nI 4) hx hb dL_act_173 (by decide) ?_
    refine ts_retI (va_runS (As := [.int (x >>> ((nI 7) &&& 31)), .int (nI 4)]) (rest := [.int (nI (blwN (x >>> ((nI 5) &&& 31)) 4)), .int (nI f), .ref (b + 0)]) ⟨hx, hb, hml, hown, hts⟩ (k_L_below l D q b H.size (u.1, F8, u.2.2.1, u.2.2.2) (x >>> ((nI 7) &&& 31)) 4 ⟨by omega, by omega⟩) (va_cwS 2 hts gL_act_L_below rfl rfl rfl (by decide +kernel) ⟨Nat.le_of_ble_eq_true rfl, Nat.le_of_ble_eq_true rfl⟩) (ts_preS hK hN hW) rfl rfl hl.1 rfl (lv_room (Nat.le_of_ble_eq_true rfl)) dL_act_174 ⟨Nat.le_of_ble_eq_true rfl, Nat.le_of_ble_eq_true rfl⟩) hS (fun x h => Or.inl (ts_Aup hS.1 h)) (fun r71 u72 H locs hp73 hW hz hk hS => ?_)
    have hV := ts_kept hV (fun x h1 h2 => hk x (by omega) (fun h => by unfold ts_A at h; omega))
    have hbz := Nat.lt_of_lt_of_le hbz hz
    have hp73r : r71 = nI (blwN (x >>> ((nI 7) &&& 31)) 4) := hp73.1
    have hp73u : u72 = (u.1, F8, u.2.2.1, u.2.2.2) := hp73.2
    rw [hp73r]
    rw [hp73u] at hW
    have hq74 := blwN_lt (x >>> ((nI 7) &&& 31)) (n := 4) (by omega)
    refine ts_retI (va_runV (As := [.int (nI f), .int (nI (blwN (x >>> ((nI 5) &&& 31)) 4)), .int (nI (blwN (x >>> ((nI 7) &&& 31)) 4))]) (rest := []) ⟨hx, hb, hml, hown, hts⟩ (k_X5_untyped l D q b H.size (u.1, F8, u.2.2.1, u.2.2.2) f (blwN (x >>> ((nI 5) &&& 31)) 4) (blwN (x >>> ((nI 7) &&& 31)) 4) hwf (show f < u.1.1 1 by omega) (by omega) (by omega)) (cwV 3 hts gL_act_X5_untyped rfl rfl rfl (by decide +kernel) ⟨Nat.le_of_ble_eq_true rfl, Nat.le_of_ble_eq_true rfl⟩) (ts_preV hK hN hW 0 (by decide) cel_st rfl) rfl rfl hl.1 rfl (lv_room (Nat.le_of_ble_eq_true rfl)) dL_act_177 ⟨Nat.le_of_ble_eq_true rfl, Nat.le_of_ble_eq_true rfl⟩) hS (fun x h => Or.inl (ts_Aup hS.1 h)) (fun r75 u76 H locs hp77 hW hz hk hS => ?_)
    have hV := ts_kept hV (fun x h1 h2 => hk x (by omega) (fun h => by unfold ts_A at h; omega))
    have hbz := Nat.lt_of_lt_of_le hbz hz
    obtain ⟨hp77r, F78, hp77u⟩ := hp77
    have hp77r : r75 = nI (cntB (dropD (hintP u.1 f (blwN (x >>> ((nI 5) &&& 31)) 4) (blwN (x >>> ((nI 7) &&& 31)) 4))) 10) := hp77r
    have hp77u : u76 = (u.1, F78, u.2.2.1, u.2.2.2) := hp77u
    rw [hp77r]
    rw [hp77u] at hW
    refine lv_istore (lv' := [(7, .int (nI (cntB (dropD (hintP u.1 f (blwN (x >>> ((nI 5) &&& 31)) 4) (blwN (x >>> ((nI 7) &&& 31)) 4))) 10))), (4, .int (nI ((u.1.1 1) - (cntB (u.1.1 2) 10)))), (0, .ref (b + 0)), (1, .int x), (2, .int (nI f)), (3, .ref (bb + 0))]) hx hb dL_act_180 hl (by decide) rfl (fun ls hl => ?_)
    refine lv_aload_n hx hb dL_act_182 rfl (lv_at hl 2 rfl) ?_
    refine lv_iload_n hx hb dL_act_183 rfl (lv_at hl 4 rfl) ?_
    refine lv_iload_n hx hb dL_act_184 rfl (lv_at hl 3 rfl) ?_
    refine lv_iconst (v := nI 5) hx hb dL_act_185 (by decide) ?_
    refine ts_ishr (v := x >>> ((nI 5) &&& 31)) hx hb dL_act_186 rfl ?_
    refine lv_iconst (v := nI 4) hx hb dL_act_187 (by decide) ?_
    refine ts_retI (va_runS (As := [.int (x >>> ((nI 5) &&& 31)), .int (nI 4)]) (rest := [.int (nI f), .ref (b + 0)]) ⟨hx, hb, hml, hown, hts⟩ (k_L_below l D q b H.size (u.1, F78, u.2.2.1, u.2.2.2) (x >>> ((nI 5) &&& 31)) 4 ⟨by omega, by omega⟩) (va_cwS 2 hts gL_act_L_below rfl rfl rfl (by decide +kernel) ⟨Nat.le_of_ble_eq_true rfl, Nat.le_of_ble_eq_true rfl⟩) (ts_preS hK hN hW) rfl rfl hl.1 rfl (lv_room (Nat.le_of_ble_eq_true rfl)) dL_act_188 ⟨Nat.le_of_ble_eq_true rfl, Nat.le_of_ble_eq_true rfl⟩) hS (fun x h => Or.inl (ts_Aup hS.1 h)) (fun r79 u80 H locs hp81 hW hz hk hS => ?_)
    have hV := ts_kept hV (fun x h1 h2 => hk x (by omega) (fun h => by unfold ts_A at h; omega))
    have hbz := Nat.lt_of_lt_of_le hbz hz
    have hp81r : r79 = nI (blwN (x >>> ((nI 5) &&& 31)) 4) := hp81.1
    have hp81u : u80 = (u.1, F78, u.2.2.1, u.2.2.2) := hp81.2
    rw [hp81r]
    rw [hp81u] at hW
    have hq82 := blwN_lt (x >>> ((nI 5) &&& 31)) (n := 4) (by omega)
    refine lv_iload_n hx hb dL_act_191 rfl (lv_at hl 3 rfl) ?_
    refine lv_bipush (v := nI 7) hx hb dL_act_192 (by decide) ?_
    refine ts_ishr (v := x >>> ((nI 7) &&& 31)) hx hb dL_act_194 rfl ?_
    refine lv_iconst (v := nI 4) hx hb dL_act_195 (by decide) ?_
    refine ts_retI (va_runS (As := [.int (x >>> ((nI 7) &&& 31)), .int (nI 4)]) (rest := [.int (nI (blwN (x >>> ((nI 5) &&& 31)) 4)), .int (nI f), .ref (b + 0)]) ⟨hx, hb, hml, hown, hts⟩ (k_L_below l D q b H.size (u.1, F78, u.2.2.1, u.2.2.2) (x >>> ((nI 7) &&& 31)) 4 ⟨by omega, by omega⟩) (va_cwS 2 hts gL_act_L_below rfl rfl rfl (by decide +kernel) ⟨Nat.le_of_ble_eq_true rfl, Nat.le_of_ble_eq_true rfl⟩) (ts_preS hK hN hW) rfl rfl hl.1 rfl (lv_room (Nat.le_of_ble_eq_true rfl)) dL_act_196 ⟨Nat.le_of_ble_eq_true rfl, Nat.le_of_ble_eq_true rfl⟩) hS (fun x h => Or.inl (ts_Aup hS.1 h)) (fun r83 u84 H locs hp85 hW hz hk hS => ?_)
    have hV := ts_kept hV (fun x h1 h2 => hk x (by omega) (fun h => by unfold ts_A at h; omega))
    have hbz := Nat.lt_of_lt_of_le hbz hz
    have hp85r : r83 = nI (blwN (x >>> ((nI 7) &&& 31)) 4) := hp85.1
    have hp85u : u84 = (u.1, F78, u.2.2.1, u.2.2.2) := hp85.2
    rw [hp85r]
    rw [hp85u] at hW
    have hq86 := blwN_lt (x >>> ((nI 7) &&& 31)) (n := 4) (by omega)
    refine ts_retI (va_runV (As := [.int (nI f), .int (nI (blwN (x >>> ((nI 5) &&& 31)) 4)), .int (nI (blwN (x >>> ((nI 7) &&& 31)) 4))]) (rest := []) ⟨hx, hb, hml, hown, hts⟩ (k_X5_hint l D q b H.size (u.1, F78, u.2.2.1, u.2.2.2) f (blwN (x >>> ((nI 5) &&& 31)) 4) (blwN (x >>> ((nI 7) &&& 31)) 4) hwf (show f < u.1.1 1 by omega) (by omega) (by omega)) (cwV 3 hts gL_act_X5_hint rfl rfl rfl (by decide +kernel) ⟨Nat.le_of_ble_eq_true rfl, Nat.le_of_ble_eq_true rfl⟩) (ts_preV hK hN hW 0 (by decide) cel_st rfl) rfl rfl hl.1 rfl (lv_room (Nat.le_of_ble_eq_true rfl)) dL_act_199 ⟨Nat.le_of_ble_eq_true rfl, Nat.le_of_ble_eq_true rfl⟩) hS (fun x h => Or.inl (ts_Aup hS.1 h)) (fun r87 u88 H locs hp89 hW hz hk hS => ?_)
    have hV := ts_kept hV (fun x h1 h2 => hk x (by omega) (fun h => by unfold ts_A at h; omega))
    have hbz := Nat.lt_of_lt_of_le hbz hz
    obtain ⟨hp89r, F90, hp89u⟩ := hp89
    have hp89r : r87 = nI (cntB (dropD (hintC u.1 f (blwN (x >>> ((nI 5) &&& 31)) 4) (blwN (x >>> ((nI 7) &&& 31)) 4))) 10) := hp89r
    have hp89u : u88 = ((dropP (hintC u.1 f (blwN (x >>> ((nI 5) &&& 31)) 4) (blwN (x >>> ((nI 7) &&& 31)) 4))), F90, u.2.2.1, u.2.2.2) := hp89u
    rw [hp89r]
    rw [hp89u] at hW
    have hwf2 : WP (dropP (hintC u.1 f (blwN (x >>> ((nI 5) &&& 31)) 4) (blwN (x >>> ((nI 7) &&& 31)) 4))) := WP.drop (hwf.hic (by omega) (by omega) (by omega))
    have hn2 : (dropP (hintC u.1 f (blwN (x >>> ((nI 5) &&& 31)) 4) (blwN (x >>> ((nI 7) &&& 31)) 4))).1 1 = u.1.1 1 := hc_1
    have hc2 : cntB ((dropP (hintC u.1 f (blwN (x >>> ((nI 5) &&& 31)) 4) (blwN (x >>> ((nI 7) &&& 31)) 4))).1 2) 10 + cntB (dropD (hintP u.1 f (blwN (x >>> ((nI 5) &&& 31)) 4) (blwN (x >>> ((nI 7) &&& 31)) 4))) 10 = cntB (u.1.1 2) 10 := hint_cnt
    have hs2 : (dropP (hintC u.1 f (blwN (x >>> ((nI 5) &&& 31)) 4) (blwN (x >>> ((nI 7) &&& 31)) 4))).1 (30 + f) = blwN (x >>> ((nI 5) &&& 31)) 4 := (hc_k (by omega)).trans (hp_in (by omega))
    have hs3 : (dropP (hintC u.1 f (blwN (x >>> ((nI 5) &&& 31)) 4) (blwN (x >>> ((nI 7) &&& 31)) 4))).1 (40 + f) = blwN (x >>> ((nI 7) &&& 31)) 4 := (hc_k (by omega)).trans hp_out
    refine lv_iload hx hb dL_act_202 (lv_at hl 0 rfl) ?_
    refine lv_icmp_ne (tgt := 263) hx hb dL_act_204 (by decide) (fun c91 => ?_) (fun c91 => ?_)
    · skip
      exact absurd (congrArg (fun z => nI (cntB z 10)) hint_same) c91
    refine lv_aload_n hx hb dL_act_207 rfl (lv_at hl 2 rfl) ?_
    refine lv_iconst (v := nI 0) hx hb dL_act_208 (by decide) ?_
    refine ts_retI (va_runV (As := [.int (nI 0)]) (rest := []) ⟨hx, hb, hml, hown, hts⟩ (k_X5_many l D q b H.size ((dropP (hintC u.1 f (blwN (x >>> ((nI 5) &&& 31)) 4) (blwN (x >>> ((nI 7) &&& 31)) 4))), F90, u.2.2.1, u.2.2.2) 0 hwf2 (by omega)) (cwV 1 hts gL_act_X5_many rfl rfl rfl (by decide +kernel) ⟨Nat.le_of_ble_eq_true rfl, Nat.le_of_ble_eq_true rfl⟩) (ts_preV hK hN hW 0 (by decide) cel_st rfl) rfl rfl hl.1 rfl (lv_room (Nat.le_of_ble_eq_true rfl)) dL_act_209 ⟨Nat.le_of_ble_eq_true rfl, Nat.le_of_ble_eq_true rfl⟩) hS (fun x h => Or.inl (ts_Aup hS.1 h)) (fun r92 u93 H locs hp94 hW hz hk hS => ?_)
    have hV := ts_kept hV (fun x h1 h2 => hk x (by omega) (fun h => by unfold ts_A at h; omega))
    have hbz := Nat.lt_of_lt_of_le hbz hz
    obtain ⟨hp94r, F95, hp94u⟩ := hp94
    have hp94r : r92 = nI ((((dropP (hintC u.1 f (blwN (x >>> ((nI 5) &&& 31)) 4) (blwN (x >>> ((nI 7) &&& 31)) 4)))).1) 1) := hp94r
    have hp94u : u93 = ((dropP (hintC u.1 f (blwN (x >>> ((nI 5) &&& 31)) 4) (blwN (x >>> ((nI 7) &&& 31)) 4))), F95, u.2.2.1, u.2.2.2) := hp94u
    rw [hp94r]
    rw [hp94u] at hW
    refine lv_aload_n hx hb dL_act_212 rfl (lv_at hl 2 rfl) ?_
    refine lv_iconst (v := nI 1) hx hb dL_act_213 (by decide) ?_
    refine ts_retI (va_runV (As := [.int (nI 1)]) (rest := [.int (nI ((((dropP (hintC u.1 f (blwN (x >>> ((nI 5) &&& 31)) 4) (blwN (x >>> ((nI 7) &&& 31)) 4)))).1) 1))]) ⟨hx, hb, hml, hown, hts⟩ (k_X5_many l D q b H.size ((dropP (hintC u.1 f (blwN (x >>> ((nI 5) &&& 31)) 4) (blwN (x >>> ((nI 7) &&& 31)) 4))), F95, u.2.2.1, u.2.2.2) 1 hwf2 (by omega)) (cwV 1 hts gL_act_X5_many rfl rfl rfl (by decide +kernel) ⟨Nat.le_of_ble_eq_true rfl, Nat.le_of_ble_eq_true rfl⟩) (ts_preV hK hN hW 0 (by decide) cel_st rfl) rfl rfl hl.1 rfl (lv_room (Nat.le_of_ble_eq_true rfl)) dL_act_214 ⟨Nat.le_of_ble_eq_true rfl, Nat.le_of_ble_eq_true rfl⟩) hS (fun x h => Or.inl (ts_Aup hS.1 h)) (fun r96 u97 H locs hp98 hW hz hk hS => ?_)
    have hV := ts_kept hV (fun x h1 h2 => hk x (by omega) (fun h => by unfold ts_A at h; omega))
    have hbz := Nat.lt_of_lt_of_le hbz hz
    obtain ⟨hp98r, F99, hp98u⟩ := hp98
    have hp98r : r96 = nI (cntB ((((dropP (hintC u.1 f (blwN (x >>> ((nI 5) &&& 31)) 4) (blwN (x >>> ((nI 7) &&& 31)) 4)))).1) 2) 10) := hp98r
    have hp98u : u97 = ((dropP (hintC u.1 f (blwN (x >>> ((nI 5) &&& 31)) 4) (blwN (x >>> ((nI 7) &&& 31)) 4))), F99, u.2.2.1, u.2.2.2) := hp98u
    rw [hp98r]
    rw [hp98u] at hW
    refine ts_isub (v := nI (((((dropP (hintC u.1 f (blwN (x >>> ((nI 5) &&& 31)) 4) (blwN (x >>> ((nI 7) &&& 31)) 4)))).1) 1) - (cntB ((((dropP (hintC u.1 f (blwN (x >>> ((nI 5) &&& 31)) 4) (blwN (x >>> ((nI 7) &&& 31)) 4)))).1) 2) 10))) hx hb dL_act_217 (pk_sub (by omega)) ?_
    refine lv_iload hx hb dL_act_218 (lv_at hl 1 rfl) ?_
    refine lv_iload hx hb dL_act_220 (lv_at hl 0 rfl) ?_
    refine ts_iadd (v := nI (((u.1.1 1) - (cntB (u.1.1 2) 10)) + (cntB (dropD (hintP u.1 f (blwN (x >>> ((nI 5) &&& 31)) 4) (blwN (x >>> ((nI 7) &&& 31)) 4))) 10))) hx hb dL_act_222 (nI_add _ _) ?_
    refine lv_icmp_ne (tgt := 263) hx hb dL_act_223 (by decide) (fun c100 => ?_) (fun c100 => ?_)
    · skip
      rw [nI_eq (by omega) (by omega)] at c100
      exfalso; omega
    rw [nI_eq (by omega) (by omega)] at c100
    refine lv_aload_n hx hb dL_act_226 rfl (lv_at hl 2 rfl) ?_
    refine lv_iload_n hx hb dL_act_227 rfl (lv_at hl 4 rfl) ?_
    refine lv_iconst (v := nI 1) hx hb dL_act_228 (by decide) ?_
    refine ts_retI (va_runV (As := [.int (nI f), .int (nI 1)]) (rest := []) ⟨hx, hb, hml, hown, hts⟩ (k_X5_ofFunction l D q b H.size ((dropP (hintC u.1 f (blwN (x >>> ((nI 5) &&& 31)) 4) (blwN (x >>> ((nI 7) &&& 31)) 4))), F99, u.2.2.1, u.2.2.2) f 1 hwf2 (by show f < ((dropP (hintC u.1 f (blwN (x >>> ((nI 5) &&& 31)) 4) (blwN (x >>> ((nI 7) &&& 31)) 4)))).1 1; omega) (by omega)) (cwV 2 hts gL_act_X5_ofFunction rfl rfl rfl (by decide +kernel) ⟨Nat.le_of_ble_eq_true rfl, Nat.le_of_ble_eq_true rfl⟩) (ts_preV hK hN hW 0 (by decide) cel_st rfl) rfl rfl hl.1 rfl (lv_room (Nat.le_of_ble_eq_true rfl)) dL_act_229 ⟨Nat.le_of_ble_eq_true rfl, Nat.le_of_ble_eq_true rfl⟩) hS (fun x h => Or.inl (ts_Aup hS.1 h)) (fun r101 u102 H locs hp103 hW hz hk hS => ?_)
    have hV := ts_kept hV (fun x h1 h2 => hk x (by omega) (fun h => by unfold ts_A at h; omega))
    have hbz := Nat.lt_of_lt_of_le hbz hz
    obtain ⟨hp103r, F104, hp103u⟩ := hp103
    have hp103r : r101 = nI ((((dropP (hintC u.1 f (blwN (x >>> ((nI 5) &&& 31)) 4) (blwN (x >>> ((nI 7) &&& 31)) 4)))).1) (30 + f)) := hp103r
    have hp103u : u102 = ((dropP (hintC u.1 f (blwN (x >>> ((nI 5) &&& 31)) 4) (blwN (x >>> ((nI 7) &&& 31)) 4))), F104, u.2.2.1, u.2.2.2) := hp103u
    rw [hp103r]
    rw [hp103u] at hW
    refine lv_iload_n hx hb dL_act_232 rfl (lv_at hl 3 rfl) ?_
    refine lv_iconst (v := nI 5) hx hb dL_act_233 (by decide) ?_
    refine ts_ishr (v := x >>> ((nI 5) &&& 31)) hx hb dL_act_234 rfl ?_
    refine lv_iconst (v := nI 4) hx hb dL_act_235 (by decide) ?_
    refine ts_retI (va_runS (As := [.int (x >>> ((nI 5) &&& 31)), .int (nI 4)]) (rest := [.int (nI ((((dropP (hintC u.1 f (blwN (x >>> ((nI 5) &&& 31)) 4) (blwN (x >>> ((nI 7) &&& 31)) 4)))).1) (30 + f)))]) ⟨hx, hb, hml, hown, hts⟩ (k_L_below l D q b H.size ((dropP (hintC u.1 f (blwN (x >>> ((nI 5) &&& 31)) 4) (blwN (x >>> ((nI 7) &&& 31)) 4))), F104, u.2.2.1, u.2.2.2) (x >>> ((nI 5) &&& 31)) 4 ⟨by omega, by omega⟩) (va_cwS 2 hts gL_act_L_below rfl rfl rfl (by decide +kernel) ⟨Nat.le_of_ble_eq_true rfl, Nat.le_of_ble_eq_true rfl⟩) (ts_preS hK hN hW) rfl rfl hl.1 rfl (lv_room (Nat.le_of_ble_eq_true rfl)) dL_act_236 ⟨Nat.le_of_ble_eq_true rfl, Nat.le_of_ble_eq_true rfl⟩) hS (fun x h => Or.inl (ts_Aup hS.1 h)) (fun r105 u106 H locs hp107 hW hz hk hS => ?_)
    have hV := ts_kept hV (fun x h1 h2 => hk x (by omega) (fun h => by unfold ts_A at h; omega))
    have hbz := Nat.lt_of_lt_of_le hbz hz
    have hp107r : r105 = nI (blwN (x >>> ((nI 5) &&& 31)) 4) := hp107.1
    have hp107u : u106 = ((dropP (hintC u.1 f (blwN (x >>> ((nI 5) &&& 31)) 4) (blwN (x >>> ((nI 7) &&& 31)) 4))), F104, u.2.2.1, u.2.2.2) := hp107.2
    rw [hp107r]
    rw [hp107u] at hW
    have hq108 := blwN_lt (x >>> ((nI 5) &&& 31)) (n := 4) (by omega)
    refine lv_icmp_ne (tgt := 263) hx hb dL_act_239 (by decide) (fun c109 => ?_) (fun c109 => ?_)
    · skip
      exact absurd (congrArg nI hs2) c109
    refine lv_aload_n hx hb dL_act_242 rfl (lv_at hl 2 rfl) ?_
    refine lv_iload_n hx hb dL_act_243 rfl (lv_at hl 4 rfl) ?_
    refine lv_iconst (v := nI 2) hx hb dL_act_244 (by decide) ?_
    refine ts_retI (va_runV (As := [.int (nI f), .int (nI 2)]) (rest := []) ⟨hx, hb, hml, hown, hts⟩ (k_X5_ofFunction l D q b H.size ((dropP (hintC u.1 f (blwN (x >>> ((nI 5) &&& 31)) 4) (blwN (x >>> ((nI 7) &&& 31)) 4))), F104, u.2.2.1, u.2.2.2) f 2 hwf2 (by show f < ((dropP (hintC u.1 f (blwN (x >>> ((nI 5) &&& 31)) 4) (blwN (x >>> ((nI 7) &&& 31)) 4)))).1 1; omega) (by omega)) (cwV 2 hts gL_act_X5_ofFunction rfl rfl rfl (by decide +kernel) ⟨Nat.le_of_ble_eq_true rfl, Nat.le_of_ble_eq_true rfl⟩) (ts_preV hK hN hW 0 (by decide) cel_st rfl) rfl rfl hl.1 rfl (lv_room (Nat.le_of_ble_eq_true rfl)) dL_act_245 ⟨Nat.le_of_ble_eq_true rfl, Nat.le_of_ble_eq_true rfl⟩) hS (fun x h => Or.inl (ts_Aup hS.1 h)) (fun r110 u111 H locs hp112 hW hz hk hS => ?_)
    have hV := ts_kept hV (fun x h1 h2 => hk x (by omega) (fun h => by unfold ts_A at h; omega))
    have hbz := Nat.lt_of_lt_of_le hbz hz
    obtain ⟨hp112r, F113, hp112u⟩ := hp112
    have hp112r : r110 = nI ((((dropP (hintC u.1 f (blwN (x >>> ((nI 5) &&& 31)) 4) (blwN (x >>> ((nI 7) &&& 31)) 4)))).1) (40 + f)) := hp112r
    have hp112u : u111 = ((dropP (hintC u.1 f (blwN (x >>> ((nI 5) &&& 31)) 4) (blwN (x >>> ((nI 7) &&& 31)) 4))), F113, u.2.2.1, u.2.2.2) := hp112u
    rw [hp112r]
    rw [hp112u] at hW
    refine lv_iload_n hx hb dL_act_248 rfl (lv_at hl 3 rfl) ?_
    refine lv_bipush (v := nI 7) hx hb dL_act_249 (by decide) ?_
    refine ts_ishr (v := x >>> ((nI 7) &&& 31)) hx hb dL_act_251 rfl ?_
    refine lv_iconst (v := nI 4) hx hb dL_act_252 (by decide) ?_
    refine ts_retI (va_runS (As := [.int (x >>> ((nI 7) &&& 31)), .int (nI 4)]) (rest := [.int (nI ((((dropP (hintC u.1 f (blwN (x >>> ((nI 5) &&& 31)) 4) (blwN (x >>> ((nI 7) &&& 31)) 4)))).1) (40 + f)))]) ⟨hx, hb, hml, hown, hts⟩ (k_L_below l D q b H.size ((dropP (hintC u.1 f (blwN (x >>> ((nI 5) &&& 31)) 4) (blwN (x >>> ((nI 7) &&& 31)) 4))), F113, u.2.2.1, u.2.2.2) (x >>> ((nI 7) &&& 31)) 4 ⟨by omega, by omega⟩) (va_cwS 2 hts gL_act_L_below rfl rfl rfl (by decide +kernel) ⟨Nat.le_of_ble_eq_true rfl, Nat.le_of_ble_eq_true rfl⟩) (ts_preS hK hN hW) rfl rfl hl.1 rfl (lv_room (Nat.le_of_ble_eq_true rfl)) dL_act_253 ⟨Nat.le_of_ble_eq_true rfl, Nat.le_of_ble_eq_true rfl⟩) hS (fun x h => Or.inl (ts_Aup hS.1 h)) (fun r114 u115 H locs hp116 hW hz hk hS => ?_)
    have hV := ts_kept hV (fun x h1 h2 => hk x (by omega) (fun h => by unfold ts_A at h; omega))
    have hbz := Nat.lt_of_lt_of_le hbz hz
    have hp116r : r114 = nI (blwN (x >>> ((nI 7) &&& 31)) 4) := hp116.1
    have hp116u : u115 = ((dropP (hintC u.1 f (blwN (x >>> ((nI 5) &&& 31)) 4) (blwN (x >>> ((nI 7) &&& 31)) 4))), F113, u.2.2.1, u.2.2.2) := hp116.2
    rw [hp116r]
    rw [hp116u] at hW
    have hq117 := blwN_lt (x >>> ((nI 7) &&& 31)) (n := 4) (by omega)
    refine lv_icmp_ne (tgt := 263) hx hb dL_act_256 (by decide) (fun c118 => ?_) (fun c118 => ?_)
    · skip
      exact absurd (congrArg nI hs3) c118
    refine lv_iconst (v := nI 1) hx hb dL_act_259 (by decide) ?_
    refine lv_goto (tgt := 264) hx hb dL_act_260 (by decide) ?_
    refine W.widen (k := 1) (n := 6) (by omega) (by omega) ?_
    exact ts_zretA (u := ((dropP (hintC u.1 f (blwN (x >>> ((nI 5) &&& 31)) 4) (blwN (x >>> ((nI 7) &&& 31)) 4))), F113, u.2.2.1, u.2.2.2)) (g := g) (v := nI 1) C0 rfl hW hV hS (by exact ⟨rfl, Or.inr (Or.inr (Or.inr (Or.inl ⟨_, _, F113, by omega, by omega, rfl⟩)))⟩) dL_act_264
  by_cases c119 : blwN x 11 = 3
  · skip
    refine lv_tableIn (tgt := 265) hx hb dL_act_19 (by rw [c119]; decide) (by rw [c119]; decide) (by rw [c119]; rfl) (by decide) ?_
    refine lv_aload_n hx hb dL_act_265 rfl (lv_at hl 1 rfl) ?_
    refine lv_iload_n hx hb dL_act_266 rfl (lv_at hl 3 rfl) ?_
    refine ts_retI (va_runV (As := [.int (nI f)]) (rest := []) ⟨hx, hb, hml, hown, hts⟩ (k_X5_adopt l D q b H.size (u.1, F8, u.2.2.1, u.2.2.2) f hwf (by show f < u.1.1 1; omega)) (cwV 1 hts gL_act_X5_adopt rfl rfl rfl (by decide +kernel) ⟨Nat.le_of_ble_eq_true rfl, Nat.le_of_ble_eq_true rfl⟩) (ts_preV hK hN hW 0 (by decide) cel_st rfl) rfl rfl hl.1 rfl (lv_room (Nat.le_of_ble_eq_true rfl)) dL_act_267 ⟨Nat.le_of_ble_eq_true rfl, Nat.le_of_ble_eq_true rfl⟩) hS (fun x h => Or.inl (ts_Aup hS.1 h)) (fun r120 u121 H locs hp122 hW hz hk hS => ?_)
    have hV := ts_kept hV (fun x h1 h2 => hk x (by omega) (fun h => by unfold ts_A at h; omega))
    have hbz := Nat.lt_of_lt_of_le hbz hz
    obtain ⟨hp122r, F123, hp122u⟩ := hp122
    have hp122r : r120 = nI (chgN u.1 f (adI u.1 f) (adO u.1 f)) := hp122r
    have hp122u : u121 = ((dropP (hintC u.1 f (adI u.1 f) (adO u.1 f))), F123, u.2.2.1, u.2.2.2) := hp122u
    rw [hp122r]
    rw [hp122u] at hW
    have hai := adI_le hwf (f := f) (by omega)
    have hao := adO_le hwf (f := f) (by omega)
    have hwf2 : WP (dropP (hintC u.1 f (adI u.1 f) (adO u.1 f))) := WP.drop (hwf.hic (by omega) hai hao)
    have hn2 : (dropP (hintC u.1 f (adI u.1 f) (adO u.1 f))).1 1 = u.1.1 1 := hc_1
    have hcl2 := chgN_le (P := u.1) (f := f) (a := adI u.1 f) (o := adO u.1 f)
    refine lv_if_lt (tgt := 285) hx hb dL_act_270 (by decide) (fun c124 => ?_) (fun c124 => ?_)
    · skip
      rw [ts_lt0 (by omega)] at c124
      exfalso; omega
    rw [ts_lt0 (by omega)] at c124
    refine lv_aload_n hx hb dL_act_273 rfl (lv_at hl 1 rfl) ?_
    refine lv_iload_n hx hb dL_act_274 rfl (lv_at hl 3 rfl) ?_
    refine ts_retI (va_runV (As := [.int (nI f)]) (rest := []) ⟨hx, hb, hml, hown, hts⟩ (k_X5_adopt l D q b H.size ((dropP (hintC u.1 f (adI u.1 f) (adO u.1 f))), F123, u.2.2.1, u.2.2.2) f hwf2 (by show f < ((dropP (hintC u.1 f (adI u.1 f) (adO u.1 f)))).1 1; omega)) (cwV 1 hts gL_act_X5_adopt rfl rfl rfl (by decide +kernel) ⟨Nat.le_of_ble_eq_true rfl, Nat.le_of_ble_eq_true rfl⟩) (ts_preV hK hN hW 0 (by decide) cel_st rfl) rfl rfl hl.1 rfl (lv_room (Nat.le_of_ble_eq_true rfl)) dL_act_275 ⟨Nat.le_of_ble_eq_true rfl, Nat.le_of_ble_eq_true rfl⟩) hS (fun x h => Or.inl (ts_Aup hS.1 h)) (fun r125 u126 H locs hp127 hW hz hk hS => ?_)
    have hV := ts_kept hV (fun x h1 h2 => hk x (by omega) (fun h => by unfold ts_A at h; omega))
    have hbz := Nat.lt_of_lt_of_le hbz hz
    obtain ⟨hp127r, F128, hp127u⟩ := hp127
    have hp127r : r125 = nI (chgN (dropP (hintC u.1 f (adI u.1 f) (adO u.1 f))) f (adI (dropP (hintC u.1 f (adI u.1 f) (adO u.1 f))) f) (adO (dropP (hintC u.1 f (adI u.1 f) (adO u.1 f))) f)) := hp127r
    have hp127u : u126 = ((dropP (hintC (dropP (hintC u.1 f (adI u.1 f) (adO u.1 f))) f (adI (dropP (hintC u.1 f (adI u.1 f) (adO u.1 f))) f) (adO (dropP (hintC u.1 f (adI u.1 f) (adO u.1 f))) f))), F128, u.2.2.1, u.2.2.2) := hp127u
    rw [hp127r]
    rw [hp127u] at hW
    have hai2 := adI_le hwf2 (f := f) (by omega)
    have hao2 := adO_le hwf2 (f := f) (by omega)
    refine lv_if_ne (tgt := 285) hx hb dL_act_278 (by decide) (fun c129 => ?_) (fun c129 => ?_)
    · skip
      exact absurd (congrArg nI (adopt_twice hwf (f := f) (by omega))) c129
    refine lv_iconst (v := nI 1) hx hb dL_act_281 (by decide) ?_
    refine lv_goto (tgt := 286) hx hb dL_act_282 (by decide) ?_
    refine W.widen (k := 1) (n := 6) (by omega) (by omega) ?_
    exact ts_zretA (u := ((dropP (hintC (dropP (hintC u.1 f (adI u.1 f) (adO u.1 f))) f (adI (dropP (hintC u.1 f (adI u.1 f) (adO u.1 f))) f) (adO (dropP (hintC u.1 f (adI u.1 f) (adO u.1 f))) f))), F128, u.2.2.1, u.2.2.2)) (g := g) (v := nI 1) C0 rfl hW hV hS (by exact ⟨rfl, Or.inr (Or.inr (Or.inr (Or.inr (Or.inl ⟨_, _, _, _, F128, hai, hao, hai2, hao2, rfl⟩))))⟩) dL_act_286
  by_cases c130 : blwN x 11 = 4
  · skip
    refine lv_tableIn (tgt := 265) hx hb dL_act_19 (by rw [c130]; decide) (by rw [c130]; decide) (by rw [c130]; rfl) (by decide) ?_
    refine lv_aload_n hx hb dL_act_265 rfl (lv_at hl 1 rfl) ?_
    refine lv_iload_n hx hb dL_act_266 rfl (lv_at hl 3 rfl) ?_
    refine ts_retI (va_runV (As := [.int (nI f)]) (rest := []) ⟨hx, hb, hml, hown, hts⟩ (k_X5_adopt l D q b H.size (u.1, F8, u.2.2.1, u.2.2.2) f hwf (by show f < u.1.1 1; omega)) (cwV 1 hts gL_act_X5_adopt rfl rfl rfl (by decide +kernel) ⟨Nat.le_of_ble_eq_true rfl, Nat.le_of_ble_eq_true rfl⟩) (ts_preV hK hN hW 0 (by decide) cel_st rfl) rfl rfl hl.1 rfl (lv_room (Nat.le_of_ble_eq_true rfl)) dL_act_267 ⟨Nat.le_of_ble_eq_true rfl, Nat.le_of_ble_eq_true rfl⟩) hS (fun x h => Or.inl (ts_Aup hS.1 h)) (fun r131 u132 H locs hp133 hW hz hk hS => ?_)
    have hV := ts_kept hV (fun x h1 h2 => hk x (by omega) (fun h => by unfold ts_A at h; omega))
    have hbz := Nat.lt_of_lt_of_le hbz hz
    obtain ⟨hp133r, F134, hp133u⟩ := hp133
    have hp133r : r131 = nI (chgN u.1 f (adI u.1 f) (adO u.1 f)) := hp133r
    have hp133u : u132 = ((dropP (hintC u.1 f (adI u.1 f) (adO u.1 f))), F134, u.2.2.1, u.2.2.2) := hp133u
    rw [hp133r]
    rw [hp133u] at hW
    have hai := adI_le hwf (f := f) (by omega)
    have hao := adO_le hwf (f := f) (by omega)
    have hwf2 : WP (dropP (hintC u.1 f (adI u.1 f) (adO u.1 f))) := WP.drop (hwf.hic (by omega) hai hao)
    have hn2 : (dropP (hintC u.1 f (adI u.1 f) (adO u.1 f))).1 1 = u.1.1 1 := hc_1
    have hcl2 := chgN_le (P := u.1) (f := f) (a := adI u.1 f) (o := adO u.1 f)
    refine lv_if_lt (tgt := 285) hx hb dL_act_270 (by decide) (fun c135 => ?_) (fun c135 => ?_)
    · skip
      rw [ts_lt0 (by omega)] at c135
      exfalso; omega
    rw [ts_lt0 (by omega)] at c135
    refine lv_aload_n hx hb dL_act_273 rfl (lv_at hl 1 rfl) ?_
    refine lv_iload_n hx hb dL_act_274 rfl (lv_at hl 3 rfl) ?_
    refine ts_retI (va_runV (As := [.int (nI f)]) (rest := []) ⟨hx, hb, hml, hown, hts⟩ (k_X5_adopt l D q b H.size ((dropP (hintC u.1 f (adI u.1 f) (adO u.1 f))), F134, u.2.2.1, u.2.2.2) f hwf2 (by show f < ((dropP (hintC u.1 f (adI u.1 f) (adO u.1 f)))).1 1; omega)) (cwV 1 hts gL_act_X5_adopt rfl rfl rfl (by decide +kernel) ⟨Nat.le_of_ble_eq_true rfl, Nat.le_of_ble_eq_true rfl⟩) (ts_preV hK hN hW 0 (by decide) cel_st rfl) rfl rfl hl.1 rfl (lv_room (Nat.le_of_ble_eq_true rfl)) dL_act_275 ⟨Nat.le_of_ble_eq_true rfl, Nat.le_of_ble_eq_true rfl⟩) hS (fun x h => Or.inl (ts_Aup hS.1 h)) (fun r136 u137 H locs hp138 hW hz hk hS => ?_)
    have hV := ts_kept hV (fun x h1 h2 => hk x (by omega) (fun h => by unfold ts_A at h; omega))
    have hbz := Nat.lt_of_lt_of_le hbz hz
    obtain ⟨hp138r, F139, hp138u⟩ := hp138
    have hp138r : r136 = nI (chgN (dropP (hintC u.1 f (adI u.1 f) (adO u.1 f))) f (adI (dropP (hintC u.1 f (adI u.1 f) (adO u.1 f))) f) (adO (dropP (hintC u.1 f (adI u.1 f) (adO u.1 f))) f)) := hp138r
    have hp138u : u137 = ((dropP (hintC (dropP (hintC u.1 f (adI u.1 f) (adO u.1 f))) f (adI (dropP (hintC u.1 f (adI u.1 f) (adO u.1 f))) f) (adO (dropP (hintC u.1 f (adI u.1 f) (adO u.1 f))) f))), F139, u.2.2.1, u.2.2.2) := hp138u
    rw [hp138r]
    rw [hp138u] at hW
    have hai2 := adI_le hwf2 (f := f) (by omega)
    have hao2 := adO_le hwf2 (f := f) (by omega)
    refine lv_if_ne (tgt := 285) hx hb dL_act_278 (by decide) (fun c140 => ?_) (fun c140 => ?_)
    · skip
      exact absurd (congrArg nI (adopt_twice hwf (f := f) (by omega))) c140
    refine lv_iconst (v := nI 1) hx hb dL_act_281 (by decide) ?_
    refine lv_goto (tgt := 286) hx hb dL_act_282 (by decide) ?_
    refine W.widen (k := 1) (n := 6) (by omega) (by omega) ?_
    exact ts_zretA (u := ((dropP (hintC (dropP (hintC u.1 f (adI u.1 f) (adO u.1 f))) f (adI (dropP (hintC u.1 f (adI u.1 f) (adO u.1 f))) f) (adO (dropP (hintC u.1 f (adI u.1 f) (adO u.1 f))) f))), F139, u.2.2.1, u.2.2.2)) (g := g) (v := nI 1) C0 rfl hW hV hS (by exact ⟨rfl, Or.inr (Or.inr (Or.inr (Or.inr (Or.inl ⟨_, _, _, _, F139, hai, hao, hai2, hao2, rfl⟩))))⟩) dL_act_286
  by_cases c141 : blwN x 11 = 5
  · skip
    refine lv_tableIn (tgt := 287) hx hb dL_act_19 (by rw [c141]; decide) (by rw [c141]; decide) (by rw [c141]; rfl) (by decide) ?_
    refine lv_aload_n hx hb dL_act_287 rfl (lv_at hl 1 rfl) ?_
    refine lv_iload_n hx hb dL_act_288 rfl (lv_at hl 3 rfl) ?_
    refine lv_iconst (v := nI 1) hx hb dL_act_289 (by decide) ?_
    by_cases hok : okF u.1 f = true
    · skip
      refine ts_retI (va_runV (As := [.int (nI f), .int (nI 1)]) (rest := []) ⟨hx, hb, hml, hown, hts⟩ (k_X5_type l D q b H.size (u.1, F8, u.2.2.1, u.2.2.2) f hwf (show f < u.1.1 1 by omega) hok) (cwV 2 hts gL_act_X5_type rfl rfl rfl (by decide +kernel) ⟨Nat.le_of_ble_eq_true rfl, Nat.le_of_ble_eq_true rfl⟩) (ts_preV hK hN hW 0 (by decide) cel_st rfl) rfl rfl hl.1 rfl (lv_room (Nat.le_of_ble_eq_true rfl)) dL_act_290 ⟨Nat.le_of_ble_eq_true rfl, Nat.le_of_ble_eq_true rfl⟩) hS (fun x h => Or.inl (ts_Aup hS.1 h)) (fun r142 u143 H locs hp144 hW hz hk hS => ?_)
      have hV := ts_kept hV (fun x h1 h2 => hk x (by omega) (fun h => by unfold ts_A at h; omega))
      have hbz := Nat.lt_of_lt_of_le hbz hz
      obtain ⟨hp144r, F145, hp144u⟩ := hp144
      have hp144r : r142 = b2i (hasB (u.1.1 2) f) := hp144r
      have hp144u : u143 = ((va_up u.1.1 2 (setB (u.1.1 2) f), u.1.2), F145, u.2.2.1, u.2.2.2) := hp144u
      rw [hp144r]
      rw [hp144u] at hW
      have hwf2 : WP (va_up u.1.1 2 (setB (u.1.1 2) f), u.1.2) := hwf.typ (setB_lt hwf.ty (by omega))
      have hn2 : (va_up u.1.1 2 (setB (u.1.1 2) f), u.1.2).1 1 = u.1.1 1 := tp_ne u.1 _ (by decide)
      have hq2 : (va_up u.1.1 2 (setB (u.1.1 2) f), u.1.2).1 2 = setB (u.1.1 2) f := tp_self u.1 _
      have hc2 : (hasB (u.1.1 2) f = true ∧ cntB ((va_up u.1.1 2 (setB (u.1.1 2) f), u.1.2).1 2) 10 = cntB (u.1.1 2) 10) ∨ (hasB (u.1.1 2) f = false ∧ cntB ((va_up u.1.1 2 (setB (u.1.1 2) f), u.1.2).1 2) 10 = cntB (u.1.1 2) 10 + 1) := by rw [hq2]; exact typ_cnt (by omega)
      have hb2 : hasB ((va_up u.1.1 2 (setB (u.1.1 2) f), u.1.2).1 2) f = true := by rw [hq2]; exact hasB_setS _ _
      have hty2 : tyOK (va_up u.1.1 2 (setB (u.1.1 2) f), u.1.2) := tyOK.set hty hok (by omega)
      have hcn2 := hty2.cnt (show (va_up u.1.1 2 (setB (u.1.1 2) f), u.1.2).1 1 ≤ 10 by omega)
      refine lv_aload_n hx hb dL_act_293 rfl (lv_at hl 1 rfl) ?_
      refine lv_iconst (v := nI 0) hx hb dL_act_294 (by decide) ?_
      refine ts_retI (va_runV (As := [.int (nI 0)]) (rest := [.int (b2i (hasB (u.1.1 2) f))]) ⟨hx, hb, hml, hown, hts⟩ (k_X5_many l D q b H.size ((va_up u.1.1 2 (setB (u.1.1 2) f), u.1.2), F145, u.2.2.1, u.2.2.2) 0 hwf2 (by omega)) (cwV 1 hts gL_act_X5_many rfl rfl rfl (by decide +kernel) ⟨Nat.le_of_ble_eq_true rfl, Nat.le_of_ble_eq_true rfl⟩) (ts_preV hK hN hW 0 (by decide) cel_st rfl) rfl rfl hl.1 rfl (lv_room (Nat.le_of_ble_eq_true rfl)) dL_act_295 ⟨Nat.le_of_ble_eq_true rfl, Nat.le_of_ble_eq_true rfl⟩) hS (fun x h => Or.inl (ts_Aup hS.1 h)) (fun r146 u147 H locs hp148 hW hz hk hS => ?_)
      have hV := ts_kept hV (fun x h1 h2 => hk x (by omega) (fun h => by unfold ts_A at h; omega))
      have hbz := Nat.lt_of_lt_of_le hbz hz
      obtain ⟨hp148r, F149, hp148u⟩ := hp148
      have hp148r : r146 = nI ((((va_up u.1.1 2 (setB (u.1.1 2) f), u.1.2)).1) 1) := hp148r
      have hp148u : u147 = ((va_up u.1.1 2 (setB (u.1.1 2) f), u.1.2), F149, u.2.2.1, u.2.2.2) := hp148u
      rw [hp148r]
      rw [hp148u] at hW
      refine lv_aload_n hx hb dL_act_298 rfl (lv_at hl 1 rfl) ?_
      refine lv_iconst (v := nI 1) hx hb dL_act_299 (by decide) ?_
      refine ts_retI (va_runV (As := [.int (nI 1)]) (rest := [.int (nI ((((va_up u.1.1 2 (setB (u.1.1 2) f), u.1.2)).1) 1)), .int (b2i (hasB (u.1.1 2) f))]) ⟨hx, hb, hml, hown, hts⟩ (k_X5_many l D q b H.size ((va_up u.1.1 2 (setB (u.1.1 2) f), u.1.2), F149, u.2.2.1, u.2.2.2) 1 hwf2 (by omega)) (cwV 1 hts gL_act_X5_many rfl rfl rfl (by decide +kernel) ⟨Nat.le_of_ble_eq_true rfl, Nat.le_of_ble_eq_true rfl⟩) (ts_preV hK hN hW 0 (by decide) cel_st rfl) rfl rfl hl.1 rfl (lv_room (Nat.le_of_ble_eq_true rfl)) dL_act_300 ⟨Nat.le_of_ble_eq_true rfl, Nat.le_of_ble_eq_true rfl⟩) hS (fun x h => Or.inl (ts_Aup hS.1 h)) (fun r150 u151 H locs hp152 hW hz hk hS => ?_)
      have hV := ts_kept hV (fun x h1 h2 => hk x (by omega) (fun h => by unfold ts_A at h; omega))
      have hbz := Nat.lt_of_lt_of_le hbz hz
      obtain ⟨hp152r, F153, hp152u⟩ := hp152
      have hp152r : r150 = nI (cntB ((((va_up u.1.1 2 (setB (u.1.1 2) f), u.1.2)).1) 2) 10) := hp152r
      have hp152u : u151 = ((va_up u.1.1 2 (setB (u.1.1 2) f), u.1.2), F153, u.2.2.1, u.2.2.2) := hp152u
      rw [hp152r]
      rw [hp152u] at hW
      refine ts_isub (v := nI (((((va_up u.1.1 2 (setB (u.1.1 2) f), u.1.2)).1) 1) - (cntB ((((va_up u.1.1 2 (setB (u.1.1 2) f), u.1.2)).1) 2) 10))) hx hb dL_act_303 (pk_sub (by omega)) ?_
      refine lv_iload hx hb dL_act_304 (lv_at hl 0 rfl) ?_
      refine lv_icmp_ne (tgt := 313) hx hb dL_act_306 (by decide) (fun c154 => ?_) (fun c154 => ?_)
      · skip
        rw [nI_eq (by omega) (by omega)] at c154
        refine lv_iconst (v := nI 0) hx hb dL_act_313 (by decide) ?_
        refine lv_icmp_ne (tgt := 331) hx hb dL_act_314 (by decide) (fun c155 => ?_) (fun c155 => ?_)
        · skip
          rw [ts_b0] at c155
          rcases hc2 with ⟨q1, q2⟩ | ⟨q1, q2⟩ <;> first | exact absurd q1 c155 | (exfalso; omega)
        rw [ts_b0] at c155
        refine lv_aload_n hx hb dL_act_317 rfl (lv_at hl 1 rfl) ?_
        refine lv_iload_n hx hb dL_act_318 rfl (lv_at hl 3 rfl) ?_
        refine lv_iconst (v := nI 3) hx hb dL_act_319 (by decide) ?_
        refine ts_retI (va_runV (As := [.int (nI f), .int (nI 3)]) (rest := []) ⟨hx, hb, hml, hown, hts⟩ (k_X5_ofFunction l D q b H.size ((va_up u.1.1 2 (setB (u.1.1 2) f), u.1.2), F153, u.2.2.1, u.2.2.2) f 3 hwf2 (by show f < ((va_up u.1.1 2 (setB (u.1.1 2) f), u.1.2)).1 1; omega) (by omega)) (cwV 2 hts gL_act_X5_ofFunction rfl rfl rfl (by decide +kernel) ⟨Nat.le_of_ble_eq_true rfl, Nat.le_of_ble_eq_true rfl⟩) (ts_preV hK hN hW 0 (by decide) cel_st rfl) rfl rfl hl.1 rfl (lv_room (Nat.le_of_ble_eq_true rfl)) dL_act_320 ⟨Nat.le_of_ble_eq_true rfl, Nat.le_of_ble_eq_true rfl⟩) hS (fun x h => Or.inl (ts_Aup hS.1 h)) (fun r156 u157 H locs hp158 hW hz hk hS => ?_)
        have hV := ts_kept hV (fun x h1 h2 => hk x (by omega) (fun h => by unfold ts_A at h; omega))
        have hbz := Nat.lt_of_lt_of_le hbz hz
        obtain ⟨hp158r, F159, hp158u⟩ := hp158
        have hp158r : r156 = b2i (hasB ((((va_up u.1.1 2 (setB (u.1.1 2) f), u.1.2)).1) 2) f) := hp158r
        have hp158u : u157 = ((va_up u.1.1 2 (setB (u.1.1 2) f), u.1.2), F159, u.2.2.1, u.2.2.2) := hp158u
        rw [hp158r]
        rw [hp158u] at hW
        refine lv_iconst (v := nI 1) hx hb dL_act_323 (by decide) ?_
        refine lv_icmp_ne (tgt := 331) hx hb dL_act_324 (by decide) (fun c160 => ?_) (fun c160 => ?_)
        · skip
          rw [ts_b1] at c160
          exact absurd hb2 c160
        rw [ts_b1] at c160
        refine lv_iconst (v := nI 1) hx hb dL_act_327 (by decide) ?_
        refine lv_goto (tgt := 332) hx hb dL_act_328 (by decide) ?_
        refine W.widen (k := 1) (n := 6) (by omega) (by omega) ?_
        exact ts_zretA (u := ((va_up u.1.1 2 (setB (u.1.1 2) f), u.1.2), F159, u.2.2.1, u.2.2.2)) (g := g) (v := nI 1) C0 rfl hW hV hS (by exact ⟨rfl, Or.inr (Or.inr (Or.inr (Or.inr (Or.inr (Or.inl ⟨F159, hok, rfl⟩)))))⟩) dL_act_332
      rw [nI_eq (by omega) (by omega)] at c154
      refine lv_iconst (v := nI 1) hx hb dL_act_309 (by decide) ?_
      refine lv_goto (tgt := 314) hx hb dL_act_310 (by decide) ?_
      refine lv_icmp_ne (tgt := 331) hx hb dL_act_314 (by decide) (fun c161 => ?_) (fun c161 => ?_)
      · skip
        rw [ts_b1] at c161
        rcases hc2 with ⟨q1, q2⟩ | ⟨q1, q2⟩ <;> first | exact absurd q1 c161 | (exfalso; omega)
      rw [ts_b1] at c161
      refine lv_aload_n hx hb dL_act_317 rfl (lv_at hl 1 rfl) ?_
      refine lv_iload_n hx hb dL_act_318 rfl (lv_at hl 3 rfl) ?_
      refine lv_iconst (v := nI 3) hx hb dL_act_319 (by decide) ?_
      refine ts_retI (va_runV (As := [.int (nI f), .int (nI 3)]) (rest := []) ⟨hx, hb, hml, hown, hts⟩ (k_X5_ofFunction l D q b H.size ((va_up u.1.1 2 (setB (u.1.1 2) f), u.1.2), F153, u.2.2.1, u.2.2.2) f 3 hwf2 (by show f < ((va_up u.1.1 2 (setB (u.1.1 2) f), u.1.2)).1 1; omega) (by omega)) (cwV 2 hts gL_act_X5_ofFunction rfl rfl rfl (by decide +kernel) ⟨Nat.le_of_ble_eq_true rfl, Nat.le_of_ble_eq_true rfl⟩) (ts_preV hK hN hW 0 (by decide) cel_st rfl) rfl rfl hl.1 rfl (lv_room (Nat.le_of_ble_eq_true rfl)) dL_act_320 ⟨Nat.le_of_ble_eq_true rfl, Nat.le_of_ble_eq_true rfl⟩) hS (fun x h => Or.inl (ts_Aup hS.1 h)) (fun r162 u163 H locs hp164 hW hz hk hS => ?_)
      have hV := ts_kept hV (fun x h1 h2 => hk x (by omega) (fun h => by unfold ts_A at h; omega))
      have hbz := Nat.lt_of_lt_of_le hbz hz
      obtain ⟨hp164r, F165, hp164u⟩ := hp164
      have hp164r : r162 = b2i (hasB ((((va_up u.1.1 2 (setB (u.1.1 2) f), u.1.2)).1) 2) f) := hp164r
      have hp164u : u163 = ((va_up u.1.1 2 (setB (u.1.1 2) f), u.1.2), F165, u.2.2.1, u.2.2.2) := hp164u
      rw [hp164r]
      rw [hp164u] at hW
      refine lv_iconst (v := nI 1) hx hb dL_act_323 (by decide) ?_
      refine lv_icmp_ne (tgt := 331) hx hb dL_act_324 (by decide) (fun c166 => ?_) (fun c166 => ?_)
      · skip
        rw [ts_b1] at c166
        exact absurd hb2 c166
      rw [ts_b1] at c166
      refine lv_iconst (v := nI 1) hx hb dL_act_327 (by decide) ?_
      refine lv_goto (tgt := 332) hx hb dL_act_328 (by decide) ?_
      refine W.widen (k := 1) (n := 6) (by omega) (by omega) ?_
      exact ts_zretA (u := ((va_up u.1.1 2 (setB (u.1.1 2) f), u.1.2), F165, u.2.2.1, u.2.2.2)) (g := g) (v := nI 1) C0 rfl hW hV hS (by exact ⟨rfl, Or.inr (Or.inr (Or.inr (Or.inr (Or.inr (Or.inl ⟨F165, hok, rfl⟩)))))⟩) dL_act_332
    have hok : okF u.1 f = false := by cases qq : okF u.1 f with | false => rfl | true => exact absurd qq hok
    refine ts_xcall (vx_runV (As := [.int (nI f), .int (nI 1)]) (rest := []) ⟨hx, hb, hml, hown, hts⟩ (x_X5_type l hlt D q b H.size (u.1, F8, u.2.2.1, u.2.2.2) a1 a2 a3 f hwf (show f < u.1.1 1 by omega) hok) (cwV 2 hts gL_act_X5_type rfl rfl rfl (by decide +kernel) ⟨Nat.le_of_ble_eq_true rfl, Nat.le_of_ble_eq_true rfl⟩) (ts_preE hK hN hW (hE.kept (fun a h1 h2 => hS.2.1 a h1 (fun h => by unfold ts_AB ts_A at h; omega)))) rfl rfl hl.1 rfl (lv_room (Nat.le_of_ble_eq_true rfl)) dL_act_290 ⟨Nat.le_of_ble_eq_true rfl, Nat.le_of_ble_eq_true rfl⟩) hS (fun x h => Or.inl (ts_Aup hS.1 h)) hown (hh := [(13, 102, 400, 90), (103, 159, 400, 90), (160, 264, 400, 90), (265, 286, 400, 90), (287, 332, 400, 90), (333, 368, 400, 90), (369, 391, 400, 90), (392, 399, 400, 90)]) hT ((tableOf [(13, 102, 400, 90), (103, 159, 400, 90), (160, 264, 400, 90), (265, 286, 400, 90), (287, 332, 400, 90), (333, 368, 400, 90), (369, 391, 400, 90), (392, 399, 400, 90)]).take 4) ((tableOf [(13, 102, 400, 90), (103, 159, 400, 90), (160, 264, 400, 90), (265, 286, 400, 90), (287, 332, 400, 90), (333, 368, 400, 90), (369, 391, 400, 90), (392, 399, 400, 90)])[4]) ((tableOf [(13, 102, 400, 90), (103, 159, 400, 90), (160, 264, 400, 90), (265, 286, 400, 90), (287, 332, 400, 90), (333, 368, 400, 90), (369, 391, 400, 90), (392, 399, 400, 90)]).drop (4 + 1)) rfl (by decide) rfl rfl rfl (hts _ (List.mem_of_getElem? (i := 1) rfl)) (va_tabs rfl rfl (hE.2.2 _ (by unfold th_L; simp))) (fun q9 F167 H locs hW hz hk hS => ?_)
    have hV := ts_kept hV (fun x h1 h2 => hk x (by omega) (fun h => by unfold ts_A at h; omega))
    have hbz := Nat.lt_of_lt_of_le hbz hz
    refine lv_astore (lv' := [(5, .ref q9), (4, .int (nI ((u.1.1 1) - (cntB (u.1.1 2) 10)))), (0, .ref (b + 0)), (1, .int x), (2, .int (nI f)), (3, .ref (bb + 0))]) hx hb dL_act_400 hl (by decide) rfl (fun ls hl => ?_)
    refine lv_iload_n hx hb dL_act_402 rfl (lv_at hl 3 rfl) ?_
    refine lv_bipush (v := nI 11) hx hb dL_act_403 (by decide) ?_
    refine ts_retI (va_runS (As := [.int x, .int (nI 11)]) (rest := []) ⟨hx, hb, hml, hown, hts⟩ (k_L_below l D q b H.size (u.1, F167, u.2.2.1, u.2.2.2) x 11 ⟨by omega, by omega⟩) (va_cwS 2 hts gL_act_L_below rfl rfl rfl (by decide +kernel) ⟨Nat.le_of_ble_eq_true rfl, Nat.le_of_ble_eq_true rfl⟩) (ts_preS hK hN hW) rfl rfl hl.1 rfl (lv_room (Nat.le_of_ble_eq_true rfl)) dL_act_405 ⟨Nat.le_of_ble_eq_true rfl, Nat.le_of_ble_eq_true rfl⟩) hS (fun x h => Or.inl (ts_Aup hS.1 h)) (fun r168 u169 H locs hp170 hW hz hk hS => ?_)
    have hV := ts_kept hV (fun x h1 h2 => hk x (by omega) (fun h => by unfold ts_A at h; omega))
    have hbz := Nat.lt_of_lt_of_le hbz hz
    have hp170r : r168 = nI (blwN x 11) := hp170.1
    have hp170u : u169 = (u.1, F167, u.2.2.1, u.2.2.2) := hp170.2
    rw [hp170r]
    rw [hp170u] at hW
    have hq171 := blwN_lt x (n := 11) (by omega)
    refine lv_iconst (v := nI 2) hx hb dL_act_408 (by decide) ?_
    refine lv_icmp_lt (tgt := 448) hx hb dL_act_409 (by decide) (fun c172 => ?_) (fun c172 => ?_)
    · skip
      rw [nI_ltI (by omega) (by omega)] at c172
      refine lv_iconst (v := nI 1) hx hb dL_act_448 (by decide) ?_
      refine lv_goto (tgt := 453) hx hb dL_act_449 (by decide) ?_
      refine W.widen (k := 1) (n := 6) (by omega) (by omega) ?_
      exact ts_zretA (u := (u.1, F167, u.2.2.1, u.2.2.2)) (g := g) (v := nI 1) C0 rfl hW hV hS (by exact ⟨rfl, Or.inl ⟨F167, rfl⟩⟩) dL_act_453
    rw [nI_ltI (by omega) (by omega)] at c172
    refine lv_iload_n hx hb dL_act_412 rfl (lv_at hl 3 rfl) ?_
    refine lv_bipush (v := nI 11) hx hb dL_act_413 (by decide) ?_
    refine ts_retI (va_runS (As := [.int x, .int (nI 11)]) (rest := []) ⟨hx, hb, hml, hown, hts⟩ (k_L_below l D q b H.size (u.1, F167, u.2.2.1, u.2.2.2) x 11 ⟨by omega, by omega⟩) (va_cwS 2 hts gL_act_L_below rfl rfl rfl (by decide +kernel) ⟨Nat.le_of_ble_eq_true rfl, Nat.le_of_ble_eq_true rfl⟩) (ts_preS hK hN hW) rfl rfl hl.1 rfl (lv_room (Nat.le_of_ble_eq_true rfl)) dL_act_415 ⟨Nat.le_of_ble_eq_true rfl, Nat.le_of_ble_eq_true rfl⟩) hS (fun x h => Or.inl (ts_Aup hS.1 h)) (fun r173 u174 H locs hp175 hW hz hk hS => ?_)
    have hV := ts_kept hV (fun x h1 h2 => hk x (by omega) (fun h => by unfold ts_A at h; omega))
    have hbz := Nat.lt_of_lt_of_le hbz hz
    have hp175r : r173 = nI (blwN x 11) := hp175.1
    have hp175u : u174 = (u.1, F167, u.2.2.1, u.2.2.2) := hp175.2
    rw [hp175r]
    rw [hp175u] at hW
    have hq176 := blwN_lt x (n := 11) (by omega)
    refine lv_iconst (v := nI 5) hx hb dL_act_418 (by decide) ?_
    refine lv_icmp_ne (tgt := 452) hx hb dL_act_419 (by decide) (fun c177 => ?_) (fun c177 => ?_)
    · skip
      rw [nI_eq (by omega) (by omega)] at c177
      exfalso; omega
    rw [nI_eq (by omega) (by omega)] at c177
    refine lv_aload_n hx hb dL_act_422 rfl (lv_at hl 2 rfl) ?_
    refine lv_iload_n hx hb dL_act_423 rfl (lv_at hl 4 rfl) ?_
    refine lv_iconst (v := nI 3) hx hb dL_act_424 (by decide) ?_
    refine ts_retI (va_runV (As := [.int (nI f), .int (nI 3)]) (rest := []) ⟨hx, hb, hml, hown, hts⟩ (k_X5_ofFunction l D q b H.size (u.1, F167, u.2.2.1, u.2.2.2) f 3 hwf (by show f < u.1.1 1; omega) (by omega)) (cwV 2 hts gL_act_X5_ofFunction rfl rfl rfl (by decide +kernel) ⟨Nat.le_of_ble_eq_true rfl, Nat.le_of_ble_eq_true rfl⟩) (ts_preV hK hN hW 0 (by decide) cel_st rfl) rfl rfl hl.1 rfl (lv_room (Nat.le_of_ble_eq_true rfl)) dL_act_425 ⟨Nat.le_of_ble_eq_true rfl, Nat.le_of_ble_eq_true rfl⟩) hS (fun x h => Or.inl (ts_Aup hS.1 h)) (fun r178 u179 H locs hp180 hW hz hk hS => ?_)
    have hV := ts_kept hV (fun x h1 h2 => hk x (by omega) (fun h => by unfold ts_A at h; omega))
    have hbz := Nat.lt_of_lt_of_le hbz hz
    obtain ⟨hp180r, F181, hp180u⟩ := hp180
    have hp180r : r178 = b2i (hasB (u.1.1 2) f) := hp180r
    have hp180u : u179 = (u.1, F181, u.2.2.1, u.2.2.2) := hp180u
    rw [hp180r]
    rw [hp180u] at hW
    refine lv_if_ne (tgt := 452) hx hb dL_act_428 (by decide) (fun c182 => ?_) (fun c182 => ?_)
    · skip
      have c182 := ts_bt c182
      exact absurd ((hty _ c182).2) (by rw [hok]; decide)
    have c182 := ts_bf c182
    refine lv_aload_n hx hb dL_act_431 rfl (lv_at hl 2 rfl) ?_
    refine lv_iload_n hx hb dL_act_432 rfl (lv_at hl 4 rfl) ?_
    refine lv_iconst (v := nI 4) hx hb dL_act_433 (by decide) ?_
    refine ts_retI (va_runV (As := [.int (nI f), .int (nI 4)]) (rest := []) ⟨hx, hb, hml, hown, hts⟩ (k_X5_ofFunction l D q b H.size (u.1, F181, u.2.2.1, u.2.2.2) f 4 hwf (by show f < u.1.1 1; omega) (by omega)) (cwV 2 hts gL_act_X5_ofFunction rfl rfl rfl (by decide +kernel) ⟨Nat.le_of_ble_eq_true rfl, Nat.le_of_ble_eq_true rfl⟩) (ts_preV hK hN hW 0 (by decide) cel_st rfl) rfl rfl hl.1 rfl (lv_room (Nat.le_of_ble_eq_true rfl)) dL_act_434 ⟨Nat.le_of_ble_eq_true rfl, Nat.le_of_ble_eq_true rfl⟩) hS (fun x h => Or.inl (ts_Aup hS.1 h)) (fun r183 u184 H locs hp185 hW hz hk hS => ?_)
    have hV := ts_kept hV (fun x h1 h2 => hk x (by omega) (fun h => by unfold ts_A at h; omega))
    have hbz := Nat.lt_of_lt_of_le hbz hz
    obtain ⟨hp185r, F186, hp185u⟩ := hp185
    have hp185r : r183 = nI ((chkA u.1 f).1) := hp185r
    have hp185u : u184 = (u.1, F186, u.2.2.1, u.2.2.2) := hp185u
    rw [hp185r]
    rw [hp185u] at hW
    refine lv_aload_n hx hb dL_act_437 rfl (lv_at hl 2 rfl) ?_
    refine lv_iload_n hx hb dL_act_438 rfl (lv_at hl 4 rfl) ?_
    refine lv_bipush (v := nI 6) hx hb dL_act_439 (by decide) ?_
    refine ts_retI (va_runV (As := [.int (nI f), .int (nI 6)]) (rest := [.int (nI ((chkA u.1 f).1))]) ⟨hx, hb, hml, hown, hts⟩ (k_X5_ofFunction l D q b H.size (u.1, F186, u.2.2.1, u.2.2.2) f 6 hwf (by show f < u.1.1 1; omega) (by omega)) (cwV 2 hts gL_act_X5_ofFunction rfl rfl rfl (by decide +kernel) ⟨Nat.le_of_ble_eq_true rfl, Nat.le_of_ble_eq_true rfl⟩) (ts_preV hK hN hW 0 (by decide) cel_st rfl) rfl rfl hl.1 rfl (lv_room (Nat.le_of_ble_eq_true rfl)) dL_act_441 ⟨Nat.le_of_ble_eq_true rfl, Nat.le_of_ble_eq_true rfl⟩) hS (fun x h => Or.inl (ts_Aup hS.1 h)) (fun r187 u188 H locs hp189 hW hz hk hS => ?_)
    have hV := ts_kept hV (fun x h1 h2 => hk x (by omega) (fun h => by unfold ts_A at h; omega))
    have hbz := Nat.lt_of_lt_of_le hbz hz
    obtain ⟨hp189r, F190, hp189u⟩ := hp189
    have hp189r : r187 = nI ((chkA u.1 f).2.2) := hp189r
    have hp189u : u188 = (u.1, F190, u.2.2.1, u.2.2.2) := hp189u
    rw [hp189r]
    rw [hp189u] at hW
    refine ts_iadd (v := nI (((chkA u.1 f).1) + ((chkA u.1 f).2.2))) hx hb dL_act_444 (nI_add _ _) ?_
    refine lv_if_le (tgt := 452) hx hb dL_act_445 (by decide) (fun c191 => ?_) (fun c191 => ?_)
    · skip
      rw [ts_le0 (by omega)] at c191
      exact absurd (okF_of (P := u.1) (f := f) (by omega)) (by rw [hok]; decide)
    rw [ts_le0 (by omega)] at c191
    refine lv_iconst (v := nI 1) hx hb dL_act_448 (by decide) ?_
    refine lv_goto (tgt := 453) hx hb dL_act_449 (by decide) ?_
    refine W.widen (k := 1) (n := 6) (by omega) (by omega) ?_
    exact ts_zretA (u := (u.1, F190, u.2.2.1, u.2.2.2)) (g := g) (v := nI 1) C0 rfl hW hV hS (by exact ⟨rfl, Or.inl ⟨F190, rfl⟩⟩) dL_act_453
  by_cases c192 : blwN x 11 = 6
  · skip
    refine lv_tableIn (tgt := 333) hx hb dL_act_19 (by rw [c192]; decide) (by rw [c192]; decide) (by rw [c192]; rfl) (by decide) ?_
    refine lv_aload_n hx hb dL_act_333 rfl (lv_at hl 1 rfl) ?_
    refine lv_iconst (v := nI 1) hx hb dL_act_334 (by decide) ?_
    refine lv_iload_n hx hb dL_act_335 rfl (lv_at hl 2 rfl) ?_
    refine lv_iconst (v := nI 4) hx hb dL_act_336 (by decide) ?_
    refine ts_ishr (v := x >>> ((nI 4) &&& 31)) hx hb dL_act_337 rfl ?_
    refine lv_iconst (v := nI 3) hx hb dL_act_338 (by decide) ?_
    refine ts_retI (va_runS (As := [.int (x >>> ((nI 4) &&& 31)), .int (nI 3)]) (rest := [.int (nI 1), .ref (b + 0)]) ⟨hx, hb, hml, hown, hts⟩ (k_L_below l D q b H.size (u.1, F8, u.2.2.1, u.2.2.2) (x >>> ((nI 4) &&& 31)) 3 ⟨by omega, by omega⟩) (va_cwS 2 hts gL_act_L_below rfl rfl rfl (by decide +kernel) ⟨Nat.le_of_ble_eq_true rfl, Nat.le_of_ble_eq_true rfl⟩) (ts_preS hK hN hW) rfl rfl hl.1 rfl (lv_room (Nat.le_of_ble_eq_true rfl)) dL_act_339 ⟨Nat.le_of_ble_eq_true rfl, Nat.le_of_ble_eq_true rfl⟩) hS (fun x h => Or.inl (ts_Aup hS.1 h)) (fun r193 u194 H locs hp195 hW hz hk hS => ?_)
    have hV := ts_kept hV (fun x h1 h2 => hk x (by omega) (fun h => by unfold ts_A at h; omega))
    have hbz := Nat.lt_of_lt_of_le hbz hz
    have hp195r : r193 = nI (blwN (x >>> ((nI 4) &&& 31)) 3) := hp195.1
    have hp195u : u194 = (u.1, F8, u.2.2.1, u.2.2.2) := hp195.2
    rw [hp195r]
    rw [hp195u] at hW
    have hq196 := blwN_lt (x >>> ((nI 4) &&& 31)) (n := 3) (by omega)
    refine ts_iadd (v := nI (1 + (blwN (x >>> ((nI 4) &&& 31)) 3))) hx hb dL_act_342 (nI_add _ _) ?_
    refine ts_retI (va_runV (As := [.int (nI (1 + (blwN (x >>> ((nI 4) &&& 31)) 3)))]) (rest := []) ⟨hx, hb, hml, hown, hts⟩ (k_X5_migrate l D q b H.size (u.1, F8, u.2.2.1, u.2.2.2) (1 + (blwN (x >>> ((nI 4) &&& 31)) 3)) hwf ⟨by omega, by omega⟩) (cwV 1 hts gL_act_X5_migrate rfl rfl rfl (by decide +kernel) ⟨Nat.le_of_ble_eq_true rfl, Nat.le_of_ble_eq_true rfl⟩) (ts_preV hK hN hW 0 (by decide) cel_st rfl) rfl rfl hl.1 rfl (lv_room (Nat.le_of_ble_eq_true rfl)) dL_act_343 ⟨Nat.le_of_ble_eq_true rfl, Nat.le_of_ble_eq_true rfl⟩) hS (fun x h => Or.inl (ts_Aup hS.1 h)) (fun r197 u198 H locs hp199 hW hz hk hS => ?_)
    have hV := ts_kept hV (fun x h1 h2 => hk x (by omega) (fun h => by unfold ts_A at h; omega))
    have hbz := Nat.lt_of_lt_of_le hbz hz
    obtain ⟨s_, k_, hp199r, hMI, hs_, hk_, F200, hp199u⟩ := hp199
    have hp199r : r197 = nI k_ := hp199r
    have hp199u : u198 = ((va_up u.1.1 2 s_, u.1.2), F200, u.2.2.1, u.2.2.2) := hp199u
    rw [hp199r]
    rw [hp199u] at hW
    have hwf2 : WP (va_up u.1.1 2 s_, u.1.2) := hwf.typ hs_
    have hn2 : (va_up u.1.1 2 s_, u.1.2).1 1 = u.1.1 1 := tp_ne u.1 _ (by decide)
    have hq2 : (va_up u.1.1 2 s_, u.1.2).1 2 = s_ := tp_self u.1 _
    have hmg := mig_eq (k := k_) (n := (va_up u.1.1 2 s_, u.1.2).1 1) (c := cntB (u.1.1 2) 10) (c' := cntB ((va_up u.1.1 2 s_, u.1.2).1 2) 10) (by rw [hq2]; exact hMI.1) (by omega)
    rw [show (va_up u.1.1 2 s_, u.1.2).1 1 - cntB (u.1.1 2) 10 = u.1.1 1 - cntB (u.1.1 2) 10 by omega] at hmg
    refine lv_iload hx hb dL_act_346 (lv_at hl 0 rfl) ?_
    refine lv_aload_n hx hb dL_act_348 rfl (lv_at hl 1 rfl) ?_
    refine lv_iconst (v := nI 0) hx hb dL_act_349 (by decide) ?_
    refine ts_retI (va_runV (As := [.int (nI 0)]) (rest := [.int (nI ((u.1.1 1) - (cntB (u.1.1 2) 10))), .int (nI k_)]) ⟨hx, hb, hml, hown, hts⟩ (k_X5_many l D q b H.size ((va_up u.1.1 2 s_, u.1.2), F200, u.2.2.1, u.2.2.2) 0 hwf2 (by omega)) (cwV 1 hts gL_act_X5_many rfl rfl rfl (by decide +kernel) ⟨Nat.le_of_ble_eq_true rfl, Nat.le_of_ble_eq_true rfl⟩) (ts_preV hK hN hW 0 (by decide) cel_st rfl) rfl rfl hl.1 rfl (lv_room (Nat.le_of_ble_eq_true rfl)) dL_act_350 ⟨Nat.le_of_ble_eq_true rfl, Nat.le_of_ble_eq_true rfl⟩) hS (fun x h => Or.inl (ts_Aup hS.1 h)) (fun r201 u202 H locs hp203 hW hz hk hS => ?_)
    have hV := ts_kept hV (fun x h1 h2 => hk x (by omega) (fun h => by unfold ts_A at h; omega))
    have hbz := Nat.lt_of_lt_of_le hbz hz
    obtain ⟨hp203r, F204, hp203u⟩ := hp203
    have hp203r : r201 = nI ((((va_up u.1.1 2 s_, u.1.2)).1) 1) := hp203r
    have hp203u : u202 = ((va_up u.1.1 2 s_, u.1.2), F204, u.2.2.1, u.2.2.2) := hp203u
    rw [hp203r]
    rw [hp203u] at hW
    refine ts_isub (v := (nI ((u.1.1 1) - (cntB (u.1.1 2) 10))) - (nI ((((va_up u.1.1 2 s_, u.1.2)).1) 1))) hx hb dL_act_353 rfl ?_
    refine lv_aload_n hx hb dL_act_354 rfl (lv_at hl 1 rfl) ?_
    refine lv_iconst (v := nI 1) hx hb dL_act_355 (by decide) ?_
    refine ts_retI (va_runV (As := [.int (nI 1)]) (rest := [.int ((nI ((u.1.1 1) - (cntB (u.1.1 2) 10))) - (nI ((((va_up u.1.1 2 s_, u.1.2)).1) 1))), .int (nI k_)]) ⟨hx, hb, hml, hown, hts⟩ (k_X5_many l D q b H.size ((va_up u.1.1 2 s_, u.1.2), F204, u.2.2.1, u.2.2.2) 1 hwf2 (by omega)) (cwV 1 hts gL_act_X5_many rfl rfl rfl (by decide +kernel) ⟨Nat.le_of_ble_eq_true rfl, Nat.le_of_ble_eq_true rfl⟩) (ts_preV hK hN hW 0 (by decide) cel_st rfl) rfl rfl hl.1 rfl (lv_room (Nat.le_of_ble_eq_true rfl)) dL_act_356 ⟨Nat.le_of_ble_eq_true rfl, Nat.le_of_ble_eq_true rfl⟩) hS (fun x h => Or.inl (ts_Aup hS.1 h)) (fun r205 u206 H locs hp207 hW hz hk hS => ?_)
    have hV := ts_kept hV (fun x h1 h2 => hk x (by omega) (fun h => by unfold ts_A at h; omega))
    have hbz := Nat.lt_of_lt_of_le hbz hz
    obtain ⟨hp207r, F208, hp207u⟩ := hp207
    have hp207r : r205 = nI (cntB ((((va_up u.1.1 2 s_, u.1.2)).1) 2) 10) := hp207r
    have hp207u : u206 = ((va_up u.1.1 2 s_, u.1.2), F208, u.2.2.1, u.2.2.2) := hp207u
    rw [hp207r]
    rw [hp207u] at hW
    refine ts_iadd (v := ((nI ((u.1.1 1) - (cntB (u.1.1 2) 10))) - (nI ((((va_up u.1.1 2 s_, u.1.2)).1) 1))) + (nI (cntB ((((va_up u.1.1 2 s_, u.1.2)).1) 2) 10))) hx hb dL_act_359 rfl ?_
    refine lv_icmp_ne (tgt := 367) hx hb dL_act_360 (by decide) (fun c209 => ?_) (fun c209 => ?_)
    · skip
      exact absurd hmg c209
    refine lv_iconst (v := nI 1) hx hb dL_act_363 (by decide) ?_
    refine lv_goto (tgt := 368) hx hb dL_act_364 (by decide) ?_
    refine W.widen (k := 1) (n := 6) (by omega) (by omega) ?_
    exact ts_zretA (u := ((va_up u.1.1 2 s_, u.1.2), F208, u.2.2.1, u.2.2.2)) (g := g) (v := nI 1) C0 rfl hW hV hS (by exact ⟨rfl, Or.inr (Or.inr (Or.inr (Or.inr (Or.inr (Or.inr (Or.inl ⟨s_, k_, F208, hMI, hs_, rfl⟩))))))⟩) dL_act_368
  by_cases c210 : blwN x 11 = 7
  · skip
    refine lv_tableIn (tgt := 369) hx hb dL_act_19 (by rw [c210]; decide) (by rw [c210]; decide) (by rw [c210]; rfl) (by decide) ?_
    refine lv_aload_n hx hb dL_act_369 rfl (lv_at hl 1 rfl) ?_
    refine lv_iload_n hx hb dL_act_370 rfl (lv_at hl 2 rfl) ?_
    refine lv_iconst (v := nI 4) hx hb dL_act_371 (by decide) ?_
    refine ts_ishr (v := x >>> ((nI 4) &&& 31)) hx hb dL_act_372 rfl ?_
    refine lv_bipush (v := nI 21) hx hb dL_act_373 (by decide) ?_
    refine ts_retI (va_runS (As := [.int (x >>> ((nI 4) &&& 31)), .int (nI 21)]) (rest := [.ref (b + 0)]) ⟨hx, hb, hml, hown, hts⟩ (k_L_below l D q b H.size (u.1, F8, u.2.2.1, u.2.2.2) (x >>> ((nI 4) &&& 31)) 21 ⟨by omega, by omega⟩) (va_cwS 2 hts gL_act_L_below rfl rfl rfl (by decide +kernel) ⟨Nat.le_of_ble_eq_true rfl, Nat.le_of_ble_eq_true rfl⟩) (ts_preS hK hN hW) rfl rfl hl.1 rfl (lv_room (Nat.le_of_ble_eq_true rfl)) dL_act_375 ⟨Nat.le_of_ble_eq_true rfl, Nat.le_of_ble_eq_true rfl⟩) hS (fun x h => Or.inl (ts_Aup hS.1 h)) (fun r211 u212 H locs hp213 hW hz hk hS => ?_)
    have hV := ts_kept hV (fun x h1 h2 => hk x (by omega) (fun h => by unfold ts_A at h; omega))
    have hbz := Nat.lt_of_lt_of_le hbz hz
    have hp213r : r211 = nI (blwN (x >>> ((nI 4) &&& 31)) 21) := hp213.1
    have hp213u : u212 = (u.1, F8, u.2.2.1, u.2.2.2) := hp213.2
    rw [hp213r]
    rw [hp213u] at hW
    have hq214 := blwN_lt (x >>> ((nI 4) &&& 31)) (n := 21) (by omega)
    refine ts_retI (va_runV (As := [.int (nI (blwN (x >>> ((nI 4) &&& 31)) 21))]) (rest := []) ⟨hx, hb, hml, hown, hts⟩ (k_X5_budget l D q b H.size (u.1, F8, u.2.2.1, u.2.2.2) (blwN (x >>> ((nI 4) &&& 31)) 21) hwf (by omega)) (cwV 1 hts gL_act_X5_budget rfl rfl rfl (by decide +kernel) ⟨Nat.le_of_ble_eq_true rfl, Nat.le_of_ble_eq_true rfl⟩) (ts_preV hK hN hW 0 (by decide) cel_st rfl) rfl rfl hl.1 rfl (lv_room (Nat.le_of_ble_eq_true rfl)) dL_act_378 ⟨Nat.le_of_ble_eq_true rfl, Nat.le_of_ble_eq_true rfl⟩) hS (fun x h => Or.inl (ts_Aup hS.1 h)) (fun r215 u216 H locs hp217 hW hz hk hS => ?_)
    have hV := ts_kept hV (fun x h1 h2 => hk x (by omega) (fun h => by unfold ts_A at h; omega))
    have hbz := Nat.lt_of_lt_of_le hbz hz
    have hp217r : r215 = nI (u.1.1 0) := hp217.1
    have hp217u : u216 = ((va_up u.1.1 0 (blwN (x >>> ((nI 4) &&& 31)) 21), u.1.2), F8, u.2.2.1, u.2.2.2) := hp217.2
    rw [hp217r]
    rw [hp217u] at hW
    refine lv_bipush (v := nI 20) hx hb dL_act_381 (by decide) ?_
    refine lv_icmp_gt (tgt := 390) hx hb dL_act_383 (by decide) (fun c218 => ?_) (fun c218 => ?_)
    · skip
      rw [nI_ltI (by omega) (by omega)] at c218
      exfalso; omega
    rw [nI_ltI (by omega) (by omega)] at c218
    refine lv_iconst (v := nI 1) hx hb dL_act_386 (by decide) ?_
    refine lv_goto (tgt := 391) hx hb dL_act_387 (by decide) ?_
    refine W.widen (k := 1) (n := 6) (by omega) (by omega) ?_
    exact ts_zretA (u := ((va_up u.1.1 0 (blwN (x >>> ((nI 4) &&& 31)) 21), u.1.2), F8, u.2.2.1, u.2.2.2)) (g := g) (v := nI 1) C0 rfl hW hV hS (by exact ⟨rfl, Or.inr (Or.inr (Or.inr (Or.inr (Or.inr (Or.inr (Or.inr (Or.inl ⟨_, F8, by omega, rfl⟩)))))))⟩) dL_act_391
  refine lv_tableOut (tgt := 392) hx hb dL_act_19 (by rw [nI_toInt (by omega)]; omega) (by decide) ?_
  refine lv_aload_n hx hb dL_act_392 rfl (lv_at hl 1 rfl) ?_
  refine lv_iload_n hx hb dL_act_393 rfl (lv_at hl 2 rfl) ?_
  refine lv_iload_n hx hb dL_act_394 rfl (lv_at hl 3 rfl) ?_
  refine lv_aload_n hx hb dL_act_395 rfl (lv_at hl 4 rfl) ?_
  refine ts_retB (va_runS (As := [.ref (b + 0), .int x, .int (nI f), .ref (bb + 0)]) (rest := []) ⟨hx, hb, hml, hown, hts⟩ (k_L_isRunRight l D q b H.size (u.1, F8, u.2.2.1, u.2.2.2) bb g x f hwf (show f < u.1.1 1 by omega)) (va_cwS 4 hts gL_act_L_isRunRight rfl rfl rfl (by decide +kernel) ⟨Nat.le_of_ble_eq_true rfl, Nat.le_of_ble_eq_true rfl⟩) (ts_preB hK hN hW hV hbb hbz) rfl rfl hl.1 rfl (lv_room (Nat.le_of_ble_eq_true rfl)) dL_act_396 ⟨Nat.le_of_ble_eq_true rfl, Nat.le_of_ble_eq_true rfl⟩) hS (fun x h => h.elim (fun h => Or.inl (ts_Aup hS.1 h)) Or.inr) (fun r219 u220 g222 H locs hp221 hW hV hz hk hS => ?_)
  have hbz := Nat.lt_of_lt_of_le hbz hz
  obtain ⟨hp221r, F223, T224, hRT, hWT, hp221v⟩ := hp221
  have hp221u : u220 = (u.1, F223, T224, (bookB T224 u.2.2.2)) := congrArg Prod.fst hp221v
  have hp221g : g222 = (gB T224 g) := congrArg Prod.snd hp221v
  rw [hp221r]
  rw [hp221u] at hW
  rw [hp221g] at hV
  refine W.widen (k := 1) (n := 6) (by omega) (by omega) ?_
  exact ts_zretA (u := (u.1, F223, T224, (bookB T224 u.2.2.2))) (g := (gB T224 g)) (v := nI 1) C0 rfl hW hV hS (by exact ⟨rfl, Or.inr (Or.inr (Or.inr (Or.inr (Or.inr (Or.inr (Or.inr (Or.inr (⟨F223, T224, hRT, hWT, rfl⟩))))))))⟩) dL_act_399
