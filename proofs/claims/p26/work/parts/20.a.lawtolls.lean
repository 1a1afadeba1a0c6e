set_option maxHeartbeats 4000000 in
set_option maxRecDepth 100000 in
theorem k_L_areTollsRight (l : Launch) (D : va_G) (q : CQ) (b sz : Nat) (u : ST)  (hwf : WP u.1) (hty : tyOK u.1) (ha : totN u.2.2.2.2.2 11 < 400000) : Met l yL_areTollsRight wsL_areTollsRight ({ frames := 6, cells := 0, slots := 0, locals := 134 } : Room) (va_Pc [.ref (b + 0)] (Pr D q b sz u)) (cI D q b sz (fun r u' => r = nI 1 ∧ ∃ F : FT, u' = (u.1, F, u.2.2))) 0 0 (ts_A b 52 sz) := by
  refine ts_met (by decide) rfl (Nat.le_of_ble_eq_true rfl) ?_
  intro p e s m below meth c C0 hX ls hl
  obtain ⟨hsz, hW, hK, hN⟩ := hX
  subst hsz
  obtain ⟨hx, hb, hml, hown, hts, -, -, -⟩ := id C0
  have hW : ts_W D b 52 (cel q b u) s.heap := hW
  have hS : va_S (ts_A b 52 s.heap.size) s.heap s.heap [] := va_S.rf
  have hB : ∀ k, k < 52 → ts_A b 52 s.heap.size (b + k) := fun k hk => ts_Ain hk
  have hl : lv_has ls 5 [(0, .ref (b + 0))] := hl
  have hs := hwf.sz
  have htb := tolA_le hs u.2.2.2.2.2 (u.1.1 2)
  have htc := tolA_le hs u.2.2.2.2.2 (typN u.1 (u.1.1 1))
  have hcb := cntB_le (u.1.1 2) 10
  have hcc := cntB_le (typN u.1 (u.1.1 1)) 10
  have hnl : nextN u.1 u.2.2.2.2.2 ≤ u.1.1 1 := nxtN_le _ _ _ _
  refine lv_aload_n hx hb dL_areTollsRight_0 rfl (lv_at hl 0 rfl) ?_
  refine ts_retI (va_runV (As := []) (rest := []) ⟨hx, hb, hml, hown, hts⟩ (k_X5_next l D q b s.heap.size u hwf) (cwV 0 hts gL_areTollsRight_X5_next rfl rfl rfl (by decide +kernel) ⟨Nat.le_of_ble_eq_true rfl, Nat.le_of_ble_eq_true rfl⟩) (ts_preV hK hN hW 0 (by decide) cel_st rfl) rfl rfl hl.1 rfl (lv_room (Nat.le_of_ble_eq_true rfl)) dL_areTollsRight_1 ⟨Nat.zero_le _, Nat.zero_le _⟩) hS (fun x h => ts_Aup hS.1 h) (fun r1 u2 H locs hp3 hW _ _ hS => ?_)
  obtain ⟨hp3r, F4, hp3u⟩ := hp3
  have hp3r : r1 = zI (nextN u.1 u.2.2.2.2.2) := hp3r
  have hp3u : u2 = (u.1, F4, u.2.2.1, u.2.2.2) := hp3u
  rw [hp3r]
  rw [hp3u] at hW
  refine lv_istore_n (lv' := [(1, .int (zI (nextN u.1 u.2.2.2.2.2))), (0, .ref (b + 0))]) hx hb dL_areTollsRight_4 rfl hl (by decide) rfl (fun ls hl => ?_)
  refine lv_ldc (v := (-1000000)) hx hb hown (hts _ (List.mem_of_getElem? (i := 1) rfl)) dL_areTollsRight_5 ?_
  refine lv_istore_n (lv' := [(2, .int (-1000000)), (1, .int (zI (nextN u.1 u.2.2.2.2.2))), (0, .ref (b + 0))]) hx hb dL_areTollsRight_7 rfl hl (by decide) rfl (fun ls hl => ?_)
  refine lv_iconst (v := nI 0) hx hb dL_areTollsRight_8 (by decide) ?_
  refine lv_istore_n (lv' := [(3, .int (nI 0)), (2, .int (-1000000)), (1, .int (zI (nextN u.1 u.2.2.2.2.2))), (0, .ref (b + 0))]) hx hb dL_areTollsRight_9 rfl hl (by decide) rfl (fun ls hl => ?_)
  have key5 : ∀ (fu : Nat) (k : Nat) (F : FT), (k ≤ u.1.1 1) → (u.1.1 1 - k) < fu → ∀ (H : Heap) (locs : List Loc), ts_W D b 52 (cel q b (u.1, F, u.2.2.1, u.2.2.2)) H → va_S (ts_A b 52 s.heap.size) s.heap H locs → ∀ ls : Array Slot, lv_has ls 5 [(3, .int (nI k)), (2, .int (bstN u.1 u.2.2.2.2.2 k)), (1, .int (zI (nextN u.1 u.2.2.2.2.2))), (0, .ref (b + 0))] → W p l e ({ frames := 6, cells := 0, slots := 0, locals := 134 } : Room) s m [.ref (b + 0)].toArray below meth c H locs 0 0 (MQ below (cI D q b s.heap.size (fun r u' => r = nI 1 ∧ ∃ F : FT, u' = (u.1, F, u.2.2))) [.ref (b + 0)].toArray s 0 0 (ts_A b 52 s.heap.size)) (F0 m 10 ls []) := by
    intro fu
    induction fu with
    | zero => intro k F _ hn; exact absurd hn (Nat.not_lt_zero _)
    | succ fu ih6 =>
      intro k F hk hn H locs hW hS ls hl
      refine lv_iload_n hx hb dL_areTollsRight_10 rfl (lv_at hl 0 rfl) ?_
      refine lv_aload_n hx hb dL_areTollsRight_11 rfl (lv_at hl 3 rfl) ?_
      refine lv_iconst (v := nI 0) hx hb dL_areTollsRight_12 (by decide) ?_
      refine ts_retI (va_runV (As := [.int (nI 0)]) (rest := [.int (nI k)]) ⟨hx, hb, hml, hown, hts⟩ (k_X5_many l D q b H.size (u.1, F, u.2.2.1, u.2.2.2) 0 hwf (by omega)) (cwV 1 hts gL_areTollsRight_X5_many rfl rfl rfl (by decide +kernel) ⟨Nat.le_of_ble_eq_true rfl, Nat.le_of_ble_eq_true rfl⟩) (ts_preV hK hN hW 0 (by decide) cel_st rfl) rfl rfl hl.1 rfl (lv_room (Nat.le_of_ble_eq_true rfl)) dL_areTollsRight_13 ⟨Nat.zero_le _, Nat.zero_le _⟩) hS (fun x h => ts_Aup hS.1 h) (fun r7 u8 H locs hp9 hW _ _ hS => ?_)
      obtain ⟨hp9r, F10, hp9u⟩ := hp9
      have hp9r : r7 = nI (u.1.1 1) := hp9r
      have hp9u : u8 = (u.1, F10, u.2.2.1, u.2.2.2) := hp9u
      rw [hp9r]
      rw [hp9u] at hW
      refine lv_icmp_ge (tgt := 93) hx hb dL_areTollsRight_16 (by decide) (fun c11 => ?_) (fun c11 => ?_)
      · skip
        rw [nI_leI (by omega) (by omega)] at c11
        refine lv_iload_n hx hb dL_areTollsRight_93 rfl (lv_at hl 2 rfl) ?_
        refine lv_if_ge (tgt := 113) hx hb dL_areTollsRight_94 (by decide) (fun c12 => ?_) (fun c12 => ?_)
        · skip
          rw [zI_ge0 (by omega)] at c12
          have hno := next_open hwf u.2.2.2.2.2 c12
          have hn1 := c12
          refine lv_aload_n hx hb dL_areTollsRight_113 rfl (lv_at hl 3 rfl) ?_
          refine lv_iload_n hx hb dL_areTollsRight_114 rfl (lv_at hl 2 rfl) ?_
          refine ts_int (y := nI (nextN u.1 u.2.2.2.2.2 - 1)) (zI_pred hn1) ?_
          refine ts_retI (va_runV (As := [.int (nI (nextN u.1 u.2.2.2.2.2 - 1))]) (rest := []) ⟨hx, hb, hml, hown, hts⟩ (k_X5_gain l D q b H.size (u.1, F10, u.2.2.1, u.2.2.2) (nextN u.1 u.2.2.2.2.2 - 1) hwf (by show (nextN u.1 u.2.2.2.2.2 - 1) < u.1.1 1; omega)) (cwV 1 hts gL_areTollsRight_X5_gain rfl rfl rfl (by decide +kernel) ⟨Nat.le_of_ble_eq_true rfl, Nat.le_of_ble_eq_true rfl⟩) (ts_preV hK hN hW 0 (by decide) cel_st rfl) rfl rfl hl.1 rfl (lv_room (Nat.le_of_ble_eq_true rfl)) dL_areTollsRight_115 ⟨Nat.zero_le _, Nat.zero_le _⟩) hS (fun x h => ts_Aup hS.1 h) (fun r13 u14 H locs hp15 hW _ _ hS => ?_)
          have hp15r : r13 = gainI u.1 u.2.2.2.2.2 (nextN u.1 u.2.2.2.2.2 - 1) := hp15.1
          have hp15u : u14 = (u.1, F10, u.2.2.1, u.2.2.2) := hp15.2
          rw [hp15r]
          rw [hp15u] at hW
          refine lv_iload_n hx hb dL_areTollsRight_118 rfl (lv_at hl 1 rfl) ?_
          refine lv_icmp_ne (tgt := 132) hx hb dL_areTollsRight_119 (by decide) (fun c16 => ?_) (fun c16 => ?_)
          · skip
            exact absurd ((next_best hs _ ha hn1).trans (by rw [show k = u.1.1 1 by omega])) c16
          refine lv_aload_n hx hb dL_areTollsRight_122 rfl (lv_at hl 3 rfl) ?_
          refine lv_iload_n hx hb dL_areTollsRight_123 rfl (lv_at hl 2 rfl) ?_
          refine ts_int (y := nI (nextN u.1 u.2.2.2.2.2 - 1)) (zI_pred hn1) ?_
          refine lv_iconst (v := nI 3) hx hb dL_areTollsRight_124 (by decide) ?_
          refine ts_retI (va_runV (As := [.int (nI (nextN u.1 u.2.2.2.2.2 - 1)), .int (nI 3)]) (rest := []) ⟨hx, hb, hml, hown, hts⟩ (k_X5_ofFunction l D q b H.size (u.1, F10, u.2.2.1, u.2.2.2) (nextN u.1 u.2.2.2.2.2 - 1) 3 hwf (by show (nextN u.1 u.2.2.2.2.2 - 1) < u.1.1 1; omega) (by omega)) (cwV 2 hts gL_areTollsRight_X5_ofFunction rfl rfl rfl (by decide +kernel) ⟨Nat.le_of_ble_eq_true rfl, Nat.le_of_ble_eq_true rfl⟩) (ts_preV hK hN hW 0 (by decide) cel_st rfl) rfl rfl hl.1 rfl (lv_room (Nat.le_of_ble_eq_true rfl)) dL_areTollsRight_125 ⟨Nat.zero_le _, Nat.zero_le _⟩) hS (fun x h => ts_Aup hS.1 h) (fun r17 u18 H locs hp19 hW _ _ hS => ?_)
          obtain ⟨hp19r, F20, hp19u⟩ := hp19
          have hp19r : r17 = b2i (hasB (u.1.1 2) (nextN u.1 u.2.2.2.2.2 - 1)) := hp19r
          have hp19u : u18 = (u.1, F20, u.2.2.1, u.2.2.2) := hp19u
          rw [hp19r]
          rw [hp19u] at hW
          refine lv_iconst (v := nI 1) hx hb dL_areTollsRight_128 (by decide) ?_
          refine lv_icmp_ne (tgt := 134) hx hb dL_areTollsRight_129 (by decide) (fun c21 => ?_) (fun c21 => ?_)
          · skip
            rw [ts_b1] at c21
            refine lv_aload_n hx hb dL_areTollsRight_134 rfl (lv_at hl 3 rfl) ?_
            refine lv_bipush (v := nI 8) hx hb dL_areTollsRight_135 (by decide) ?_
            refine ts_retI (va_runV (As := [.int (nI 8)]) (rest := []) ⟨hx, hb, hml, hown, hts⟩ (k_X5_many l D q b H.size (u.1, F20, u.2.2.1, u.2.2.2) 8 hwf (by omega)) (cwV 1 hts gL_areTollsRight_X5_many rfl rfl rfl (by decide +kernel) ⟨Nat.le_of_ble_eq_true rfl, Nat.le_of_ble_eq_true rfl⟩) (ts_preV hK hN hW 0 (by decide) cel_st rfl) rfl rfl hl.1 rfl (lv_room (Nat.le_of_ble_eq_true rfl)) dL_areTollsRight_137 ⟨Nat.zero_le _, Nat.zero_le _⟩) hS (fun x h => ts_Aup hS.1 h) (fun r22 u23 H locs hp24 hW _ _ hS => ?_)
            obtain ⟨hp24r, F25, hp24u⟩ := hp24
            have hp24r : r22 = nI (tolA u.1 u.2.2.2.2.2 (u.1.1 2)) := hp24r
            have hp24u : u23 = (u.1, F25, u.2.2.1, u.2.2.2) := hp24u
            rw [hp24r]
            rw [hp24u] at hW
            refine lv_iconst (v := nI 2) hx hb dL_areTollsRight_140 (by decide) ?_
            refine lv_irem hx hb dL_areTollsRight_141 (by decide) ?_
            refine ts_int (y := nI 0) ((pk_rem (by omega) (by decide) (by decide)).trans (congrArg nI (tolA_even _ _ _))) ?_
            refine lv_if_ne (tgt := 208) hx hb dL_areTollsRight_142 (by decide) (fun c26 => ?_) (fun c26 => ?_)
            · skip
              exfalso; revert c26; decide
            refine lv_aload_n hx hb dL_areTollsRight_145 rfl (lv_at hl 3 rfl) ?_
            refine lv_bipush (v := nI 8) hx hb dL_areTollsRight_146 (by decide) ?_
            refine ts_retI (va_runV (As := [.int (nI 8)]) (rest := []) ⟨hx, hb, hml, hown, hts⟩ (k_X5_many l D q b H.size (u.1, F25, u.2.2.1, u.2.2.2) 8 hwf (by omega)) (cwV 1 hts gL_areTollsRight_X5_many rfl rfl rfl (by decide +kernel) ⟨Nat.le_of_ble_eq_true rfl, Nat.le_of_ble_eq_true rfl⟩) (ts_preV hK hN hW 0 (by decide) cel_st rfl) rfl rfl hl.1 rfl (lv_room (Nat.le_of_ble_eq_true rfl)) dL_areTollsRight_148 ⟨Nat.zero_le _, Nat.zero_le _⟩) hS (fun x h => ts_Aup hS.1 h) (fun r27 u28 H locs hp29 hW _ _ hS => ?_)
            obtain ⟨hp29r, F30, hp29u⟩ := hp29
            have hp29r : r27 = nI (tolA u.1 u.2.2.2.2.2 (u.1.1 2)) := hp29r
            have hp29u : u28 = (u.1, F30, u.2.2.1, u.2.2.2) := hp29u
            rw [hp29r]
            rw [hp29u] at hW
            refine lv_if_lt (tgt := 208) hx hb dL_areTollsRight_151 (by decide) (fun c31 => ?_) (fun c31 => ?_)
            · skip
              rw [ts_lt0 (by omega)] at c31
              exfalso; omega
            rw [ts_lt0 (by omega)] at c31
            refine lv_aload_n hx hb dL_areTollsRight_154 rfl (lv_at hl 3 rfl) ?_
            refine ts_retI (va_runV (As := []) (rest := []) ⟨hx, hb, hml, hown, hts⟩ (k_X5_tollAtBest l D q b H.size (u.1, F30, u.2.2.1, u.2.2.2) hwf) (cwV 0 hts gL_areTollsRight_X5_tollAtBest rfl rfl rfl (by decide +kernel) ⟨Nat.le_of_ble_eq_true rfl, Nat.le_of_ble_eq_true rfl⟩) (ts_preV hK hN hW 0 (by decide) cel_st rfl) rfl rfl hl.1 rfl (lv_room (Nat.le_of_ble_eq_true rfl)) dL_areTollsRight_155 ⟨Nat.zero_le _, Nat.zero_le _⟩) hS (fun x h => ts_Aup hS.1 h) (fun r32 u33 H locs hp34 hW _ _ hS => ?_)
            obtain ⟨hp34r, F35, hp34u⟩ := hp34
            have hp34r : r32 = nI (tolA u.1 u.2.2.2.2.2 (typN u.1 (u.1.1 1))) := hp34r
            have hp34u : u33 = (u.1, F35, u.2.2.1, u.2.2.2) := hp34u
            rw [hp34r]
            rw [hp34u] at hW
            refine lv_if_lt (tgt := 208) hx hb dL_areTollsRight_158 (by decide) (fun c36 => ?_) (fun c36 => ?_)
            · skip
              rw [ts_lt0 (by omega)] at c36
              exfalso; omega
            rw [ts_lt0 (by omega)] at c36
            refine lv_aload_n hx hb dL_areTollsRight_161 rfl (lv_at hl 3 rfl) ?_
            refine lv_iconst (v := nI 1) hx hb dL_areTollsRight_162 (by decide) ?_
            refine ts_retI (va_runV (As := [.int (nI 1)]) (rest := []) ⟨hx, hb, hml, hown, hts⟩ (k_X5_many l D q b H.size (u.1, F35, u.2.2.1, u.2.2.2) 1 hwf (by omega)) (cwV 1 hts gL_areTollsRight_X5_many rfl rfl rfl (by decide +kernel) ⟨Nat.le_of_ble_eq_true rfl, Nat.le_of_ble_eq_true rfl⟩) (ts_preV hK hN hW 0 (by decide) cel_st rfl) rfl rfl hl.1 rfl (lv_room (Nat.le_of_ble_eq_true rfl)) dL_areTollsRight_163 ⟨Nat.zero_le _, Nat.zero_le _⟩) hS (fun x h => ts_Aup hS.1 h) (fun r37 u38 H locs hp39 hW _ _ hS => ?_)
            obtain ⟨hp39r, F40, hp39u⟩ := hp39
            have hp39r : r37 = nI (cntB (u.1.1 2) 10) := hp39r
            have hp39u : u38 = (u.1, F40, u.2.2.1, u.2.2.2) := hp39u
            rw [hp39r]
            rw [hp39u] at hW
            refine lv_aload_n hx hb dL_areTollsRight_166 rfl (lv_at hl 3 rfl) ?_
            refine lv_iconst (v := nI 2) hx hb dL_areTollsRight_167 (by decide) ?_
            refine ts_retI (va_runV (As := [.int (nI 2)]) (rest := [.int (nI (cntB (u.1.1 2) 10))]) ⟨hx, hb, hml, hown, hts⟩ (k_X5_many l D q b H.size (u.1, F40, u.2.2.1, u.2.2.2) 2 hwf (by omega)) (cwV 1 hts gL_areTollsRight_X5_many rfl rfl rfl (by decide +kernel) ⟨Nat.le_of_ble_eq_true rfl, Nat.le_of_ble_eq_true rfl⟩) (ts_preV hK hN hW 0 (by decide) cel_st rfl) rfl rfl hl.1 rfl (lv_room (Nat.le_of_ble_eq_true rfl)) dL_areTollsRight_168 ⟨Nat.zero_le _, Nat.zero_le _⟩) hS (fun x h => ts_Aup hS.1 h) (fun r41 u42 H locs hp43 hW _ _ hS => ?_)
            obtain ⟨hp43r, F44, hp43u⟩ := hp43
            have hp43r : r41 = nI (cntB (typN u.1 (u.1.1 1)) 10) := hp43r
            have hp43u : u42 = (u.1, F44, u.2.2.1, u.2.2.2) := hp43u
            rw [hp43r]
            rw [hp43u] at hW
            refine lv_icmp_lt (tgt := 187) hx hb dL_areTollsRight_171 (by decide) (fun c45 => ?_) (fun c45 => ?_)
            · skip
              rw [nI_ltI (by omega) (by omega)] at c45
              refine lv_aload_n hx hb dL_areTollsRight_187 rfl (lv_at hl 3 rfl) ?_
              refine lv_iconst (v := nI 1) hx hb dL_areTollsRight_188 (by decide) ?_
              refine ts_retI (va_runV (As := [.int (nI 1)]) (rest := []) ⟨hx, hb, hml, hown, hts⟩ (k_X5_many l D q b H.size (u.1, F44, u.2.2.1, u.2.2.2) 1 hwf (by omega)) (cwV 1 hts gL_areTollsRight_X5_many rfl rfl rfl (by decide +kernel) ⟨Nat.le_of_ble_eq_true rfl, Nat.le_of_ble_eq_true rfl⟩) (ts_preV hK hN hW 0 (by decide) cel_st rfl) rfl rfl hl.1 rfl (lv_room (Nat.le_of_ble_eq_true rfl)) dL_areTollsRight_189 ⟨Nat.zero_le _, Nat.zero_le _⟩) hS (fun x h => ts_Aup hS.1 h) (fun r46 u47 H locs hp48 hW _ _ hS => ?_)
              obtain ⟨hp48r, F49, hp48u⟩ := hp48
              have hp48r : r46 = nI (cntB (u.1.1 2) 10) := hp48r
              have hp48u : u47 = (u.1, F49, u.2.2.1, u.2.2.2) := hp48u
              rw [hp48r]
              rw [hp48u] at hW
              refine lv_if_gt (tgt := 204) hx hb dL_areTollsRight_192 (by decide) (fun c50 => ?_) (fun c50 => ?_)
              · skip
                rw [ts_gt0 (by omega)] at c50
                refine lv_iconst (v := nI 1) hx hb dL_areTollsRight_204 (by decide) ?_
                refine lv_goto (tgt := 209) hx hb dL_areTollsRight_205 (by decide) ?_
                exact ts_zret (u := (u.1, F49, u.2.2.1, u.2.2.2)) (v := nI 1) C0 rfl hW hS (by exact ⟨rfl, _, rfl⟩) dL_areTollsRight_209
              rw [ts_gt0 (by omega)] at c50
              refine lv_aload_n hx hb dL_areTollsRight_195 rfl (lv_at hl 3 rfl) ?_
              refine lv_bipush (v := nI 8) hx hb dL_areTollsRight_196 (by decide) ?_
              refine ts_retI (va_runV (As := [.int (nI 8)]) (rest := []) ⟨hx, hb, hml, hown, hts⟩ (k_X5_many l D q b H.size (u.1, F49, u.2.2.1, u.2.2.2) 8 hwf (by omega)) (cwV 1 hts gL_areTollsRight_X5_many rfl rfl rfl (by decide +kernel) ⟨Nat.le_of_ble_eq_true rfl, Nat.le_of_ble_eq_true rfl⟩) (ts_preV hK hN hW 0 (by decide) cel_st rfl) rfl rfl hl.1 rfl (lv_room (Nat.le_of_ble_eq_true rfl)) dL_areTollsRight_198 ⟨Nat.zero_le _, Nat.zero_le _⟩) hS (fun x h => ts_Aup hS.1 h) (fun r51 u52 H locs hp53 hW _ _ hS => ?_)
              obtain ⟨hp53r, F54, hp53u⟩ := hp53
              have hp53r : r51 = nI (tolA u.1 u.2.2.2.2.2 (u.1.1 2)) := hp53r
              have hp53u : u52 = (u.1, F54, u.2.2.1, u.2.2.2) := hp53u
              rw [hp53r]
              rw [hp53u] at hW
              refine lv_if_ne (tgt := 208) hx hb dL_areTollsRight_201 (by decide) (fun c55 => ?_) (fun c55 => ?_)
              · skip
                rw [ts_eq0 (by omega)] at c55
                exact absurd (toll_none hwf _ (by omega)) c55
              rw [ts_eq0 (by omega)] at c55
              refine lv_iconst (v := nI 1) hx hb dL_areTollsRight_204 (by decide) ?_
              refine lv_goto (tgt := 209) hx hb dL_areTollsRight_205 (by decide) ?_
              exact ts_zret (u := (u.1, F54, u.2.2.1, u.2.2.2)) (v := nI 1) C0 rfl hW hS (by exact ⟨rfl, _, rfl⟩) dL_areTollsRight_209
            rw [nI_ltI (by omega) (by omega)] at c45
            have hcl := c45
            refine lv_aload_n hx hb dL_areTollsRight_174 rfl (lv_at hl 3 rfl) ?_
            refine ts_retI (va_runV (As := []) (rest := []) ⟨hx, hb, hml, hown, hts⟩ (k_X5_tollAtBest l D q b H.size (u.1, F44, u.2.2.1, u.2.2.2) hwf) (cwV 0 hts gL_areTollsRight_X5_tollAtBest rfl rfl rfl (by decide +kernel) ⟨Nat.le_of_ble_eq_true rfl, Nat.le_of_ble_eq_true rfl⟩) (ts_preV hK hN hW 0 (by decide) cel_st rfl) rfl rfl hl.1 rfl (lv_room (Nat.le_of_ble_eq_true rfl)) dL_areTollsRight_175 ⟨Nat.zero_le _, Nat.zero_le _⟩) hS (fun x h => ts_Aup hS.1 h) (fun r56 u57 H locs hp58 hW _ _ hS => ?_)
            obtain ⟨hp58r, F59, hp58u⟩ := hp58
            have hp58r : r56 = nI (tolA u.1 u.2.2.2.2.2 (typN u.1 (u.1.1 1))) := hp58r
            have hp58u : u57 = (u.1, F59, u.2.2.1, u.2.2.2) := hp58u
            rw [hp58r]
            rw [hp58u] at hW
            refine lv_aload_n hx hb dL_areTollsRight_178 rfl (lv_at hl 3 rfl) ?_
            refine lv_bipush (v := nI 8) hx hb dL_areTollsRight_179 (by decide) ?_
            refine ts_retI (va_runV (As := [.int (nI 8)]) (rest := [.int (nI (tolA u.1 u.2.2.2.2.2 (typN u.1 (u.1.1 1))))]) ⟨hx, hb, hml, hown, hts⟩ (k_X5_many l D q b H.size (u.1, F59, u.2.2.1, u.2.2.2) 8 hwf (by omega)) (cwV 1 hts gL_areTollsRight_X5_many rfl rfl rfl (by decide +kernel) ⟨Nat.le_of_ble_eq_true rfl, Nat.le_of_ble_eq_true rfl⟩) (ts_preV hK hN hW 0 (by decide) cel_st rfl) rfl rfl hl.1 rfl (lv_room (Nat.le_of_ble_eq_true rfl)) dL_areTollsRight_181 ⟨Nat.zero_le _, Nat.zero_le _⟩) hS (fun x h => ts_Aup hS.1 h) (fun r60 u61 H locs hp62 hW _ _ hS => ?_)
            obtain ⟨hp62r, F63, hp62u⟩ := hp62
            have hp62r : r60 = nI (tolA u.1 u.2.2.2.2.2 (u.1.1 2)) := hp62r
            have hp62u : u61 = (u.1, F63, u.2.2.1, u.2.2.2) := hp62u
            rw [hp62r]
            rw [hp62u] at hW
            refine lv_icmp_ne (tgt := 208) hx hb dL_areTollsRight_184 (by decide) (fun c64 => ?_) (fun c64 => ?_)
            · skip
              rw [nI_eq (by omega) (by omega)] at c64
              exact absurd (toll_best hwf hty _ hcl) c64
            rw [nI_eq (by omega) (by omega)] at c64
            refine lv_aload_n hx hb dL_areTollsRight_187 rfl (lv_at hl 3 rfl) ?_
            refine lv_iconst (v := nI 1) hx hb dL_areTollsRight_188 (by decide) ?_
            refine ts_retI (va_runV (As := [.int (nI 1)]) (rest := []) ⟨hx, hb, hml, hown, hts⟩ (k_X5_many l D q b H.size (u.1, F63, u.2.2.1, u.2.2.2) 1 hwf (by omega)) (cwV 1 hts gL_areTollsRight_X5_many rfl rfl rfl (by decide +kernel) ⟨Nat.le_of_ble_eq_true rfl, Nat.le_of_ble_eq_true rfl⟩) (ts_preV hK hN hW 0 (by decide) cel_st rfl) rfl rfl hl.1 rfl (lv_room (Nat.le_of_ble_eq_true rfl)) dL_areTollsRight_189 ⟨Nat.zero_le _, Nat.zero_le _⟩) hS (fun x h => ts_Aup hS.1 h) (fun r65 u66 H locs hp67 hW _ _ hS => ?_)
            obtain ⟨hp67r, F68, hp67u⟩ := hp67
            have hp67r : r65 = nI (cntB (u.1.1 2) 10) := hp67r
            have hp67u : u66 = (u.1, F68, u.2.2.1, u.2.2.2) := hp67u
            rw [hp67r]
            rw [hp67u] at hW
            refine lv_if_gt (tgt := 204) hx hb dL_areTollsRight_192 (by decide) (fun c69 => ?_) (fun c69 => ?_)
            · skip
              rw [ts_gt0 (by omega)] at c69
              refine lv_iconst (v := nI 1) hx hb dL_areTollsRight_204 (by decide) ?_
              refine lv_goto (tgt := 209) hx hb dL_areTollsRight_205 (by decide) ?_
              exact ts_zret (u := (u.1, F68, u.2.2.1, u.2.2.2)) (v := nI 1) C0 rfl hW hS (by exact ⟨rfl, _, rfl⟩) dL_areTollsRight_209
            rw [ts_gt0 (by omega)] at c69
            refine lv_aload_n hx hb dL_areTollsRight_195 rfl (lv_at hl 3 rfl) ?_
            refine lv_bipush (v := nI 8) hx hb dL_areTollsRight_196 (by decide) ?_
            refine ts_retI (va_runV (As := [.int (nI 8)]) (rest := []) ⟨hx, hb, hml, hown, hts⟩ (k_X5_many l D q b H.size (u.1, F68, u.2.2.1, u.2.2.2) 8 hwf (by omega)) (cwV 1 hts gL_areTollsRight_X5_many rfl rfl rfl (by decide +kernel) ⟨Nat.le_of_ble_eq_true rfl, Nat.le_of_ble_eq_true rfl⟩) (ts_preV hK hN hW 0 (by decide) cel_st rfl) rfl rfl hl.1 rfl (lv_room (Nat.le_of_ble_eq_true rfl)) dL_areTollsRight_198 ⟨Nat.zero_le _, Nat.zero_le _⟩) hS (fun x h => ts_Aup hS.1 h) (fun r70 u71 H locs hp72 hW _ _ hS => ?_)
            obtain ⟨hp72r, F73, hp72u⟩ := hp72
            have hp72r : r70 = nI (tolA u.1 u.2.2.2.2.2 (u.1.1 2)) := hp72r
            have hp72u : u71 = (u.1, F73, u.2.2.1, u.2.2.2) := hp72u
            rw [hp72r]
            rw [hp72u] at hW
            refine lv_if_ne (tgt := 208) hx hb dL_areTollsRight_201 (by decide) (fun c74 => ?_) (fun c74 => ?_)
            · skip
              rw [ts_eq0 (by omega)] at c74
              exact absurd (toll_none hwf _ (by omega)) c74
            rw [ts_eq0 (by omega)] at c74
            refine lv_iconst (v := nI 1) hx hb dL_areTollsRight_204 (by decide) ?_
            refine lv_goto (tgt := 209) hx hb dL_areTollsRight_205 (by decide) ?_
            exact ts_zret (u := (u.1, F73, u.2.2.1, u.2.2.2)) (v := nI 1) C0 rfl hW hS (by exact ⟨rfl, _, rfl⟩) dL_areTollsRight_209
          rw [ts_b1] at c21
          exact absurd (hno.2.symm.trans c21) (by decide)
        rw [zI_ge0 (by omega)] at c12
        have hn0 := Nat.eq_zero_of_not_pos (fun h => c12 (Nat.ne_of_gt h))
        refine lv_aload_n hx hb dL_areTollsRight_97 rfl (lv_at hl 3 rfl) ?_
        refine lv_iconst (v := nI 1) hx hb dL_areTollsRight_98 (by decide) ?_
        refine ts_retI (va_runV (As := [.int (nI 1)]) (rest := []) ⟨hx, hb, hml, hown, hts⟩ (k_X5_many l D q b H.size (u.1, F10, u.2.2.1, u.2.2.2) 1 hwf (by omega)) (cwV 1 hts gL_areTollsRight_X5_many rfl rfl rfl (by decide +kernel) ⟨Nat.le_of_ble_eq_true rfl, Nat.le_of_ble_eq_true rfl⟩) (ts_preV hK hN hW 0 (by decide) cel_st rfl) rfl rfl hl.1 rfl (lv_room (Nat.le_of_ble_eq_true rfl)) dL_areTollsRight_99 ⟨Nat.zero_le _, Nat.zero_le _⟩) hS (fun x h => ts_Aup hS.1 h) (fun r75 u76 H locs hp77 hW _ _ hS => ?_)
        obtain ⟨hp77r, F78, hp77u⟩ := hp77
        have hp77r : r75 = nI (cntB (u.1.1 2) 10) := hp77r
        have hp77u : u76 = (u.1, F78, u.2.2.1, u.2.2.2) := hp77u
        rw [hp77r]
        rw [hp77u] at hW
        refine lv_aload_n hx hb dL_areTollsRight_102 rfl (lv_at hl 3 rfl) ?_
        refine lv_iconst (v := nI 2) hx hb dL_areTollsRight_103 (by decide) ?_
        refine ts_retI (va_runV (As := [.int (nI 2)]) (rest := [.int (nI (cntB (u.1.1 2) 10))]) ⟨hx, hb, hml, hown, hts⟩ (k_X5_many l D q b H.size (u.1, F78, u.2.2.1, u.2.2.2) 2 hwf (by omega)) (cwV 1 hts gL_areTollsRight_X5_many rfl rfl rfl (by decide +kernel) ⟨Nat.le_of_ble_eq_true rfl, Nat.le_of_ble_eq_true rfl⟩) (ts_preV hK hN hW 0 (by decide) cel_st rfl) rfl rfl hl.1 rfl (lv_room (Nat.le_of_ble_eq_true rfl)) dL_areTollsRight_104 ⟨Nat.zero_le _, Nat.zero_le _⟩) hS (fun x h => ts_Aup hS.1 h) (fun r79 u80 H locs hp81 hW _ _ hS => ?_)
        obtain ⟨hp81r, F82, hp81u⟩ := hp81
        have hp81r : r79 = nI (cntB (typN u.1 (u.1.1 1)) 10) := hp81r
        have hp81u : u80 = (u.1, F82, u.2.2.1, u.2.2.2) := hp81u
        rw [hp81r]
        rw [hp81u] at hW
        refine lv_icmp_eq (tgt := 134) hx hb dL_areTollsRight_107 (by decide) (fun c83 => ?_) (fun c83 => ?_)
        · skip
          rw [nI_eq (by omega) (by omega)] at c83
          refine lv_aload_n hx hb dL_areTollsRight_134 rfl (lv_at hl 3 rfl) ?_
          refine lv_bipush (v := nI 8) hx hb dL_areTollsRight_135 (by decide) ?_
          refine ts_retI (va_runV (As := [.int (nI 8)]) (rest := []) ⟨hx, hb, hml, hown, hts⟩ (k_X5_many l D q b H.size (u.1, F82, u.2.2.1, u.2.2.2) 8 hwf (by omega)) (cwV 1 hts gL_areTollsRight_X5_many rfl rfl rfl (by decide +kernel) ⟨Nat.le_of_ble_eq_true rfl, Nat.le_of_ble_eq_true rfl⟩) (ts_preV hK hN hW 0 (by decide) cel_st rfl) rfl rfl hl.1 rfl (lv_room (Nat.le_of_ble_eq_true rfl)) dL_areTollsRight_137 ⟨Nat.zero_le _, Nat.zero_le _⟩) hS (fun x h => ts_Aup hS.1 h) (fun r84 u85 H locs hp86 hW _ _ hS => ?_)
          obtain ⟨hp86r, F87, hp86u⟩ := hp86
          have hp86r : r84 = nI (tolA u.1 u.2.2.2.2.2 (u.1.1 2)) := hp86r
          have hp86u : u85 = (u.1, F87, u.2.2.1, u.2.2.2) := hp86u
          rw [hp86r]
          rw [hp86u] at hW
          refine lv_iconst (v := nI 2) hx hb dL_areTollsRight_140 (by decide) ?_
          refine lv_irem hx hb dL_areTollsRight_141 (by decide) ?_
          refine ts_int (y := nI 0) ((pk_rem (by omega) (by decide) (by decide)).trans (congrArg nI (tolA_even _ _ _))) ?_
          refine lv_if_ne (tgt := 208) hx hb dL_areTollsRight_142 (by decide) (fun c88 => ?_) (fun c88 => ?_)
          · skip
            exfalso; revert c88; decide
          refine lv_aload_n hx hb dL_areTollsRight_145 rfl (lv_at hl 3 rfl) ?_
          refine lv_bipush (v := nI 8) hx hb dL_areTollsRight_146 (by decide) ?_
          refine ts_retI (va_runV (As := [.int (nI 8)]) (rest := []) ⟨hx, hb, hml, hown, hts⟩ (k_X5_many l D q b H.size (u.1, F87, u.2.2.1, u.2.2.2) 8 hwf (by omega)) (cwV 1 hts gL_areTollsRight_X5_many rfl rfl rfl (by decide +kernel) ⟨Nat.le_of_ble_eq_true rfl, Nat.le_of_ble_eq_true rfl⟩) (ts_preV hK hN hW 0 (by decide) cel_st rfl) rfl rfl hl.1 rfl (lv_room (Nat.le_of_ble_eq_true rfl)) dL_areTollsRight_148 ⟨Nat.zero_le _, Nat.zero_le _⟩) hS (fun x h => ts_Aup hS.1 h) (fun r89 u90 H locs hp91 hW _ _ hS => ?_)
          obtain ⟨hp91r, F92, hp91u⟩ := hp91
          have hp91r : r89 = nI (tolA u.1 u.2.2.2.2.2 (u.1.1 2)) := hp91r
          have hp91u : u90 = (u.1, F92, u.2.2.1, u.2.2.2) := hp91u
          rw [hp91r]
          rw [hp91u] at hW
          refine lv_if_lt (tgt := 208) hx hb dL_areTollsRight_151 (by decide) (fun c93 => ?_) (fun c93 => ?_)
          · skip
            rw [ts_lt0 (by omega)] at c93
            exfalso; omega
          rw [ts_lt0 (by omega)] at c93
          refine lv_aload_n hx hb dL_areTollsRight_154 rfl (lv_at hl 3 rfl) ?_
          refine ts_retI (va_runV (As := []) (rest := []) ⟨hx, hb, hml, hown, hts⟩ (k_X5_tollAtBest l D q b H.size (u.1, F92, u.2.2.1, u.2.2.2) hwf) (cwV 0 hts gL_areTollsRight_X5_tollAtBest rfl rfl rfl (by decide +kernel) ⟨Nat.le_of_ble_eq_true rfl, Nat.le_of_ble_eq_true rfl⟩) (ts_preV hK hN hW 0 (by decide) cel_st rfl) rfl rfl hl.1 rfl (lv_room (Nat.le_of_ble_eq_true rfl)) dL_areTollsRight_155 ⟨Nat.zero_le _, Nat.zero_le _⟩) hS (fun x h => ts_Aup hS.1 h) (fun r94 u95 H locs hp96 hW _ _ hS => ?_)
          obtain ⟨hp96r, F97, hp96u⟩ := hp96
          have hp96r : r94 = nI (tolA u.1 u.2.2.2.2.2 (typN u.1 (u.1.1 1))) := hp96r
          have hp96u : u95 = (u.1, F97, u.2.2.1, u.2.2.2) := hp96u
          rw [hp96r]
          rw [hp96u] at hW
          refine lv_if_lt (tgt := 208) hx hb dL_areTollsRight_158 (by decide) (fun c98 => ?_) (fun c98 => ?_)
          · skip
            rw [ts_lt0 (by omega)] at c98
            exfalso; omega
          rw [ts_lt0 (by omega)] at c98
          refine lv_aload_n hx hb dL_areTollsRight_161 rfl (lv_at hl 3 rfl) ?_
          refine lv_iconst (v := nI 1) hx hb dL_areTollsRight_162 (by decide) ?_
          refine ts_retI (va_runV (As := [.int (nI 1)]) (rest := []) ⟨hx, hb, hml, hown, hts⟩ (k_X5_many l D q b H.size (u.1, F97, u.2.2.1, u.2.2.2) 1 hwf (by omega)) (cwV 1 hts gL_areTollsRight_X5_many rfl rfl rfl (by decide +kernel) ⟨Nat.le_of_ble_eq_true rfl, Nat.le_of_ble_eq_true rfl⟩) (ts_preV hK hN hW 0 (by decide) cel_st rfl) rfl rfl hl.1 rfl (lv_room (Nat.le_of_ble_eq_true rfl)) dL_areTollsRight_163 ⟨Nat.zero_le _, Nat.zero_le _⟩) hS (fun x h => ts_Aup hS.1 h) (fun r99 u100 H locs hp101 hW _ _ hS => ?_)
          obtain ⟨hp101r, F102, hp101u⟩ := hp101
          have hp101r : r99 = nI (cntB (u.1.1 2) 10) := hp101r
          have hp101u : u100 = (u.1, F102, u.2.2.1, u.2.2.2) := hp101u
          rw [hp101r]
          rw [hp101u] at hW
          refine lv_aload_n hx hb dL_areTollsRight_166 rfl (lv_at hl 3 rfl) ?_
          refine lv_iconst (v := nI 2) hx hb dL_areTollsRight_167 (by decide) ?_
          refine ts_retI (va_runV (As := [.int (nI 2)]) (rest := [.int (nI (cntB (u.1.1 2) 10))]) ⟨hx, hb, hml, hown, hts⟩ (k_X5_many l D q b H.size (u.1, F102, u.2.2.1, u.2.2.2) 2 hwf (by omega)) (cwV 1 hts gL_areTollsRight_X5_many rfl rfl rfl (by decide +kernel) ⟨Nat.le_of_ble_eq_true rfl, Nat.le_of_ble_eq_true rfl⟩) (ts_preV hK hN hW 0 (by decide) cel_st rfl) rfl rfl hl.1 rfl (lv_room (Nat.le_of_ble_eq_true rfl)) dL_areTollsRight_168 ⟨Nat.zero_le _, Nat.zero_le _⟩) hS (fun x h => ts_Aup hS.1 h) (fun r103 u104 H locs hp105 hW _ _ hS => ?_)
          obtain ⟨hp105r, F106, hp105u⟩ := hp105
          have hp105r : r103 = nI (cntB (typN u.1 (u.1.1 1)) 10) := hp105r
          have hp105u : u104 = (u.1, F106, u.2.2.1, u.2.2.2) := hp105u
          rw [hp105r]
          rw [hp105u] at hW
          refine lv_icmp_lt (tgt := 187) hx hb dL_areTollsRight_171 (by decide) (fun c107 => ?_) (fun c107 => ?_)
          · skip
            rw [nI_ltI (by omega) (by omega)] at c107
            refine lv_aload_n hx hb dL_areTollsRight_187 rfl (lv_at hl 3 rfl) ?_
            refine lv_iconst (v := nI 1) hx hb dL_areTollsRight_188 (by decide) ?_
            refine ts_retI (va_runV (As := [.int (nI 1)]) (rest := []) ⟨hx, hb, hml, hown, hts⟩ (k_X5_many l D q b H.size (u.1, F106, u.2.2.1, u.2.2.2) 1 hwf (by omega)) (cwV 1 hts gL_areTollsRight_X5_many rfl rfl rfl (by decide +kernel) ⟨Nat.le_of_ble_eq_true rfl, Nat.le_of_ble_eq_true rfl⟩) (ts_preV hK hN hW 0 (by decide) cel_st rfl) rfl rfl hl.1 rfl (lv_room (Nat.le_of_ble_eq_true rfl)) dL_areTollsRight_189 ⟨Nat.zero_le _, Nat.zero_le _⟩) hS (fun x h => ts_Aup hS.1 h) (fun r108 u109 H locs hp110 hW _ _ hS => ?_)
            obtain ⟨hp110r, F111, hp110u⟩ := hp110
            have hp110r : r108 = nI (cntB (u.1.1 2) 10) := hp110r
            have hp110u : u109 = (u.1, F111, u.2.2.1, u.2.2.2) := hp110u
            rw [hp110r]
            rw [hp110u] at hW
            refine lv_if_gt (tgt := 204) hx hb dL_areTollsRight_192 (by decide) (fun c112 => ?_) (fun c112 => ?_)
            · skip
              rw [ts_gt0 (by omega)] at c112
              refine lv_iconst (v := nI 1) hx hb dL_areTollsRight_204 (by decide) ?_
              refine lv_goto (tgt := 209) hx hb dL_areTollsRight_205 (by decide) ?_
              exact ts_zret (u := (u.1, F111, u.2.2.1, u.2.2.2)) (v := nI 1) C0 rfl hW hS (by exact ⟨rfl, _, rfl⟩) dL_areTollsRight_209
            rw [ts_gt0 (by omega)] at c112
            refine lv_aload_n hx hb dL_areTollsRight_195 rfl (lv_at hl 3 rfl) ?_
            refine lv_bipush (v := nI 8) hx hb dL_areTollsRight_196 (by decide) ?_
            refine ts_retI (va_runV (As := [.int (nI 8)]) (rest := []) ⟨hx, hb, hml, hown, hts⟩ (k_X5_many l D q b H.size (u.1, F111, u.2.2.1, u.2.2.2) 8 hwf (by omega)) (cwV 1 hts gL_areTollsRight_X5_many rfl rfl rfl (by decide +kernel) ⟨Nat.le_of_ble_eq_true rfl, Nat.le_of_ble_eq_true rfl⟩) (ts_preV hK hN hW 0 (by decide) cel_st rfl) rfl rfl hl.1 rfl (lv_room (Nat.le_of_ble_eq_true rfl)) dL_areTollsRight_198 ⟨Nat.zero_le _, Nat.zero_le _⟩) hS (fun x h => ts_Aup hS.1 h) (fun r113 u114 H locs hp115 hW _ _ hS => ?_)
            obtain ⟨hp115r, F116, hp115u⟩ := hp115
            have hp115r : r113 = nI (tolA u.1 u.2.2.2.2.2 (u.1.1 2)) := hp115r
            have hp115u : u114 = (u.1, F116, u.2.2.1, u.2.2.2) := hp115u
            rw [hp115r]
            rw [hp115u] at hW
            refine lv_if_ne (tgt := 208) hx hb dL_areTollsRight_201 (by decide) (fun c117 => ?_) (fun c117 => ?_)
            · skip
              rw [ts_eq0 (by omega)] at c117
              exact absurd (toll_none hwf _ (by omega)) c117
            rw [ts_eq0 (by omega)] at c117
            refine lv_iconst (v := nI 1) hx hb dL_areTollsRight_204 (by decide) ?_
            refine lv_goto (tgt := 209) hx hb dL_areTollsRight_205 (by decide) ?_
            exact ts_zret (u := (u.1, F116, u.2.2.1, u.2.2.2)) (v := nI 1) C0 rfl hW hS (by exact ⟨rfl, _, rfl⟩) dL_areTollsRight_209
          rw [nI_ltI (by omega) (by omega)] at c107
          have hcl := c107
          refine lv_aload_n hx hb dL_areTollsRight_174 rfl (lv_at hl 3 rfl) ?_
          refine ts_retI (va_runV (As := []) (rest := []) ⟨hx, hb, hml, hown, hts⟩ (k_X5_tollAtBest l D q b H.size (u.1, F106, u.2.2.1, u.2.2.2) hwf) (cwV 0 hts gL_areTollsRight_X5_tollAtBest rfl rfl rfl (by decide +kernel) ⟨Nat.le_of_ble_eq_true rfl, Nat.le_of_ble_eq_true rfl⟩) (ts_preV hK hN hW 0 (by decide) cel_st rfl) rfl rfl hl.1 rfl (lv_room (Nat.le_of_ble_eq_true rfl)) dL_areTollsRight_175 ⟨Nat.zero_le _, Nat.zero_le _⟩) hS (fun x h => ts_Aup hS.1 h) (fun r118 u119 H locs hp120 hW _ _ hS => ?_)
          obtain ⟨hp120r, F121, hp120u⟩ := hp120
          have hp120r : r118 = nI (tolA u.1 u.2.2.2.2.2 (typN u.1 (u.1.1 1))) := hp120r
          have hp120u : u119 = (u.1, F121, u.2.2.1, u.2.2.2) := hp120u
          rw [hp120r]
          rw [hp120u] at hW
          refine lv_aload_n hx hb dL_areTollsRight_178 rfl (lv_at hl 3 rfl) ?_
          refine lv_bipush (v := nI 8) hx hb dL_areTollsRight_179 (by decide) ?_
          refine ts_retI (va_runV (As := [.int (nI 8)]) (rest := [.int (nI (tolA u.1 u.2.2.2.2.2 (typN u.1 (u.1.1 1))))]) ⟨hx, hb, hml, hown, hts⟩ (k_X5_many l D q b H.size (u.1, F121, u.2.2.1, u.2.2.2) 8 hwf (by omega)) (cwV 1 hts gL_areTollsRight_X5_many rfl rfl rfl (by decide +kernel) ⟨Nat.le_of_ble_eq_true rfl, Nat.le_of_ble_eq_true rfl⟩) (ts_preV hK hN hW 0 (by decide) cel_st rfl) rfl rfl hl.1 rfl (lv_room (Nat.le_of_ble_eq_true rfl)) dL_areTollsRight_181 ⟨Nat.zero_le _, Nat.zero_le _⟩) hS (fun x h => ts_Aup hS.1 h) (fun r122 u123 H locs hp124 hW _ _ hS => ?_)
          obtain ⟨hp124r, F125, hp124u⟩ := hp124
          have hp124r : r122 = nI (tolA u.1 u.2.2.2.2.2 (u.1.1 2)) := hp124r
          have hp124u : u123 = (u.1, F125, u.2.2.1, u.2.2.2) := hp124u
          rw [hp124r]
          rw [hp124u] at hW
          refine lv_icmp_ne (tgt := 208) hx hb dL_areTollsRight_184 (by decide) (fun c126 => ?_) (fun c126 => ?_)
          · skip
            rw [nI_eq (by omega) (by omega)] at c126
            exact absurd (toll_best hwf hty _ hcl) c126
          rw [nI_eq (by omega) (by omega)] at c126
          refine lv_aload_n hx hb dL_areTollsRight_187 rfl (lv_at hl 3 rfl) ?_
          refine lv_iconst (v := nI 1) hx hb dL_areTollsRight_188 (by decide) ?_
          refine ts_retI (va_runV (As := [.int (nI 1)]) (rest := []) ⟨hx, hb, hml, hown, hts⟩ (k_X5_many l D q b H.size (u.1, F125, u.2.2.1, u.2.2.2) 1 hwf (by omega)) (cwV 1 hts gL_areTollsRight_X5_many rfl rfl rfl (by decide +kernel) ⟨Nat.le_of_ble_eq_true rfl, Nat.le_of_ble_eq_true rfl⟩) (ts_preV hK hN hW 0 (by decide) cel_st rfl) rfl rfl hl.1 rfl (lv_room (Nat.le_of_ble_eq_true rfl)) dL_areTollsRight_189 ⟨Nat.zero_le _, Nat.zero_le _⟩) hS (fun x h => ts_Aup hS.1 h) (fun r127 u128 H locs hp129 hW _ _ hS => ?_)
          obtain ⟨hp129r, F130, hp129u⟩ := hp129
          have hp129r : r127 = nI (cntB (u.1.1 2) 10) := hp129r
          have hp129u : u128 = (u.1, F130, u.2.2.1, u.2.2.2) := hp129u
          rw [hp129r]
          rw [hp129u] at hW
          refine lv_if_gt (tgt := 204) hx hb dL_areTollsRight_192 (by decide) (fun c131 => ?_) (fun c131 => ?_)
          · skip
            rw [ts_gt0 (by omega)] at c131
            refine lv_iconst (v := nI 1) hx hb dL_areTollsRight_204 (by decide) ?_
            refine lv_goto (tgt := 209) hx hb dL_areTollsRight_205 (by decide) ?_
            exact ts_zret (u := (u.1, F130, u.2.2.1, u.2.2.2)) (v := nI 1) C0 rfl hW hS (by exact ⟨rfl, _, rfl⟩) dL_areTollsRight_209
          rw [ts_gt0 (by omega)] at c131
          refine lv_aload_n hx hb dL_areTollsRight_195 rfl (lv_at hl 3 rfl) ?_
          refine lv_bipush (v := nI 8) hx hb dL_areTollsRight_196 (by decide) ?_
          refine ts_retI (va_runV (As := [.int (nI 8)]) (rest := []) ⟨hx, hb, hml, hown, hts⟩ (k_X5_many l D q b H.size (u.1, F130, u.2.2.1, u.2.2.2) 8 hwf (by omega)) (cwV 1 hts gL_areTollsRight_X5_many rfl rfl rfl (by decide +kernel) ⟨Nat.le_of_ble_eq_true rfl, Nat.le_of_ble_eq_true rfl⟩) (ts_preV hK hN hW 0 (by decide) cel_st rfl) rfl rfl hl.1 rfl (lv_room (Nat.le_of_ble_eq_true rfl)) dL_areTollsRight_198 ⟨Nat.zero_le _, Nat.zero_le _⟩) hS (fun x h => ts_Aup hS.1 h) (fun r132 u133 H locs hp134 hW _ _ hS => ?_)
          obtain ⟨hp134r, F135, hp134u⟩ := hp134
          have hp134r : r132 = nI (tolA u.1 u.2.2.2.2.2 (u.1.1 2)) := hp134r
          have hp134u : u133 = (u.1, F135, u.2.2.1, u.2.2.2) := hp134u
          rw [hp134r]
          rw [hp134u] at hW
          refine lv_if_ne (tgt := 208) hx hb dL_areTollsRight_201 (by decide) (fun c136 => ?_) (fun c136 => ?_)
          · skip
            rw [ts_eq0 (by omega)] at c136
            exact absurd (toll_none hwf _ (by omega)) c136
          rw [ts_eq0 (by omega)] at c136
          refine lv_iconst (v := nI 1) hx hb dL_areTollsRight_204 (by decide) ?_
          refine lv_goto (tgt := 209) hx hb dL_areTollsRight_205 (by decide) ?_
          exact ts_zret (u := (u.1, F135, u.2.2.1, u.2.2.2)) (v := nI 1) C0 rfl hW hS (by exact ⟨rfl, _, rfl⟩) dL_areTollsRight_209
        rw [nI_eq (by omega) (by omega)] at c83
        exact absurd (next_none hwf hty _ hn0) c83
      rw [nI_leI (by omega) (by omega)] at c11
      have hck := chkA_le hwf (f := k) (by omega)
      refine lv_aload_n hx hb dL_areTollsRight_19 rfl (lv_at hl 3 rfl) ?_
      refine lv_iload_n hx hb dL_areTollsRight_20 rfl (lv_at hl 0 rfl) ?_
      refine lv_iconst (v := nI 3) hx hb dL_areTollsRight_21 (by decide) ?_
      refine ts_retI (va_runV (As := [.int (nI k), .int (nI 3)]) (rest := []) ⟨hx, hb, hml, hown, hts⟩ (k_X5_ofFunction l D q b H.size (u.1, F10, u.2.2.1, u.2.2.2) k 3 hwf (by show k < u.1.1 1; omega) (by omega)) (cwV 2 hts gL_areTollsRight_X5_ofFunction rfl rfl rfl (by decide +kernel) ⟨Nat.le_of_ble_eq_true rfl, Nat.le_of_ble_eq_true rfl⟩) (ts_preV hK hN hW 0 (by decide) cel_st rfl) rfl rfl hl.1 rfl (lv_room (Nat.le_of_ble_eq_true rfl)) dL_areTollsRight_22 ⟨Nat.zero_le _, Nat.zero_le _⟩) hS (fun x h => ts_Aup hS.1 h) (fun r137 u138 H locs hp139 hW _ _ hS => ?_)
      obtain ⟨hp139r, F140, hp139u⟩ := hp139
      have hp139r : r137 = b2i (hasB (u.1.1 2) k) := hp139r
      have hp139u : u138 = (u.1, F140, u.2.2.1, u.2.2.2) := hp139u
      rw [hp139r]
      rw [hp139u] at hW
      refine lv_if_ne (tgt := 49) hx hb dL_areTollsRight_25 (by decide) (fun c141 => ?_) (fun c141 => ?_)
      · skip
        have c141 := ts_bt c141
        have hop := open_n1 c141 (show k < u.1.1 1 by omega)
        refine lv_iconst (v := nI 0) hx hb dL_areTollsRight_49 (by decide) ?_
        refine lv_istore (lv' := [(4, .int (nI 0)), (3, .int (nI k)), (2, .int (bstN u.1 u.2.2.2.2.2 k)), (1, .int (zI (nextN u.1 u.2.2.2.2.2))), (0, .ref (b + 0))]) hx hb dL_areTollsRight_50 hl (by decide) rfl (fun ls hl => ?_)
        refine lv_iload hx hb dL_areTollsRight_52 (lv_at hl 0 rfl) ?_
        refine lv_if_eq (tgt := 67) hx hb dL_areTollsRight_54 (by decide) (fun c142 => ?_) (fun c142 => ?_)
        · skip
          refine lv_aload_n hx hb dL_areTollsRight_67 rfl (lv_at hl 4 rfl) ?_
          refine lv_iload_n hx hb dL_areTollsRight_68 rfl (lv_at hl 1 rfl) ?_
          refine lv_iconst (v := nI 3) hx hb dL_areTollsRight_69 (by decide) ?_
          refine ts_retI (va_runV (As := [.int (nI k), .int (nI 3)]) (rest := []) ⟨hx, hb, hml, hown, hts⟩ (k_X5_ofFunction l D q b H.size (u.1, F140, u.2.2.1, u.2.2.2) k 3 hwf (by show k < u.1.1 1; omega) (by omega)) (cwV 2 hts gL_areTollsRight_X5_ofFunction rfl rfl rfl (by decide +kernel) ⟨Nat.le_of_ble_eq_true rfl, Nat.le_of_ble_eq_true rfl⟩) (ts_preV hK hN hW 0 (by decide) cel_st rfl) rfl rfl hl.1 rfl (lv_room (Nat.le_of_ble_eq_true rfl)) dL_areTollsRight_70 ⟨Nat.zero_le _, Nat.zero_le _⟩) hS (fun x h => ts_Aup hS.1 h) (fun r143 u144 H locs hp145 hW _ _ hS => ?_)
          obtain ⟨hp145r, F146, hp145u⟩ := hp145
          have hp145r : r143 = b2i (hasB (u.1.1 2) k) := hp145r
          have hp145u : u144 = (u.1, F146, u.2.2.1, u.2.2.2) := hp145u
          rw [hp145r]
          rw [hp145u] at hW
          refine lv_iconst (v := nI 1) hx hb dL_areTollsRight_73 (by decide) ?_
          refine lv_icmp_ne (tgt := 87) hx hb dL_areTollsRight_74 (by decide) (fun c147 => ?_) (fun c147 => ?_)
          · skip
            rw [ts_b1] at c147
            refine lv_iinc (v := nI (k + 1)) (lv' := [(3, .int (nI (k + 1))), (4, .int (nI 0)), (2, .int (bstN u.1 u.2.2.2.2.2 k)), (1, .int (zI (nextN u.1 u.2.2.2.2.2))), (0, .ref (b + 0))]) hx hb dL_areTollsRight_87 hl (k := 1) rfl (nI_add k 1) (by decide) rfl (fun ls hl => ?_)
            refine lv_goto (tgt := 10) hx hb dL_areTollsRight_90 (by decide) ?_
            have e148 : bstN u.1 u.2.2.2.2.2 (k + 1) = bstN u.1 u.2.2.2.2.2 k := by first | rfl | (simp [bstN, hop]; done)
            exact ih6 (k + 1) F146 (by omega) (by omega) H locs hW hS ls (show lv_has ls 5 [(3, .int (nI (k + 1))), (2, .int (bstN u.1 u.2.2.2.2.2 (k + 1))), (1, .int (zI (nextN u.1 u.2.2.2.2.2))), (0, .ref (b + 0))] from by rw [e148]; exact lv_sub hl [0, 2, 3, 4] rfl)
          rw [ts_b1] at c147
          have hb7 := c147
          refine lv_aload_n hx hb dL_areTollsRight_77 rfl (lv_at hl 4 rfl) ?_
          refine lv_iload_n hx hb dL_areTollsRight_78 rfl (lv_at hl 1 rfl) ?_
          refine ts_retI (va_runV (As := [.int (nI k)]) (rest := []) ⟨hx, hb, hml, hown, hts⟩ (k_X5_gain l D q b H.size (u.1, F146, u.2.2.1, u.2.2.2) k hwf (by show k < u.1.1 1; omega)) (cwV 1 hts gL_areTollsRight_X5_gain rfl rfl rfl (by decide +kernel) ⟨Nat.le_of_ble_eq_true rfl, Nat.le_of_ble_eq_true rfl⟩) (ts_preV hK hN hW 0 (by decide) cel_st rfl) rfl rfl hl.1 rfl (lv_room (Nat.le_of_ble_eq_true rfl)) dL_areTollsRight_79 ⟨Nat.zero_le _, Nat.zero_le _⟩) hS (fun x h => ts_Aup hS.1 h) (fun r149 u150 H locs hp151 hW _ _ hS => ?_)
          have hp151r : r149 = gainI u.1 u.2.2.2.2.2 k := hp151.1
          have hp151u : u150 = (u.1, F146, u.2.2.1, u.2.2.2) := hp151.2
          rw [hp151r]
          rw [hp151u] at hW
          refine lv_if_eq (tgt := 87) hx hb dL_areTollsRight_82 (by decide) (fun c152 => ?_) (fun c152 => ?_)
          · skip
            refine lv_iinc (v := nI (k + 1)) (lv' := [(3, .int (nI (k + 1))), (4, .int (nI 0)), (2, .int (bstN u.1 u.2.2.2.2.2 k)), (1, .int (zI (nextN u.1 u.2.2.2.2.2))), (0, .ref (b + 0))]) hx hb dL_areTollsRight_87 hl (k := 1) rfl (nI_add k 1) (by decide) rfl (fun ls hl => ?_)
            refine lv_goto (tgt := 10) hx hb dL_areTollsRight_90 (by decide) ?_
            have e153 : bstN u.1 u.2.2.2.2.2 (k + 1) = bstN u.1 u.2.2.2.2.2 k := by first | rfl | (simp [bstN, hop]; done)
            exact ih6 (k + 1) F146 (by omega) (by omega) H locs hW hS ls (show lv_has ls 5 [(3, .int (nI (k + 1))), (2, .int (bstN u.1 u.2.2.2.2.2 (k + 1))), (1, .int (zI (nextN u.1 u.2.2.2.2.2))), (0, .ref (b + 0))] from by rw [e153]; exact lv_sub hl [0, 2, 3, 4] rfl)
          exact absurd (gainI_typed _ hb7) c152
        exfalso; revert c142; decide
      have c141 := ts_bf c141
      have c2_ := c141
      refine lv_aload_n hx hb dL_areTollsRight_28 rfl (lv_at hl 3 rfl) ?_
      refine lv_iload_n hx hb dL_areTollsRight_29 rfl (lv_at hl 0 rfl) ?_
      refine lv_iconst (v := nI 4) hx hb dL_areTollsRight_30 (by decide) ?_
      refine ts_retI (va_runV (As := [.int (nI k), .int (nI 4)]) (rest := []) ⟨hx, hb, hml, hown, hts⟩ (k_X5_ofFunction l D q b H.size (u.1, F140, u.2.2.1, u.2.2.2) k 4 hwf (by show k < u.1.1 1; omega) (by omega)) (cwV 2 hts gL_areTollsRight_X5_ofFunction rfl rfl rfl (by decide +kernel) ⟨Nat.le_of_ble_eq_true rfl, Nat.le_of_ble_eq_true rfl⟩) (ts_preV hK hN hW 0 (by decide) cel_st rfl) rfl rfl hl.1 rfl (lv_room (Nat.le_of_ble_eq_true rfl)) dL_areTollsRight_31 ⟨Nat.zero_le _, Nat.zero_le _⟩) hS (fun x h => ts_Aup hS.1 h) (fun r154 u155 H locs hp156 hW _ _ hS => ?_)
      obtain ⟨hp156r, F157, hp156u⟩ := hp156
      have hp156r : r154 = nI ((chkA u.1 k).1) := hp156r
      have hp156u : u155 = (u.1, F157, u.2.2.1, u.2.2.2) := hp156u
      rw [hp156r]
      rw [hp156u] at hW
      refine lv_aload_n hx hb dL_areTollsRight_34 rfl (lv_at hl 3 rfl) ?_
      refine lv_iload_n hx hb dL_areTollsRight_35 rfl (lv_at hl 0 rfl) ?_
      refine lv_bipush (v := nI 6) hx hb dL_areTollsRight_36 (by decide) ?_
      refine ts_retI (va_runV (As := [.int (nI k), .int (nI 6)]) (rest := [.int (nI ((chkA u.1 k).1))]) ⟨hx, hb, hml, hown, hts⟩ (k_X5_ofFunction l D q b H.size (u.1, F157, u.2.2.1, u.2.2.2) k 6 hwf (by show k < u.1.1 1; omega) (by omega)) (cwV 2 hts gL_areTollsRight_X5_ofFunction rfl rfl rfl (by decide +kernel) ⟨Nat.le_of_ble_eq_true rfl, Nat.le_of_ble_eq_true rfl⟩) (ts_preV hK hN hW 0 (by decide) cel_st rfl) rfl rfl hl.1 rfl (lv_room (Nat.le_of_ble_eq_true rfl)) dL_areTollsRight_38 ⟨Nat.zero_le _, Nat.zero_le _⟩) hS (fun x h => ts_Aup hS.1 h) (fun r158 u159 H locs hp160 hW _ _ hS => ?_)
      obtain ⟨hp160r, F161, hp160u⟩ := hp160
      have hp160r : r158 = nI ((chkA u.1 k).2.2) := hp160r
      have hp160u : u159 = (u.1, F161, u.2.2.1, u.2.2.2) := hp160u
      rw [hp160r]
      rw [hp160u] at hW
      refine ts_iadd (v := nI (((chkA u.1 k).1) + ((chkA u.1 k).2.2))) hx hb dL_areTollsRight_41 (nI_add _ _) ?_
      refine lv_if_ne (tgt := 49) hx hb dL_areTollsRight_42 (by decide) (fun c162 => ?_) (fun c162 => ?_)
      · skip
        rw [ts_eq0 (by omega)] at c162
        have hop := open_n2 (a := (chkA u.1 k).1) rfl c162 (show k < u.1.1 1 by omega)
        refine lv_iconst (v := nI 0) hx hb dL_areTollsRight_49 (by decide) ?_
        refine lv_istore (lv' := [(4, .int (nI 0)), (3, .int (nI k)), (2, .int (bstN u.1 u.2.2.2.2.2 k)), (1, .int (zI (nextN u.1 u.2.2.2.2.2))), (0, .ref (b + 0))]) hx hb dL_areTollsRight_50 hl (by decide) rfl (fun ls hl => ?_)
        refine lv_iload hx hb dL_areTollsRight_52 (lv_at hl 0 rfl) ?_
        refine lv_if_eq (tgt := 67) hx hb dL_areTollsRight_54 (by decide) (fun c163 => ?_) (fun c163 => ?_)
        · skip
          refine lv_aload_n hx hb dL_areTollsRight_67 rfl (lv_at hl 4 rfl) ?_
          refine lv_iload_n hx hb dL_areTollsRight_68 rfl (lv_at hl 1 rfl) ?_
          refine lv_iconst (v := nI 3) hx hb dL_areTollsRight_69 (by decide) ?_
          refine ts_retI (va_runV (As := [.int (nI k), .int (nI 3)]) (rest := []) ⟨hx, hb, hml, hown, hts⟩ (k_X5_ofFunction l D q b H.size (u.1, F161, u.2.2.1, u.2.2.2) k 3 hwf (by show k < u.1.1 1; omega) (by omega)) (cwV 2 hts gL_areTollsRight_X5_ofFunction rfl rfl rfl (by decide +kernel) ⟨Nat.le_of_ble_eq_true rfl, Nat.le_of_ble_eq_true rfl⟩) (ts_preV hK hN hW 0 (by decide) cel_st rfl) rfl rfl hl.1 rfl (lv_room (Nat.le_of_ble_eq_true rfl)) dL_areTollsRight_70 ⟨Nat.zero_le _, Nat.zero_le _⟩) hS (fun x h => ts_Aup hS.1 h) (fun r164 u165 H locs hp166 hW _ _ hS => ?_)
          obtain ⟨hp166r, F167, hp166u⟩ := hp166
          have hp166r : r164 = b2i (hasB (u.1.1 2) k) := hp166r
          have hp166u : u165 = (u.1, F167, u.2.2.1, u.2.2.2) := hp166u
          rw [hp166r]
          rw [hp166u] at hW
          refine lv_iconst (v := nI 1) hx hb dL_areTollsRight_73 (by decide) ?_
          refine lv_icmp_ne (tgt := 87) hx hb dL_areTollsRight_74 (by decide) (fun c168 => ?_) (fun c168 => ?_)
          · skip
            rw [ts_b1] at c168
            refine lv_iinc (v := nI (k + 1)) (lv' := [(3, .int (nI (k + 1))), (4, .int (nI 0)), (2, .int (bstN u.1 u.2.2.2.2.2 k)), (1, .int (zI (nextN u.1 u.2.2.2.2.2))), (0, .ref (b + 0))]) hx hb dL_areTollsRight_87 hl (k := 1) rfl (nI_add k 1) (by decide) rfl (fun ls hl => ?_)
            refine lv_goto (tgt := 10) hx hb dL_areTollsRight_90 (by decide) ?_
            have e169 : bstN u.1 u.2.2.2.2.2 (k + 1) = bstN u.1 u.2.2.2.2.2 k := by first | rfl | (simp [bstN, hop]; done)
            exact ih6 (k + 1) F167 (by omega) (by omega) H locs hW hS ls (show lv_has ls 5 [(3, .int (nI (k + 1))), (2, .int (bstN u.1 u.2.2.2.2.2 (k + 1))), (1, .int (zI (nextN u.1 u.2.2.2.2.2))), (0, .ref (b + 0))] from by rw [e169]; exact lv_sub hl [0, 2, 3, 4] rfl)
          rw [ts_b1] at c168
          have hb7 := c168
          refine lv_aload_n hx hb dL_areTollsRight_77 rfl (lv_at hl 4 rfl) ?_
          refine lv_iload_n hx hb dL_areTollsRight_78 rfl (lv_at hl 1 rfl) ?_
          refine ts_retI (va_runV (As := [.int (nI k)]) (rest := []) ⟨hx, hb, hml, hown, hts⟩ (k_X5_gain l D q b H.size (u.1, F167, u.2.2.1, u.2.2.2) k hwf (by show k < u.1.1 1; omega)) (cwV 1 hts gL_areTollsRight_X5_gain rfl rfl rfl (by decide +kernel) ⟨Nat.le_of_ble_eq_true rfl, Nat.le_of_ble_eq_true rfl⟩) (ts_preV hK hN hW 0 (by decide) cel_st rfl) rfl rfl hl.1 rfl (lv_room (Nat.le_of_ble_eq_true rfl)) dL_areTollsRight_79 ⟨Nat.zero_le _, Nat.zero_le _⟩) hS (fun x h => ts_Aup hS.1 h) (fun r170 u171 H locs hp172 hW _ _ hS => ?_)
          have hp172r : r170 = gainI u.1 u.2.2.2.2.2 k := hp172.1
          have hp172u : u171 = (u.1, F167, u.2.2.1, u.2.2.2) := hp172.2
          rw [hp172r]
          rw [hp172u] at hW
          refine lv_if_eq (tgt := 87) hx hb dL_areTollsRight_82 (by decide) (fun c173 => ?_) (fun c173 => ?_)
          · skip
            refine lv_iinc (v := nI (k + 1)) (lv' := [(3, .int (nI (k + 1))), (4, .int (nI 0)), (2, .int (bstN u.1 u.2.2.2.2.2 k)), (1, .int (zI (nextN u.1 u.2.2.2.2.2))), (0, .ref (b + 0))]) hx hb dL_areTollsRight_87 hl (k := 1) rfl (nI_add k 1) (by decide) rfl (fun ls hl => ?_)
            refine lv_goto (tgt := 10) hx hb dL_areTollsRight_90 (by decide) ?_
            have e174 : bstN u.1 u.2.2.2.2.2 (k + 1) = bstN u.1 u.2.2.2.2.2 k := by first | rfl | (simp [bstN, hop]; done)
            exact ih6 (k + 1) F167 (by omega) (by omega) H locs hW hS ls (show lv_has ls 5 [(3, .int (nI (k + 1))), (2, .int (bstN u.1 u.2.2.2.2.2 (k + 1))), (1, .int (zI (nextN u.1 u.2.2.2.2.2))), (0, .ref (b + 0))] from by rw [e174]; exact lv_sub hl [0, 2, 3, 4] rfl)
          exact absurd (gainI_typed _ hb7) c173
        exfalso; revert c163; decide
      rw [ts_eq0 (by omega)] at c162
      have hop := open_y c2_ c162 (show k < u.1.1 1 by omega)
      refine lv_iconst (v := nI 1) hx hb dL_areTollsRight_45 (by decide) ?_
      refine lv_goto (tgt := 50) hx hb dL_areTollsRight_46 (by decide) ?_
      refine lv_istore (lv' := [(4, .int (nI 1)), (3, .int (nI k)), (2, .int (bstN u.1 u.2.2.2.2.2 k)), (1, .int (zI (nextN u.1 u.2.2.2.2.2))), (0, .ref (b + 0))]) hx hb dL_areTollsRight_50 hl (by decide) rfl (fun ls hl => ?_)
      refine lv_iload hx hb dL_areTollsRight_52 (lv_at hl 0 rfl) ?_
      refine lv_if_eq (tgt := 67) hx hb dL_areTollsRight_54 (by decide) (fun c175 => ?_) (fun c175 => ?_)
      · skip
        exfalso; revert c175; decide
      refine lv_iload_n hx hb dL_areTollsRight_57 rfl (lv_at hl 2 rfl) ?_
      refine lv_aload_n hx hb dL_areTollsRight_58 rfl (lv_at hl 4 rfl) ?_
      refine lv_iload_n hx hb dL_areTollsRight_59 rfl (lv_at hl 1 rfl) ?_
      refine ts_retI (va_runV (As := [.int (nI k)]) (rest := [.int (bstN u.1 u.2.2.2.2.2 k)]) ⟨hx, hb, hml, hown, hts⟩ (k_X5_gain l D q b H.size (u.1, F161, u.2.2.1, u.2.2.2) k hwf (by show k < u.1.1 1; omega)) (cwV 1 hts gL_areTollsRight_X5_gain rfl rfl rfl (by decide +kernel) ⟨Nat.le_of_ble_eq_true rfl, Nat.le_of_ble_eq_true rfl⟩) (ts_preV hK hN hW 0 (by decide) cel_st rfl) rfl rfl hl.1 rfl (lv_room (Nat.le_of_ble_eq_true rfl)) dL_areTollsRight_60 ⟨Nat.zero_le _, Nat.zero_le _⟩) hS (fun x h => ts_Aup hS.1 h) (fun r176 u177 H locs hp178 hW _ _ hS => ?_)
      have hp178r : r176 = gainI u.1 u.2.2.2.2.2 k := hp178.1
      have hp178u : u177 = (u.1, F161, u.2.2.1, u.2.2.2) := hp178.2
      rw [hp178r]
      rw [hp178u] at hW
      refine va_mmax hx hb (hml.trans hl.1.symm) hown (hts _ (List.mem_of_getElem? (i := 2) rfl)) (hts _ (List.mem_of_getElem? (i := 3) rfl)) (hts _ (List.mem_of_getElem? (i := 4) rfl)) (hts _ (List.mem_of_getElem? (i := 5) rfl)) (Nat.le_of_ble_eq_true rfl) (Nat.le_of_ble_eq_true rfl) (Nat.zero_le _) (Nat.zero_le _) dL_areTollsRight_63 ?_
      refine ts_int (y := maxI (bstN u.1 u.2.2.2.2.2 k) (gainI u.1 u.2.2.2.2.2 k)) rfl ?_
      refine lv_istore_n (lv' := [(2, .int (maxI (bstN u.1 u.2.2.2.2.2 k) (gainI u.1 u.2.2.2.2.2 k))), (4, .int (nI 1)), (3, .int (nI k)), (1, .int (zI (nextN u.1 u.2.2.2.2.2))), (0, .ref (b + 0))]) hx hb dL_areTollsRight_66 rfl hl (by decide) rfl (fun ls hl => ?_)
      refine lv_aload_n hx hb dL_areTollsRight_67 rfl (lv_at hl 4 rfl) ?_
      refine lv_iload_n hx hb dL_areTollsRight_68 rfl (lv_at hl 2 rfl) ?_
      refine lv_iconst (v := nI 3) hx hb dL_areTollsRight_69 (by decide) ?_
      refine ts_retI (va_runV (As := [.int (nI k), .int (nI 3)]) (rest := []) ⟨hx, hb, hml, hown, hts⟩ (k_X5_ofFunction l D q b H.size (u.1, F161, u.2.2.1, u.2.2.2) k 3 hwf (by show k < u.1.1 1; omega) (by omega)) (cwV 2 hts gL_areTollsRight_X5_ofFunction rfl rfl rfl (by decide +kernel) ⟨Nat.le_of_ble_eq_true rfl, Nat.le_of_ble_eq_true rfl⟩) (ts_preV hK hN hW 0 (by decide) cel_st rfl) rfl rfl hl.1 rfl (lv_room (Nat.le_of_ble_eq_true rfl)) dL_areTollsRight_70 ⟨Nat.zero_le _, Nat.zero_le _⟩) hS (fun x h => ts_Aup hS.1 h) (fun r179 u180 H locs hp181 hW _ _ hS => ?_)
      obtain ⟨hp181r, F182, hp181u⟩ := hp181
      have hp181r : r179 = b2i (hasB (u.1.1 2) k) := hp181r
      have hp181u : u180 = (u.1, F182, u.2.2.1, u.2.2.2) := hp181u
      rw [hp181r]
      rw [hp181u] at hW
      refine lv_iconst (v := nI 1) hx hb dL_areTollsRight_73 (by decide) ?_
      refine lv_icmp_ne (tgt := 87) hx hb dL_areTollsRight_74 (by decide) (fun c183 => ?_) (fun c183 => ?_)
      · skip
        rw [ts_b1] at c183
        refine lv_iinc (v := nI (k + 1)) (lv' := [(3, .int (nI (k + 1))), (2, .int (maxI (bstN u.1 u.2.2.2.2.2 k) (gainI u.1 u.2.2.2.2.2 k))), (4, .int (nI 1)), (1, .int (zI (nextN u.1 u.2.2.2.2.2))), (0, .ref (b + 0))]) hx hb dL_areTollsRight_87 hl (k := 2) rfl (nI_add k 1) (by decide) rfl (fun ls hl => ?_)
        refine lv_goto (tgt := 10) hx hb dL_areTollsRight_90 (by decide) ?_
        have e184 : bstN u.1 u.2.2.2.2.2 (k + 1) = maxI (bstN u.1 u.2.2.2.2.2 k) (gainI u.1 u.2.2.2.2.2 k) := by first | rfl | (simp [bstN, hop]; done)
        exact ih6 (k + 1) F182 (by omega) (by omega) H locs hW hS ls (show lv_has ls 5 [(3, .int (nI (k + 1))), (2, .int (bstN u.1 u.2.2.2.2.2 (k + 1))), (1, .int (zI (nextN u.1 u.2.2.2.2.2))), (0, .ref (b + 0))] from by rw [e184]; exact lv_sub hl [0, 1, 3, 4] rfl)
      rw [ts_b1] at c183
      have hb7 := c183
      refine lv_aload_n hx hb dL_areTollsRight_77 rfl (lv_at hl 4 rfl) ?_
      refine lv_iload_n hx hb dL_areTollsRight_78 rfl (lv_at hl 2 rfl) ?_
      refine ts_retI (va_runV (As := [.int (nI k)]) (rest := []) ⟨hx, hb, hml, hown, hts⟩ (k_X5_gain l D q b H.size (u.1, F182, u.2.2.1, u.2.2.2) k hwf (by show k < u.1.1 1; omega)) (cwV 1 hts gL_areTollsRight_X5_gain rfl rfl rfl (by decide +kernel) ⟨Nat.le_of_ble_eq_true rfl, Nat.le_of_ble_eq_true rfl⟩) (ts_preV hK hN hW 0 (by decide) cel_st rfl) rfl rfl hl.1 rfl (lv_room (Nat.le_of_ble_eq_true rfl)) dL_areTollsRight_79 ⟨Nat.zero_le _, Nat.zero_le _⟩) hS (fun x h => ts_Aup hS.1 h) (fun r185 u186 H locs hp187 hW _ _ hS => ?_)
      have hp187r : r185 = gainI u.1 u.2.2.2.2.2 k := hp187.1
      have hp187u : u186 = (u.1, F182, u.2.2.1, u.2.2.2) := hp187.2
      rw [hp187r]
      rw [hp187u] at hW
      refine lv_if_eq (tgt := 87) hx hb dL_areTollsRight_82 (by decide) (fun c188 => ?_) (fun c188 => ?_)
      · skip
        refine lv_iinc (v := nI (k + 1)) (lv' := [(3, .int (nI (k + 1))), (2, .int (maxI (bstN u.1 u.2.2.2.2.2 k) (gainI u.1 u.2.2.2.2.2 k))), (4, .int (nI 1)), (1, .int (zI (nextN u.1 u.2.2.2.2.2))), (0, .ref (b + 0))]) hx hb dL_areTollsRight_87 hl (k := 2) rfl (nI_add k 1) (by decide) rfl (fun ls hl => ?_)
        refine lv_goto (tgt := 10) hx hb dL_areTollsRight_90 (by decide) ?_
        have e189 : bstN u.1 u.2.2.2.2.2 (k + 1) = maxI (bstN u.1 u.2.2.2.2.2 k) (gainI u.1 u.2.2.2.2.2 k) := by first | rfl | (simp [bstN, hop]; done)
        exact ih6 (k + 1) F182 (by omega) (by omega) H locs hW hS ls (show lv_has ls 5 [(3, .int (nI (k + 1))), (2, .int (bstN u.1 u.2.2.2.2.2 (k + 1))), (1, .int (zI (nextN u.1 u.2.2.2.2.2))), (0, .ref (b + 0))] from by rw [e189]; exact lv_sub hl [0, 1, 3, 4] rfl)
      exact absurd (gainI_typed _ hb7) c188
  have e190 : bstN u.1 u.2.2.2.2.2 0 = (-1000000) := by first | rfl | (simp [bstN, hop]; done)
  exact key5 _ 0 F4 (by omega) (Nat.lt_succ_self _) _ _ hW hS ls (show lv_has ls 5 [(3, .int (nI 0)), (2, .int (bstN u.1 u.2.2.2.2.2 0)), (1, .int (zI (nextN u.1 u.2.2.2.2.2))), (0, .ref (b + 0))] from by rw [e190]; exact lv_sub hl [0, 1, 2, 3] rfl)
