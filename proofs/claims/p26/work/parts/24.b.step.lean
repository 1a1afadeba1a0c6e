set_option maxHeartbeats 4000000 in
set_option maxRecDepth 100000 in
theorem k_X6_step (l : Launch) (D : va_G) (q : CQ) (b sz : Nat) (u : ST) (x ty : Int32) (n : Nat) (hn : 1 ≤ n ∧ n ≤ 10) : Met l yX6_step wsX6_step ({ frames := 1, cells := 0, slots := 0, locals := 21 } : Room) (va_Pc [.int x, .int ty, .int (nI n)] (Pr D q b sz u)) (cI D q b sz (fun r u' => (∃ v, r = nI v ∧ (v ≤ 9 ∨ (20 ≤ v ∧ v ≤ 24) ∨ (40 ≤ v ∧ v < 40 + n))) ∧ u' = u)) 0 0 (ts_A b 52 sz) := by
  refine ts_met (by decide) rfl (Nat.le_of_ble_eq_true rfl) ?_
  intro p e s m below meth c C0 hX ls hl
  obtain ⟨hsz, hW, hK, hN⟩ := hX
  subst hsz
  obtain ⟨hx, hb, hml, hown, hts, -, -, -⟩ := id C0
  have hW : ts_W D b 52 (cel q b u) s.heap := hW
  have hS : va_S (ts_A b 52 s.heap.size) s.heap s.heap [] := va_S.rf
  have hB : ∀ k, k < 52 → ts_A b 52 s.heap.size (b + k) := fun k hk => ts_Ain hk
  have hl : lv_has ls 4 [(0, .int x), (1, .int ty), (2, .int (nI n))] := hl
  refine lv_iload_n hx hb dX6_step_0 rfl (lv_at hl 0 rfl) ?_
  refine lv_iconst (v := nI 4) hx hb dX6_step_1 (by decide) ?_
  refine ts_ishr (v := x >>> ((nI 4) &&& 31)) hx hb dX6_step_2 rfl ?_
  refine lv_bipush (v := nI 9) hx hb dX6_step_3 (by decide) ?_
  refine ts_retI (va_runSN (As := [.int (x >>> ((nI 4) &&& 31)), .int (nI 9)]) (rest := []) ⟨hx, hb, hml, hown, hts⟩ (k_L_below l D q b s.heap.size u (x >>> ((nI 4) &&& 31)) 9 ⟨by omega, by omega⟩) ⟨va_cnB 2 hts gX6_step_L_below_n116 rfl rfl rfl (hN _ (List.mem_of_getElem? (i := 15) rfl)) (hts _ (List.mem_of_getElem? (i := 2) rfl)) (by decide +kernel) ⟨Nat.le_of_ble_eq_true rfl, Nat.le_of_ble_eq_true rfl⟩, hts _ (List.mem_of_getElem? (i := 1) rfl), trivial⟩ (ts_preS hK hN hW) rfl rfl hl.1 rfl (lv_room (Nat.le_of_ble_eq_true rfl)) dX6_step_5 ⟨Nat.zero_le _, Nat.zero_le _⟩) hS (fun x h => ts_Aup hS.1 h) (fun r1 u2 H locs hp3 hW _ _ hS => ?_)
  have hp3r : r1 = nI (blwN (x >>> ((nI 4) &&& 31)) 9) := hp3.1
  have hp3u : u2 = u := hp3.2
  rw [hp3r]
  rw [hp3u] at hW
  have hq4 := blwN_lt (x >>> ((nI 4) &&& 31)) (n := 9) (by omega)
  refine lv_istore_n (lv' := [(3, .int (nI (blwN (x >>> ((nI 4) &&& 31)) 9))), (0, .int x), (1, .int ty), (2, .int (nI n))]) hx hb dX6_step_8 rfl hl (by decide) rfl (fun ls hl => ?_)
  refine lv_iload_n hx hb dX6_step_9 rfl (lv_at hl 0 rfl) ?_
  refine lv_iconst (v := nI 2) hx hb dX6_step_10 (by decide) ?_
  refine lv_icmp_ge (tgt := 26) hx hb dX6_step_11 (by decide) (fun c5 => ?_) (fun c5 => ?_)
  · skip
    rw [nI_leI (by omega) (by omega)] at c5
    refine lv_iload_n hx hb dX6_step_26 rfl (lv_at hl 0 rfl) ?_
    refine lv_iconst (v := nI 2) hx hb dX6_step_27 (by decide) ?_
    refine lv_icmp_ne (tgt := 42) hx hb dX6_step_28 (by decide) (fun c6 => ?_) (fun c6 => ?_)
    · skip
      rw [nI_eq (by omega) (by omega)] at c6
      refine lv_iload_n hx hb dX6_step_42 rfl (lv_at hl 0 rfl) ?_
      refine lv_iconst (v := nI 3) hx hb dX6_step_43 (by decide) ?_
      refine lv_icmp_ne (tgt := 50) hx hb dX6_step_44 (by decide) (fun c7 => ?_) (fun c7 => ?_)
      · skip
        rw [nI_eq (by omega) (by omega)] at c7
        refine lv_iload_n hx hb dX6_step_50 rfl (lv_at hl 2 rfl) ?_
        refine lv_iconst (v := nI 1) hx hb dX6_step_51 (by decide) ?_
        refine lv_icmp_ne (tgt := 58) hx hb dX6_step_52 (by decide) (fun c8 => ?_) (fun c8 => ?_)
        · skip
          refine lv_iload_n hx hb dX6_step_58 rfl (lv_at hl 2 rfl) ?_
          refine lv_iconst (v := nI 2) hx hb dX6_step_59 (by decide) ?_
          refine lv_icmp_ne (tgt := 66) hx hb dX6_step_60 (by decide) (fun c9 => ?_) (fun c9 => ?_)
          · skip
            refine lv_iload_n hx hb dX6_step_66 rfl (lv_at hl 0 rfl) ?_
            refine lv_iconst (v := nI 4) hx hb dX6_step_67 (by decide) ?_
            refine lv_icmp_ne (tgt := 76) hx hb dX6_step_68 (by decide) (fun c10 => ?_) (fun c10 => ?_)
            · skip
              rw [nI_eq (by omega) (by omega)] at c10
              refine lv_iload_n hx hb dX6_step_76 rfl (lv_at hl 0 rfl) ?_
              refine lv_iconst (v := nI 5) hx hb dX6_step_77 (by decide) ?_
              refine lv_icmp_ne (tgt := 86) hx hb dX6_step_78 (by decide) (fun c11 => ?_) (fun c11 => ?_)
              · skip
                rw [nI_eq (by omega) (by omega)] at c11
                refine lv_iload_n hx hb dX6_step_86 rfl (lv_at hl 1 rfl) ?_
                refine lv_iconst (v := nI 5) hx hb dX6_step_87 (by decide) ?_
                refine ts_ishr (v := x >>> ((nI 5) &&& 31)) hx hb dX6_step_88 rfl ?_
                refine lv_bipush (v := nI 10) hx hb dX6_step_89 (by decide) ?_
                refine ts_retI (va_runSN (As := [.int (x >>> ((nI 5) &&& 31)), .int (nI 10)]) (rest := []) ⟨hx, hb, hml, hown, hts⟩ (k_L_below l D q b H.size u (x >>> ((nI 5) &&& 31)) 10 ⟨by omega, by omega⟩) ⟨va_cnB 2 hts gX6_step_L_below_n116 rfl rfl rfl (hN _ (List.mem_of_getElem? (i := 15) rfl)) (hts _ (List.mem_of_getElem? (i := 2) rfl)) (by decide +kernel) ⟨Nat.le_of_ble_eq_true rfl, Nat.le_of_ble_eq_true rfl⟩, hts _ (List.mem_of_getElem? (i := 1) rfl), trivial⟩ (ts_preS hK hN hW) rfl rfl hl.1 rfl (lv_room (Nat.le_of_ble_eq_true rfl)) dX6_step_91 ⟨Nat.zero_le _, Nat.zero_le _⟩) hS (fun x h => ts_Aup hS.1 h) (fun r12 u13 H locs hp14 hW _ _ hS => ?_)
                have hp14r : r12 = nI (blwN (x >>> ((nI 5) &&& 31)) 10) := hp14.1
                have hp14u : u13 = u := hp14.2
                rw [hp14r]
                rw [hp14u] at hW
                have hq15 := blwN_lt (x >>> ((nI 5) &&& 31)) (n := 10) (by omega)
                exact ts_iret (u := u) (v := nI (blwN (x >>> ((nI 5) &&& 31)) 10)) C0 hW hS (by exact ⟨⟨_, rfl, by omega⟩, rfl⟩) dX6_step_94
              rw [nI_eq (by omega) (by omega)] at c11
              refine lv_bipush (v := nI 24) hx hb dX6_step_81 (by decide) ?_
              refine lv_goto (tgt := 94) hx hb dX6_step_83 (by decide) ?_
              exact ts_iret (u := u) (v := nI 24) C0 hW hS (by exact ⟨⟨_, rfl, by omega⟩, rfl⟩) dX6_step_94
            rw [nI_eq (by omega) (by omega)] at c10
            refine lv_bipush (v := nI 22) hx hb dX6_step_71 (by decide) ?_
            refine lv_goto (tgt := 94) hx hb dX6_step_73 (by decide) ?_
            exact ts_iret (u := u) (v := nI 22) C0 hW hS (by exact ⟨⟨_, rfl, by omega⟩, rfl⟩) dX6_step_94
          refine lv_bipush (v := nI 23) hx hb dX6_step_63 (by decide) ?_
          exact ts_iret (u := u) (v := nI 23) C0 hW hS (by exact ⟨⟨_, rfl, by omega⟩, rfl⟩) dX6_step_65
        refine lv_bipush (v := nI 20) hx hb dX6_step_55 (by decide) ?_
        exact ts_iret (u := u) (v := nI 20) C0 hW hS (by exact ⟨⟨_, rfl, by omega⟩, rfl⟩) dX6_step_57
      rw [nI_eq (by omega) (by omega)] at c7
      refine lv_bipush (v := nI 21) hx hb dX6_step_47 (by decide) ?_
      exact ts_iret (u := u) (v := nI 21) C0 hW hS (by exact ⟨⟨_, rfl, by omega⟩, rfl⟩) dX6_step_49
    rw [nI_eq (by omega) (by omega)] at c6
    refine lv_bipush (v := nI 20) hx hb dX6_step_31 (by decide) ?_
    refine lv_iload_n hx hb dX6_step_33 rfl (lv_at hl 1 rfl) ?_
    refine lv_iconst (v := nI 5) hx hb dX6_step_34 (by decide) ?_
    refine ts_ishr (v := x >>> ((nI 5) &&& 31)) hx hb dX6_step_35 rfl ?_
    refine lv_iconst (v := nI 5) hx hb dX6_step_36 (by decide) ?_
    refine ts_retI (va_runSN (As := [.int (x >>> ((nI 5) &&& 31)), .int (nI 5)]) (rest := [.int (nI 20)]) ⟨hx, hb, hml, hown, hts⟩ (k_L_below l D q b H.size u (x >>> ((nI 5) &&& 31)) 5 ⟨by omega, by omega⟩) ⟨va_cnB 2 hts gX6_step_L_below_n116 rfl rfl rfl (hN _ (List.mem_of_getElem? (i := 15) rfl)) (hts _ (List.mem_of_getElem? (i := 2) rfl)) (by decide +kernel) ⟨Nat.le_of_ble_eq_true rfl, Nat.le_of_ble_eq_true rfl⟩, hts _ (List.mem_of_getElem? (i := 1) rfl), trivial⟩ (ts_preS hK hN hW) rfl rfl hl.1 rfl (lv_room (Nat.le_of_ble_eq_true rfl)) dX6_step_37 ⟨Nat.zero_le _, Nat.zero_le _⟩) hS (fun x h => ts_Aup hS.1 h) (fun r16 u17 H locs hp18 hW _ _ hS => ?_)
    have hp18r : r16 = nI (blwN (x >>> ((nI 5) &&& 31)) 5) := hp18.1
    have hp18u : u17 = u := hp18.2
    rw [hp18r]
    rw [hp18u] at hW
    have hq19 := blwN_lt (x >>> ((nI 5) &&& 31)) (n := 5) (by omega)
    refine ts_iadd (v := nI (20 + (blwN (x >>> ((nI 5) &&& 31)) 5))) hx hb dX6_step_40 (nI_add _ _) ?_
    exact ts_iret (u := u) (v := nI (20 + (blwN (x >>> ((nI 5) &&& 31)) 5))) C0 hW hS (by exact ⟨⟨_, rfl, by omega⟩, rfl⟩) dX6_step_41
  rw [nI_leI (by omega) (by omega)] at c5
  refine lv_bipush (v := nI 40) hx hb dX6_step_14 (by decide) ?_
  refine lv_iload_n hx hb dX6_step_16 rfl (lv_at hl 1 rfl) ?_
  refine lv_bipush (v := nI 6) hx hb dX6_step_17 (by decide) ?_
  refine ts_ishr (v := x >>> ((nI 6) &&& 31)) hx hb dX6_step_19 rfl ?_
  refine lv_iload_n hx hb dX6_step_20 rfl (lv_at hl 3 rfl) ?_
  refine ts_retI (va_runSN (As := [.int (x >>> ((nI 6) &&& 31)), .int (nI n)]) (rest := [.int (nI 40)]) ⟨hx, hb, hml, hown, hts⟩ (k_L_below l D q b H.size u (x >>> ((nI 6) &&& 31)) n ⟨by omega, by omega⟩) ⟨va_cnB 2 hts gX6_step_L_below_n116 rfl rfl rfl (hN _ (List.mem_of_getElem? (i := 15) rfl)) (hts _ (List.mem_of_getElem? (i := 2) rfl)) (by decide +kernel) ⟨Nat.le_of_ble_eq_true rfl, Nat.le_of_ble_eq_true rfl⟩, hts _ (List.mem_of_getElem? (i := 1) rfl), trivial⟩ (ts_preS hK hN hW) rfl rfl hl.1 rfl (lv_room (Nat.le_of_ble_eq_true rfl)) dX6_step_21 ⟨Nat.zero_le _, Nat.zero_le _⟩) hS (fun x h => ts_Aup hS.1 h) (fun r20 u21 H locs hp22 hW _ _ hS => ?_)
  have hp22r : r20 = nI (blwN (x >>> ((nI 6) &&& 31)) n) := hp22.1
  have hp22u : u21 = u := hp22.2
  rw [hp22r]
  rw [hp22u] at hW
  have hq23 := blwN_lt (x >>> ((nI 6) &&& 31)) (n := n) (by omega)
  refine ts_iadd (v := nI (40 + (blwN (x >>> ((nI 6) &&& 31)) n))) hx hb dX6_step_24 (nI_add _ _) ?_
  exact ts_iret (u := u) (v := nI (40 + (blwN (x >>> ((nI 6) &&& 31)) n))) C0 hW hS (by exact ⟨⟨_, rfl, by omega⟩, rfl⟩) dX6_step_25
