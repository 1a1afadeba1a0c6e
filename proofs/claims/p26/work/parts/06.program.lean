set_option maxHeartbeats 4000000 in
set_option maxRecDepth 100000 in
theorem k_X3_checked (l : Launch) (D : va_G) (q : CQ) (b sz : Nat) (u : ST) (f : Nat) (hwf : WP u.1) (hf : f < 10) : Met l yX3_checked wsX3_checked ({ frames := 2, cells := 0, slots := 0, locals := 41 } : Room) (va_Pc [.ref (b + 1), .int (nI f)] (Pr D q b sz u)) (cR D q b sz 23 (fun u' => u' = (u.1, chkA u.1 f, u.2.2))) 0 0 (ts_A b 52 sz) := by
  refine ts_met (by decide) rfl (Nat.le_of_ble_eq_true rfl) ?_
  intro p e s m below meth c C0 hX ls hl
  obtain ⟨hsz, hW, hK, hN⟩ := hX
  subst hsz
  obtain ⟨hx, hb, hml, hown, hts, -, -, -⟩ := id C0
  have hW : ts_W D b 52 (cel q b u) s.heap := hW
  have hS : va_S (ts_A b 52 s.heap.size) s.heap s.heap [] := va_S.rf
  have hB : ∀ k, k < 52 → ts_A b 52 s.heap.size (b + k) := fun k hk => ts_Ain hk
  have hi2 : ∀ w ∈ wsX20, w ∈ wsX3_checked := ts_lays 40 rfl
  have hi3 : ∀ w ∈ wsX30, w ∈ wsX3_checked := ts_lays 35 rfl
  have hl : lv_has ls 6 [(0, .ref (b + 1)), (1, .int (nI f))] := hl
  have hs := hwf.sz
  refine lv_aload_n hx hb dX3_checked_0 rfl (lv_at hl 0 rfl) ?_
  refine ts_get (C := RX3) (T := TX3) (N := 5) (v := .ref (b + 2)) hx hb hts hi3 hown hK hW 1 (by decide) cel_pr rfl 0 (by decide) (List.mem_of_getElem? (i := 1) rfl) rfl dX3_checked_1 ?_
  refine lv_iload_n hx hb dX3_checked_4 rfl (lv_at hl 1 rfl) ?_
  refine ts_aald (a := b + (3 + 2 * f)) hx hb hK hW 2 (by decide) 1 cel_fs rfl rfl (by omega) (by decide) rfl dX3_checked_5 ?_
  refine lv_astore_n (lv' := [(2, .ref (b + (3 + 2 * f))), (0, .ref (b + 1)), (1, .int (nI f))]) hx hb dX3_checked_6 rfl hl (by decide) rfl (fun ls hl => ?_)
  refine lv_aload_n hx hb dX3_checked_7 rfl (lv_at hl 1 rfl) ?_
  refine ts_get (C := RX3) (T := TX3) (N := 5) (v := .ref (b + 23)) hx hb hts hi3 hown hK hW 1 (by decide) cel_pr rfl 1 (by decide) (List.mem_of_getElem? (i := 2) rfl) rfl dX3_checked_8 ?_
  refine ts_retV (va_runV (As := []) (rest := []) ⟨hx, hb, hml, hown, hts⟩ (k_X1_clear l D q b s.heap.size u ) (cwV 0 hts gX3_checked_X1_clear rfl rfl rfl (by decide +kernel) ⟨Nat.le_of_ble_eq_true rfl, Nat.le_of_ble_eq_true rfl⟩) (ts_preV hK hN hW 23 (by decide) cel_fi rfl) rfl rfl hl.1 rfl (lv_room (Nat.le_of_ble_eq_true rfl)) dX3_checked_11 ⟨Nat.zero_le _, Nat.zero_le _⟩) hS (fun x h => ts_Aup hS.1 h) (fun u2 H locs hp3 hW _ _ hS => ?_)
  have hp3u : u2 = (u.1, (0, -1, 0), u.2.2.1, u.2.2.2) := hp3
  rw [hp3u] at hW
  refine lv_aload_n hx hb dX3_checked_14 rfl (lv_at hl 0 rfl) ?_
  refine ts_get (C := RX2) (T := TX2) (N := 4) (v := .int (nI (u.1.1 (30 + f)))) hx hb hts hi2 hown hK hW (3 + 2 * f) (by omega) (cel_fn (by omega)) rfl 2 (by decide) (List.mem_of_getElem? (i := 3) rfl) rfl dX3_checked_15 ?_
  have hq4 := hwf.fin (i := f) (by omega)
  refine lv_istore_n (lv' := [(3, .int (nI (u.1.1 (30 + f)))), (2, .ref (b + (3 + 2 * f))), (0, .ref (b + 1)), (1, .int (nI f))]) hx hb dX3_checked_18 rfl hl (by decide) rfl (fun ls hl => ?_)
  refine lv_iconst (v := nI 0) hx hb dX3_checked_19 (by decide) ?_
  refine lv_istore (lv' := [(4, .int (nI 0)), (3, .int (nI (u.1.1 (30 + f)))), (2, .ref (b + (3 + 2 * f))), (0, .ref (b + 1)), (1, .int (nI f))]) hx hb dX3_checked_20 hl (by decide) rfl (fun ls hl => ?_)
  have key5 : ∀ (fu : Nat) (k : Nat), (k ≤ u.1.1 (20 + f)) → (thereP u.1 f k ≤ 3) → (u.1.1 (20 + f) - k) < fu → ∀ (H : Heap) (locs : List Loc), ts_W D b 52 (cel q b (u.1, (chkN u.1 f k), u.2.2.1, u.2.2.2)) H → va_S (ts_A b 52 s.heap.size) s.heap H locs → ∀ ls : Array Slot, lv_has ls 6 [(4, .int (nI k)), (3, .int (nI (thereP u.1 f k))), (2, .ref (b + (3 + 2 * f))), (0, .ref (b + 1)), (1, .int (nI f))] → W p l e ({ frames := 2, cells := 0, slots := 0, locals := 41 } : Room) s m [.ref (b + 1), .int (nI f)].toArray below meth c H locs 0 0 (MQ below (cR D q b s.heap.size 23 (fun u' => u' = (u.1, chkA u.1 f, u.2.2))) [.ref (b + 1), .int (nI f)].toArray s 0 0 (ts_A b 52 s.heap.size)) (F0 m 22 ls []) := by
    intro fu
    induction fu with
    | zero => intro k _ _ hn; exact absurd hn (Nat.not_lt_zero _)
    | succ fu ih6 =>
      intro k hk ht hn H locs hW hS ls hl
      have hq0 := chkN_le u.1 f k
      have hq1 := hwf.fsz hf
      refine lv_iload hx hb dX3_checked_22 (lv_at hl 0 rfl) ?_
      refine lv_aload_n hx hb dX3_checked_24 rfl (lv_at hl 2 rfl) ?_
      refine ts_get (C := RX2) (T := TX2) (N := 4) (v := .int (nI (u.1.1 (20 + f)))) hx hb hts hi2 hown hK hW (3 + 2 * f) (by omega) (cel_fn (by omega)) rfl 1 (by decide) (List.mem_of_getElem? (i := 4) rfl) rfl dX3_checked_25 ?_
      have hq7 := hwf.fsz (i := f) (by omega)
      refine lv_icmp_ge (tgt := 69) hx hb dX3_checked_28 (by decide) (fun c8 => ?_) (fun c8 => ?_)
      · skip
        rw [nI_leI (by omega) (by omega)] at c8
        refine lv_aload_n hx hb dX3_checked_69 rfl (lv_at hl 3 rfl) ?_
        refine ts_get (C := RX3) (T := TX3) (N := 5) (v := .ref (b + 23)) hx hb hts hi3 hown hK hW 1 (by decide) cel_pr rfl 1 (by decide) (List.mem_of_getElem? (i := 2) rfl) rfl dX3_checked_70 ?_
        refine lv_aload_n hx hb dX3_checked_73 rfl (lv_at hl 2 rfl) ?_
        refine ts_get (C := RX2) (T := TX2) (N := 4) (v := .int (nI (u.1.1 (40 + f)))) hx hb hts hi2 hown hK hW (3 + 2 * f) (by omega) (cel_fn (by omega)) rfl 3 (by decide) (List.mem_of_getElem? (i := 6) rfl) rfl dX3_checked_74 ?_
        have hq9 := hwf.fout (i := f) (by omega)
        refine lv_iload_n hx hb dX3_checked_77 rfl (lv_at hl 1 rfl) ?_
        refine lv_aload_n hx hb dX3_checked_78 rfl (lv_at hl 2 rfl) ?_
        refine ts_get (C := RX2) (T := TX2) (N := 4) (v := .int (nI (u.1.1 (20 + f)))) hx hb hts hi2 hown hK hW (3 + 2 * f) (by omega) (cel_fn (by omega)) rfl 1 (by decide) (List.mem_of_getElem? (i := 4) rfl) rfl dX3_checked_79 ?_
        have hq10 := hwf.fsz (i := f) (by omega)
        refine ts_retV (va_runV (As := [.int (nI (u.1.1 (40 + f))), .int (nI (thereP u.1 f k)), .int (nI (u.1.1 (20 + f)))]) (rest := []) ⟨hx, hb, hml, hown, hts⟩ (k_X1_need l D q b H.size (u.1, (chkN u.1 f k), u.2.2.1, u.2.2.2) (u.1.1 (40 + f)) (thereP u.1 f k) (u.1.1 (20 + f)) (by omega) (by omega) (by omega) (by show (chkN u.1 f k).1 < 1000; omega)) (cwV 3 hts gX3_checked_X1_need rfl rfl rfl (by decide +kernel) ⟨Nat.le_of_ble_eq_true rfl, Nat.le_of_ble_eq_true rfl⟩) (ts_preV hK hN hW 23 (by decide) cel_fi rfl) rfl rfl hl.1 rfl (lv_room (Nat.le_of_ble_eq_true rfl)) dX3_checked_82 ⟨Nat.zero_le _, Nat.zero_le _⟩) hS (fun x h => ts_Aup hS.1 h) (fun u12 H locs hp13 hW _ _ hS => ?_)
        have hp13u : u12 = (u.1, (needF (chkN u.1 f k) (u.1.1 (40 + f)) (thereP u.1 f k) (u.1.1 (20 + f))), u.2.2.1, u.2.2.2) := hp13
        rw [hp13u] at hW
        refine lv_aload_n hx hb dX3_checked_85 rfl (lv_at hl 3 rfl) ?_
        refine ts_get (C := RX3) (T := TX3) (N := 5) (v := .ref (b + 23)) hx hb hts hi3 hown hK hW 1 (by decide) cel_pr rfl 1 (by decide) (List.mem_of_getElem? (i := 2) rfl) rfl dX3_checked_86 ?_
        exact ts_aret (u := (u.1, (needF (chkN u.1 f k) (u.1.1 (40 + f)) (thereP u.1 f k) (u.1.1 (20 + f))), u.2.2.1, u.2.2.2)) (k := 23) C0 (Or.inl ⟨_, rfl⟩) hW hS (by (show _ = (u.1, chkA u.1 f, u.2.2)); unfold chkA; rw [show u.1.1 (20 + f) = k by omega]) dX3_checked_89
      rw [nI_leI (by omega) (by omega)] at c8
      refine lv_aload_n hx hb dX3_checked_31 rfl (lv_at hl 2 rfl) ?_
      refine ts_get (C := RX2) (T := TX2) (N := 4) (v := .ref (b + (4 + 2 * f))) hx hb hts hi2 hown hK hW (3 + 2 * f) (by omega) (cel_fn (by omega)) rfl 0 (by decide) (List.mem_of_getElem? (i := 5) rfl) rfl dX3_checked_32 ?_
      refine lv_iload hx hb dX3_checked_35 (lv_at hl 0 rfl) ?_
      refine ts_iald (v := nI (u.1.2 f k)) hx hb hK hW (4 + 2 * f) (by omega) 0 (cel_sp (by omega)) rfl (by omega) (by decide) rfl dX3_checked_37 ?_
      have hq14 := hwf.stp (i := f) (j := k) (by omega) (by omega)
      refine lv_istore (lv' := [(5, .int (nI (u.1.2 f k))), (4, .int (nI k)), (3, .int (nI (thereP u.1 f k))), (2, .ref (b + (3 + 2 * f))), (0, .ref (b + 1)), (1, .int (nI f))]) hx hb dX3_checked_38 hl (by decide) rfl (fun ls hl => ?_)
      refine lv_aload_n hx hb dX3_checked_40 rfl (lv_at hl 4 rfl) ?_
      refine ts_get (C := RX3) (T := TX3) (N := 5) (v := .ref (b + 23)) hx hb hts hi3 hown hK hW 1 (by decide) cel_pr rfl 1 (by decide) (List.mem_of_getElem? (i := 2) rfl) rfl dX3_checked_41 ?_
      refine lv_aload_n hx hb dX3_checked_44 rfl (lv_at hl 4 rfl) ?_
      refine lv_iload hx hb dX3_checked_45 (lv_at hl 0 rfl) ?_
      refine ts_retI (va_runV (As := [.int (nI (u.1.2 f k))]) (rest := [.ref (b + 23)]) ⟨hx, hb, hml, hown, hts⟩ (k_X3_needOf l D q b H.size (u.1, (chkN u.1 f k), u.2.2.1, u.2.2.2) (u.1.2 f k) hwf (by omega)) (cwV 1 hts gX3_checked_X3_needOf rfl rfl rfl (by decide +kernel) ⟨Nat.le_of_ble_eq_true rfl, Nat.le_of_ble_eq_true rfl⟩) (ts_preV hK hN hW 1 (by decide) cel_pr rfl) rfl rfl hl.1 rfl (lv_room (Nat.le_of_ble_eq_true rfl)) dX3_checked_47 ⟨Nat.zero_le _, Nat.zero_le _⟩) hS (fun x h => ts_Aup hS.1 h) (fun r15 u16 H locs hp17 hW _ _ hS => ?_)
      have hp17r : r15 = nI (needP u.1 (u.1.2 f k)) := hp17.1
      have hp17u : u16 = (u.1, (chkN u.1 f k), u.2.2.1, u.2.2.2) := hp17.2
      rw [hp17r]
      rw [hp17u] at hW
      have hq18 := needP_le hwf (v := u.1.2 f k) (by unfold okS; omega)
      refine lv_iload_n hx hb dX3_checked_50 rfl (lv_at hl 2 rfl) ?_
      refine lv_iload hx hb dX3_checked_51 (lv_at hl 1 rfl) ?_
      refine ts_retV (va_runV (As := [.int (nI (needP u.1 (u.1.2 f k))), .int (nI (thereP u.1 f k)), .int (nI k)]) (rest := []) ⟨hx, hb, hml, hown, hts⟩ (k_X1_need l D q b H.size (u.1, (chkN u.1 f k), u.2.2.1, u.2.2.2) (needP u.1 (u.1.2 f k)) (thereP u.1 f k) k (by omega) (by omega) (by omega) (by show (chkN u.1 f k).1 < 1000; omega)) (cwV 3 hts gX3_checked_X1_need rfl rfl rfl (by decide +kernel) ⟨Nat.le_of_ble_eq_true rfl, Nat.le_of_ble_eq_true rfl⟩) (ts_preV hK hN hW 23 (by decide) cel_fi rfl) rfl rfl hl.1 rfl (lv_room (Nat.le_of_ble_eq_true rfl)) dX3_checked_53 ⟨Nat.zero_le _, Nat.zero_le _⟩) hS (fun x h => ts_Aup hS.1 h) (fun u20 H locs hp21 hW _ _ hS => ?_)
      have hp21u : u20 = (u.1, (needF (chkN u.1 f k) (needP u.1 (u.1.2 f k)) (thereP u.1 f k) k), u.2.2.1, u.2.2.2) := hp21
      rw [hp21u] at hW
      refine lv_aload_n hx hb dX3_checked_56 rfl (lv_at hl 4 rfl) ?_
      refine lv_iload hx hb dX3_checked_57 (lv_at hl 0 rfl) ?_
      refine ts_retI (va_runV (As := [.int (nI (u.1.2 f k))]) (rest := []) ⟨hx, hb, hml, hown, hts⟩ (k_X3_giftOf l D q b H.size (u.1, (needF (chkN u.1 f k) (needP u.1 (u.1.2 f k)) (thereP u.1 f k) k), u.2.2.1, u.2.2.2) (u.1.2 f k) hwf (by omega)) (cwV 1 hts gX3_checked_X3_giftOf rfl rfl rfl (by decide +kernel) ⟨Nat.le_of_ble_eq_true rfl, Nat.le_of_ble_eq_true rfl⟩) (ts_preV hK hN hW 1 (by decide) cel_pr rfl) rfl rfl hl.1 rfl (lv_room (Nat.le_of_ble_eq_true rfl)) dX3_checked_59 ⟨Nat.zero_le _, Nat.zero_le _⟩) hS (fun x h => ts_Aup hS.1 h) (fun r22 u23 H locs hp24 hW _ _ hS => ?_)
      have hp24r : r22 = nI (giftP u.1 (u.1.2 f k)) := hp24.1
      have hp24u : u23 = (u.1, (needF (chkN u.1 f k) (needP u.1 (u.1.2 f k)) (thereP u.1 f k) k), u.2.2.1, u.2.2.2) := hp24.2
      rw [hp24r]
      rw [hp24u] at hW
      have hq25 := giftP_le hwf (v := u.1.2 f k) (by unfold okS; omega)
      refine lv_istore_n (lv' := [(3, .int (nI (giftP u.1 (u.1.2 f k)))), (5, .int (nI (u.1.2 f k))), (4, .int (nI k)), (2, .ref (b + (3 + 2 * f))), (0, .ref (b + 1)), (1, .int (nI f))]) hx hb dX3_checked_62 rfl hl (by decide) rfl (fun ls hl => ?_)
      refine lv_iinc (v := nI (k + 1)) (lv' := [(4, .int (nI (k + 1))), (3, .int (nI (giftP u.1 (u.1.2 f k)))), (5, .int (nI (u.1.2 f k))), (2, .ref (b + (3 + 2 * f))), (0, .ref (b + 1)), (1, .int (nI f))]) hx hb dX3_checked_63 hl (k := 2) rfl (nI_add k 1) (by decide) rfl (fun ls hl => ?_)
      refine lv_goto (tgt := 22) hx hb dX3_checked_66 (by decide) ?_
      have e26 : thereP u.1 f (k + 1) = giftP u.1 (u.1.2 f k) := by first | rfl | simp [thereP]
      exact ih6 (k + 1) (by omega) (by show giftP _ _ ≤ 3; omega) (by omega) H locs hW hS ls (show lv_has ls 6 [(4, .int (nI (k + 1))), (3, .int (nI (thereP u.1 f (k + 1)))), (2, .ref (b + (3 + 2 * f))), (0, .ref (b + 1)), (1, .int (nI f))] from by rw [e26]; exact lv_sub hl [0, 1, 3, 4, 5] rfl)
  have e27 : thereP u.1 f 0 = u.1.1 (30 + f) := by first | rfl | simp [thereP]
  exact key5 _ 0 (by omega) (hwf.fin hf) (Nat.lt_succ_self _) _ _ hW hS ls (show lv_has ls 6 [(4, .int (nI 0)), (3, .int (nI (thereP u.1 f 0))), (2, .ref (b + (3 + 2 * f))), (0, .ref (b + 1)), (1, .int (nI f))] from by rw [e27]; exact lv_sub hl [0, 1, 2, 3, 4] rfl)
set_option maxHeartbeats 4000000 in
set_option maxRecDepth 100000 in
theorem k_X3_typable (l : Launch) (D : va_G) (q : CQ) (b sz : Nat) (u : ST)  (hwf : WP u.1) : Met l yX3_typable wsX3_typable ({ frames := 3, cells := 0, slots := 0, locals := 66 } : Room) (va_Pc [.ref (b + 1)] (Pr D q b sz u)) (cI D q b sz (fun r u' => r = nI (typN u.1 (u.1.1 1)) ∧ ∃ F : FT, u' = (u.1, F, u.2.2))) 0 0 (ts_A b 52 sz) := by
  refine ts_met (by decide) rfl (Nat.le_of_ble_eq_true rfl) ?_
  intro p e s m below meth c C0 hX ls hl
  obtain ⟨hsz, hW, hK, hN⟩ := hX
  subst hsz
  obtain ⟨hx, hb, hml, hown, hts, -, -, -⟩ := id C0
  have hW : ts_W D b 52 (cel q b u) s.heap := hW
  have hS : va_S (ts_A b 52 s.heap.size) s.heap s.heap [] := va_S.rf
  have hB : ∀ k, k < 52 → ts_A b 52 s.heap.size (b + k) := fun k hk => ts_Ain hk
  have hi3 : ∀ w ∈ wsX30, w ∈ wsX3_typable := ts_lays 46 rfl
  have hl : lv_has ls 3 [(0, .ref (b + 1))] := hl
  have hs := hwf.sz
  refine lv_iconst (v := nI 0) hx hb dX3_typable_0 (by decide) ?_
  refine lv_istore_n (lv' := [(1, .int (nI 0)), (0, .ref (b + 1))]) hx hb dX3_typable_1 rfl hl (by decide) rfl (fun ls hl => ?_)
  refine lv_iconst (v := nI 0) hx hb dX3_typable_2 (by decide) ?_
  refine lv_istore_n (lv' := [(2, .int (nI 0)), (1, .int (nI 0)), (0, .ref (b + 1))]) hx hb dX3_typable_3 rfl hl (by decide) rfl (fun ls hl => ?_)
  have key1 : ∀ (fu : Nat) (k : Nat) (F : FT), (k ≤ u.1.1 1) → (u.1.1 1 - k) < fu → ∀ (H : Heap) (locs : List Loc), ts_W D b 52 (cel q b (u.1, F, u.2.2.1, u.2.2.2)) H → va_S (ts_A b 52 s.heap.size) s.heap H locs → ∀ ls : Array Slot, lv_has ls 3 [(2, .int (nI k)), (1, .int (nI (typN u.1 k))), (0, .ref (b + 1))] → W p l e ({ frames := 3, cells := 0, slots := 0, locals := 66 } : Room) s m [.ref (b + 1)].toArray below meth c H locs 0 0 (MQ below (cI D q b s.heap.size (fun r u' => r = nI (typN u.1 (u.1.1 1)) ∧ ∃ F : FT, u' = (u.1, F, u.2.2))) [.ref (b + 1)].toArray s 0 0 (ts_A b 52 s.heap.size)) (F0 m 4 ls []) := by
    intro fu
    induction fu with
    | zero => intro k F _ hn; exact absurd hn (Nat.not_lt_zero _)
    | succ fu ih2 =>
      intro k F hk hn H locs hW hS ls hl
      refine lv_iload_n hx hb dX3_typable_4 rfl (lv_at hl 0 rfl) ?_
      refine lv_aload_n hx hb dX3_typable_5 rfl (lv_at hl 2 rfl) ?_
      refine ts_get (C := RX3) (T := TX3) (N := 5) (v := .int (nI (u.1.1 1))) hx hb hts hi3 hown hK hW 1 (by decide) cel_pr rfl 2 (by decide) (List.mem_of_getElem? (i := 1) rfl) rfl dX3_typable_6 ?_
      refine lv_icmp_ge (tgt := 35) hx hb dX3_typable_9 (by decide) (fun c3 => ?_) (fun c3 => ?_)
      · skip
        rw [nI_leI (by omega) (by omega)] at c3
        refine lv_iload_n hx hb dX3_typable_35 rfl (lv_at hl 1 rfl) ?_
        exact ts_iret (u := (u.1, F, u.2.2.1, u.2.2.2)) (v := nI (typN u.1 k)) C0 hW hS (by rw [show u.1.1 1 = k by omega]; exact ⟨rfl, _, rfl⟩) dX3_typable_36
      rw [nI_leI (by omega) (by omega)] at c3
      refine lv_aload_n hx hb dX3_typable_12 rfl (lv_at hl 2 rfl) ?_
      refine lv_iload_n hx hb dX3_typable_13 rfl (lv_at hl 0 rfl) ?_
      refine ts_retR (va_runV (As := [.int (nI k)]) (rest := []) ⟨hx, hb, hml, hown, hts⟩ (k_X3_checked l D q b H.size (u.1, F, u.2.2.1, u.2.2.2) k hwf (by omega)) (cwV 1 hts gX3_typable_X3_checked rfl rfl rfl (by decide +kernel) ⟨Nat.le_of_ble_eq_true rfl, Nat.le_of_ble_eq_true rfl⟩) (ts_preV hK hN hW 1 (by decide) cel_pr rfl) rfl rfl hl.1 rfl (lv_room (Nat.le_of_ble_eq_true rfl)) dX3_typable_14 ⟨Nat.zero_le _, Nat.zero_le _⟩) hS (fun x h => ts_Aup hS.1 h) (fun u5 H locs hp6 hW _ _ hS => ?_)
      have hp6u : u5 = (u.1, (chkA u.1 k), u.2.2.1, u.2.2.2) := hp6
      rw [hp6u] at hW
      have hq7 := chkA_le hwf (f := k) (by omega)
      refine ts_retI (va_runV (As := []) (rest := []) ⟨hx, hb, hml, hown, hts⟩ (k_X1_areNone l D q b H.size (u.1, (chkA u.1 k), u.2.2.1, u.2.2.2) (by show (chkA u.1 k).1 < 1000; omega) (by show (chkA u.1 k).2.2 < 1000; omega)) (cwV 0 hts gX3_typable_X1_areNone rfl rfl rfl (by decide +kernel) ⟨Nat.le_of_ble_eq_true rfl, Nat.le_of_ble_eq_true rfl⟩) (ts_preV hK hN hW 23 (by decide) cel_fi rfl) rfl rfl hl.1 rfl (lv_room (Nat.le_of_ble_eq_true rfl)) dX3_typable_17 ⟨Nat.zero_le _, Nat.zero_le _⟩) hS (fun x h => ts_Aup hS.1 h) (fun r8 u9 H locs hp10 hW _ _ hS => ?_)
      have hp10r : r8 = b2i (noneF (chkA u.1 k)) := hp10.1
      have hp10u : u9 = (u.1, (chkA u.1 k), u.2.2.1, u.2.2.2) := hp10.2
      rw [hp10r]
      rw [hp10u] at hW
      refine lv_if_eq (tgt := 29) hx hb dX3_typable_20 (by decide) (fun c11 => ?_) (fun c11 => ?_)
      · skip
        have c11 := ts_bf c11
        refine lv_iinc (v := nI (k + 1)) (lv' := [(2, .int (nI (k + 1))), (1, .int (nI (typN u.1 k))), (0, .ref (b + 1))]) hx hb dX3_typable_29 hl (k := 0) rfl (nI_add k 1) (by decide) rfl (fun ls hl => ?_)
        refine lv_goto (tgt := 4) hx hb dX3_typable_32 (by decide) ?_
        have e12 : typN u.1 (k + 1) = typN u.1 k := by first | rfl | simp [typN, okF, *]
        exact ih2 (k + 1) (chkA u.1 k) (by omega) (by omega) H locs hW hS ls (show lv_has ls 3 [(2, .int (nI (k + 1))), (1, .int (nI (typN u.1 (k + 1)))), (0, .ref (b + 1))] from by rw [e12]; exact lv_sub hl [0, 1, 2] rfl)
      have c11 := ts_bt c11
      refine lv_iload_n hx hb dX3_typable_23 rfl (lv_at hl 1 rfl) ?_
      refine lv_iload_n hx hb dX3_typable_24 rfl (lv_at hl 0 rfl) ?_
      refine ts_retI (va_runSN (As := [.int (nI (typN u.1 k)), .int (nI k)]) (rest := []) ⟨hx, hb, hml, hown, hts⟩ (k_X5_with l D q b H.size (u.1, (chkA u.1 k), u.2.2.1, u.2.2.2) (typN u.1 k) k (by omega)) ⟨va_cnB 2 hts gX3_typable_X5_with_n72 rfl rfl rfl (hN _ (List.mem_of_getElem? (i := 6) rfl)) (hts _ (List.mem_of_getElem? (i := 26) rfl)) (by decide +kernel) ⟨Nat.le_of_ble_eq_true rfl, Nat.le_of_ble_eq_true rfl⟩, hts _ (List.mem_of_getElem? (i := 44) rfl), trivial⟩ (ts_preS hK hN hW) rfl rfl hl.1 rfl (lv_room (Nat.le_of_ble_eq_true rfl)) dX3_typable_25 ⟨Nat.zero_le _, Nat.zero_le _⟩) hS (fun x h => ts_Aup hS.1 h) (fun r13 u14 H locs hp15 hW _ _ hS => ?_)
      have hp15r : r13 = nI (setB (typN u.1 k) k) := hp15.1
      have hp15u : u14 = (u.1, (chkA u.1 k), u.2.2.1, u.2.2.2) := hp15.2
      rw [hp15r]
      rw [hp15u] at hW
      refine lv_istore_n (lv' := [(1, .int (nI (setB (typN u.1 k) k))), (2, .int (nI k)), (0, .ref (b + 1))]) hx hb dX3_typable_28 rfl hl (by decide) rfl (fun ls hl => ?_)
      refine lv_iinc (v := nI (k + 1)) (lv' := [(2, .int (nI (k + 1))), (1, .int (nI (setB (typN u.1 k) k))), (0, .ref (b + 1))]) hx hb dX3_typable_29 hl (k := 1) rfl (nI_add k 1) (by decide) rfl (fun ls hl => ?_)
      refine lv_goto (tgt := 4) hx hb dX3_typable_32 (by decide) ?_
      have e16 : typN u.1 (k + 1) = setB (typN u.1 k) k := by first | rfl | simp [typN, okF, *]
      exact ih2 (k + 1) (chkA u.1 k) (by omega) (by omega) H locs hW hS ls (show lv_has ls 3 [(2, .int (nI (k + 1))), (1, .int (nI (typN u.1 (k + 1)))), (0, .ref (b + 1))] from by rw [e16]; exact lv_sub hl [0, 1, 2] rfl)
  have e17 : typN u.1 0 = 0 := by first | rfl | simp [typN, okF, *]
  exact key1 _ 0 u.2.1 (by omega) (Nat.lt_succ_self _) _ _ hW hS ls (show lv_has ls 3 [(2, .int (nI 0)), (1, .int (nI (typN u.1 0))), (0, .ref (b + 1))] from by rw [e17]; exact lv_sub hl [0, 1, 2] rfl)
set_option maxHeartbeats 4000000 in
set_option maxRecDepth 100000 in
theorem k_X3_allFaults (l : Launch) (D : va_G) (q : CQ) (b sz : Nat) (u : ST)  (hwf : WP u.1) : Met l yX3_allFaults wsX3_allFaults ({ frames := 3, cells := 0, slots := 0, locals := 66 } : Room) (va_Pc [.ref (b + 1)] (Pr D q b sz u)) (cI D q b sz (fun r u' => r = nI (fltN u.1 (u.1.1 1)) ∧ ∃ F : FT, u' = (u.1, F, u.2.2))) 0 0 (ts_A b 52 sz) := by
  refine ts_met (by decide) rfl (Nat.le_of_ble_eq_true rfl) ?_
  intro p e s m below meth c C0 hX ls hl
  obtain ⟨hsz, hW, hK, hN⟩ := hX
  subst hsz
  obtain ⟨hx, hb, hml, hown, hts, -, -, -⟩ := id C0
  have hW : ts_W D b 52 (cel q b u) s.heap := hW
  have hS : va_S (ts_A b 52 s.heap.size) s.heap s.heap [] := va_S.rf
  have hB : ∀ k, k < 52 → ts_A b 52 s.heap.size (b + k) := fun k hk => ts_Ain hk
  have hi1 : ∀ w ∈ wsX10, w ∈ wsX3_allFaults := ts_lays 46 rfl
  have hi3 : ∀ w ∈ wsX30, w ∈ wsX3_allFaults := ts_lays 41 rfl
  have hl : lv_has ls 3 [(0, .ref (b + 1))] := hl
  have hs := hwf.sz
  refine lv_iconst (v := nI 0) hx hb dX3_allFaults_0 (by decide) ?_
  refine lv_istore_n (lv' := [(1, .int (nI 0)), (0, .ref (b + 1))]) hx hb dX3_allFaults_1 rfl hl (by decide) rfl (fun ls hl => ?_)
  refine lv_iconst (v := nI 0) hx hb dX3_allFaults_2 (by decide) ?_
  refine lv_istore_n (lv' := [(2, .int (nI 0)), (1, .int (nI 0)), (0, .ref (b + 1))]) hx hb dX3_allFaults_3 rfl hl (by decide) rfl (fun ls hl => ?_)
  have key1 : ∀ (fu : Nat) (k : Nat) (F : FT), (k ≤ u.1.1 1) → (u.1.1 1 - k) < fu → ∀ (H : Heap) (locs : List Loc), ts_W D b 52 (cel q b (u.1, F, u.2.2.1, u.2.2.2)) H → va_S (ts_A b 52 s.heap.size) s.heap H locs → ∀ ls : Array Slot, lv_has ls 3 [(2, .int (nI k)), (1, .int (nI (fltN u.1 k))), (0, .ref (b + 1))] → W p l e ({ frames := 3, cells := 0, slots := 0, locals := 66 } : Room) s m [.ref (b + 1)].toArray below meth c H locs 0 0 (MQ below (cI D q b s.heap.size (fun r u' => r = nI (fltN u.1 (u.1.1 1)) ∧ ∃ F : FT, u' = (u.1, F, u.2.2))) [.ref (b + 1)].toArray s 0 0 (ts_A b 52 s.heap.size)) (F0 m 4 ls []) := by
    intro fu
    induction fu with
    | zero => intro k F _ hn; exact absurd hn (Nat.not_lt_zero _)
    | succ fu ih2 =>
      intro k F hk hn H locs hW hS ls hl
      refine lv_iload_n hx hb dX3_allFaults_4 rfl (lv_at hl 0 rfl) ?_
      refine lv_aload_n hx hb dX3_allFaults_5 rfl (lv_at hl 2 rfl) ?_
      refine ts_get (C := RX3) (T := TX3) (N := 5) (v := .int (nI (u.1.1 1))) hx hb hts hi3 hown hK hW 1 (by decide) cel_pr rfl 2 (by decide) (List.mem_of_getElem? (i := 1) rfl) rfl dX3_allFaults_6 ?_
      refine lv_icmp_ge (tgt := 29) hx hb dX3_allFaults_9 (by decide) (fun c3 => ?_) (fun c3 => ?_)
      · skip
        rw [nI_leI (by omega) (by omega)] at c3
        refine lv_iload_n hx hb dX3_allFaults_29 rfl (lv_at hl 1 rfl) ?_
        exact ts_iret (u := (u.1, F, u.2.2.1, u.2.2.2)) (v := nI (fltN u.1 k)) C0 hW hS (by rw [show u.1.1 1 = k by omega]; exact ⟨rfl, _, rfl⟩) dX3_allFaults_30
      rw [nI_leI (by omega) (by omega)] at c3
      refine lv_iload_n hx hb dX3_allFaults_12 rfl (lv_at hl 1 rfl) ?_
      refine lv_aload_n hx hb dX3_allFaults_13 rfl (lv_at hl 2 rfl) ?_
      refine lv_iload_n hx hb dX3_allFaults_14 rfl (lv_at hl 0 rfl) ?_
      refine ts_retR (va_runV (As := [.int (nI k)]) (rest := [.int (nI (fltN u.1 k))]) ⟨hx, hb, hml, hown, hts⟩ (k_X3_checked l D q b H.size (u.1, F, u.2.2.1, u.2.2.2) k hwf (by omega)) (cwV 1 hts gX3_allFaults_X3_checked rfl rfl rfl (by decide +kernel) ⟨Nat.le_of_ble_eq_true rfl, Nat.le_of_ble_eq_true rfl⟩) (ts_preV hK hN hW 1 (by decide) cel_pr rfl) rfl rfl hl.1 rfl (lv_room (Nat.le_of_ble_eq_true rfl)) dX3_allFaults_15 ⟨Nat.zero_le _, Nat.zero_le _⟩) hS (fun x h => ts_Aup hS.1 h) (fun u5 H locs hp6 hW _ _ hS => ?_)
      have hp6u : u5 = (u.1, (chkA u.1 k), u.2.2.1, u.2.2.2) := hp6
      rw [hp6u] at hW
      have hq7 := chkA_le hwf (f := k) (by omega)
      refine ts_get (C := RX1) (T := TX1) (N := 3) (v := .int (nI (((chkA u.1 k)).1))) hx hb hts hi1 hown hK hW 23 (by decide) cel_fi rfl 0 (by decide) (List.mem_of_getElem? (i := 2) rfl) rfl dX3_allFaults_18 ?_
      refine ts_iadd (v := nI ((fltN u.1 k) + (((chkA u.1 k)).1))) hx hb dX3_allFaults_21 (nI_add _ _) ?_
      refine lv_istore_n (lv' := [(1, .int (nI ((fltN u.1 k) + (((chkA u.1 k)).1)))), (2, .int (nI k)), (0, .ref (b + 1))]) hx hb dX3_allFaults_22 rfl hl (by decide) rfl (fun ls hl => ?_)
      refine lv_iinc (v := nI (k + 1)) (lv' := [(2, .int (nI (k + 1))), (1, .int (nI ((fltN u.1 k) + (((chkA u.1 k)).1)))), (0, .ref (b + 1))]) hx hb dX3_allFaults_23 hl (k := 1) rfl (nI_add k 1) (by decide) rfl (fun ls hl => ?_)
      refine lv_goto (tgt := 4) hx hb dX3_allFaults_26 (by decide) ?_
      have e8 : fltN u.1 (k + 1) = (fltN u.1 k) + (((chkA u.1 k)).1) := by first | rfl | simp [fltN, *]
      exact ih2 (k + 1) (chkA u.1 k) (by omega) (by omega) H locs hW hS ls (show lv_has ls 3 [(2, .int (nI (k + 1))), (1, .int (nI (fltN u.1 (k + 1)))), (0, .ref (b + 1))] from by rw [e8]; exact lv_sub hl [0, 1, 2] rfl)
  have e9 : fltN u.1 0 = 0 := by first | rfl | simp [fltN, *]
  exact key1 _ 0 u.2.1 (by omega) (Nat.lt_succ_self _) _ _ hW hS ls (show lv_has ls 3 [(2, .int (nI 0)), (1, .int (nI (fltN u.1 0))), (0, .ref (b + 1))] from by rw [e9]; exact lv_sub hl [0, 1, 2] rfl)
set_option maxHeartbeats 4000000 in
set_option maxRecDepth 100000 in
theorem k_X3_callersOf (l : Launch) (D : va_G) (q : CQ) (b sz : Nat) (u : ST) (f : Nat) (hwf : WP u.1) (hf : f < 10) : Met l yX3_callersOf wsX3_callersOf ({ frames := 1, cells := 0, slots := 0, locals := 22 } : Room) (va_Pc [.ref (b + 1), .int (nI f)] (Pr D q b sz u)) (cI D q b sz (fun r u' => r = nI (calN u.1 f (u.1.1 1)) ∧ u' = u)) 0 0 (ts_A b 52 sz) := by
  refine ts_met (by decide) rfl (Nat.le_of_ble_eq_true rfl) ?_
  intro p e s m below meth c C0 hX ls hl
  obtain ⟨hsz, hW, hK, hN⟩ := hX
  subst hsz
  obtain ⟨hx, hb, hml, hown, hts, -, -, -⟩ := id C0
  have hW : ts_W D b 52 (cel q b u) s.heap := hW
  have hS : va_S (ts_A b 52 s.heap.size) s.heap s.heap [] := va_S.rf
  have hB : ∀ k, k < 52 → ts_A b 52 s.heap.size (b + k) := fun k hk => ts_Ain hk
  have hi3 : ∀ w ∈ wsX30, w ∈ wsX3_callersOf := ts_lays 10 rfl
  have hl : lv_has ls 4 [(0, .ref (b + 1)), (1, .int (nI f))] := hl
  have hs := hwf.sz
  refine lv_iconst (v := nI 0) hx hb dX3_callersOf_0 (by decide) ?_
  refine lv_istore_n (lv' := [(2, .int (nI 0)), (0, .ref (b + 1)), (1, .int (nI f))]) hx hb dX3_callersOf_1 rfl hl (by decide) rfl (fun ls hl => ?_)
  refine lv_iconst (v := nI 0) hx hb dX3_callersOf_2 (by decide) ?_
  refine lv_istore_n (lv' := [(3, .int (nI 0)), (2, .int (nI 0)), (0, .ref (b + 1)), (1, .int (nI f))]) hx hb dX3_callersOf_3 rfl hl (by decide) rfl (fun ls hl => ?_)
  have key1 : ∀ (fu : Nat) (k : Nat), (k ≤ u.1.1 1) → (u.1.1 1 - k) < fu → ∀ (H : Heap) (locs : List Loc), ts_W D b 52 (cel q b u) H → va_S (ts_A b 52 s.heap.size) s.heap H locs → ∀ ls : Array Slot, lv_has ls 4 [(3, .int (nI k)), (2, .int (nI (calN u.1 f k))), (0, .ref (b + 1)), (1, .int (nI f))] → W p l e ({ frames := 1, cells := 0, slots := 0, locals := 22 } : Room) s m [.ref (b + 1), .int (nI f)].toArray below meth c H locs 0 0 (MQ below (cI D q b s.heap.size (fun r u' => r = nI (calN u.1 f (u.1.1 1)) ∧ u' = u)) [.ref (b + 1), .int (nI f)].toArray s 0 0 (ts_A b 52 s.heap.size)) (F0 m 4 ls []) := by
    intro fu
    induction fu with
    | zero => intro k _ hn; exact absurd hn (Nat.not_lt_zero _)
    | succ fu ih2 =>
      intro k hk hn H locs hW hS ls hl
      refine lv_iload_n hx hb dX3_callersOf_4 rfl (lv_at hl 0 rfl) ?_
      refine lv_aload_n hx hb dX3_callersOf_5 rfl (lv_at hl 2 rfl) ?_
      refine ts_get (C := RX3) (T := TX3) (N := 5) (v := .int (nI (u.1.1 1))) hx hb hts hi3 hown hK hW 1 (by decide) cel_pr rfl 2 (by decide) (List.mem_of_getElem? (i := 1) rfl) rfl dX3_callersOf_6 ?_
      refine lv_icmp_ge (tgt := 42) hx hb dX3_callersOf_9 (by decide) (fun c3 => ?_) (fun c3 => ?_)
      · skip
        rw [nI_leI (by omega) (by omega)] at c3
        refine lv_iload_n hx hb dX3_callersOf_42 rfl (lv_at hl 1 rfl) ?_
        exact ts_iret (u := u) (v := nI (calN u.1 f k)) C0 hW hS (by rw [show u.1.1 1 = k by omega]; exact ⟨rfl, rfl⟩) dX3_callersOf_43
      rw [nI_leI (by omega) (by omega)] at c3
      refine lv_iload_n hx hb dX3_callersOf_12 rfl (lv_at hl 0 rfl) ?_
      refine lv_iload_n hx hb dX3_callersOf_13 rfl (lv_at hl 3 rfl) ?_
      refine lv_icmp_eq (tgt := 36) hx hb dX3_callersOf_14 (by decide) (fun c4 => ?_) (fun c4 => ?_)
      · skip
        rw [nI_eq (by omega) (by omega)] at c4
        refine lv_iinc (v := nI (k + 1)) (lv' := [(3, .int (nI (k + 1))), (2, .int (nI (calN u.1 f k))), (0, .ref (b + 1)), (1, .int (nI f))]) hx hb dX3_callersOf_36 hl (k := 0) rfl (nI_add k 1) (by decide) rfl (fun ls hl => ?_)
        refine lv_goto (tgt := 4) hx hb dX3_callersOf_39 (by decide) ?_
        have e5 : calN u.1 f (k + 1) = calN u.1 f k := by first | rfl | simp [calN, *]
        exact ih2 (k + 1) (by omega) (by omega) H locs hW hS ls (show lv_has ls 4 [(3, .int (nI (k + 1))), (2, .int (nI (calN u.1 f (k + 1)))), (0, .ref (b + 1)), (1, .int (nI f))] from by rw [e5]; exact lv_sub hl [0, 1, 2, 3] rfl)
      rw [nI_eq (by omega) (by omega)] at c4
      refine lv_aload_n hx hb dX3_callersOf_17 rfl (lv_at hl 2 rfl) ?_
      refine ts_get (C := RX3) (T := TX3) (N := 5) (v := .ref (b + 2)) hx hb hts hi3 hown hK hW 1 (by decide) cel_pr rfl 0 (by decide) (List.mem_of_getElem? (i := 2) rfl) rfl dX3_callersOf_18 ?_
      refine lv_iload_n hx hb dX3_callersOf_21 rfl (lv_at hl 0 rfl) ?_
      refine ts_aald (a := b + (3 + 2 * k)) hx hb hK hW 2 (by decide) 1 cel_fs rfl rfl (by omega) (by decide) rfl dX3_callersOf_22 ?_
      refine lv_bipush (v := nI 40) hx hb dX3_callersOf_23 (by decide) ?_
      refine lv_iload_n hx hb dX3_callersOf_25 rfl (lv_at hl 3 rfl) ?_
      refine ts_iadd (v := nI (40 + f)) hx hb dX3_callersOf_26 (nI_add _ _) ?_
      refine ts_retI (va_runV (As := [.int (nI (40 + f))]) (rest := []) ⟨hx, hb, hml, hown, hts⟩ (k_X2_mentions l D q b H.size u k (40 + f) hwf (by omega) (by omega)) (cwV 1 hts gX3_callersOf_X2_mentions rfl rfl rfl (by decide +kernel) ⟨Nat.le_of_ble_eq_true rfl, Nat.le_of_ble_eq_true rfl⟩) (ts_preV hK hN hW (3 + 2 * k) (by omega) (cel_fn (by omega)) rfl) rfl rfl hl.1 rfl (lv_room (Nat.le_of_ble_eq_true rfl)) dX3_callersOf_27 ⟨Nat.zero_le _, Nat.zero_le _⟩) hS (fun x h => ts_Aup hS.1 h) (fun r6 u7 H locs hp8 hW _ _ hS => ?_)
      have hp8r : r6 = b2i (mentB u.1 k (40 + f) (u.1.1 (20 + k))) := hp8.1
      have hp8u : u7 = u := hp8.2
      rw [hp8r]
      rw [hp8u] at hW
      refine lv_if_eq (tgt := 36) hx hb dX3_callersOf_30 (by decide) (fun c9 => ?_) (fun c9 => ?_)
      · skip
        have c9 := ts_bf c9
        refine lv_iinc (v := nI (k + 1)) (lv' := [(3, .int (nI (k + 1))), (2, .int (nI (calN u.1 f k))), (0, .ref (b + 1)), (1, .int (nI f))]) hx hb dX3_callersOf_36 hl (k := 0) rfl (nI_add k 1) (by decide) rfl (fun ls hl => ?_)
        refine lv_goto (tgt := 4) hx hb dX3_callersOf_39 (by decide) ?_
        have e10 : calN u.1 f (k + 1) = calN u.1 f k := by first | rfl | simp [calN, *]
        exact ih2 (k + 1) (by omega) (by omega) H locs hW hS ls (show lv_has ls 4 [(3, .int (nI (k + 1))), (2, .int (nI (calN u.1 f (k + 1)))), (0, .ref (b + 1)), (1, .int (nI f))] from by rw [e10]; exact lv_sub hl [0, 1, 2, 3] rfl)
      have c9 := ts_bt c9
      refine lv_iinc (v := nI ((calN u.1 f k) + 1)) (lv' := [(2, .int (nI ((calN u.1 f k) + 1))), (3, .int (nI k)), (0, .ref (b + 1)), (1, .int (nI f))]) hx hb dX3_callersOf_33 hl (k := 1) rfl (nI_add (calN u.1 f k) 1) (by decide) rfl (fun ls hl => ?_)
      refine lv_iinc (v := nI (k + 1)) (lv' := [(3, .int (nI (k + 1))), (2, .int (nI ((calN u.1 f k) + 1))), (0, .ref (b + 1)), (1, .int (nI f))]) hx hb dX3_callersOf_36 hl (k := 1) rfl (nI_add k 1) (by decide) rfl (fun ls hl => ?_)
      refine lv_goto (tgt := 4) hx hb dX3_callersOf_39 (by decide) ?_
      have e11 : calN u.1 f (k + 1) = (calN u.1 f k) + 1 := by first | rfl | simp [calN, *]
      exact ih2 (k + 1) (by omega) (by omega) H locs hW hS ls (show lv_has ls 4 [(3, .int (nI (k + 1))), (2, .int (nI (calN u.1 f (k + 1)))), (0, .ref (b + 1)), (1, .int (nI f))] from by rw [e11]; exact lv_sub hl [0, 1, 2, 3] rfl)
  have e12 : calN u.1 f 0 = 0 := by first | rfl | simp [calN, *]
  exact key1 _ 0 (by omega) (Nat.lt_succ_self _) _ _ hW hS ls (show lv_has ls 4 [(3, .int (nI 0)), (2, .int (nI (calN u.1 f 0))), (0, .ref (b + 1)), (1, .int (nI f))] from by rw [e12]; exact lv_sub hl [0, 1, 2, 3] rfl)
set_option maxRecDepth 100000 in
theorem ts_bitc : ∀ s_, s_ < 1024 → ((((((((nI s_) - ((((nI s_).toUInt32 >>> ((nI 1).toUInt32 &&& Int32.toUInt32 31)).toInt32) &&& (nI 1431655765))) &&& (nI 858993459)) + (((((nI s_) - ((((nI s_).toUInt32 >>> ((nI 1).toUInt32 &&& Int32.toUInt32 31)).toInt32) &&& (nI 1431655765))).toUInt32 >>> ((nI 2).toUInt32 &&& Int32.toUInt32 31)).toInt32) &&& (nI 858993459))) + ((((((nI s_) - ((((nI s_).toUInt32 >>> ((nI 1).toUInt32 &&& Int32.toUInt32 31)).toInt32) &&& (nI 1431655765))) &&& (nI 858993459)) + (((((nI s_) - ((((nI s_).toUInt32 >>> ((nI 1).toUInt32 &&& Int32.toUInt32 31)).toInt32) &&& (nI 1431655765))).toUInt32 >>> ((nI 2).toUInt32 &&& Int32.toUInt32 31)).toInt32) &&& (nI 858993459))).toUInt32 >>> ((nI 4).toUInt32 &&& Int32.toUInt32 31)).toInt32)) &&& (nI 252645135)) + ((((((((nI s_) - ((((nI s_).toUInt32 >>> ((nI 1).toUInt32 &&& Int32.toUInt32 31)).toInt32) &&& (nI 1431655765))) &&& (nI 858993459)) + (((((nI s_) - ((((nI s_).toUInt32 >>> ((nI 1).toUInt32 &&& Int32.toUInt32 31)).toInt32) &&& (nI 1431655765))).toUInt32 >>> ((nI 2).toUInt32 &&& Int32.toUInt32 31)).toInt32) &&& (nI 858993459))) + ((((((nI s_) - ((((nI s_).toUInt32 >>> ((nI 1).toUInt32 &&& Int32.toUInt32 31)).toInt32) &&& (nI 1431655765))) &&& (nI 858993459)) + (((((nI s_) - ((((nI s_).toUInt32 >>> ((nI 1).toUInt32 &&& Int32.toUInt32 31)).toInt32) &&& (nI 1431655765))).toUInt32 >>> ((nI 2).toUInt32 &&& Int32.toUInt32 31)).toInt32) &&& (nI 858993459))).toUInt32 >>> ((nI 4).toUInt32 &&& Int32.toUInt32 31)).toInt32)) &&& (nI 252645135)).toUInt32 >>> ((nI 8).toUInt32 &&& Int32.toUInt32 31)).toInt32)) + (((((((((nI s_) - ((((nI s_).toUInt32 >>> ((nI 1).toUInt32 &&& Int32.toUInt32 31)).toInt32) &&& (nI 1431655765))) &&& (nI 858993459)) + (((((nI s_) - ((((nI s_).toUInt32 >>> ((nI 1).toUInt32 &&& Int32.toUInt32 31)).toInt32) &&& (nI 1431655765))).toUInt32 >>> ((nI 2).toUInt32 &&& Int32.toUInt32 31)).toInt32) &&& (nI 858993459))) + ((((((nI s_) - ((((nI s_).toUInt32 >>> ((nI 1).toUInt32 &&& Int32.toUInt32 31)).toInt32) &&& (nI 1431655765))) &&& (nI 858993459)) + (((((nI s_) - ((((nI s_).toUInt32 >>> ((nI 1).toUInt32 &&& Int32.toUInt32 31)).toInt32) &&& (nI 1431655765))).toUInt32 >>> ((nI 2).toUInt32 &&& Int32.toUInt32 31)).toInt32) &&& (nI 858993459))).toUInt32 >>> ((nI 4).toUInt32 &&& Int32.toUInt32 31)).toInt32)) &&& (nI 252645135)) + ((((((((nI s_) - ((((nI s_).toUInt32 >>> ((nI 1).toUInt32 &&& Int32.toUInt32 31)).toInt32) &&& (nI 1431655765))) &&& (nI 858993459)) + (((((nI s_) - ((((nI s_).toUInt32 >>> ((nI 1).toUInt32 &&& Int32.toUInt32 31)).toInt32) &&& (nI 1431655765))).toUInt32 >>> ((nI 2).toUInt32 &&& Int32.toUInt32 31)).toInt32) &&& (nI 858993459))) + ((((((nI s_) - ((((nI s_).toUInt32 >>> ((nI 1).toUInt32 &&& Int32.toUInt32 31)).toInt32) &&& (nI 1431655765))) &&& (nI 858993459)) + (((((nI s_) - ((((nI s_).toUInt32 >>> ((nI 1).toUInt32 &&& Int32.toUInt32 31)).toInt32) &&& (nI 1431655765))).toUInt32 >>> ((nI 2).toUInt32 &&& Int32.toUInt32 31)).toInt32) &&& (nI 858993459))).toUInt32 >>> ((nI 4).toUInt32 &&& Int32.toUInt32 31)).toInt32)) &&& (nI 252645135)).toUInt32 >>> ((nI 8).toUInt32 &&& Int32.toUInt32 31)).toInt32)).toUInt32 >>> ((nI 16).toUInt32 &&& Int32.toUInt32 31)).toInt32)) &&& (nI 63) = nI (cntB s_ 10) := by decide +kernel
set_option maxHeartbeats 4000000 in
set_option maxRecDepth 100000 in
theorem k_J6_bitCount_0f7a4 (l : Launch) (D : va_G) (q : CQ) (b sz : Nat) (u : ST) (s_ : Nat) (hs : s_ < 1024) : Met l yJ6_bitCount_0f7a4 wsJ6_bitCount_0f7a4 ({ frames := 0, cells := 0, slots := 0, locals := 0 } : Room) (va_Pc [.int (nI s_)] (Pr D q b sz u)) (cI D q b sz (fun r u' => r = nI (cntB s_ 10) ∧ u' = u)) 0 0 (ts_A b 52 sz) := by
  refine ts_met (by decide) rfl (Nat.le_of_ble_eq_true rfl) ?_
  intro p e s m below meth c C0 hX ls hl
  obtain ⟨hsz, hW, hK, hN⟩ := hX
  subst hsz
  obtain ⟨hx, hb, hml, hown, hts, -, -, -⟩ := id C0
  have hW : ts_W D b 52 (cel q b u) s.heap := hW
  have hS : va_S (ts_A b 52 s.heap.size) s.heap s.heap [] := va_S.rf
  have hB : ∀ k, k < 52 → ts_A b 52 s.heap.size (b + k) := fun k hk => ts_Ain hk
  have hl : lv_has ls 1 [(0, .int (nI s_))] := hl
  refine lv_iload_n hx hb dJ6_bitCount_0f7a4_0 rfl (lv_at hl 0 rfl) ?_
  refine lv_iload_n hx hb dJ6_bitCount_0f7a4_1 rfl (lv_at hl 0 rfl) ?_
  refine lv_iconst (v := nI 1) hx hb dJ6_bitCount_0f7a4_2 (by decide) ?_
  refine lv_iushr (v := ((nI s_).toUInt32 >>> ((nI 1).toUInt32 &&& Int32.toUInt32 31)).toInt32) hx hb dJ6_bitCount_0f7a4_3 rfl ?_
  refine lv_ldcw (v := nI 1431655765) hx hb hown (hts _ (List.mem_of_getElem? (i := 1) rfl)) dJ6_bitCount_0f7a4_4 ?_
  refine ts_iand (v := (((nI s_).toUInt32 >>> ((nI 1).toUInt32 &&& Int32.toUInt32 31)).toInt32) &&& (nI 1431655765)) hx hb dJ6_bitCount_0f7a4_7 rfl ?_
  refine ts_isub (v := (nI s_) - ((((nI s_).toUInt32 >>> ((nI 1).toUInt32 &&& Int32.toUInt32 31)).toInt32) &&& (nI 1431655765))) hx hb dJ6_bitCount_0f7a4_8 rfl ?_
  refine lv_istore_n (lv' := [(0, .int ((nI s_) - ((((nI s_).toUInt32 >>> ((nI 1).toUInt32 &&& Int32.toUInt32 31)).toInt32) &&& (nI 1431655765))))]) hx hb dJ6_bitCount_0f7a4_9 rfl hl (by decide) rfl (fun ls hl => ?_)
  refine lv_iload_n hx hb dJ6_bitCount_0f7a4_10 rfl (lv_at hl 0 rfl) ?_
  refine lv_ldcw (v := nI 858993459) hx hb hown (hts _ (List.mem_of_getElem? (i := 2) rfl)) dJ6_bitCount_0f7a4_11 ?_
  refine ts_iand (v := ((nI s_) - ((((nI s_).toUInt32 >>> ((nI 1).toUInt32 &&& Int32.toUInt32 31)).toInt32) &&& (nI 1431655765))) &&& (nI 858993459)) hx hb dJ6_bitCount_0f7a4_14 rfl ?_
  refine lv_iload_n hx hb dJ6_bitCount_0f7a4_15 rfl (lv_at hl 0 rfl) ?_
  refine lv_iconst (v := nI 2) hx hb dJ6_bitCount_0f7a4_16 (by decide) ?_
  refine lv_iushr (v := (((nI s_) - ((((nI s_).toUInt32 >>> ((nI 1).toUInt32 &&& Int32.toUInt32 31)).toInt32) &&& (nI 1431655765))).toUInt32 >>> ((nI 2).toUInt32 &&& Int32.toUInt32 31)).toInt32) hx hb dJ6_bitCount_0f7a4_17 rfl ?_
  refine lv_ldcw (v := nI 858993459) hx hb hown (hts _ (List.mem_of_getElem? (i := 2) rfl)) dJ6_bitCount_0f7a4_18 ?_
  refine ts_iand (v := ((((nI s_) - ((((nI s_).toUInt32 >>> ((nI 1).toUInt32 &&& Int32.toUInt32 31)).toInt32) &&& (nI 1431655765))).toUInt32 >>> ((nI 2).toUInt32 &&& Int32.toUInt32 31)).toInt32) &&& (nI 858993459)) hx hb dJ6_bitCount_0f7a4_21 rfl ?_
  refine ts_iadd (v := (((nI s_) - ((((nI s_).toUInt32 >>> ((nI 1).toUInt32 &&& Int32.toUInt32 31)).toInt32) &&& (nI 1431655765))) &&& (nI 858993459)) + (((((nI s_) - ((((nI s_).toUInt32 >>> ((nI 1).toUInt32 &&& Int32.toUInt32 31)).toInt32) &&& (nI 1431655765))).toUInt32 >>> ((nI 2).toUInt32 &&& Int32.toUInt32 31)).toInt32) &&& (nI 858993459))) hx hb dJ6_bitCount_0f7a4_22 rfl ?_
  refine lv_istore_n (lv' := [(0, .int ((((nI s_) - ((((nI s_).toUInt32 >>> ((nI 1).toUInt32 &&& Int32.toUInt32 31)).toInt32) &&& (nI 1431655765))) &&& (nI 858993459)) + (((((nI s_) - ((((nI s_).toUInt32 >>> ((nI 1).toUInt32 &&& Int32.toUInt32 31)).toInt32) &&& (nI 1431655765))).toUInt32 >>> ((nI 2).toUInt32 &&& Int32.toUInt32 31)).toInt32) &&& (nI 858993459))))]) hx hb dJ6_bitCount_0f7a4_23 rfl hl (by decide) rfl (fun ls hl => ?_)
  refine lv_iload_n hx hb dJ6_bitCount_0f7a4_24 rfl (lv_at hl 0 rfl) ?_
  refine lv_iload_n hx hb dJ6_bitCount_0f7a4_25 rfl (lv_at hl 0 rfl) ?_
  refine lv_iconst (v := nI 4) hx hb dJ6_bitCount_0f7a4_26 (by decide) ?_
  refine lv_iushr (v := (((((nI s_) - ((((nI s_).toUInt32 >>> ((nI 1).toUInt32 &&& Int32.toUInt32 31)).toInt32) &&& (nI 1431655765))) &&& (nI 858993459)) + (((((nI s_) - ((((nI s_).toUInt32 >>> ((nI 1).toUInt32 &&& Int32.toUInt32 31)).toInt32) &&& (nI 1431655765))).toUInt32 >>> ((nI 2).toUInt32 &&& Int32.toUInt32 31)).toInt32) &&& (nI 858993459))).toUInt32 >>> ((nI 4).toUInt32 &&& Int32.toUInt32 31)).toInt32) hx hb dJ6_bitCount_0f7a4_27 rfl ?_
  refine ts_iadd (v := ((((nI s_) - ((((nI s_).toUInt32 >>> ((nI 1).toUInt32 &&& Int32.toUInt32 31)).toInt32) &&& (nI 1431655765))) &&& (nI 858993459)) + (((((nI s_) - ((((nI s_).toUInt32 >>> ((nI 1).toUInt32 &&& Int32.toUInt32 31)).toInt32) &&& (nI 1431655765))).toUInt32 >>> ((nI 2).toUInt32 &&& Int32.toUInt32 31)).toInt32) &&& (nI 858993459))) + ((((((nI s_) - ((((nI s_).toUInt32 >>> ((nI 1).toUInt32 &&& Int32.toUInt32 31)).toInt32) &&& (nI 1431655765))) &&& (nI 858993459)) + (((((nI s_) - ((((nI s_).toUInt32 >>> ((nI 1).toUInt32 &&& Int32.toUInt32 31)).toInt32) &&& (nI 1431655765))).toUInt32 >>> ((nI 2).toUInt32 &&& Int32.toUInt32 31)).toInt32) &&& (nI 858993459))).toUInt32 >>> ((nI 4).toUInt32 &&& Int32.toUInt32 31)).toInt32)) hx hb dJ6_bitCount_0f7a4_28 rfl ?_
  refine lv_ldcw (v := nI 252645135) hx hb hown (hts _ (List.mem_of_getElem? (i := 3) rfl)) dJ6_bitCount_0f7a4_29 ?_
  refine ts_iand (v := (((((nI s_) - ((((nI s_).toUInt32 >>> ((nI 1).toUInt32 &&& Int32.toUInt32 31)).toInt32) &&& (nI 1431655765))) &&& (nI 858993459)) + (((((nI s_) - ((((nI s_).toUInt32 >>> ((nI 1).toUInt32 &&& Int32.toUInt32 31)).toInt32) &&& (nI 1431655765))).toUInt32 >>> ((nI 2).toUInt32 &&& Int32.toUInt32 31)).toInt32) &&& (nI 858993459))) + ((((((nI s_) - ((((nI s_).toUInt32 >>> ((nI 1).toUInt32 &&& Int32.toUInt32 31)).toInt32) &&& (nI 1431655765))) &&& (nI 858993459)) + (((((nI s_) - ((((nI s_).toUInt32 >>> ((nI 1).toUInt32 &&& Int32.toUInt32 31)).toInt32) &&& (nI 1431655765))).toUInt32 >>> ((nI 2).toUInt32 &&& Int32.toUInt32 31)).toInt32) &&& (nI 858993459))).toUInt32 >>> ((nI 4).toUInt32 &&& Int32.toUInt32 31)).toInt32)) &&& (nI 252645135)) hx hb dJ6_bitCount_0f7a4_32 rfl ?_
  refine lv_istore_n (lv' := [(0, .int ((((((nI s_) - ((((nI s_).toUInt32 >>> ((nI 1).toUInt32 &&& Int32.toUInt32 31)).toInt32) &&& (nI 1431655765))) &&& (nI 858993459)) + (((((nI s_) - ((((nI s_).toUInt32 >>> ((nI 1).toUInt32 &&& Int32.toUInt32 31)).toInt32) &&& (nI 1431655765))).toUInt32 >>> ((nI 2).toUInt32 &&& Int32.toUInt32 31)).toInt32) &&& (nI 858993459))) + ((((((nI s_) - ((((nI s_).toUInt32 >>> ((nI 1).toUInt32 &&& Int32.toUInt32 31)).toInt32) &&& (nI 1431655765))) &&& (nI 858993459)) + (((((nI s_) - ((((nI s_).toUInt32 >>> ((nI 1).toUInt32 &&& Int32.toUInt32 31)).toInt32) &&& (nI 1431655765))).toUInt32 >>> ((nI 2).toUInt32 &&& Int32.toUInt32 31)).toInt32) &&& (nI 858993459))).toUInt32 >>> ((nI 4).toUInt32 &&& Int32.toUInt32 31)).toInt32)) &&& (nI 252645135)))]) hx hb dJ6_bitCount_0f7a4_33 rfl hl (by decide) rfl (fun ls hl => ?_)
  refine lv_iload_n hx hb dJ6_bitCount_0f7a4_34 rfl (lv_at hl 0 rfl) ?_
  refine lv_iload_n hx hb dJ6_bitCount_0f7a4_35 rfl (lv_at hl 0 rfl) ?_
  refine lv_bipush (v := nI 8) hx hb dJ6_bitCount_0f7a4_36 (by decide) ?_
  refine lv_iushr (v := (((((((nI s_) - ((((nI s_).toUInt32 >>> ((nI 1).toUInt32 &&& Int32.toUInt32 31)).toInt32) &&& (nI 1431655765))) &&& (nI 858993459)) + (((((nI s_) - ((((nI s_).toUInt32 >>> ((nI 1).toUInt32 &&& Int32.toUInt32 31)).toInt32) &&& (nI 1431655765))).toUInt32 >>> ((nI 2).toUInt32 &&& Int32.toUInt32 31)).toInt32) &&& (nI 858993459))) + ((((((nI s_) - ((((nI s_).toUInt32 >>> ((nI 1).toUInt32 &&& Int32.toUInt32 31)).toInt32) &&& (nI 1431655765))) &&& (nI 858993459)) + (((((nI s_) - ((((nI s_).toUInt32 >>> ((nI 1).toUInt32 &&& Int32.toUInt32 31)).toInt32) &&& (nI 1431655765))).toUInt32 >>> ((nI 2).toUInt32 &&& Int32.toUInt32 31)).toInt32) &&& (nI 858993459))).toUInt32 >>> ((nI 4).toUInt32 &&& Int32.toUInt32 31)).toInt32)) &&& (nI 252645135)).toUInt32 >>> ((nI 8).toUInt32 &&& Int32.toUInt32 31)).toInt32) hx hb dJ6_bitCount_0f7a4_38 rfl ?_
  refine ts_iadd (v := ((((((nI s_) - ((((nI s_).toUInt32 >>> ((nI 1).toUInt32 &&& Int32.toUInt32 31)).toInt32) &&& (nI 1431655765))) &&& (nI 858993459)) + (((((nI s_) - ((((nI s_).toUInt32 >>> ((nI 1).toUInt32 &&& Int32.toUInt32 31)).toInt32) &&& (nI 1431655765))).toUInt32 >>> ((nI 2).toUInt32 &&& Int32.toUInt32 31)).toInt32) &&& (nI 858993459))) + ((((((nI s_) - ((((nI s_).toUInt32 >>> ((nI 1).toUInt32 &&& Int32.toUInt32 31)).toInt32) &&& (nI 1431655765))) &&& (nI 858993459)) + (((((nI s_) - ((((nI s_).toUInt32 >>> ((nI 1).toUInt32 &&& Int32.toUInt32 31)).toInt32) &&& (nI 1431655765))).toUInt32 >>> ((nI 2).toUInt32 &&& Int32.toUInt32 31)).toInt32) &&& (nI 858993459))).toUInt32 >>> ((nI 4).toUInt32 &&& Int32.toUInt32 31)).toInt32)) &&& (nI 252645135)) + ((((((((nI s_) - ((((nI s_).toUInt32 >>> ((nI 1).toUInt32 &&& Int32.toUInt32 31)).toInt32) &&& (nI 1431655765))) &&& (nI 858993459)) + (((((nI s_) - ((((nI s_).toUInt32 >>> ((nI 1).toUInt32 &&& Int32.toUInt32 31)).toInt32) &&& (nI 1431655765))).toUInt32 >>> ((nI 2).toUInt32 &&& Int32.toUInt32 31)).toInt32) &&& (nI 858993459))) + ((((((nI s_) - ((((nI s_).toUInt32 >>> ((nI 1).toUInt32 &&& Int32.toUInt32 31)).toInt32) &&& (nI 1431655765))) &&& (nI 858993459)) + (((((nI s_) - ((((nI s_).toUInt32 >>> ((nI 1).toUInt32 &&& Int32.toUInt32 31)).toInt32) &&& (nI 1431655765))).toUInt32 >>> ((nI 2).toUInt32 &&& Int32.toUInt32 31)).toInt32) &&& (nI 858993459))).toUInt32 >>> ((nI 4).toUInt32 &&& Int32.toUInt32 31)).toInt32)) &&& (nI 252645135)).toUInt32 >>> ((nI 8).toUInt32 &&& Int32.toUInt32 31)).toInt32)) hx hb dJ6_bitCount_0f7a4_39 rfl ?_
  refine lv_istore_n (lv' := [(0, .int (((((((nI s_) - ((((nI s_).toUInt32 >>> ((nI 1).toUInt32 &&& Int32.toUInt32 31)).toInt32) &&& (nI 1431655765))) &&& (nI 858993459)) + (((((nI s_) - ((((nI s_).toUInt32 >>> ((nI 1).toUInt32 &&& Int32.toUInt32 31)).toInt32) &&& (nI 1431655765))).toUInt32 >>> ((nI 2).toUInt32 &&& Int32.toUInt32 31)).toInt32) &&& (nI 858993459))) + ((((((nI s_) - ((((nI s_).toUInt32 >>> ((nI 1).toUInt32 &&& Int32.toUInt32 31)).toInt32) &&& (nI 1431655765))) &&& (nI 858993459)) + (((((nI s_) - ((((nI s_).toUInt32 >>> ((nI 1).toUInt32 &&& Int32.toUInt32 31)).toInt32) &&& (nI 1431655765))).toUInt32 >>> ((nI 2).toUInt32 &&& Int32.toUInt32 31)).toInt32) &&& (nI 858993459))).toUInt32 >>> ((nI 4).toUInt32 &&& Int32.toUInt32 31)).toInt32)) &&& (nI 252645135)) + ((((((((nI s_) - ((((nI s_).toUInt32 >>> ((nI 1).toUInt32 &&& Int32.toUInt32 31)).toInt32) &&& (nI 1431655765))) &&& (nI 858993459)) + (((((nI s_) - ((((nI s_).toUInt32 >>> ((nI 1).toUInt32 &&& Int32.toUInt32 31)).toInt32) &&& (nI 1431655765))).toUInt32 >>> ((nI 2).toUInt32 &&& Int32.toUInt32 31)).toInt32) &&& (nI 858993459))) + ((((((nI s_) - ((((nI s_).toUInt32 >>> ((nI 1).toUInt32 &&& Int32.toUInt32 31)).toInt32) &&& (nI 1431655765))) &&& (nI 858993459)) + (((((nI s_) - ((((nI s_).toUInt32 >>> ((nI 1).toUInt32 &&& Int32.toUInt32 31)).toInt32) &&& (nI 1431655765))).toUInt32 >>> ((nI 2).toUInt32 &&& Int32.toUInt32 31)).toInt32) &&& (nI 858993459))).toUInt32 >>> ((nI 4).toUInt32 &&& Int32.toUInt32 31)).toInt32)) &&& (nI 252645135)).toUInt32 >>> ((nI 8).toUInt32 &&& Int32.toUInt32 31)).toInt32)))]) hx hb dJ6_bitCount_0f7a4_40 rfl hl (by decide) rfl (fun ls hl => ?_)
  refine lv_iload_n hx hb dJ6_bitCount_0f7a4_41 rfl (lv_at hl 0 rfl) ?_
  refine lv_iload_n hx hb dJ6_bitCount_0f7a4_42 rfl (lv_at hl 0 rfl) ?_
  refine lv_bipush (v := nI 16) hx hb dJ6_bitCount_0f7a4_43 (by decide) ?_
  refine lv_iushr (v := ((((((((nI s_) - ((((nI s_).toUInt32 >>> ((nI 1).toUInt32 &&& Int32.toUInt32 31)).toInt32) &&& (nI 1431655765))) &&& (nI 858993459)) + (((((nI s_) - ((((nI s_).toUInt32 >>> ((nI 1).toUInt32 &&& Int32.toUInt32 31)).toInt32) &&& (nI 1431655765))).toUInt32 >>> ((nI 2).toUInt32 &&& Int32.toUInt32 31)).toInt32) &&& (nI 858993459))) + ((((((nI s_) - ((((nI s_).toUInt32 >>> ((nI 1).toUInt32 &&& Int32.toUInt32 31)).toInt32) &&& (nI 1431655765))) &&& (nI 858993459)) + (((((nI s_) - ((((nI s_).toUInt32 >>> ((nI 1).toUInt32 &&& Int32.toUInt32 31)).toInt32) &&& (nI 1431655765))).toUInt32 >>> ((nI 2).toUInt32 &&& Int32.toUInt32 31)).toInt32) &&& (nI 858993459))).toUInt32 >>> ((nI 4).toUInt32 &&& Int32.toUInt32 31)).toInt32)) &&& (nI 252645135)) + ((((((((nI s_) - ((((nI s_).toUInt32 >>> ((nI 1).toUInt32 &&& Int32.toUInt32 31)).toInt32) &&& (nI 1431655765))) &&& (nI 858993459)) + (((((nI s_) - ((((nI s_).toUInt32 >>> ((nI 1).toUInt32 &&& Int32.toUInt32 31)).toInt32) &&& (nI 1431655765))).toUInt32 >>> ((nI 2).toUInt32 &&& Int32.toUInt32 31)).toInt32) &&& (nI 858993459))) + ((((((nI s_) - ((((nI s_).toUInt32 >>> ((nI 1).toUInt32 &&& Int32.toUInt32 31)).toInt32) &&& (nI 1431655765))) &&& (nI 858993459)) + (((((nI s_) - ((((nI s_).toUInt32 >>> ((nI 1).toUInt32 &&& Int32.toUInt32 31)).toInt32) &&& (nI 1431655765))).toUInt32 >>> ((nI 2).toUInt32 &&& Int32.toUInt32 31)).toInt32) &&& (nI 858993459))).toUInt32 >>> ((nI 4).toUInt32 &&& Int32.toUInt32 31)).toInt32)) &&& (nI 252645135)).toUInt32 >>> ((nI 8).toUInt32 &&& Int32.toUInt32 31)).toInt32)).toUInt32 >>> ((nI 16).toUInt32 &&& Int32.toUInt32 31)).toInt32) hx hb dJ6_bitCount_0f7a4_45 rfl ?_
  refine ts_iadd (v := (((((((nI s_) - ((((nI s_).toUInt32 >>> ((nI 1).toUInt32 &&& Int32.toUInt32 31)).toInt32) &&& (nI 1431655765))) &&& (nI 858993459)) + (((((nI s_) - ((((nI s_).toUInt32 >>> ((nI 1).toUInt32 &&& Int32.toUInt32 31)).toInt32) &&& (nI 1431655765))).toUInt32 >>> ((nI 2).toUInt32 &&& Int32.toUInt32 31)).toInt32) &&& (nI 858993459))) + ((((((nI s_) - ((((nI s_).toUInt32 >>> ((nI 1).toUInt32 &&& Int32.toUInt32 31)).toInt32) &&& (nI 1431655765))) &&& (nI 858993459)) + (((((nI s_) - ((((nI s_).toUInt32 >>> ((nI 1).toUInt32 &&& Int32.toUInt32 31)).toInt32) &&& (nI 1431655765))).toUInt32 >>> ((nI 2).toUInt32 &&& Int32.toUInt32 31)).toInt32) &&& (nI 858993459))).toUInt32 >>> ((nI 4).toUInt32 &&& Int32.toUInt32 31)).toInt32)) &&& (nI 252645135)) + ((((((((nI s_) - ((((nI s_).toUInt32 >>> ((nI 1).toUInt32 &&& Int32.toUInt32 31)).toInt32) &&& (nI 1431655765))) &&& (nI 858993459)) + (((((nI s_) - ((((nI s_).toUInt32 >>> ((nI 1).toUInt32 &&& Int32.toUInt32 31)).toInt32) &&& (nI 1431655765))).toUInt32 >>> ((nI 2).toUInt32 &&& Int32.toUInt32 31)).toInt32) &&& (nI 858993459))) + ((((((nI s_) - ((((nI s_).toUInt32 >>> ((nI 1).toUInt32 &&& Int32.toUInt32 31)).toInt32) &&& (nI 1431655765))) &&& (nI 858993459)) + (((((nI s_) - ((((nI s_).toUInt32 >>> ((nI 1).toUInt32 &&& Int32.toUInt32 31)).toInt32) &&& (nI 1431655765))).toUInt32 >>> ((nI 2).toUInt32 &&& Int32.toUInt32 31)).toInt32) &&& (nI 858993459))).toUInt32 >>> ((nI 4).toUInt32 &&& Int32.toUInt32 31)).toInt32)) &&& (nI 252645135)).toUInt32 >>> ((nI 8).toUInt32 &&& Int32.toUInt32 31)).toInt32)) + (((((((((nI s_) - ((((nI s_).toUInt32 >>> ((nI 1).toUInt32 &&& Int32.toUInt32 31)).toInt32) &&& (nI 1431655765))) &&& (nI 858993459)) + (((((nI s_) - ((((nI s_).toUInt32 >>> ((nI 1).toUInt32 &&& Int32.toUInt32 31)).toInt32) &&& (nI 1431655765))).toUInt32 >>> ((nI 2).toUInt32 &&& Int32.toUInt32 31)).toInt32) &&& (nI 858993459))) + ((((((nI s_) - ((((nI s_).toUInt32 >>> ((nI 1).toUInt32 &&& Int32.toUInt32 31)).toInt32) &&& (nI 1431655765))) &&& (nI 858993459)) + (((((nI s_) - ((((nI s_).toUInt32 >>> ((nI 1).toUInt32 &&& Int32.toUInt32 31)).toInt32) &&& (nI 1431655765))).toUInt32 >>> ((nI 2).toUInt32 &&& Int32.toUInt32 31)).toInt32) &&& (nI 858993459))).toUInt32 >>> ((nI 4).toUInt32 &&& Int32.toUInt32 31)).toInt32)) &&& (nI 252645135)) + ((((((((nI s_) - ((((nI s_).toUInt32 >>> ((nI 1).toUInt32 &&& Int32.toUInt32 31)).toInt32) &&& (nI 1431655765))) &&& (nI 858993459)) + (((((nI s_) - ((((nI s_).toUInt32 >>> ((nI 1).toUInt32 &&& Int32.toUInt32 31)).toInt32) &&& (nI 1431655765))).toUInt32 >>> ((nI 2).toUInt32 &&& Int32.toUInt32 31)).toInt32) &&& (nI 858993459))) + ((((((nI s_) - ((((nI s_).toUInt32 >>> ((nI 1).toUInt32 &&& Int32.toUInt32 31)).toInt32) &&& (nI 1431655765))) &&& (nI 858993459)) + (((((nI s_) - ((((nI s_).toUInt32 >>> ((nI 1).toUInt32 &&& Int32.toUInt32 31)).toInt32) &&& (nI 1431655765))).toUInt32 >>> ((nI 2).toUInt32 &&& Int32.toUInt32 31)).toInt32) &&& (nI 858993459))).toUInt32 >>> ((nI 4).toUInt32 &&& Int32.toUInt32 31)).toInt32)) &&& (nI 252645135)).toUInt32 >>> ((nI 8).toUInt32 &&& Int32.toUInt32 31)).toInt32)).toUInt32 >>> ((nI 16).toUInt32 &&& Int32.toUInt32 31)).toInt32)) hx hb dJ6_bitCount_0f7a4_46 rfl ?_
  refine lv_istore_n (lv' := [(0, .int ((((((((nI s_) - ((((nI s_).toUInt32 >>> ((nI 1).toUInt32 &&& Int32.toUInt32 31)).toInt32) &&& (nI 1431655765))) &&& (nI 858993459)) + (((((nI s_) - ((((nI s_).toUInt32 >>> ((nI 1).toUInt32 &&& Int32.toUInt32 31)).toInt32) &&& (nI 1431655765))).toUInt32 >>> ((nI 2).toUInt32 &&& Int32.toUInt32 31)).toInt32) &&& (nI 858993459))) + ((((((nI s_) - ((((nI s_).toUInt32 >>> ((nI 1).toUInt32 &&& Int32.toUInt32 31)).toInt32) &&& (nI 1431655765))) &&& (nI 858993459)) + (((((nI s_) - ((((nI s_).toUInt32 >>> ((nI 1).toUInt32 &&& Int32.toUInt32 31)).toInt32) &&& (nI 1431655765))).toUInt32 >>> ((nI 2).toUInt32 &&& Int32.toUInt32 31)).toInt32) &&& (nI 858993459))).toUInt32 >>> ((nI 4).toUInt32 &&& Int32.toUInt32 31)).toInt32)) &&& (nI 252645135)) + ((((((((nI s_) - ((((nI s_).toUInt32 >>> ((nI 1).toUInt32 &&& Int32.toUInt32 31)).toInt32) &&& (nI 1431655765))) &&& (nI 858993459)) + (((((nI s_) - ((((nI s_).toUInt32 >>> ((nI 1).toUInt32 &&& Int32.toUInt32 31)).toInt32) &&& (nI 1431655765))).toUInt32 >>> ((nI 2).toUInt32 &&& Int32.toUInt32 31)).toInt32) &&& (nI 858993459))) + ((((((nI s_) - ((((nI s_).toUInt32 >>> ((nI 1).toUInt32 &&& Int32.toUInt32 31)).toInt32) &&& (nI 1431655765))) &&& (nI 858993459)) + (((((nI s_) - ((((nI s_).toUInt32 >>> ((nI 1).toUInt32 &&& Int32.toUInt32 31)).toInt32) &&& (nI 1431655765))).toUInt32 >>> ((nI 2).toUInt32 &&& Int32.toUInt32 31)).toInt32) &&& (nI 858993459))).toUInt32 >>> ((nI 4).toUInt32 &&& Int32.toUInt32 31)).toInt32)) &&& (nI 252645135)).toUInt32 >>> ((nI 8).toUInt32 &&& Int32.toUInt32 31)).toInt32)) + (((((((((nI s_) - ((((nI s_).toUInt32 >>> ((nI 1).toUInt32 &&& Int32.toUInt32 31)).toInt32) &&& (nI 1431655765))) &&& (nI 858993459)) + (((((nI s_) - ((((nI s_).toUInt32 >>> ((nI 1).toUInt32 &&& Int32.toUInt32 31)).toInt32) &&& (nI 1431655765))).toUInt32 >>> ((nI 2).toUInt32 &&& Int32.toUInt32 31)).toInt32) &&& (nI 858993459))) + ((((((nI s_) - ((((nI s_).toUInt32 >>> ((nI 1).toUInt32 &&& Int32.toUInt32 31)).toInt32) &&& (nI 1431655765))) &&& (nI 858993459)) + (((((nI s_) - ((((nI s_).toUInt32 >>> ((nI 1).toUInt32 &&& Int32.toUInt32 31)).toInt32) &&& (nI 1431655765))).toUInt32 >>> ((nI 2).toUInt32 &&& Int32.toUInt32 31)).toInt32) &&& (nI 858993459))).toUInt32 >>> ((nI 4).toUInt32 &&& Int32.toUInt32 31)).toInt32)) &&& (nI 252645135)) + ((((((((nI s_) - ((((nI s_).toUInt32 >>> ((nI 1).toUInt32 &&& Int32.toUInt32 31)).toInt32) &&& (nI 1431655765))) &&& (nI 858993459)) + (((((nI s_) - ((((nI s_).toUInt32 >>> ((nI 1).toUInt32 &&& Int32.toUInt32 31)).toInt32) &&& (nI 1431655765))).toUInt32 >>> ((nI 2).toUInt32 &&& Int32.toUInt32 31)).toInt32) &&& (nI 858993459))) + ((((((nI s_) - ((((nI s_).toUInt32 >>> ((nI 1).toUInt32 &&& Int32.toUInt32 31)).toInt32) &&& (nI 1431655765))) &&& (nI 858993459)) + (((((nI s_) - ((((nI s_).toUInt32 >>> ((nI 1).toUInt32 &&& Int32.toUInt32 31)).toInt32) &&& (nI 1431655765))).toUInt32 >>> ((nI 2).toUInt32 &&& Int32.toUInt32 31)).toInt32) &&& (nI 858993459))).toUInt32 >>> ((nI 4).toUInt32 &&& Int32.toUInt32 31)).toInt32)) &&& (nI 252645135)).toUInt32 >>> ((nI 8).toUInt32 &&& Int32.toUInt32 31)).toInt32)).toUInt32 >>> ((nI 16).toUInt32 &&& Int32.toUInt32 31)).toInt32)))]) hx hb dJ6_bitCount_0f7a4_47 rfl hl (by decide) rfl (fun ls hl => ?_)
  refine lv_iload_n hx hb dJ6_bitCount_0f7a4_48 rfl (lv_at hl 0 rfl) ?_
  refine lv_bipush (v := nI 63) hx hb dJ6_bitCount_0f7a4_49 (by decide) ?_
  refine ts_iand (v := ((((((((nI s_) - ((((nI s_).toUInt32 >>> ((nI 1).toUInt32 &&& Int32.toUInt32 31)).toInt32) &&& (nI 1431655765))) &&& (nI 858993459)) + (((((nI s_) - ((((nI s_).toUInt32 >>> ((nI 1).toUInt32 &&& Int32.toUInt32 31)).toInt32) &&& (nI 1431655765))).toUInt32 >>> ((nI 2).toUInt32 &&& Int32.toUInt32 31)).toInt32) &&& (nI 858993459))) + ((((((nI s_) - ((((nI s_).toUInt32 >>> ((nI 1).toUInt32 &&& Int32.toUInt32 31)).toInt32) &&& (nI 1431655765))) &&& (nI 858993459)) + (((((nI s_) - ((((nI s_).toUInt32 >>> ((nI 1).toUInt32 &&& Int32.toUInt32 31)).toInt32) &&& (nI 1431655765))).toUInt32 >>> ((nI 2).toUInt32 &&& Int32.toUInt32 31)).toInt32) &&& (nI 858993459))).toUInt32 >>> ((nI 4).toUInt32 &&& Int32.toUInt32 31)).toInt32)) &&& (nI 252645135)) + ((((((((nI s_) - ((((nI s_).toUInt32 >>> ((nI 1).toUInt32 &&& Int32.toUInt32 31)).toInt32) &&& (nI 1431655765))) &&& (nI 858993459)) + (((((nI s_) - ((((nI s_).toUInt32 >>> ((nI 1).toUInt32 &&& Int32.toUInt32 31)).toInt32) &&& (nI 1431655765))).toUInt32 >>> ((nI 2).toUInt32 &&& Int32.toUInt32 31)).toInt32) &&& (nI 858993459))) + ((((((nI s_) - ((((nI s_).toUInt32 >>> ((nI 1).toUInt32 &&& Int32.toUInt32 31)).toInt32) &&& (nI 1431655765))) &&& (nI 858993459)) + (((((nI s_) - ((((nI s_).toUInt32 >>> ((nI 1).toUInt32 &&& Int32.toUInt32 31)).toInt32) &&& (nI 1431655765))).toUInt32 >>> ((nI 2).toUInt32 &&& Int32.toUInt32 31)).toInt32) &&& (nI 858993459))).toUInt32 >>> ((nI 4).toUInt32 &&& Int32.toUInt32 31)).toInt32)) &&& (nI 252645135)).toUInt32 >>> ((nI 8).toUInt32 &&& Int32.toUInt32 31)).toInt32)) + (((((((((nI s_) - ((((nI s_).toUInt32 >>> ((nI 1).toUInt32 &&& Int32.toUInt32 31)).toInt32) &&& (nI 1431655765))) &&& (nI 858993459)) + (((((nI s_) - ((((nI s_).toUInt32 >>> ((nI 1).toUInt32 &&& Int32.toUInt32 31)).toInt32) &&& (nI 1431655765))).toUInt32 >>> ((nI 2).toUInt32 &&& Int32.toUInt32 31)).toInt32) &&& (nI 858993459))) + ((((((nI s_) - ((((nI s_).toUInt32 >>> ((nI 1).toUInt32 &&& Int32.toUInt32 31)).toInt32) &&& (nI 1431655765))) &&& (nI 858993459)) + (((((nI s_) - ((((nI s_).toUInt32 >>> ((nI 1).toUInt32 &&& Int32.toUInt32 31)).toInt32) &&& (nI 1431655765))).toUInt32 >>> ((nI 2).toUInt32 &&& Int32.toUInt32 31)).toInt32) &&& (nI 858993459))).toUInt32 >>> ((nI 4).toUInt32 &&& Int32.toUInt32 31)).toInt32)) &&& (nI 252645135)) + ((((((((nI s_) - ((((nI s_).toUInt32 >>> ((nI 1).toUInt32 &&& Int32.toUInt32 31)).toInt32) &&& (nI 1431655765))) &&& (nI 858993459)) + (((((nI s_) - ((((nI s_).toUInt32 >>> ((nI 1).toUInt32 &&& Int32.toUInt32 31)).toInt32) &&& (nI 1431655765))).toUInt32 >>> ((nI 2).toUInt32 &&& Int32.toUInt32 31)).toInt32) &&& (nI 858993459))) + ((((((nI s_) - ((((nI s_).toUInt32 >>> ((nI 1).toUInt32 &&& Int32.toUInt32 31)).toInt32) &&& (nI 1431655765))) &&& (nI 858993459)) + (((((nI s_) - ((((nI s_).toUInt32 >>> ((nI 1).toUInt32 &&& Int32.toUInt32 31)).toInt32) &&& (nI 1431655765))).toUInt32 >>> ((nI 2).toUInt32 &&& Int32.toUInt32 31)).toInt32) &&& (nI 858993459))).toUInt32 >>> ((nI 4).toUInt32 &&& Int32.toUInt32 31)).toInt32)) &&& (nI 252645135)).toUInt32 >>> ((nI 8).toUInt32 &&& Int32.toUInt32 31)).toInt32)).toUInt32 >>> ((nI 16).toUInt32 &&& Int32.toUInt32 31)).toInt32)) &&& (nI 63)) hx hb dJ6_bitCount_0f7a4_51 rfl ?_
  exact ts_iret (u := u) (v := ((((((((nI s_) - ((((nI s_).toUInt32 >>> ((nI 1).toUInt32 &&& Int32.toUInt32 31)).toInt32) &&& (nI 1431655765))) &&& (nI 858993459)) + (((((nI s_) - ((((nI s_).toUInt32 >>> ((nI 1).toUInt32 &&& Int32.toUInt32 31)).toInt32) &&& (nI 1431655765))).toUInt32 >>> ((nI 2).toUInt32 &&& Int32.toUInt32 31)).toInt32) &&& (nI 858993459))) + ((((((nI s_) - ((((nI s_).toUInt32 >>> ((nI 1).toUInt32 &&& Int32.toUInt32 31)).toInt32) &&& (nI 1431655765))) &&& (nI 858993459)) + (((((nI s_) - ((((nI s_).toUInt32 >>> ((nI 1).toUInt32 &&& Int32.toUInt32 31)).toInt32) &&& (nI 1431655765))).toUInt32 >>> ((nI 2).toUInt32 &&& Int32.toUInt32 31)).toInt32) &&& (nI 858993459))).toUInt32 >>> ((nI 4).toUInt32 &&& Int32.toUInt32 31)).toInt32)) &&& (nI 252645135)) + ((((((((nI s_) - ((((nI s_).toUInt32 >>> ((nI 1).toUInt32 &&& Int32.toUInt32 31)).toInt32) &&& (nI 1431655765))) &&& (nI 858993459)) + (((((nI s_) - ((((nI s_).toUInt32 >>> ((nI 1).toUInt32 &&& Int32.toUInt32 31)).toInt32) &&& (nI 1431655765))).toUInt32 >>> ((nI 2).toUInt32 &&& Int32.toUInt32 31)).toInt32) &&& (nI 858993459))) + ((((((nI s_) - ((((nI s_).toUInt32 >>> ((nI 1).toUInt32 &&& Int32.toUInt32 31)).toInt32) &&& (nI 1431655765))) &&& (nI 858993459)) + (((((nI s_) - ((((nI s_).toUInt32 >>> ((nI 1).toUInt32 &&& Int32.toUInt32 31)).toInt32) &&& (nI 1431655765))).toUInt32 >>> ((nI 2).toUInt32 &&& Int32.toUInt32 31)).toInt32) &&& (nI 858993459))).toUInt32 >>> ((nI 4).toUInt32 &&& Int32.toUInt32 31)).toInt32)) &&& (nI 252645135)).toUInt32 >>> ((nI 8).toUInt32 &&& Int32.toUInt32 31)).toInt32)) + (((((((((nI s_) - ((((nI s_).toUInt32 >>> ((nI 1).toUInt32 &&& Int32.toUInt32 31)).toInt32) &&& (nI 1431655765))) &&& (nI 858993459)) + (((((nI s_) - ((((nI s_).toUInt32 >>> ((nI 1).toUInt32 &&& Int32.toUInt32 31)).toInt32) &&& (nI 1431655765))).toUInt32 >>> ((nI 2).toUInt32 &&& Int32.toUInt32 31)).toInt32) &&& (nI 858993459))) + ((((((nI s_) - ((((nI s_).toUInt32 >>> ((nI 1).toUInt32 &&& Int32.toUInt32 31)).toInt32) &&& (nI 1431655765))) &&& (nI 858993459)) + (((((nI s_) - ((((nI s_).toUInt32 >>> ((nI 1).toUInt32 &&& Int32.toUInt32 31)).toInt32) &&& (nI 1431655765))).toUInt32 >>> ((nI 2).toUInt32 &&& Int32.toUInt32 31)).toInt32) &&& (nI 858993459))).toUInt32 >>> ((nI 4).toUInt32 &&& Int32.toUInt32 31)).toInt32)) &&& (nI 252645135)) + ((((((((nI s_) - ((((nI s_).toUInt32 >>> ((nI 1).toUInt32 &&& Int32.toUInt32 31)).toInt32) &&& (nI 1431655765))) &&& (nI 858993459)) + (((((nI s_) - ((((nI s_).toUInt32 >>> ((nI 1).toUInt32 &&& Int32.toUInt32 31)).toInt32) &&& (nI 1431655765))).toUInt32 >>> ((nI 2).toUInt32 &&& Int32.toUInt32 31)).toInt32) &&& (nI 858993459))) + ((((((nI s_) - ((((nI s_).toUInt32 >>> ((nI 1).toUInt32 &&& Int32.toUInt32 31)).toInt32) &&& (nI 1431655765))) &&& (nI 858993459)) + (((((nI s_) - ((((nI s_).toUInt32 >>> ((nI 1).toUInt32 &&& Int32.toUInt32 31)).toInt32) &&& (nI 1431655765))).toUInt32 >>> ((nI 2).toUInt32 &&& Int32.toUInt32 31)).toInt32) &&& (nI 858993459))).toUInt32 >>> ((nI 4).toUInt32 &&& Int32.toUInt32 31)).toInt32)) &&& (nI 252645135)).toUInt32 >>> ((nI 8).toUInt32 &&& Int32.toUInt32 31)).toInt32)).toUInt32 >>> ((nI 16).toUInt32 &&& Int32.toUInt32 31)).toInt32)) &&& (nI 63)) C0 hW hS (by exact ⟨ts_bitc _ hs, rfl⟩) dJ6_bitCount_0f7a4_52
set_option maxHeartbeats 4000000 in
set_option maxRecDepth 100000 in
theorem k_X3_untypable (l : Launch) (D : va_G) (q : CQ) (b sz : Nat) (u : ST)  (hwf : WP u.1) : Met l yX3_untypable wsX3_untypable ({ frames := 4, cells := 0, slots := 0, locals := 88 } : Room) (va_Pc [.ref (b + 1)] (Pr D q b sz u)) (cI D q b sz (fun r u' => r = nI (dropD u.1) ∧ ∃ F : FT, u' = (u.1, F, u.2.2))) 0 0 (ts_A b 52 sz) := by
  refine ts_met (by decide) rfl (Nat.le_of_ble_eq_true rfl) ?_
  intro p e s m below meth c C0 hX ls hl
  obtain ⟨hsz, hW, hK, hN⟩ := hX
  subst hsz
  obtain ⟨hx, hb, hml, hown, hts, -, -, -⟩ := id C0
  have hW : ts_W D b 52 (cel q b u) s.heap := hW
  have hS : va_S (ts_A b 52 s.heap.size) s.heap s.heap [] := va_S.rf
  have hB : ∀ k, k < 52 → ts_A b 52 s.heap.size (b + k) := fun k hk => ts_Ain hk
  have hi3 : ∀ w ∈ wsX30, w ∈ wsX3_untypable := ts_lays 51 rfl
  have hl : lv_has ls 1 [(0, .ref (b + 1))] := hl
  have hs := hwf.sz
  refine lv_aload_n hx hb dX3_untypable_0 rfl (lv_at hl 0 rfl) ?_
  refine ts_get (C := RX3) (T := TX3) (N := 5) (v := .int (nI (u.1.1 2))) hx hb hts hi3 hown hK hW 1 (by decide) cel_pr rfl 3 (by decide) (List.mem_of_getElem? (i := 1) rfl) rfl dX3_untypable_1 ?_
  refine lv_aload_n hx hb dX3_untypable_4 rfl (lv_at hl 0 rfl) ?_
  refine ts_retI (va_runV (As := []) (rest := [.int (nI (u.1.1 2))]) ⟨hx, hb, hml, hown, hts⟩ (k_X3_typable l D q b s.heap.size u hwf) (cwV 0 hts gX3_untypable_X3_typable rfl rfl rfl (by decide +kernel) ⟨Nat.le_of_ble_eq_true rfl, Nat.le_of_ble_eq_true rfl⟩) (ts_preV hK hN hW 1 (by decide) cel_pr rfl) rfl rfl hl.1 rfl (lv_room (Nat.le_of_ble_eq_true rfl)) dX3_untypable_5 ⟨Nat.zero_le _, Nat.zero_le _⟩) hS (fun x h => ts_Aup hS.1 h) (fun r1 u2 H locs hp3 hW _ _ hS => ?_)
  obtain ⟨hp3r, F4, hp3u⟩ := hp3
  have hp3r : r1 = nI (typN u.1 (u.1.1 1)) := hp3r
  have hp3u : u2 = (u.1, F4, u.2.2.1, u.2.2.2) := hp3u
  rw [hp3r]
  rw [hp3u] at hW
  refine lv_iconst (v := (-1)) hx hb dX3_untypable_8 (by decide) ?_
  refine ts_ixor (v := (nI (typN u.1 (u.1.1 1))) ^^^ (-1)) hx hb dX3_untypable_9 rfl ?_
  refine ts_iand (v := nI (dropD u.1)) hx hb dX3_untypable_10 (ts_diff _ _) ?_
  exact ts_iret (u := (u.1, F4, u.2.2.1, u.2.2.2)) (v := nI (dropD u.1)) C0 hW hS (by exact ⟨rfl, _, rfl⟩) dX3_untypable_11
set_option maxHeartbeats 4000000 in
set_option maxRecDepth 100000 in
theorem k_X3_dropUntypable (l : Launch) (D : va_G) (q : CQ) (b sz : Nat) (u : ST)  (hwf : WP u.1) : Met l yX3_dropUntypable wsX3_dropUntypable ({ frames := 5, cells := 0, slots := 0, locals := 108 } : Room) (va_Pc [.ref (b + 1)] (Pr D q b sz u)) (cI D q b sz (fun r u' => r = nI (cntB (dropD u.1) 10) ∧ ∃ F : FT, u' = (dropP u.1, F, u.2.2))) 0 0 (ts_A b 52 sz) := by
  refine ts_met (by decide) rfl (Nat.le_of_ble_eq_true rfl) ?_
  intro p e s m below meth c C0 hX ls hl
  obtain ⟨hsz, hW, hK, hN⟩ := hX
  subst hsz
  obtain ⟨hx, hb, hml, hown, hts, -, -, -⟩ := id C0
  have hW : ts_W D b 52 (cel q b u) s.heap := hW
  have hS : va_S (ts_A b 52 s.heap.size) s.heap s.heap [] := va_S.rf
  have hB : ∀ k, k < 52 → ts_A b 52 s.heap.size (b + k) := fun k hk => ts_Ain hk
  have hi3 : ∀ w ∈ wsX30, w ∈ wsX3_dropUntypable := ts_lays 62 rfl
  have hl : lv_has ls 2 [(0, .ref (b + 1))] := hl
  have hs := hwf.sz
  have hty := hwf.ty
  have hd : dropD u.1 < 1024 := diffN_lt (n := 10) hty
  refine lv_aload_n hx hb dX3_dropUntypable_0 rfl (lv_at hl 0 rfl) ?_
  refine ts_retI (va_runV (As := []) (rest := []) ⟨hx, hb, hml, hown, hts⟩ (k_X3_untypable l D q b s.heap.size u hwf) (cwV 0 hts gX3_dropUntypable_X3_untypable rfl rfl rfl (by decide +kernel) ⟨Nat.le_of_ble_eq_true rfl, Nat.le_of_ble_eq_true rfl⟩) (ts_preV hK hN hW 1 (by decide) cel_pr rfl) rfl rfl hl.1 rfl (lv_room (Nat.le_of_ble_eq_true rfl)) dX3_dropUntypable_1 ⟨Nat.zero_le _, Nat.zero_le _⟩) hS (fun x h => ts_Aup hS.1 h) (fun r1 u2 H locs hp3 hW _ _ hS => ?_)
  obtain ⟨hp3r, F4, hp3u⟩ := hp3
  have hp3r : r1 = nI (dropD u.1) := hp3r
  have hp3u : u2 = (u.1, F4, u.2.2.1, u.2.2.2) := hp3u
  rw [hp3r]
  rw [hp3u] at hW
  refine lv_istore_n (lv' := [(1, .int (nI (dropD u.1))), (0, .ref (b + 1))]) hx hb dX3_dropUntypable_4 rfl hl (by decide) rfl (fun ls hl => ?_)
  refine lv_aload_n hx hb dX3_dropUntypable_5 rfl (lv_at hl 1 rfl) ?_
  refine lv_dup hx hb dX3_dropUntypable_6 rfl ?_
  refine ts_get (C := RX3) (T := TX3) (N := 5) (v := .int (nI (u.1.1 2))) hx hb hts hi3 hown hK hW 1 (by decide) cel_pr rfl 3 (by decide) (List.mem_of_getElem? (i := 1) rfl) rfl dX3_dropUntypable_7 ?_
  refine lv_iload_n hx hb dX3_dropUntypable_10 rfl (lv_at hl 0 rfl) ?_
  refine lv_iconst (v := (-1)) hx hb dX3_dropUntypable_11 (by decide) ?_
  refine ts_ixor (v := (nI (dropD u.1)) ^^^ (-1)) hx hb dX3_dropUntypable_12 rfl ?_
  refine ts_iand (v := nI (diffN (u.1.1 2) (dropD u.1))) hx hb dX3_dropUntypable_13 (ts_diff _ _) ?_
  refine ts_put (C := RX3) (T := TX3) (N := 5) (v := .int (nI (diffN (u.1.1 2) (dropD u.1)))) hx hb hts hi3 tyX3 tyX3_ok nmX3 hown hK hW hS hB 1 (by decide) cel_pr rfl 3 (by decide) (List.mem_of_getElem? (i := 1) rfl) rfl rfl rfl (Nat.le_of_ble_eq_true rfl) (cel q b ((va_up u.1.1 2 (diffN (u.1.1 2) (dropD u.1)), u.1.2), F4, u.2.2.1, u.2.2.2)) rfl (cel_oP rfl (fun i hi => va_up_ne _ _ (by omega)) rfl rfl) dX3_dropUntypable_14 (fun H locs _ _ hW hS => ?_)
  refine lv_iload_n hx hb dX3_dropUntypable_17 rfl (lv_at hl 0 rfl) ?_
  refine ts_retI (va_runS (As := [.int (nI (dropD u.1))]) (rest := []) ⟨hx, hb, hml, hown, hts⟩ (k_J6_bitCount_0f7a4 l D q b H.size ((va_up u.1.1 2 (diffN (u.1.1 2) (dropD u.1)), u.1.2), F4, u.2.2.1, u.2.2.2) (dropD u.1) (by omega)) (va_cwS 1 hts gX3_dropUntypable_J6_bitCount_0f7a4 rfl rfl rfl (by decide +kernel) ⟨Nat.le_of_ble_eq_true rfl, Nat.le_of_ble_eq_true rfl⟩) (ts_preS hK hN hW) rfl rfl hl.1 rfl (lv_room (Nat.le_of_ble_eq_true rfl)) dX3_dropUntypable_18 ⟨Nat.zero_le _, Nat.zero_le _⟩) hS (fun x h => ts_Aup hS.1 h) (fun r5 u6 H locs hp7 hW _ _ hS => ?_)
  have hp7r : r5 = nI (cntB (dropD u.1) 10) := hp7.1
  have hp7u : u6 = ((va_up u.1.1 2 (diffN (u.1.1 2) (dropD u.1)), u.1.2), F4, u.2.2.1, u.2.2.2) := hp7.2
  rw [hp7r]
  rw [hp7u] at hW
  exact ts_iret (u := ((va_up u.1.1 2 (diffN (u.1.1 2) (dropD u.1)), u.1.2), F4, u.2.2.1, u.2.2.2)) (v := nI (cntB (dropD u.1) 10)) C0 hW hS (by exact ⟨rfl, _, rfl⟩) dX3_dropUntypable_21
set_option maxHeartbeats 4000000 in
set_option maxRecDepth 100000 in
theorem k_X3_afterStepsChanged (l : Launch) (D : va_G) (q : CQ) (b sz : Nat) (u : ST)  (hwf : WP u.1) : Met l yX3_afterStepsChanged wsX3_afterStepsChanged ({ frames := 6, cells := 0, slots := 0, locals := 129 } : Room) (va_Pc [.ref (b + 1)] (Pr D q b sz u)) (cV D q b sz (fun u' => ∃ F : FT, u' = (dropP (chkP u.1 1), F, u.2.2))) 0 0 (ts_A b 52 sz) := by
  refine ts_met (by decide) rfl (Nat.le_of_ble_eq_true rfl) ?_
  intro p e s m below meth c C0 hX ls hl
  obtain ⟨hsz, hW, hK, hN⟩ := hX
  subst hsz
  obtain ⟨hx, hb, hml, hown, hts, -, -, -⟩ := id C0
  have hW : ts_W D b 52 (cel q b u) s.heap := hW
  have hS : va_S (ts_A b 52 s.heap.size) s.heap s.heap [] := va_S.rf
  have hB : ∀ k, k < 52 → ts_A b 52 s.heap.size (b + k) := fun k hk => ts_Ain hk
  have hi3 : ∀ w ∈ wsX30, w ∈ wsX3_afterStepsChanged := ts_lays 67 rfl
  have hl : lv_has ls 1 [(0, .ref (b + 1))] := hl
  have hs := hwf.sz
  refine lv_aload_n hx hb dX3_afterStepsChanged_0 rfl (lv_at hl 0 rfl) ?_
  refine lv_dup hx hb dX3_afterStepsChanged_1 rfl ?_
  refine ts_get (C := RX3) (T := TX3) (N := 5) (v := .int (nI (u.1.1 3))) hx hb hts hi3 hown hK hW 1 (by decide) cel_pr rfl 4 (by decide) (List.mem_of_getElem? (i := 1) rfl) rfl dX3_afterStepsChanged_2 ?_
  refine lv_iconst (v := nI 1) hx hb dX3_afterStepsChanged_5 (by decide) ?_
  refine ts_iadd (v := nI ((u.1.1 3) + 1)) hx hb dX3_afterStepsChanged_6 (nI_add _ _) ?_
  refine ts_put (C := RX3) (T := TX3) (N := 5) (v := .int (nI ((u.1.1 3) + 1))) hx hb hts hi3 tyX3 tyX3_ok nmX3 hown hK hW hS hB 1 (by decide) cel_pr rfl 4 (by decide) (List.mem_of_getElem? (i := 1) rfl) rfl rfl rfl (Nat.le_of_ble_eq_true rfl) (cel q b ((va_up u.1.1 3 ((u.1.1 3) + 1), u.1.2), u.2.1, u.2.2.1, u.2.2.2)) rfl (cel_oP rfl (fun i hi => va_up_ne _ _ (by omega)) rfl rfl) dX3_afterStepsChanged_7 (fun H locs _ _ hW hS => ?_)
  refine lv_aload_n hx hb dX3_afterStepsChanged_10 rfl (lv_at hl 0 rfl) ?_
  refine ts_retI (va_runV (As := []) (rest := []) ⟨hx, hb, hml, hown, hts⟩ (k_X3_dropUntypable l D q b H.size ((va_up u.1.1 3 ((u.1.1 3) + 1), u.1.2), u.2.1, u.2.2.1, u.2.2.2) (hwf.chk _)) (cwV 0 hts gX3_afterStepsChanged_X3_dropUntypable rfl rfl rfl (by decide +kernel) ⟨Nat.le_of_ble_eq_true rfl, Nat.le_of_ble_eq_true rfl⟩) (ts_preV hK hN hW 1 (by decide) cel_pr rfl) rfl rfl hl.1 rfl (lv_room (Nat.le_of_ble_eq_true rfl)) dX3_afterStepsChanged_11 ⟨Nat.zero_le _, Nat.zero_le _⟩) hS (fun x h => ts_Aup hS.1 h) (fun r1 u2 H locs hp3 hW _ _ hS => ?_)
  obtain ⟨hp3r, F4, hp3u⟩ := hp3
  have hp3r : r1 = nI (cntB (dropD (va_up u.1.1 3 ((u.1.1 3) + 1), u.1.2)) 10) := hp3r
  have hp3u : u2 = ((dropP (va_up u.1.1 3 ((u.1.1 3) + 1), u.1.2)), F4, u.2.2.1, u.2.2.2) := hp3u
  rw [hp3r]
  rw [hp3u] at hW
  refine lv_pop hx hb dX3_afterStepsChanged_14 rfl ?_
  exact ts_vret (u := ((dropP (va_up u.1.1 3 ((u.1.1 3) + 1), u.1.2)), F4, u.2.2.1, u.2.2.2)) C0 hW hS (by exact ⟨_, rfl⟩) dX3_afterStepsChanged_15
set_option maxHeartbeats 4000000 in
set_option maxRecDepth 100000 in
theorem k_X3_changeHints (l : Launch) (D : va_G) (q : CQ) (b sz : Nat) (u : ST) (f a o : Nat) (hwf : WP u.1) (hf : f < 10) (ha : a ≤ 3) (ho : o ≤ 3) : Met l yX3_changeHints wsX3_changeHints ({ frames := 2, cells := 0, slots := 0, locals := 45 } : Room) (va_Pc [.ref (b + 1), .int (nI f), .int (nI a), .int (nI o)] (Pr D q b sz u)) (cI D q b sz (fun r u' => r = nI (chgN u.1 f a o) ∧ u' = (hintC u.1 f a o, u.2))) 0 0 (ts_A b 52 sz) := by
  refine ts_met (by decide) rfl (Nat.le_of_ble_eq_true rfl) ?_
  intro p e s m below meth c C0 hX ls hl
  obtain ⟨hsz, hW, hK, hN⟩ := hX
  subst hsz
  obtain ⟨hx, hb, hml, hown, hts, -, -, -⟩ := id C0
  have hW : ts_W D b 52 (cel q b u) s.heap := hW
  have hS : va_S (ts_A b 52 s.heap.size) s.heap s.heap [] := va_S.rf
  have hB : ∀ k, k < 52 → ts_A b 52 s.heap.size (b + k) := fun k hk => ts_Ain hk
  have hi2 : ∀ w ∈ wsX20, w ∈ wsX3_changeHints := ts_lays 23 rfl
  have hi3 : ∀ w ∈ wsX30, w ∈ wsX3_changeHints := ts_lays 18 rfl
  have hl : lv_has ls 6 [(0, .ref (b + 1)), (1, .int (nI f)), (2, .int (nI a)), (3, .int (nI o))] := hl
  have hs := hwf.sz
  refine lv_aload_n hx hb dX3_changeHints_0 rfl (lv_at hl 0 rfl) ?_
  refine ts_get (C := RX3) (T := TX3) (N := 5) (v := .ref (b + 2)) hx hb hts hi3 hown hK hW 1 (by decide) cel_pr rfl 0 (by decide) (List.mem_of_getElem? (i := 1) rfl) rfl dX3_changeHints_1 ?_
  refine lv_iload_n hx hb dX3_changeHints_4 rfl (lv_at hl 1 rfl) ?_
  refine ts_aald (a := b + (3 + 2 * f)) hx hb hK hW 2 (by decide) 1 cel_fs rfl rfl (by omega) (by decide) rfl dX3_changeHints_5 ?_
  refine lv_astore (lv' := [(4, .ref (b + (3 + 2 * f))), (0, .ref (b + 1)), (1, .int (nI f)), (2, .int (nI a)), (3, .int (nI o))]) hx hb dX3_changeHints_6 hl (by decide) rfl (fun ls hl => ?_)
  refine lv_aload hx hb dX3_changeHints_8 (lv_at hl 0 rfl) ?_
  refine ts_get (C := RX2) (T := TX2) (N := 4) (v := .int (nI (u.1.1 (30 + f)))) hx hb hts hi2 hown hK hW (3 + 2 * f) (by omega) (cel_fn (by omega)) rfl 2 (by decide) (List.mem_of_getElem? (i := 2) rfl) rfl dX3_changeHints_10 ?_
  have hq1 := hwf.fin (i := f) (by omega)
  refine lv_iload_n hx hb dX3_changeHints_13 rfl (lv_at hl 3 rfl) ?_
  refine lv_icmp_ne (tgt := 21) hx hb dX3_changeHints_14 (by decide) (fun c2 => ?_) (fun c2 => ?_)
  · skip
    rw [nI_eq (by omega) (by omega)] at c2
    refine lv_iconst (v := nI 1) hx hb dX3_changeHints_21 (by decide) ?_
    refine lv_aload hx hb dX3_changeHints_22 (lv_at hl 0 rfl) ?_
    refine ts_get (C := RX2) (T := TX2) (N := 4) (v := .int (nI (u.1.1 (40 + f)))) hx hb hts hi2 hown hK hW (3 + 2 * f) (by omega) (cel_fn (by omega)) rfl 3 (by decide) (List.mem_of_getElem? (i := 3) rfl) rfl dX3_changeHints_24 ?_
    have hq3 := hwf.fout (i := f) (by omega)
    refine lv_iload_n hx hb dX3_changeHints_27 rfl (lv_at hl 4 rfl) ?_
    refine lv_icmp_ne (tgt := 35) hx hb dX3_changeHints_28 (by decide) (fun c4 => ?_) (fun c4 => ?_)
    · skip
      rw [nI_eq (by omega) (by omega)] at c4
      refine lv_iconst (v := nI 1) hx hb dX3_changeHints_35 (by decide) ?_
      refine ts_iadd (v := nI (1 + 1)) hx hb dX3_changeHints_36 (nI_add _ _) ?_
      refine lv_istore (lv' := [(5, .int (nI (1 + 1))), (4, .ref (b + (3 + 2 * f))), (0, .ref (b + 1)), (1, .int (nI f)), (2, .int (nI a)), (3, .int (nI o))]) hx hb dX3_changeHints_37 hl (by decide) rfl (fun ls hl => ?_)
      refine lv_aload hx hb dX3_changeHints_39 (lv_at hl 1 rfl) ?_
      refine lv_iload_n hx hb dX3_changeHints_41 rfl (lv_at hl 4 rfl) ?_
      refine ts_put (C := RX2) (T := TX2) (N := 4) (v := .int (nI a)) hx hb hts hi2 tyX2 tyX2_ok nmX2 hown hK hW hS hB (3 + 2 * f) (by omega) (cel_fn (by omega)) rfl 2 (by decide) (List.mem_of_getElem? (i := 2) rfl) rfl rfl rfl (Nat.le_of_ble_eq_true rfl) (cel q b ((va_up u.1.1 (30 + f) a, u.1.2), u.2.1, u.2.2.1, u.2.2.2)) (by rw [cel_fn (by omega)]; simp [va_up]) (cel_oFn (by omega) rfl (fun j h1 h2 h3 => va_up_ne _ _ (by omega)) rfl) dX3_changeHints_42 (fun H locs _ _ hW hS => ?_)
      refine lv_aload hx hb dX3_changeHints_45 (lv_at hl 1 rfl) ?_
      refine lv_iload_n hx hb dX3_changeHints_47 rfl (lv_at hl 5 rfl) ?_
      refine ts_put (C := RX2) (T := TX2) (N := 4) (v := .int (nI o)) hx hb hts hi2 tyX2 tyX2_ok nmX2 hown hK hW hS hB (3 + 2 * f) (by omega) (cel_fn (by omega)) rfl 3 (by decide) (List.mem_of_getElem? (i := 3) rfl) rfl rfl rfl (Nat.le_of_ble_eq_true rfl) (cel q b ((va_up (va_up u.1.1 (30 + f) a) (40 + f) o, u.1.2), u.2.1, u.2.2.1, u.2.2.2)) (by rw [cel_fn (by omega)]; simp [va_up]) (cel_oFn (by omega) rfl (fun j h1 h2 h3 => va_up_ne _ _ (by omega)) rfl) dX3_changeHints_48 (fun H locs _ _ hW hS => ?_)
      refine lv_iload hx hb dX3_changeHints_51 (lv_at hl 0 rfl) ?_
      refine lv_if_le (tgt := 72) hx hb dX3_changeHints_53 (by decide) (fun c5 => ?_) (fun c5 => ?_)
      · skip
        exfalso; revert c5; decide
      refine lv_aload_n hx hb dX3_changeHints_56 rfl (lv_at hl 2 rfl) ?_
      refine lv_dup hx hb dX3_changeHints_57 rfl ?_
      refine ts_get (C := RX3) (T := TX3) (N := 5) (v := .int (nI ((va_up (va_up u.1.1 (30 + f) a) (40 + f) o) 3))) hx hb hts hi3 hown hK hW 1 (by decide) cel_pr rfl 4 (by decide) (List.mem_of_getElem? (i := 4) rfl) rfl dX3_changeHints_58 ?_
      refine lv_iconst (v := nI 1) hx hb dX3_changeHints_61 (by decide) ?_
      refine lv_aload_n hx hb dX3_changeHints_62 rfl (lv_at hl 2 rfl) ?_
      refine lv_iload_n hx hb dX3_changeHints_63 rfl (lv_at hl 3 rfl) ?_
      refine ts_retI (va_runV (As := [.int (nI f)]) (rest := [.int (nI 1), .int (nI ((va_up (va_up u.1.1 (30 + f) a) (40 + f) o) 3)), .ref (b + 1)]) ⟨hx, hb, hml, hown, hts⟩ (k_X3_callersOf l D q b H.size ((va_up (va_up u.1.1 (30 + f) a) (40 + f) o, u.1.2), u.2.1, u.2.2.1, u.2.2.2) f (hwf.hint hf ha ho) (by omega)) (cwV 1 hts gX3_changeHints_X3_callersOf rfl rfl rfl (by decide +kernel) ⟨Nat.le_of_ble_eq_true rfl, Nat.le_of_ble_eq_true rfl⟩) (ts_preV hK hN hW 1 (by decide) cel_pr rfl) rfl rfl hl.1 rfl (lv_room (Nat.le_of_ble_eq_true rfl)) dX3_changeHints_64 ⟨Nat.zero_le _, Nat.zero_le _⟩) hS (fun x h => ts_Aup hS.1 h) (fun r6 u7 H locs hp8 hW _ _ hS => ?_)
      have hp8r : r6 = nI (calN (va_up (va_up u.1.1 (30 + f) a) (40 + f) o, u.1.2) f ((va_up (va_up u.1.1 (30 + f) a) (40 + f) o) 1)) := hp8.1
      have hp8u : u7 = ((va_up (va_up u.1.1 (30 + f) a) (40 + f) o, u.1.2), u.2.1, u.2.2.1, u.2.2.2) := hp8.2
      rw [hp8r]
      rw [hp8u] at hW
      refine ts_iadd (v := nI (1 + (calN (va_up (va_up u.1.1 (30 + f) a) (40 + f) o, u.1.2) f ((va_up (va_up u.1.1 (30 + f) a) (40 + f) o) 1)))) hx hb dX3_changeHints_67 (nI_add _ _) ?_
      refine ts_iadd (v := nI (((va_up (va_up u.1.1 (30 + f) a) (40 + f) o) 3) + (1 + (calN (va_up (va_up u.1.1 (30 + f) a) (40 + f) o, u.1.2) f ((va_up (va_up u.1.1 (30 + f) a) (40 + f) o) 1))))) hx hb dX3_changeHints_68 (nI_add _ _) ?_
      refine ts_put (C := RX3) (T := TX3) (N := 5) (v := .int (nI (((va_up (va_up u.1.1 (30 + f) a) (40 + f) o) 3) + (1 + (calN (va_up (va_up u.1.1 (30 + f) a) (40 + f) o, u.1.2) f ((va_up (va_up u.1.1 (30 + f) a) (40 + f) o) 1)))))) hx hb hts hi3 tyX3 tyX3_ok nmX3 hown hK hW hS hB 1 (by decide) cel_pr rfl 4 (by decide) (List.mem_of_getElem? (i := 4) rfl) rfl rfl rfl (Nat.le_of_ble_eq_true rfl) (cel q b ((va_up (va_up (va_up u.1.1 (30 + f) a) (40 + f) o) 3 (((va_up (va_up u.1.1 (30 + f) a) (40 + f) o) 3) + (1 + (calN (va_up (va_up u.1.1 (30 + f) a) (40 + f) o, u.1.2) f ((va_up (va_up u.1.1 (30 + f) a) (40 + f) o) 1)))), u.1.2), u.2.1, u.2.2.1, u.2.2.2)) rfl (cel_oP rfl (fun i hi => va_up_ne _ _ (by omega)) rfl rfl) dX3_changeHints_69 (fun H locs _ _ hW hS => ?_)
      refine lv_iload hx hb dX3_changeHints_72 (lv_at hl 0 rfl) ?_
      exact ts_iret (u := ((va_up (va_up (va_up u.1.1 (30 + f) a) (40 + f) o) 3 (((va_up (va_up u.1.1 (30 + f) a) (40 + f) o) 3) + (1 + (calN (va_up (va_up u.1.1 (30 + f) a) (40 + f) o, u.1.2) f ((va_up (va_up u.1.1 (30 + f) a) (40 + f) o) 1)))), u.1.2), u.2.1, u.2.2.1, u.2.2.2)) (v := nI (1 + 1)) C0 hW hS (by refine ⟨congrArg nI (by unfold chgN; simp [*]), ?_⟩; unfold hintC; simp [chgN, *]; rfl) dX3_changeHints_74
    rw [nI_eq (by omega) (by omega)] at c4
    refine lv_iconst (v := nI 0) hx hb dX3_changeHints_31 (by decide) ?_
    refine lv_goto (tgt := 36) hx hb dX3_changeHints_32 (by decide) ?_
    refine ts_iadd (v := nI (1 + 0)) hx hb dX3_changeHints_36 (nI_add _ _) ?_
    refine lv_istore (lv' := [(5, .int (nI (1 + 0))), (4, .ref (b + (3 + 2 * f))), (0, .ref (b + 1)), (1, .int (nI f)), (2, .int (nI a)), (3, .int (nI o))]) hx hb dX3_changeHints_37 hl (by decide) rfl (fun ls hl => ?_)
    refine lv_aload hx hb dX3_changeHints_39 (lv_at hl 1 rfl) ?_
    refine lv_iload_n hx hb dX3_changeHints_41 rfl (lv_at hl 4 rfl) ?_
    refine ts_put (C := RX2) (T := TX2) (N := 4) (v := .int (nI a)) hx hb hts hi2 tyX2 tyX2_ok nmX2 hown hK hW hS hB (3 + 2 * f) (by omega) (cel_fn (by omega)) rfl 2 (by decide) (List.mem_of_getElem? (i := 2) rfl) rfl rfl rfl (Nat.le_of_ble_eq_true rfl) (cel q b ((va_up u.1.1 (30 + f) a, u.1.2), u.2.1, u.2.2.1, u.2.2.2)) (by rw [cel_fn (by omega)]; simp [va_up]) (cel_oFn (by omega) rfl (fun j h1 h2 h3 => va_up_ne _ _ (by omega)) rfl) dX3_changeHints_42 (fun H locs _ _ hW hS => ?_)
    refine lv_aload hx hb dX3_changeHints_45 (lv_at hl 1 rfl) ?_
    refine lv_iload_n hx hb dX3_changeHints_47 rfl (lv_at hl 5 rfl) ?_
    refine ts_put (C := RX2) (T := TX2) (N := 4) (v := .int (nI o)) hx hb hts hi2 tyX2 tyX2_ok nmX2 hown hK hW hS hB (3 + 2 * f) (by omega) (cel_fn (by omega)) rfl 3 (by decide) (List.mem_of_getElem? (i := 3) rfl) rfl rfl rfl (Nat.le_of_ble_eq_true rfl) (cel q b ((va_up (va_up u.1.1 (30 + f) a) (40 + f) o, u.1.2), u.2.1, u.2.2.1, u.2.2.2)) (by rw [cel_fn (by omega)]; simp [va_up]) (cel_oFn (by omega) rfl (fun j h1 h2 h3 => va_up_ne _ _ (by omega)) rfl) dX3_changeHints_48 (fun H locs _ _ hW hS => ?_)
    refine lv_iload hx hb dX3_changeHints_51 (lv_at hl 0 rfl) ?_
    refine lv_if_le (tgt := 72) hx hb dX3_changeHints_53 (by decide) (fun c9 => ?_) (fun c9 => ?_)
    · skip
      exfalso; revert c9; decide
    refine lv_aload_n hx hb dX3_changeHints_56 rfl (lv_at hl 2 rfl) ?_
    refine lv_dup hx hb dX3_changeHints_57 rfl ?_
    refine ts_get (C := RX3) (T := TX3) (N := 5) (v := .int (nI ((va_up (va_up u.1.1 (30 + f) a) (40 + f) o) 3))) hx hb hts hi3 hown hK hW 1 (by decide) cel_pr rfl 4 (by decide) (List.mem_of_getElem? (i := 4) rfl) rfl dX3_changeHints_58 ?_
    refine lv_iconst (v := nI 1) hx hb dX3_changeHints_61 (by decide) ?_
    refine lv_aload_n hx hb dX3_changeHints_62 rfl (lv_at hl 2 rfl) ?_
    refine lv_iload_n hx hb dX3_changeHints_63 rfl (lv_at hl 3 rfl) ?_
    refine ts_retI (va_runV (As := [.int (nI f)]) (rest := [.int (nI 1), .int (nI ((va_up (va_up u.1.1 (30 + f) a) (40 + f) o) 3)), .ref (b + 1)]) ⟨hx, hb, hml, hown, hts⟩ (k_X3_callersOf l D q b H.size ((va_up (va_up u.1.1 (30 + f) a) (40 + f) o, u.1.2), u.2.1, u.2.2.1, u.2.2.2) f (hwf.hint hf ha ho) (by omega)) (cwV 1 hts gX3_changeHints_X3_callersOf rfl rfl rfl (by decide +kernel) ⟨Nat.le_of_ble_eq_true rfl, Nat.le_of_ble_eq_true rfl⟩) (ts_preV hK hN hW 1 (by decide) cel_pr rfl) rfl rfl hl.1 rfl (lv_room (Nat.le_of_ble_eq_true rfl)) dX3_changeHints_64 ⟨Nat.zero_le _, Nat.zero_le _⟩) hS (fun x h => ts_Aup hS.1 h) (fun r10 u11 H locs hp12 hW _ _ hS => ?_)
    have hp12r : r10 = nI (calN (va_up (va_up u.1.1 (30 + f) a) (40 + f) o, u.1.2) f ((va_up (va_up u.1.1 (30 + f) a) (40 + f) o) 1)) := hp12.1
    have hp12u : u11 = ((va_up (va_up u.1.1 (30 + f) a) (40 + f) o, u.1.2), u.2.1, u.2.2.1, u.2.2.2) := hp12.2
    rw [hp12r]
    rw [hp12u] at hW
    refine ts_iadd (v := nI (1 + (calN (va_up (va_up u.1.1 (30 + f) a) (40 + f) o, u.1.2) f ((va_up (va_up u.1.1 (30 + f) a) (40 + f) o) 1)))) hx hb dX3_changeHints_67 (nI_add _ _) ?_
    refine ts_iadd (v := nI (((va_up (va_up u.1.1 (30 + f) a) (40 + f) o) 3) + (1 + (calN (va_up (va_up u.1.1 (30 + f) a) (40 + f) o, u.1.2) f ((va_up (va_up u.1.1 (30 + f) a) (40 + f) o) 1))))) hx hb dX3_changeHints_68 (nI_add _ _) ?_
    refine ts_put (C := RX3) (T := TX3) (N := 5) (v := .int (nI (((va_up (va_up u.1.1 (30 + f) a) (40 + f) o) 3) + (1 + (calN (va_up (va_up u.1.1 (30 + f) a) (40 + f) o, u.1.2) f ((va_up (va_up u.1.1 (30 + f) a) (40 + f) o) 1)))))) hx hb hts hi3 tyX3 tyX3_ok nmX3 hown hK hW hS hB 1 (by decide) cel_pr rfl 4 (by decide) (List.mem_of_getElem? (i := 4) rfl) rfl rfl rfl (Nat.le_of_ble_eq_true rfl) (cel q b ((va_up (va_up (va_up u.1.1 (30 + f) a) (40 + f) o) 3 (((va_up (va_up u.1.1 (30 + f) a) (40 + f) o) 3) + (1 + (calN (va_up (va_up u.1.1 (30 + f) a) (40 + f) o, u.1.2) f ((va_up (va_up u.1.1 (30 + f) a) (40 + f) o) 1)))), u.1.2), u.2.1, u.2.2.1, u.2.2.2)) rfl (cel_oP rfl (fun i hi => va_up_ne _ _ (by omega)) rfl rfl) dX3_changeHints_69 (fun H locs _ _ hW hS => ?_)
    refine lv_iload hx hb dX3_changeHints_72 (lv_at hl 0 rfl) ?_
    exact ts_iret (u := ((va_up (va_up (va_up u.1.1 (30 + f) a) (40 + f) o) 3 (((va_up (va_up u.1.1 (30 + f) a) (40 + f) o) 3) + (1 + (calN (va_up (va_up u.1.1 (30 + f) a) (40 + f) o, u.1.2) f ((va_up (va_up u.1.1 (30 + f) a) (40 + f) o) 1)))), u.1.2), u.2.1, u.2.2.1, u.2.2.2)) (v := nI (1 + 0)) C0 hW hS (by refine ⟨congrArg nI (by unfold chgN; simp [*]), ?_⟩; unfold hintC; simp [chgN, *]; rfl) dX3_changeHints_74
  rw [nI_eq (by omega) (by omega)] at c2
  refine lv_iconst (v := nI 0) hx hb dX3_changeHints_17 (by decide) ?_
  refine lv_goto (tgt := 22) hx hb dX3_changeHints_18 (by decide) ?_
  refine lv_aload hx hb dX3_changeHints_22 (lv_at hl 0 rfl) ?_
  refine ts_get (C := RX2) (T := TX2) (N := 4) (v := .int (nI (u.1.1 (40 + f)))) hx hb hts hi2 hown hK hW (3 + 2 * f) (by omega) (cel_fn (by omega)) rfl 3 (by decide) (List.mem_of_getElem? (i := 3) rfl) rfl dX3_changeHints_24 ?_
  have hq13 := hwf.fout (i := f) (by omega)
  refine lv_iload_n hx hb dX3_changeHints_27 rfl (lv_at hl 4 rfl) ?_
  refine lv_icmp_ne (tgt := 35) hx hb dX3_changeHints_28 (by decide) (fun c14 => ?_) (fun c14 => ?_)
  · skip
    rw [nI_eq (by omega) (by omega)] at c14
    refine lv_iconst (v := nI 1) hx hb dX3_changeHints_35 (by decide) ?_
    refine ts_iadd (v := nI (0 + 1)) hx hb dX3_changeHints_36 (nI_add _ _) ?_
    refine lv_istore (lv' := [(5, .int (nI (0 + 1))), (4, .ref (b + (3 + 2 * f))), (0, .ref (b + 1)), (1, .int (nI f)), (2, .int (nI a)), (3, .int (nI o))]) hx hb dX3_changeHints_37 hl (by decide) rfl (fun ls hl => ?_)
    refine lv_aload hx hb dX3_changeHints_39 (lv_at hl 1 rfl) ?_
    refine lv_iload_n hx hb dX3_changeHints_41 rfl (lv_at hl 4 rfl) ?_
    refine ts_put (C := RX2) (T := TX2) (N := 4) (v := .int (nI a)) hx hb hts hi2 tyX2 tyX2_ok nmX2 hown hK hW hS hB (3 + 2 * f) (by omega) (cel_fn (by omega)) rfl 2 (by decide) (List.mem_of_getElem? (i := 2) rfl) rfl rfl rfl (Nat.le_of_ble_eq_true rfl) (cel q b ((va_up u.1.1 (30 + f) a, u.1.2), u.2.1, u.2.2.1, u.2.2.2)) (by rw [cel_fn (by omega)]; simp [va_up]) (cel_oFn (by omega) rfl (fun j h1 h2 h3 => va_up_ne _ _ (by omega)) rfl) dX3_changeHints_42 (fun H locs _ _ hW hS => ?_)
    refine lv_aload hx hb dX3_changeHints_45 (lv_at hl 1 rfl) ?_
    refine lv_iload_n hx hb dX3_changeHints_47 rfl (lv_at hl 5 rfl) ?_
    refine ts_put (C := RX2) (T := TX2) (N := 4) (v := .int (nI o)) hx hb hts hi2 tyX2 tyX2_ok nmX2 hown hK hW hS hB (3 + 2 * f) (by omega) (cel_fn (by omega)) rfl 3 (by decide) (List.mem_of_getElem? (i := 3) rfl) rfl rfl rfl (Nat.le_of_ble_eq_true rfl) (cel q b ((va_up (va_up u.1.1 (30 + f) a) (40 + f) o, u.1.2), u.2.1, u.2.2.1, u.2.2.2)) (by rw [cel_fn (by omega)]; simp [va_up]) (cel_oFn (by omega) rfl (fun j h1 h2 h3 => va_up_ne _ _ (by omega)) rfl) dX3_changeHints_48 (fun H locs _ _ hW hS => ?_)
    refine lv_iload hx hb dX3_changeHints_51 (lv_at hl 0 rfl) ?_
    refine lv_if_le (tgt := 72) hx hb dX3_changeHints_53 (by decide) (fun c15 => ?_) (fun c15 => ?_)
    · skip
      exfalso; revert c15; decide
    refine lv_aload_n hx hb dX3_changeHints_56 rfl (lv_at hl 2 rfl) ?_
    refine lv_dup hx hb dX3_changeHints_57 rfl ?_
    refine ts_get (C := RX3) (T := TX3) (N := 5) (v := .int (nI ((va_up (va_up u.1.1 (30 + f) a) (40 + f) o) 3))) hx hb hts hi3 hown hK hW 1 (by decide) cel_pr rfl 4 (by decide) (List.mem_of_getElem? (i := 4) rfl) rfl dX3_changeHints_58 ?_
    refine lv_iconst (v := nI 1) hx hb dX3_changeHints_61 (by decide) ?_
    refine lv_aload_n hx hb dX3_changeHints_62 rfl (lv_at hl 2 rfl) ?_
    refine lv_iload_n hx hb dX3_changeHints_63 rfl (lv_at hl 3 rfl) ?_
    refine ts_retI (va_runV (As := [.int (nI f)]) (rest := [.int (nI 1), .int (nI ((va_up (va_up u.1.1 (30 + f) a) (40 + f) o) 3)), .ref (b + 1)]) ⟨hx, hb, hml, hown, hts⟩ (k_X3_callersOf l D q b H.size ((va_up (va_up u.1.1 (30 + f) a) (40 + f) o, u.1.2), u.2.1, u.2.2.1, u.2.2.2) f (hwf.hint hf ha ho) (by omega)) (cwV 1 hts gX3_changeHints_X3_callersOf rfl rfl rfl (by decide +kernel) ⟨Nat.le_of_ble_eq_true rfl, Nat.le_of_ble_eq_true rfl⟩) (ts_preV hK hN hW 1 (by decide) cel_pr rfl) rfl rfl hl.1 rfl (lv_room (Nat.le_of_ble_eq_true rfl)) dX3_changeHints_64 ⟨Nat.zero_le _, Nat.zero_le _⟩) hS (fun x h => ts_Aup hS.1 h) (fun r16 u17 H locs hp18 hW _ _ hS => ?_)
    have hp18r : r16 = nI (calN (va_up (va_up u.1.1 (30 + f) a) (40 + f) o, u.1.2) f ((va_up (va_up u.1.1 (30 + f) a) (40 + f) o) 1)) := hp18.1
    have hp18u : u17 = ((va_up (va_up u.1.1 (30 + f) a) (40 + f) o, u.1.2), u.2.1, u.2.2.1, u.2.2.2) := hp18.2
    rw [hp18r]
    rw [hp18u] at hW
    refine ts_iadd (v := nI (1 + (calN (va_up (va_up u.1.1 (30 + f) a) (40 + f) o, u.1.2) f ((va_up (va_up u.1.1 (30 + f) a) (40 + f) o) 1)))) hx hb dX3_changeHints_67 (nI_add _ _) ?_
    refine ts_iadd (v := nI (((va_up (va_up u.1.1 (30 + f) a) (40 + f) o) 3) + (1 + (calN (va_up (va_up u.1.1 (30 + f) a) (40 + f) o, u.1.2) f ((va_up (va_up u.1.1 (30 + f) a) (40 + f) o) 1))))) hx hb dX3_changeHints_68 (nI_add _ _) ?_
    refine ts_put (C := RX3) (T := TX3) (N := 5) (v := .int (nI (((va_up (va_up u.1.1 (30 + f) a) (40 + f) o) 3) + (1 + (calN (va_up (va_up u.1.1 (30 + f) a) (40 + f) o, u.1.2) f ((va_up (va_up u.1.1 (30 + f) a) (40 + f) o) 1)))))) hx hb hts hi3 tyX3 tyX3_ok nmX3 hown hK hW hS hB 1 (by decide) cel_pr rfl 4 (by decide) (List.mem_of_getElem? (i := 4) rfl) rfl rfl rfl (Nat.le_of_ble_eq_true rfl) (cel q b ((va_up (va_up (va_up u.1.1 (30 + f) a) (40 + f) o) 3 (((va_up (va_up u.1.1 (30 + f) a) (40 + f) o) 3) + (1 + (calN (va_up (va_up u.1.1 (30 + f) a) (40 + f) o, u.1.2) f ((va_up (va_up u.1.1 (30 + f) a) (40 + f) o) 1)))), u.1.2), u.2.1, u.2.2.1, u.2.2.2)) rfl (cel_oP rfl (fun i hi => va_up_ne _ _ (by omega)) rfl rfl) dX3_changeHints_69 (fun H locs _ _ hW hS => ?_)
    refine lv_iload hx hb dX3_changeHints_72 (lv_at hl 0 rfl) ?_
    exact ts_iret (u := ((va_up (va_up (va_up u.1.1 (30 + f) a) (40 + f) o) 3 (((va_up (va_up u.1.1 (30 + f) a) (40 + f) o) 3) + (1 + (calN (va_up (va_up u.1.1 (30 + f) a) (40 + f) o, u.1.2) f ((va_up (va_up u.1.1 (30 + f) a) (40 + f) o) 1)))), u.1.2), u.2.1, u.2.2.1, u.2.2.2)) (v := nI (0 + 1)) C0 hW hS (by refine ⟨congrArg nI (by unfold chgN; simp [*]), ?_⟩; unfold hintC; simp [chgN, *]; rfl) dX3_changeHints_74
  rw [nI_eq (by omega) (by omega)] at c14
  refine lv_iconst (v := nI 0) hx hb dX3_changeHints_31 (by decide) ?_
  refine lv_goto (tgt := 36) hx hb dX3_changeHints_32 (by decide) ?_
  refine ts_iadd (v := nI (0 + 0)) hx hb dX3_changeHints_36 (nI_add _ _) ?_
  refine lv_istore (lv' := [(5, .int (nI (0 + 0))), (4, .ref (b + (3 + 2 * f))), (0, .ref (b + 1)), (1, .int (nI f)), (2, .int (nI a)), (3, .int (nI o))]) hx hb dX3_changeHints_37 hl (by decide) rfl (fun ls hl => ?_)
  refine lv_aload hx hb dX3_changeHints_39 (lv_at hl 1 rfl) ?_
  refine lv_iload_n hx hb dX3_changeHints_41 rfl (lv_at hl 4 rfl) ?_
  refine ts_put (C := RX2) (T := TX2) (N := 4) (v := .int (nI a)) hx hb hts hi2 tyX2 tyX2_ok nmX2 hown hK hW hS hB (3 + 2 * f) (by omega) (cel_fn (by omega)) rfl 2 (by decide) (List.mem_of_getElem? (i := 2) rfl) rfl rfl rfl (Nat.le_of_ble_eq_true rfl) (cel q b ((va_up u.1.1 (30 + f) a, u.1.2), u.2.1, u.2.2.1, u.2.2.2)) (by rw [cel_fn (by omega)]; simp [va_up]) (cel_oFn (by omega) rfl (fun j h1 h2 h3 => va_up_ne _ _ (by omega)) rfl) dX3_changeHints_42 (fun H locs _ _ hW hS => ?_)
  refine lv_aload hx hb dX3_changeHints_45 (lv_at hl 1 rfl) ?_
  refine lv_iload_n hx hb dX3_changeHints_47 rfl (lv_at hl 5 rfl) ?_
  refine ts_put (C := RX2) (T := TX2) (N := 4) (v := .int (nI o)) hx hb hts hi2 tyX2 tyX2_ok nmX2 hown hK hW hS hB (3 + 2 * f) (by omega) (cel_fn (by omega)) rfl 3 (by decide) (List.mem_of_getElem? (i := 3) rfl) rfl rfl rfl (Nat.le_of_ble_eq_true rfl) (cel q b ((va_up (va_up u.1.1 (30 + f) a) (40 + f) o, u.1.2), u.2.1, u.2.2.1, u.2.2.2)) (by rw [cel_fn (by omega)]; simp [va_up]) (cel_oFn (by omega) rfl (fun j h1 h2 h3 => va_up_ne _ _ (by omega)) rfl) dX3_changeHints_48 (fun H locs _ _ hW hS => ?_)
  refine lv_iload hx hb dX3_changeHints_51 (lv_at hl 0 rfl) ?_
  refine lv_if_le (tgt := 72) hx hb dX3_changeHints_53 (by decide) (fun c19 => ?_) (fun c19 => ?_)
  · skip
    refine lv_iload hx hb dX3_changeHints_72 (lv_at hl 0 rfl) ?_
    exact ts_iret (u := ((va_up (va_up u.1.1 (30 + f) a) (40 + f) o, u.1.2), u.2.1, u.2.2.1, u.2.2.2)) (v := nI (0 + 0)) C0 hW hS (by refine ⟨congrArg nI (by unfold chgN; simp [*]), ?_⟩; unfold hintC; simp [chgN, *]; rfl) dX3_changeHints_74
  exfalso; revert c19; decide
set_option maxHeartbeats 4000000 in
set_option maxRecDepth 100000 in
theorem k_X3_untypableWith (l : Launch) (D : va_G) (q : CQ) (b sz : Nat) (u : ST) (f a o : Nat) (hwf : WP u.1) (hf : f < 10) (ha : a ≤ 3) (ho : o ≤ 3) : Met l yX3_untypableWith wsX3_untypableWith ({ frames := 5, cells := 0, slots := 0, locals := 108 } : Room) (va_Pc [.ref (b + 1), .int (nI f), .int (nI a), .int (nI o)] (Pr D q b sz u)) (cI D q b sz (fun r u' => r = nI (dropD (hintP u.1 f a o)) ∧ ∃ F : FT, u' = (u.1, F, u.2.2))) 0 0 (ts_A b 52 sz) := by
  refine ts_met (by decide) rfl (Nat.le_of_ble_eq_true rfl) ?_
  intro p e s m below meth c C0 hX ls hl
  obtain ⟨hsz, hW, hK, hN⟩ := hX
  subst hsz
  obtain ⟨hx, hb, hml, hown, hts, -, -, -⟩ := id C0
  have hW : ts_W D b 52 (cel q b u) s.heap := hW
  have hS : va_S (ts_A b 52 s.heap.size) s.heap s.heap [] := va_S.rf
  have hB : ∀ k, k < 52 → ts_A b 52 s.heap.size (b + k) := fun k hk => ts_Ain hk
  have hi2 : ∀ w ∈ wsX20, w ∈ wsX3_untypableWith := ts_lays 60 rfl
  have hi3 : ∀ w ∈ wsX30, w ∈ wsX3_untypableWith := ts_lays 55 rfl
  have hl : lv_has ls 8 [(0, .ref (b + 1)), (1, .int (nI f)), (2, .int (nI a)), (3, .int (nI o))] := hl
  have hs := hwf.sz
  refine lv_aload_n hx hb dX3_untypableWith_0 rfl (lv_at hl 0 rfl) ?_
  refine ts_get (C := RX3) (T := TX3) (N := 5) (v := .ref (b + 2)) hx hb hts hi3 hown hK hW 1 (by decide) cel_pr rfl 0 (by decide) (List.mem_of_getElem? (i := 1) rfl) rfl dX3_untypableWith_1 ?_
  refine lv_iload_n hx hb dX3_untypableWith_4 rfl (lv_at hl 1 rfl) ?_
  refine ts_aald (a := b + (3 + 2 * f)) hx hb hK hW 2 (by decide) 1 cel_fs rfl rfl (by omega) (by decide) rfl dX3_untypableWith_5 ?_
  refine lv_astore (lv' := [(4, .ref (b + (3 + 2 * f))), (0, .ref (b + 1)), (1, .int (nI f)), (2, .int (nI a)), (3, .int (nI o))]) hx hb dX3_untypableWith_6 hl (by decide) rfl (fun ls hl => ?_)
  refine lv_aload hx hb dX3_untypableWith_8 (lv_at hl 0 rfl) ?_
  refine ts_get (C := RX2) (T := TX2) (N := 4) (v := .int (nI (u.1.1 (30 + f)))) hx hb hts hi2 hown hK hW (3 + 2 * f) (by omega) (cel_fn (by omega)) rfl 2 (by decide) (List.mem_of_getElem? (i := 2) rfl) rfl dX3_untypableWith_10 ?_
  have hq1 := hwf.fin (i := f) (by omega)
  refine lv_istore (lv' := [(5, .int (nI (u.1.1 (30 + f)))), (4, .ref (b + (3 + 2 * f))), (0, .ref (b + 1)), (1, .int (nI f)), (2, .int (nI a)), (3, .int (nI o))]) hx hb dX3_untypableWith_13 hl (by decide) rfl (fun ls hl => ?_)
  refine lv_aload hx hb dX3_untypableWith_15 (lv_at hl 1 rfl) ?_
  refine ts_get (C := RX2) (T := TX2) (N := 4) (v := .int (nI (u.1.1 (40 + f)))) hx hb hts hi2 hown hK hW (3 + 2 * f) (by omega) (cel_fn (by omega)) rfl 3 (by decide) (List.mem_of_getElem? (i := 3) rfl) rfl dX3_untypableWith_17 ?_
  have hq2 := hwf.fout (i := f) (by omega)
  refine lv_istore (lv' := [(6, .int (nI (u.1.1 (40 + f)))), (5, .int (nI (u.1.1 (30 + f)))), (4, .ref (b + (3 + 2 * f))), (0, .ref (b + 1)), (1, .int (nI f)), (2, .int (nI a)), (3, .int (nI o))]) hx hb dX3_untypableWith_20 hl (by decide) rfl (fun ls hl => ?_)
  refine lv_aload hx hb dX3_untypableWith_22 (lv_at hl 2 rfl) ?_
  refine lv_iload_n hx hb dX3_untypableWith_24 rfl (lv_at hl 5 rfl) ?_
  refine ts_put (C := RX2) (T := TX2) (N := 4) (v := .int (nI a)) hx hb hts hi2 tyX2 tyX2_ok nmX2 hown hK hW hS hB (3 + 2 * f) (by omega) (cel_fn (by omega)) rfl 2 (by decide) (List.mem_of_getElem? (i := 2) rfl) rfl rfl rfl (Nat.le_of_ble_eq_true rfl) (cel q b ((va_up u.1.1 (30 + f) a, u.1.2), u.2.1, u.2.2.1, u.2.2.2)) (by rw [cel_fn (by omega)]; simp [va_up]) (cel_oFn (by omega) rfl (fun j h1 h2 h3 => va_up_ne _ _ (by omega)) rfl) dX3_untypableWith_25 (fun H locs _ _ hW hS => ?_)
  refine lv_aload hx hb dX3_untypableWith_28 (lv_at hl 2 rfl) ?_
  refine lv_iload_n hx hb dX3_untypableWith_30 rfl (lv_at hl 6 rfl) ?_
  refine ts_put (C := RX2) (T := TX2) (N := 4) (v := .int (nI o)) hx hb hts hi2 tyX2 tyX2_ok nmX2 hown hK hW hS hB (3 + 2 * f) (by omega) (cel_fn (by omega)) rfl 3 (by decide) (List.mem_of_getElem? (i := 3) rfl) rfl rfl rfl (Nat.le_of_ble_eq_true rfl) (cel q b ((va_up (va_up u.1.1 (30 + f) a) (40 + f) o, u.1.2), u.2.1, u.2.2.1, u.2.2.2)) (by rw [cel_fn (by omega)]; simp [va_up]) (cel_oFn (by omega) rfl (fun j h1 h2 h3 => va_up_ne _ _ (by omega)) rfl) dX3_untypableWith_31 (fun H locs _ _ hW hS => ?_)
  refine lv_aload_n hx hb dX3_untypableWith_34 rfl (lv_at hl 3 rfl) ?_
  refine ts_retI (va_runV (As := []) (rest := []) ⟨hx, hb, hml, hown, hts⟩ (k_X3_untypable l D q b H.size ((va_up (va_up u.1.1 (30 + f) a) (40 + f) o, u.1.2), u.2.1, u.2.2.1, u.2.2.2) (hwf.hint hf ha ho)) (cwV 0 hts gX3_untypableWith_X3_untypable rfl rfl rfl (by decide +kernel) ⟨Nat.le_of_ble_eq_true rfl, Nat.le_of_ble_eq_true rfl⟩) (ts_preV hK hN hW 1 (by decide) cel_pr rfl) rfl rfl hl.1 rfl (lv_room (Nat.le_of_ble_eq_true rfl)) dX3_untypableWith_35 ⟨Nat.zero_le _, Nat.zero_le _⟩) hS (fun x h => ts_Aup hS.1 h) (fun r3 u4 H locs hp5 hW _ _ hS => ?_)
  obtain ⟨hp5r, F6, hp5u⟩ := hp5
  have hp5r : r3 = nI (dropD (va_up (va_up u.1.1 (30 + f) a) (40 + f) o, u.1.2)) := hp5r
  have hp5u : u4 = ((va_up (va_up u.1.1 (30 + f) a) (40 + f) o, u.1.2), F6, u.2.2.1, u.2.2.2) := hp5u
  rw [hp5r]
  rw [hp5u] at hW
  refine lv_istore (lv' := [(7, .int (nI (dropD (va_up (va_up u.1.1 (30 + f) a) (40 + f) o, u.1.2)))), (6, .int (nI (u.1.1 (40 + f)))), (5, .int (nI (u.1.1 (30 + f)))), (4, .ref (b + (3 + 2 * f))), (0, .ref (b + 1)), (1, .int (nI f)), (2, .int (nI a)), (3, .int (nI o))]) hx hb dX3_untypableWith_38 hl (by decide) rfl (fun ls hl => ?_)
  refine lv_aload hx hb dX3_untypableWith_40 (lv_at hl 3 rfl) ?_
  refine lv_iload hx hb dX3_untypableWith_42 (lv_at hl 2 rfl) ?_
  refine ts_put (C := RX2) (T := TX2) (N := 4) (v := .int (nI (u.1.1 (30 + f)))) hx hb hts hi2 tyX2 tyX2_ok nmX2 hown hK hW hS hB (3 + 2 * f) (by omega) (cel_fn (by omega)) rfl 2 (by decide) (List.mem_of_getElem? (i := 2) rfl) rfl rfl rfl (Nat.le_of_ble_eq_true rfl) (cel q b ((va_up (va_up (va_up u.1.1 (30 + f) a) (40 + f) o) (30 + f) (u.1.1 (30 + f)), u.1.2), F6, u.2.2.1, u.2.2.2)) (by rw [cel_fn (by omega)]; simp [va_up]) (cel_oFn (by omega) rfl (fun j h1 h2 h3 => va_up_ne _ _ (by omega)) rfl) dX3_untypableWith_44 (fun H locs _ _ hW hS => ?_)
  refine lv_aload hx hb dX3_untypableWith_47 (lv_at hl 3 rfl) ?_
  refine lv_iload hx hb dX3_untypableWith_49 (lv_at hl 1 rfl) ?_
  refine ts_put (C := RX2) (T := TX2) (N := 4) (v := .int (nI (u.1.1 (40 + f)))) hx hb hts hi2 tyX2 tyX2_ok nmX2 hown hK hW hS hB (3 + 2 * f) (by omega) (cel_fn (by omega)) rfl 3 (by decide) (List.mem_of_getElem? (i := 3) rfl) rfl rfl rfl (Nat.le_of_ble_eq_true rfl) (cel q b ((va_up (va_up (va_up (va_up u.1.1 (30 + f) a) (40 + f) o) (30 + f) (u.1.1 (30 + f))) (40 + f) (u.1.1 (40 + f)), u.1.2), F6, u.2.2.1, u.2.2.2)) (by rw [cel_fn (by omega)]; simp [va_up]) (cel_oFn (by omega) rfl (fun j h1 h2 h3 => va_up_ne _ _ (by omega)) rfl) dX3_untypableWith_51 (fun H locs _ _ hW hS => ?_)
  refine lv_iload hx hb dX3_untypableWith_54 (lv_at hl 0 rfl) ?_
  exact ts_iret (u := ((va_up (va_up (va_up (va_up u.1.1 (30 + f) a) (40 + f) o) (30 + f) (u.1.1 (30 + f))) (40 + f) (u.1.1 (40 + f)), u.1.2), F6, u.2.2.1, u.2.2.2)) (v := nI (dropD (va_up (va_up u.1.1 (30 + f) a) (40 + f) o, u.1.2))) C0 hW hS (by refine ⟨rfl, F6, ?_⟩; (rw [hint_back]) <;> rfl) dX3_untypableWith_56
set_option maxHeartbeats 4000000 in
set_option maxRecDepth 100000 in
theorem k_X3_guardsCall (l : Launch) (D : va_G) (q : CQ) (b sz : Nat) (u : ST) (r_ j s_ : Nat) (hwf : WP u.1) (hr : r_ < 31) (hj : j < 10) (hs_ : s_ < 1024) : Met l yX3_guardsCall wsX3_guardsCall ({ frames := 1, cells := 0, slots := 0, locals := 21 } : Room) (va_Pc [.ref (b + 1), .int (zI r_), .int (nI j), .int (nI s_)] (Pr D q b sz u)) (cI D q b sz (fun r u' => r = b2i (gcB u.1 r_ j s_) ∧ u' = u)) 0 0 (ts_A b 52 sz) := by
  refine ts_met (by decide) rfl (Nat.le_of_ble_eq_true rfl) ?_
  intro p e s m below meth c C0 hX ls hl
  obtain ⟨hsz, hW, hK, hN⟩ := hX
  subst hsz
  obtain ⟨hx, hb, hml, hown, hts, -, -, -⟩ := id C0
  have hW : ts_W D b 52 (cel q b u) s.heap := hW
  have hS : va_S (ts_A b 52 s.heap.size) s.heap s.heap [] := va_S.rf
  have hB : ∀ k, k < 52 → ts_A b 52 s.heap.size (b + k) := fun k hk => ts_Ain hk
  have hi2 : ∀ w ∈ wsX20, w ∈ wsX3_guardsCall := ts_lays 11 rfl
  have hi3 : ∀ w ∈ wsX30, w ∈ wsX3_guardsCall := ts_lays 6 rfl
  have hl : lv_has ls 4 [(0, .ref (b + 1)), (1, .int (zI r_)), (2, .int (nI j)), (3, .int (nI s_))] := hl
  have hs := hwf.sz
  refine lv_iload_n hx hb dX3_guardsCall_0 rfl (lv_at hl 3 rfl) ?_
  refine lv_iload_n hx hb dX3_guardsCall_1 rfl (lv_at hl 2 rfl) ?_
  refine ts_retI (va_runSN (As := [.int (nI s_), .int (nI j)]) (rest := []) ⟨hx, hb, hml, hown, hts⟩ (k_X5_has l D q b s.heap.size u s_ j (by omega) (by omega)) ⟨va_cnB 2 hts gX3_guardsCall_X5_has_n106 rfl rfl rfl (hN _ (List.mem_of_getElem? (i := 7) rfl)) (hts _ (List.mem_of_getElem? (i := 4) rfl)) (by decide +kernel) ⟨Nat.le_of_ble_eq_true rfl, Nat.le_of_ble_eq_true rfl⟩, hts _ (List.mem_of_getElem? (i := 3) rfl), trivial⟩ (ts_preS hK hN hW) rfl rfl hl.1 rfl (lv_room (Nat.le_of_ble_eq_true rfl)) dX3_guardsCall_2 ⟨Nat.zero_le _, Nat.zero_le _⟩) hS (fun x h => ts_Aup hS.1 h) (fun r1 u2 H locs hp3 hW _ _ hS => ?_)
  have hp3r : r1 = b2i (hasB s_ j) := hp3.1
  have hp3u : u2 = u := hp3.2
  rw [hp3r]
  rw [hp3u] at hW
  refine lv_if_eq (tgt := 33) hx hb dX3_guardsCall_5 (by decide) (fun c4 => ?_) (fun c4 => ?_)
  · skip
    have c4 := ts_bf c4
    refine lv_iconst (v := nI 0) hx hb dX3_guardsCall_33 (by decide) ?_
    exact ts_zret (u := u) (v := nI 0) C0 rfl hW hS (by refine ⟨?_, rfl⟩; rw [show gcB u.1 r_ j s_ = false from by first | (simp [gcB, *]; done) | (simp [gcB, *]; omega)]; rfl) dX3_guardsCall_34
  have c4 := ts_bt c4
  refine lv_iload_n hx hb dX3_guardsCall_8 rfl (lv_at hl 3 rfl) ?_
  refine lv_iload_n hx hb dX3_guardsCall_9 rfl (lv_at hl 1 rfl) ?_
  refine ts_retI (va_runSN (As := [.int (nI s_), .int (zI r_)]) (rest := []) ⟨hx, hb, hml, hown, hts⟩ (k_X5_hasR l D q b H.size u s_ (by omega) r_ (by omega)) ⟨va_cnB 2 hts gX3_guardsCall_X5_has_n106 rfl rfl rfl (hN _ (List.mem_of_getElem? (i := 7) rfl)) (hts _ (List.mem_of_getElem? (i := 4) rfl)) (by decide +kernel) ⟨Nat.le_of_ble_eq_true rfl, Nat.le_of_ble_eq_true rfl⟩, hts _ (List.mem_of_getElem? (i := 3) rfl), trivial⟩ (ts_preS hK hN hW) rfl rfl hl.1 rfl (lv_room (Nat.le_of_ble_eq_true rfl)) dX3_guardsCall_10 ⟨Nat.zero_le _, Nat.zero_le _⟩) hS (fun x h => ts_Aup hS.1 h) (fun r5 u6 H locs hp7 hW _ _ hS => ?_)
  have hp7r : r5 = b2i (hasR s_ r_) := hp7.1
  have hp7u : u6 = u := hp7.2
  rw [hp7r]
  rw [hp7u] at hW
  refine lv_if_ne (tgt := 33) hx hb dX3_guardsCall_13 (by decide) (fun c8 => ?_) (fun c8 => ?_)
  · skip
    have c8 := ts_bt c8
    refine lv_iconst (v := nI 0) hx hb dX3_guardsCall_33 (by decide) ?_
    exact ts_zret (u := u) (v := nI 0) C0 rfl hW hS (by refine ⟨?_, rfl⟩; rw [show gcB u.1 r_ j s_ = false from by first | (simp [gcB, *]; done) | (simp [gcB, *]; omega)]; rfl) dX3_guardsCall_34
  have c8 := ts_bf c8
  refine lv_aload_n hx hb dX3_guardsCall_16 rfl (lv_at hl 0 rfl) ?_
  refine ts_get (C := RX3) (T := TX3) (N := 5) (v := .ref (b + 2)) hx hb hts hi3 hown hK hW 1 (by decide) cel_pr rfl 0 (by decide) (List.mem_of_getElem? (i := 1) rfl) rfl dX3_guardsCall_17 ?_
  refine lv_iload_n hx hb dX3_guardsCall_20 rfl (lv_at hl 2 rfl) ?_
  refine ts_aald (a := b + (3 + 2 * j)) hx hb hK hW 2 (by decide) 1 cel_fs rfl rfl (by omega) (by decide) rfl dX3_guardsCall_21 ?_
  refine ts_get (C := RX2) (T := TX2) (N := 4) (v := .int (nI (u.1.1 (30 + j)))) hx hb hts hi2 hown hK hW (3 + 2 * j) (by omega) (cel_fn (by omega)) rfl 2 (by decide) (List.mem_of_getElem? (i := 2) rfl) rfl dX3_guardsCall_22 ?_
  have hq9 := hwf.fin (i := j) (by omega)
  refine lv_iconst (v := nI 3) hx hb dX3_guardsCall_25 (by decide) ?_
  refine lv_icmp_eq (tgt := 33) hx hb dX3_guardsCall_26 (by decide) (fun c10 => ?_) (fun c10 => ?_)
  · skip
    rw [nI_eq (by omega) (by omega)] at c10
    refine lv_iconst (v := nI 0) hx hb dX3_guardsCall_33 (by decide) ?_
    exact ts_zret (u := u) (v := nI 0) C0 rfl hW hS (by refine ⟨?_, rfl⟩; rw [show gcB u.1 r_ j s_ = false from by first | (simp [gcB, *]; done) | (simp [gcB, *]; omega)]; rfl) dX3_guardsCall_34
  rw [nI_eq (by omega) (by omega)] at c10
  refine lv_iconst (v := nI 1) hx hb dX3_guardsCall_29 (by decide) ?_
  refine lv_goto (tgt := 34) hx hb dX3_guardsCall_30 (by decide) ?_
  exact ts_zret (u := u) (v := nI 1) C0 rfl hW hS (by refine ⟨?_, rfl⟩; rw [show gcB u.1 r_ j s_ = true from by first | (simp [gcB, *]; done) | (simp [gcB, *]; omega)]; rfl) dX3_guardsCall_34
set_option maxHeartbeats 4000000 in
set_option maxRecDepth 100000 in
theorem k_X3_guardsGive (l : Launch) (D : va_G) (q : CQ) (b sz : Nat) (u : ST) (r_ j s_ : Nat) (hwf : WP u.1) (hr : r_ < 31) (hj : j < 10) (hs_ : s_ < 1024) : Met l yX3_guardsGive wsX3_guardsGive ({ frames := 1, cells := 0, slots := 0, locals := 21 } : Room) (va_Pc [.ref (b + 1), .int (zI r_), .int (nI j), .int (nI s_)] (Pr D q b sz u)) (cI D q b sz (fun r u' => r = b2i (ggB u.1 r_ j s_) ∧ u' = u)) 0 0 (ts_A b 52 sz) := by
  refine ts_met (by decide) rfl (Nat.le_of_ble_eq_true rfl) ?_
  intro p e s m below meth c C0 hX ls hl
  obtain ⟨hsz, hW, hK, hN⟩ := hX
  subst hsz
  obtain ⟨hx, hb, hml, hown, hts, -, -, -⟩ := id C0
  have hW : ts_W D b 52 (cel q b u) s.heap := hW
  have hS : va_S (ts_A b 52 s.heap.size) s.heap s.heap [] := va_S.rf
  have hB : ∀ k, k < 52 → ts_A b 52 s.heap.size (b + k) := fun k hk => ts_Ain hk
  have hi2 : ∀ w ∈ wsX20, w ∈ wsX3_guardsGive := ts_lays 11 rfl
  have hi3 : ∀ w ∈ wsX30, w ∈ wsX3_guardsGive := ts_lays 6 rfl
  have hl : lv_has ls 4 [(0, .ref (b + 1)), (1, .int (zI r_)), (2, .int (nI j)), (3, .int (nI s_))] := hl
  have hs := hwf.sz
  refine lv_iload_n hx hb dX3_guardsGive_0 rfl (lv_at hl 3 rfl) ?_
  refine lv_iload_n hx hb dX3_guardsGive_1 rfl (lv_at hl 1 rfl) ?_
  refine ts_retI (va_runSN (As := [.int (nI s_), .int (zI r_)]) (rest := []) ⟨hx, hb, hml, hown, hts⟩ (k_X5_hasR l D q b s.heap.size u s_ (by omega) r_ (by omega)) ⟨va_cnB 2 hts gX3_guardsGive_X5_has_n106 rfl rfl rfl (hN _ (List.mem_of_getElem? (i := 7) rfl)) (hts _ (List.mem_of_getElem? (i := 4) rfl)) (by decide +kernel) ⟨Nat.le_of_ble_eq_true rfl, Nat.le_of_ble_eq_true rfl⟩, hts _ (List.mem_of_getElem? (i := 3) rfl), trivial⟩ (ts_preS hK hN hW) rfl rfl hl.1 rfl (lv_room (Nat.le_of_ble_eq_true rfl)) dX3_guardsGive_2 ⟨Nat.zero_le _, Nat.zero_le _⟩) hS (fun x h => ts_Aup hS.1 h) (fun r1 u2 H locs hp3 hW _ _ hS => ?_)
  have hp3r : r1 = b2i (hasR s_ r_) := hp3.1
  have hp3u : u2 = u := hp3.2
  rw [hp3r]
  rw [hp3u] at hW
  refine lv_if_eq (tgt := 33) hx hb dX3_guardsGive_5 (by decide) (fun c4 => ?_) (fun c4 => ?_)
  · skip
    have c4 := ts_bf c4
    refine lv_iconst (v := nI 0) hx hb dX3_guardsGive_33 (by decide) ?_
    exact ts_zret (u := u) (v := nI 0) C0 rfl hW hS (by refine ⟨?_, rfl⟩; rw [show ggB u.1 r_ j s_ = false from by first | (simp [ggB, *]; done) | (simp [ggB, *]; omega)]; rfl) dX3_guardsGive_34
  have c4 := ts_bt c4
  refine lv_iload_n hx hb dX3_guardsGive_8 rfl (lv_at hl 3 rfl) ?_
  refine lv_iload_n hx hb dX3_guardsGive_9 rfl (lv_at hl 2 rfl) ?_
  refine ts_retI (va_runSN (As := [.int (nI s_), .int (nI j)]) (rest := []) ⟨hx, hb, hml, hown, hts⟩ (k_X5_has l D q b H.size u s_ j (by omega) (by omega)) ⟨va_cnB 2 hts gX3_guardsGive_X5_has_n106 rfl rfl rfl (hN _ (List.mem_of_getElem? (i := 7) rfl)) (hts _ (List.mem_of_getElem? (i := 4) rfl)) (by decide +kernel) ⟨Nat.le_of_ble_eq_true rfl, Nat.le_of_ble_eq_true rfl⟩, hts _ (List.mem_of_getElem? (i := 3) rfl), trivial⟩ (ts_preS hK hN hW) rfl rfl hl.1 rfl (lv_room (Nat.le_of_ble_eq_true rfl)) dX3_guardsGive_10 ⟨Nat.zero_le _, Nat.zero_le _⟩) hS (fun x h => ts_Aup hS.1 h) (fun r5 u6 H locs hp7 hW _ _ hS => ?_)
  have hp7r : r5 = b2i (hasB s_ j) := hp7.1
  have hp7u : u6 = u := hp7.2
  rw [hp7r]
  rw [hp7u] at hW
  refine lv_if_ne (tgt := 33) hx hb dX3_guardsGive_13 (by decide) (fun c8 => ?_) (fun c8 => ?_)
  · skip
    have c8 := ts_bt c8
    refine lv_iconst (v := nI 0) hx hb dX3_guardsGive_33 (by decide) ?_
    exact ts_zret (u := u) (v := nI 0) C0 rfl hW hS (by refine ⟨?_, rfl⟩; rw [show ggB u.1 r_ j s_ = false from by first | (simp [ggB, *]; done) | (simp [ggB, *]; omega)]; rfl) dX3_guardsGive_34
  have c8 := ts_bf c8
  refine lv_aload_n hx hb dX3_guardsGive_16 rfl (lv_at hl 0 rfl) ?_
  refine ts_get (C := RX3) (T := TX3) (N := 5) (v := .ref (b + 2)) hx hb hts hi3 hown hK hW 1 (by decide) cel_pr rfl 0 (by decide) (List.mem_of_getElem? (i := 1) rfl) rfl dX3_guardsGive_17 ?_
  refine lv_iload_n hx hb dX3_guardsGive_20 rfl (lv_at hl 2 rfl) ?_
  refine ts_aald (a := b + (3 + 2 * j)) hx hb hK hW 2 (by decide) 1 cel_fs rfl rfl (by omega) (by decide) rfl dX3_guardsGive_21 ?_
  refine ts_get (C := RX2) (T := TX2) (N := 4) (v := .int (nI (u.1.1 (40 + j)))) hx hb hts hi2 hown hK hW (3 + 2 * j) (by omega) (cel_fn (by omega)) rfl 3 (by decide) (List.mem_of_getElem? (i := 2) rfl) rfl dX3_guardsGive_22 ?_
  have hq9 := hwf.fout (i := j) (by omega)
  refine lv_iconst (v := nI 3) hx hb dX3_guardsGive_25 (by decide) ?_
  refine lv_icmp_eq (tgt := 33) hx hb dX3_guardsGive_26 (by decide) (fun c10 => ?_) (fun c10 => ?_)
  · skip
    rw [nI_eq (by omega) (by omega)] at c10
    refine lv_iconst (v := nI 0) hx hb dX3_guardsGive_33 (by decide) ?_
    exact ts_zret (u := u) (v := nI 0) C0 rfl hW hS (by refine ⟨?_, rfl⟩; rw [show ggB u.1 r_ j s_ = false from by first | (simp [ggB, *]; done) | (simp [ggB, *]; omega)]; rfl) dX3_guardsGive_34
  rw [nI_eq (by omega) (by omega)] at c10
  refine lv_iconst (v := nI 1) hx hb dX3_guardsGive_29 (by decide) ?_
  refine lv_goto (tgt := 34) hx hb dX3_guardsGive_30 (by decide) ?_
  exact ts_zret (u := u) (v := nI 1) C0 rfl hW hS (by refine ⟨?_, rfl⟩; rw [show ggB u.1 r_ j s_ = true from by first | (simp [ggB, *]; done) | (simp [ggB, *]; omega)]; rfl) dX3_guardsGive_34
