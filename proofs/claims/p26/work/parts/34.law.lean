/-! The law's loop -/
section LCMP
variable {p : Program} {l : Launch} {e : Env} {R : Room} {s : State} {m : MethodId} {args : Array Value} {below : List Frame} {meth : Method} {c : Code} {H : Heap} {locs : List Loc} {cells slots : Nat} {Q : State → Prop} {cc : ByteArray} {pc : Nat} {ls : Array Slot} {rest st : List Value} {D : va_G} {q : CQ} {b bb sz : Nat} {u : ST} {g : Nat → Nat} {A : Nat → Prop} {H0 : Heap}
theorem ts_lcmp0 (hexec : p.tables.exec = Jvm.exec) (hb : c.code = cc) {x : Int64} (hdg : decode cc pc = .ok (.lcmp, 1)) (k : W p l e R s m args below meth c H locs cells slots Q (F0 m (pc + 1) ls (.int (nI 0) :: rest))) : W p l e R s m args below meth c H locs cells slots Q (F0 m pc ls (.long x :: .long x :: rest)) := by
  intro T hT X
  obtain ⟨t, a, b⟩ := k T hT X
  refine ⟨t, ?_, b⟩
  jvm_step X.here [X.here.top, hexec, hb, hdg]
  exact a
/-- behind an act -/
theorem ts_retA {post : Int32 → ST × (Nat → Nat) → Prop} {a : Array Value} (hr : vx_Run p l e R s m args below meth c H locs cells slots 1 6 (F0 m pc ls st) rest (cB D q b bb H.size post a) (fun _ _ _ => False) (ts_AB b bb H.size)) (hS : va_S A H0 H locs) (hA : ∀ x, ts_AB b bb H.size x → A x)
    (kk : ∀ (r : Int32) (u' : ST) (g' : Nat → Nat) (H1 : Heap) (locs1 : List Loc), post r (u', g') → ts_W D b 52 (cel q b u') H1 → Bl D q bb g' H1 → H.size ≤ H1.size → (∀ x : Nat, x < H.size → ¬ ts_AB b bb H.size x → H1[x]? = H[x]?) → va_S A H0 H1 locs1 → W p l e R s m args below meth c H1 locs1 (cells + 1) (slots + 6) Q (F0 m (pc + 3) ls (.int r :: rest))) : W p l e R s m args below meth c H locs cells slots Q (F0 m pc ls st) := by
  intro T hT X
  rcases hr T hT X with ⟨v, st₀, t, T', L, h0, X', hL, e1, e2, ⟨⟨r, u', hv, hp, hB⟩, hF⟩, st⟩ | ⟨q9, st₀, t, T', L, E, ce, h0, X', hL, e1, e2, hf, _⟩
  · cases hv
    obtain ⟨k1, k2, k3⟩ := vx_keep h0 e1 hS (fun x _ h => hA x h) hA hL hF
    obtain ⟨t2, a1, b1⟩ := kk r u'.1 u'.2 T'.heap (locs ++ L) hp (by rw [e1]; exact hB.1) (by rw [e1]; exact hB.2) k1 k2 k3 T' rfl X'
    exact ⟨t2, st t2 a1, b1⟩
  · exact False.elim hf
end LCMP
set_option maxHeartbeats 4000000 in
set_option maxRecDepth 100000 in
theorem law_loop {p : Program} {e : Env} {s : State} {m : MethodId} {args : Array Value} {below : List Frame} {meth : Method} {c : Code} (l : Launch) (hlt : l.stackTraces = false) {D : va_G} {q : CQ} {b bs bb L n a1 a2 a3 : Nat} {xs : Nat → Int32} {R0 : Nat → Nat → Int32} {Q : State → Prop} (hx : p.tables.exec = Jvm.exec) (hb : c.code = cL_law) (hml : c.maxLocals = 11) (hown : s.vm.findClass RL = some m.cls) (hts : ∀ w ∈ wsL_law, w.before args s = true) (hK : va_K D vwCl (tq q) s) (hN : ts_N s) (hE : TH b a1 a2 a3 s s.heap) (hfl : (Cond.fieldLinkNest RL 25 RX6 "there" "I" RL).before args s = true) (hbs : s.heap.size = b) (hX : va_X bs L xs s s.heap) (hbz0 : bs < s.heap.size) (hL : L ≤ 260) (hbb : b + 67 ≤ bb) (hn : 2 ≤ n ∧ n ≤ 7) (hend : ∀ (H : Heap) (locs : List Loc) (ls : Array Slot), va_S (fun x => b ≤ x) s.heap H locs → W p l e room_1 s m args below meth c H locs (100 + 48) (710 + 6 * 48) Q (F0 m 180 ls [])) :
    ∀ (fu t : Nat) (u : ST) (g : Nat → Nat), t ≤ 48 → LI n t u g → 48 - t < fu → ∀ (H : Heap) (locs : List Loc), ts_W D b 52 (cel q b u) H → va_S (fun x => b ≤ x) s.heap H locs → Bl D q bb g H → bb < H.size → ts_W D (b + 52) 15 (celO q (b + 52) (n, R0)) H → ∀ ls : Array Slot, lv_has ls 11 [(4, .int (nI t)), (3, .ref (bb + 0)), (2, .ref (b + 52 + 0)), (1, .ref (b + 0)), (0, .ref bs)] → W p l e room_1 s m args below meth c H locs (100 + t) (710 + 6 * t) Q (F0 m 36 ls []) := by
  have hi6 : ∀ w ∈ wsX60, w ∈ wsL_law := inlX6
  have hbb2 : b + 52 ≤ bb := by omega
  intro fu
  induction fu with
  | zero => intro t u g _ _ hn; exact absurd hn (Nat.not_lt_zero _)
  | succ fu ih =>
    intro t u g ht hI hfu H locs hW hS hV hbz hO ls hl
    have hS1 := hS.1
    have hwf := hI.1
    have hn1 : u.1.1 1 = n := hI.2.1
    have hty := hI.2.2.1
    have hch := hI.2.2.2.1
    have hrf := hI.2.2.2.2.2.2.1
    have hs := hwf.sz
    refine lv_iload hx hb dL_law_36 (lv_at hl 0 rfl) ?_
    refine lv_bipush (v := nI 48) hx hb dL_law_38 (by decide) ?_
    refine lv_icmp_ge (tgt := 180) hx hb dL_law_40 (by decide) (fun c1 => ?_) (fun c1 => ?_)
    · skip
      rw [nI_leI (by omega) (by omega)] at c1
      rw [show t = 48 by omega]; exact hend H locs ls hS
    rw [nI_leI (by omega) (by omega)] at c1
    refine lv_aload_n hx hb dL_law_43 rfl (lv_at hl 4 rfl) ?_
    refine lv_bipush (v := nI 8) hx hb dL_law_44 (by decide) ?_
    refine lv_iload hx hb dL_law_46 (lv_at hl 0 rfl) ?_
    refine lv_bipush (v := nI 21) hx hb dL_law_48 (by decide) ?_
    refine lv_irem hx hb dL_law_50 (by decide) ?_
    refine ts_int (y := nI (t % 21)) (pk_rem (by omega) (by decide) (by decide)) ?_
    refine ts_iadd (v := nI (8 + (t % 21))) hx hb dL_law_51 (nI_add _ _) ?_
    refine ts_retI (va_runS (As := [.ref bs, .int (nI (8 + (t % 21)))]) (rest := []) ⟨hx, hb, hml, hown, hts⟩ (k_L_cell l D q b H.size u bs L xs (8 + (t % 21)) (by omega)) (va_cwS 2 hts gL_law_L_cell rfl rfl rfl (by decide +kernel) ⟨Nat.le_of_ble_eq_true rfl, Nat.le_of_ble_eq_true rfl⟩) (ts_preX hK hN hW (hX.kept (hS.2.1 bs hbz0 (by show ¬ b ≤ bs; omega))) (by omega) (Nat.lt_of_lt_of_le hbz0 hS.1) hL) rfl rfl hl.1 rfl (lv_room (Nat.le_of_ble_eq_true rfl)) dL_law_52 ⟨(by show _ ≤ 664836; omega), (by show _ ≤ 7107116; omega)⟩) hS (fun x h => by unfold ts_A at h; show b ≤ x; omega) (fun r2 u3 H locs hp4 hW hz hk hS => ?_)
    have hV := ts_kept hV (fun x h1 h2 => hk x (by omega) (fun h => by unfold ts_A at h; omega))
    have hO := ts_kept hO (fun x h1 h2 => hk x (by omega) (fun h => by unfold ts_A at h; omega))
    have hbz := Nat.lt_of_lt_of_le hbz hz
    have hS1 := hS.1
    have hp4r : r2 = cellI xs L (8 + (t % 21)) := hp4.1
    have hp4u : u3 = u := hp4.2
    rw [hp4r]
    rw [hp4u] at hW
    refine lv_iload hx hb dL_law_55 (lv_at hl 0 rfl) ?_
    refine lv_bipush (v := nI 21) hx hb dL_law_57 (by decide) ?_
    refine lv_idiv hx hb dL_law_59 (by decide) ?_
    refine lv_bipush (v := nI 7) hx hb dL_law_60 (by decide) ?_
    refine ts_imul (v := ((nI t) / (nI 21)) * (nI 7)) hx hb dL_law_62 rfl ?_
    refine ts_ishr (v := (cellI xs L (8 + (t % 21))) >>> ((((nI t) / (nI 21)) * (nI 7)) &&& 31)) hx hb dL_law_63 rfl ?_
    refine lv_istore (lv' := [(5, .int ((cellI xs L (8 + (t % 21))) >>> ((((nI t) / (nI 21)) * (nI 7)) &&& 31))), (4, .int (nI t)), (3, .ref (bb + 0)), (2, .ref (b + 52 + 0)), (1, .ref (b + 0)), (0, .ref bs)]) hx hb dL_law_64 hl (by decide) rfl (fun ls hl => ?_)
    refine lv_iload hx hb dL_law_66 (lv_at hl 0 rfl) ?_
    refine lv_iconst (v := nI 3) hx hb dL_law_68 (by decide) ?_
    refine ts_ishr (v := ((cellI xs L (8 + (t % 21))) >>> ((((nI t) / (nI 21)) * (nI 7)) &&& 31)) >>> ((nI 3) &&& 31)) hx hb dL_law_69 rfl ?_
    refine lv_aload_n hx hb dL_law_70 rfl (lv_at hl 3 rfl) ?_
    refine va_getN (own := RL) (ref := RX6) (host := RL) (C := RX6) (T := TX6) (N := 13) (v := .int (nI n)) hx hb hts hi6 hown hK (ts_one hO (by decide) celO_ob) 0 rfl rfl 5 (by decide) hfl (fun _ h => h) rfl dL_law_71 ?_
    refine ts_retI (va_runS (As := [.int (((cellI xs L (8 + (t % 21))) >>> ((((nI t) / (nI 21)) * (nI 7)) &&& 31)) >>> ((nI 3) &&& 31)), .int (nI n)]) (rest := []) ⟨hx, hb, hml, hown, hts⟩ (k_L_below l D q b H.size u (((cellI xs L (8 + (t % 21))) >>> ((((nI t) / (nI 21)) * (nI 7)) &&& 31)) >>> ((nI 3) &&& 31)) n ⟨by omega, by omega⟩) (va_cwS 2 hts gL_law_L_below rfl rfl rfl (by decide +kernel) ⟨Nat.le_of_ble_eq_true rfl, Nat.le_of_ble_eq_true rfl⟩) (ts_preS hK hN hW) rfl rfl hl.1 rfl (lv_room (Nat.le_of_ble_eq_true rfl)) dL_law_74 ⟨(by show _ ≤ 664836; omega), (by show _ ≤ 7107116; omega)⟩) hS (fun x h => by unfold ts_A at h; show b ≤ x; omega) (fun r5 u6 H locs hp7 hW hz hk hS => ?_)
    have hV := ts_kept hV (fun x h1 h2 => hk x (by omega) (fun h => by unfold ts_A at h; omega))
    have hO := ts_kept hO (fun x h1 h2 => hk x (by omega) (fun h => by unfold ts_A at h; omega))
    have hbz := Nat.lt_of_lt_of_le hbz hz
    have hS1 := hS.1
    have hp7r : r5 = nI (blwN (((cellI xs L (8 + (t % 21))) >>> ((((nI t) / (nI 21)) * (nI 7)) &&& 31)) >>> ((nI 3) &&& 31)) n) := hp7.1
    have hp7u : u6 = u := hp7.2
    rw [hp7r]
    rw [hp7u] at hW
    have hq8 := blwN_lt (((cellI xs L (8 + (t % 21))) >>> ((((nI t) / (nI 21)) * (nI 7)) &&& 31)) >>> ((nI 3) &&& 31)) (n := n) (by omega)
    refine lv_istore (lv' := [(6, .int (nI (blwN (((cellI xs L (8 + (t % 21))) >>> ((((nI t) / (nI 21)) * (nI 7)) &&& 31)) >>> ((nI 3) &&& 31)) n))), (5, .int ((cellI xs L (8 + (t % 21))) >>> ((((nI t) / (nI 21)) * (nI 7)) &&& 31))), (4, .int (nI t)), (3, .ref (bb + 0)), (2, .ref (b + 52 + 0)), (1, .ref (b + 0)), (0, .ref bs)]) hx hb dL_law_77 hl (by decide) rfl (fun ls hl => ?_)
    refine lv_aload_n hx hb dL_law_79 rfl (lv_at hl 5 rfl) ?_
    refine lv_iconst (v := nI 4) hx hb dL_law_80 (by decide) ?_
    refine ts_retI (va_runV (As := [.int (nI 4)]) (rest := []) ⟨hx, hb, hml, hown, hts⟩ (k_X5_many l D q b H.size u 4 hwf (by omega)) (cwV 1 hts gL_law_X5_many rfl rfl rfl (by decide +kernel) ⟨Nat.le_of_ble_eq_true rfl, Nat.le_of_ble_eq_true rfl⟩) (ts_preV hK hN hW 0 (by decide) cel_st rfl) rfl rfl hl.1 rfl (lv_room (Nat.le_of_ble_eq_true rfl)) dL_law_81 ⟨(by show _ ≤ 664836; omega), (by show _ ≤ 7107116; omega)⟩) hS (fun x h => by unfold ts_A at h; show b ≤ x; omega) (fun r9 u10 H locs hp11 hW hz hk hS => ?_)
    have hV := ts_kept hV (fun x h1 h2 => hk x (by omega) (fun h => by unfold ts_A at h; omega))
    have hO := ts_kept hO (fun x h1 h2 => hk x (by omega) (fun h => by unfold ts_A at h; omega))
    have hbz := Nat.lt_of_lt_of_le hbz hz
    have hS1 := hS.1
    obtain ⟨hp11r, F12, hp11u⟩ := hp11
    have hp11r : r9 = nI (u.1.1 3) := hp11r
    have hp11u : u10 = (u.1, F12, u.2.2.1, u.2.2.2) := hp11u
    rw [hp11r]
    rw [hp11u] at hW
    refine lv_istore (lv' := [(7, .int (nI (u.1.1 3))), (6, .int (nI (blwN (((cellI xs L (8 + (t % 21))) >>> ((((nI t) / (nI 21)) * (nI 7)) &&& 31)) >>> ((nI 3) &&& 31)) n))), (5, .int ((cellI xs L (8 + (t % 21))) >>> ((((nI t) / (nI 21)) * (nI 7)) &&& 31))), (4, .int (nI t)), (3, .ref (bb + 0)), (2, .ref (b + 52 + 0)), (1, .ref (b + 0)), (0, .ref bs)]) hx hb dL_law_84 hl (by decide) rfl (fun ls hl => ?_)
    refine lv_aload_n hx hb dL_law_86 rfl (lv_at hl 6 rfl) ?_
    refine lv_iconst (v := nI 5) hx hb dL_law_87 (by decide) ?_
    refine ts_retI (va_runV (As := [.int (nI 5)]) (rest := []) ⟨hx, hb, hml, hown, hts⟩ (k_X5_many l D q b H.size (u.1, F12, u.2.2.1, u.2.2.2) 5 hwf (by omega)) (cwV 1 hts gL_law_X5_many rfl rfl rfl (by decide +kernel) ⟨Nat.le_of_ble_eq_true rfl, Nat.le_of_ble_eq_true rfl⟩) (ts_preV hK hN hW 0 (by decide) cel_st rfl) rfl rfl hl.1 rfl (lv_room (Nat.le_of_ble_eq_true rfl)) dL_law_88 ⟨(by show _ ≤ 664836; omega), (by show _ ≤ 7107116; omega)⟩) hS (fun x h => by unfold ts_A at h; show b ≤ x; omega) (fun r13 u14 H locs hp15 hW hz hk hS => ?_)
    have hV := ts_kept hV (fun x h1 h2 => hk x (by omega) (fun h => by unfold ts_A at h; omega))
    have hO := ts_kept hO (fun x h1 h2 => hk x (by omega) (fun h => by unfold ts_A at h; omega))
    have hbz := Nat.lt_of_lt_of_le hbz hz
    have hS1 := hS.1
    obtain ⟨hp15r, F16, hp15u⟩ := hp15
    have hp15r : r13 = nI (u.2.2.2.1 0) := hp15r
    have hp15u : u14 = (u.1, F16, u.2.2.1, u.2.2.2) := hp15u
    rw [hp15r]
    rw [hp15u] at hW
    refine lv_istore (lv' := [(8, .int (nI (u.2.2.2.1 0))), (7, .int (nI (u.1.1 3))), (6, .int (nI (blwN (((cellI xs L (8 + (t % 21))) >>> ((((nI t) / (nI 21)) * (nI 7)) &&& 31)) >>> ((nI 3) &&& 31)) n))), (5, .int ((cellI xs L (8 + (t % 21))) >>> ((((nI t) / (nI 21)) * (nI 7)) &&& 31))), (4, .int (nI t)), (3, .ref (bb + 0)), (2, .ref (b + 52 + 0)), (1, .ref (b + 0)), (0, .ref bs)]) hx hb dL_law_91 hl (by decide) rfl (fun ls hl => ?_)
    refine lv_aload_n hx hb dL_law_93 rfl (lv_at hl 7 rfl) ?_
    refine lv_iload hx hb dL_law_94 (lv_at hl 3 rfl) ?_
    refine lv_iload hx hb dL_law_96 (lv_at hl 2 rfl) ?_
    refine lv_aload_n hx hb dL_law_98 rfl (lv_at hl 5 rfl) ?_
    refine ts_retA (vx_runSX (As := [.ref (b + 0), .int ((cellI xs L (8 + (t % 21))) >>> ((((nI t) / (nI 21)) * (nI 7)) &&& 31)), .int (nI (blwN (((cellI xs L (8 + (t % 21))) >>> ((((nI t) / (nI 21)) * (nI 7)) &&& 31)) >>> ((nI 3) &&& 31)) n)), .ref (bb + 0)]) (rest := []) (hh := [(13, 102, 400, 90), (103, 159, 400, 90), (160, 264, 400, 90), (265, 286, 400, 90), (287, 332, 400, 90), (333, 368, 400, 90), (369, 391, 400, 90), (392, 399, 400, 90)]) ⟨hx, hb, hml, hown, hts⟩ (k_L_act l hlt D q b H.size (u.1, F16, u.2.2.1, u.2.2.2) bb g a1 a2 a3 ((cellI xs L (8 + (t % 21))) >>> ((((nI t) / (nI 21)) * (nI 7)) &&& 31)) (blwN (((cellI xs L (8 + (t % 21))) >>> ((((nI t) / (nI 21)) * (nI 7)) &&& 31)) >>> ((nI 3) &&& 31)) n) hwf (show blwN (((cellI xs L (8 + (t % 21))) >>> ((((nI t) / (nI 21)) * (nI 7)) &&& 31)) >>> ((nI 3) &&& 31)) n < u.1.1 1 by omega) hty) (vx_cwSW 4 hts gL_law_L_act rfl rfl rfl (by decide +kernel) ⟨Nat.le_of_ble_eq_true rfl, Nat.le_of_ble_eq_true rfl⟩) (ts_preA hK hN hW hV hbb2 hbz (hE.kept (fun a h1 h2 => hS.2.1 a h1 h2))) rfl rfl hl.1 rfl (lv_room (Nat.le_of_ble_eq_true rfl)) dL_law_99 ⟨(by show _ ≤ 664836; omega), (by show _ ≤ 7107116; omega)⟩) hS (fun x h => by unfold ts_AB ts_A at h; show b ≤ x; omega) (fun r17 u18 g20 H locs hp19 hW hV hz hk hS => ?_)
    have hO := ts_kept hO (fun x h1 h2 => hk x (by omega) (fun h => by unfold ts_AB ts_A at h; omega))
    have hbz := Nat.lt_of_lt_of_le hbz hz
    have hS1 := hS.1
    obtain ⟨hp19r, hAct⟩ := hp19
    obtain ⟨hI2, hmo, hru⟩ := hI.act (show blwN (((cellI xs L (8 + (t % 21))) >>> ((((nI t) / (nI 21)) * (nI 7)) &&& 31)) >>> ((nI 3) &&& 31)) n < n by omega) hAct
    have hwf2 := hI2.1
    have hn2 : u18.1.1 1 = n := hI2.2.1
    have hch2 := hI2.2.2.2.1
    have hrf2 := hI2.2.2.2.2.2.2.1
    rw [hp19r]
    refine lv_if_eq (tgt := 127) hx hb dL_law_102 (by decide) (fun c21 => ?_) (fun c21 => ?_)
    · skip
      exfalso; revert c21; decide
    refine lv_aload_n hx hb dL_law_105 rfl (lv_at hl 7 rfl) ?_
    refine lv_iconst (v := nI 4) hx hb dL_law_106 (by decide) ?_
    refine ts_retI (va_runV (As := [.int (nI 4)]) (rest := []) ⟨hx, hb, hml, hown, hts⟩ (k_X5_many l D q b H.size u18 4 hwf2 (by omega)) (cwV 1 hts gL_law_X5_many rfl rfl rfl (by decide +kernel) ⟨Nat.le_of_ble_eq_true rfl, Nat.le_of_ble_eq_true rfl⟩) (ts_preV hK hN hW 0 (by decide) cel_st rfl) rfl rfl hl.1 rfl (lv_room (Nat.le_of_ble_eq_true rfl)) dL_law_107 ⟨(by show _ ≤ 664836; omega), (by show _ ≤ 7107116; omega)⟩) hS (fun x h => by unfold ts_A at h; show b ≤ x; omega) (fun r22 u23 H locs hp24 hW hz hk hS => ?_)
    have hV := ts_kept hV (fun x h1 h2 => hk x (by omega) (fun h => by unfold ts_A at h; omega))
    have hO := ts_kept hO (fun x h1 h2 => hk x (by omega) (fun h => by unfold ts_A at h; omega))
    have hbz := Nat.lt_of_lt_of_le hbz hz
    have hS1 := hS.1
    obtain ⟨hp24r, F25, hp24u⟩ := hp24
    have hp24r : r22 = nI (u18.1.1 3) := hp24r
    have hp24u : u23 = (u18.1, F25, u18.2.2.1, u18.2.2.2) := hp24u
    rw [hp24r]
    rw [hp24u] at hW
    refine lv_iload hx hb dL_law_110 (lv_at hl 1 rfl) ?_
    refine lv_icmp_lt (tgt := 127) hx hb dL_law_112 (by decide) (fun c26 => ?_) (fun c26 => ?_)
    · skip
      rw [nI_ltI (by omega) (by omega)] at c26
      exfalso; omega
    rw [nI_ltI (by omega) (by omega)] at c26
    refine lv_aload_n hx hb dL_law_115 rfl (lv_at hl 7 rfl) ?_
    refine lv_iconst (v := nI 5) hx hb dL_law_116 (by decide) ?_
    refine ts_retI (va_runV (As := [.int (nI 5)]) (rest := []) ⟨hx, hb, hml, hown, hts⟩ (k_X5_many l D q b H.size (u18.1, F25, u18.2.2.1, u18.2.2.2) 5 hwf2 (by omega)) (cwV 1 hts gL_law_X5_many rfl rfl rfl (by decide +kernel) ⟨Nat.le_of_ble_eq_true rfl, Nat.le_of_ble_eq_true rfl⟩) (ts_preV hK hN hW 0 (by decide) cel_st rfl) rfl rfl hl.1 rfl (lv_room (Nat.le_of_ble_eq_true rfl)) dL_law_117 ⟨(by show _ ≤ 664836; omega), (by show _ ≤ 7107116; omega)⟩) hS (fun x h => by unfold ts_A at h; show b ≤ x; omega) (fun r27 u28 H locs hp29 hW hz hk hS => ?_)
    have hV := ts_kept hV (fun x h1 h2 => hk x (by omega) (fun h => by unfold ts_A at h; omega))
    have hO := ts_kept hO (fun x h1 h2 => hk x (by omega) (fun h => by unfold ts_A at h; omega))
    have hbz := Nat.lt_of_lt_of_le hbz hz
    have hS1 := hS.1
    obtain ⟨hp29r, F30, hp29u⟩ := hp29
    have hp29r : r27 = nI (u18.2.2.2.1 0) := hp29r
    have hp29u : u28 = (u18.1, F30, u18.2.2.1, u18.2.2.2) := hp29u
    rw [hp29r]
    rw [hp29u] at hW
    refine lv_iload hx hb dL_law_120 (lv_at hl 0 rfl) ?_
    refine lv_iconst (v := nI 1) hx hb dL_law_122 (by decide) ?_
    refine ts_iadd (v := nI ((u.2.2.2.1 0) + 1)) hx hb dL_law_123 (nI_add _ _) ?_
    refine lv_icmp_le (tgt := 129) hx hb dL_law_124 (by decide) (fun c31 => ?_) (fun c31 => ?_)
    · skip
      rw [nI_leI (by omega) (by omega)] at c31
      refine lv_iload hx hb dL_law_129 (lv_at hl 4 rfl) ?_
      refine lv_bipush (v := nI 6) hx hb dL_law_131 (by decide) ?_
      refine lv_irem hx hb dL_law_133 (by decide) ?_
      refine ts_int (y := nI (t % 6)) (pk_rem (by omega) (by decide) (by decide)) ?_
      refine lv_iconst (v := nI 5) hx hb dL_law_134 (by decide) ?_
      refine lv_icmp_eq (tgt := 141) hx hb dL_law_135 (by decide) (fun c32 => ?_) (fun c32 => ?_)
      · skip
        rw [nI_eq (by omega) (by omega)] at c32
        refine lv_aload_n hx hb dL_law_141 rfl (lv_at hl 7 rfl) ?_
        refine ts_retL (va_runV (As := []) (rest := []) ⟨hx, hb, hml, hown, hts⟩ (k_X5_digest l D q b H.size (u18.1, F30, u18.2.2.1, u18.2.2.2) hwf2) (cwV 0 hts gL_law_X5_digest rfl rfl rfl (by decide +kernel) ⟨Nat.le_of_ble_eq_true rfl, Nat.le_of_ble_eq_true rfl⟩) (ts_preV hK hN hW 0 (by decide) cel_st rfl) rfl rfl hl.1 rfl (lv_room (Nat.le_of_ble_eq_true rfl)) dL_law_142 ⟨(by show _ ≤ 664836; omega), (by show _ ≤ 7107116; omega)⟩) hS (fun x h => by unfold ts_A at h; show b ≤ x; omega) (fun r33 u34 H locs hp35 hW hz hk hS => ?_)
        have hV := ts_kept hV (fun x h1 h2 => hk x (by omega) (fun h => by unfold ts_A at h; omega))
        have hO := ts_kept hO (fun x h1 h2 => hk x (by omega) (fun h => by unfold ts_A at h; omega))
        have hbz := Nat.lt_of_lt_of_le hbz hz
        have hS1 := hS.1
        obtain ⟨hp35r, F36, T37, hp35u⟩ := hp35
        have hp35r : r33 = digA u18.1 u18.2.2.2 := hp35r
        have hp35u : u34 = (u18.1, F36, T37, u18.2.2.2) := hp35u
        rw [hp35r]
        rw [hp35u] at hW
        refine lv_lstore (lv' := [(9, .long (digA u18.1 u18.2.2.2)), (8, .int (nI (u.2.2.2.1 0))), (7, .int (nI (u.1.1 3))), (6, .int (nI (blwN (((cellI xs L (8 + (t % 21))) >>> ((((nI t) / (nI 21)) * (nI 7)) &&& 31)) >>> ((nI 3) &&& 31)) n))), (5, .int ((cellI xs L (8 + (t % 21))) >>> ((((nI t) / (nI 21)) * (nI 7)) &&& 31))), (4, .int (nI t)), (3, .ref (bb + 0)), (2, .ref (b + 52 + 0)), (1, .ref (b + 0)), (0, .ref bs)]) hx hb dL_law_145 hl (by decide) rfl (fun ls hl => ?_)
        refine lv_aload_n hx hb dL_law_147 rfl (lv_at hl 8 rfl) ?_
        refine lv_aload_n hx hb dL_law_148 rfl (lv_at hl 6 rfl) ?_
        refine ts_retB (va_runS (As := [.ref (b + 0), .ref (bb + 0)]) (rest := []) ⟨hx, hb, hml, hown, hts⟩ (k_L_areFunctionsRight l D q b H.size (u18.1, F36, T37, u18.2.2.2) bb g20 hwf2 hI2.2.2.1 (fun r h1 h2 c => hI2.2.2.2.2.1 r (by rw [← hn2]; exact h1) h2 c) (by have h := hI2.2.2.2.2.2.1; rw [← hn2] at h; exact h) ⟨hrf2.1, by show u18.2.2.2.1 0 < 1000; omega⟩ (fun i _ => hI2.2.2.2.2.2.2.2.2 i)) (va_cwS 2 hts gL_law_L_areFunctionsRight rfl rfl rfl (by decide +kernel) ⟨Nat.le_of_ble_eq_true rfl, Nat.le_of_ble_eq_true rfl⟩) (ts_preB hK hN hW hV hbb2 hbz) rfl rfl hl.1 rfl (lv_room (Nat.le_of_ble_eq_true rfl)) dL_law_149 ⟨(by show _ ≤ 664836; omega), (by show _ ≤ 7107116; omega)⟩) hS (fun x h => by unfold ts_AB ts_A at h; show b ≤ x; omega) (fun r38 u39 g41 H locs hp40 hW hV hz hk hS => ?_)
        have hO := ts_kept hO (fun x h1 h2 => hk x (by omega) (fun h => by unfold ts_AB ts_A at h; omega))
        have hbz := Nat.lt_of_lt_of_le hbz hz
        have hS1 := hS.1
        obtain ⟨hp40r, F42, hp40v⟩ := hp40
        have hp40u : u39 = (u18.1, F42, T37, u18.2.2.2) := congrArg Prod.fst hp40v
        have hp40g : g41 = g20 := congrArg Prod.snd hp40v
        rw [hp40r]
        rw [hp40u] at hW
        rw [hp40g] at hV
        refine lv_if_eq (tgt := 172) hx hb dL_law_152 (by decide) (fun c43 => ?_) (fun c43 => ?_)
        · skip
          exfalso; revert c43; decide
        refine lv_aload_n hx hb dL_law_155 rfl (lv_at hl 8 rfl) ?_
        refine ts_retI (va_runS (As := [.ref (b + 0)]) (rest := []) ⟨hx, hb, hml, hown, hts⟩ (k_L_areTollsRight l D q b H.size (u18.1, F42, T37, u18.2.2.2) hwf2 hI2.2.2.1 (by have h := hI2.2.2.2.2.2.2.2.1; show totN u18.2.2.2.2.2 11 < 400000; omega)) (va_cwS 1 hts gL_law_L_areTollsRight rfl rfl rfl (by decide +kernel) ⟨Nat.le_of_ble_eq_true rfl, Nat.le_of_ble_eq_true rfl⟩) (ts_preS hK hN hW) rfl rfl hl.1 rfl (lv_room (Nat.le_of_ble_eq_true rfl)) dL_law_156 ⟨(by show _ ≤ 664836; omega), (by show _ ≤ 7107116; omega)⟩) hS (fun x h => by unfold ts_A at h; show b ≤ x; omega) (fun r44 u45 H locs hp46 hW hz hk hS => ?_)
        have hV := ts_kept hV (fun x h1 h2 => hk x (by omega) (fun h => by unfold ts_A at h; omega))
        have hO := ts_kept hO (fun x h1 h2 => hk x (by omega) (fun h => by unfold ts_A at h; omega))
        have hbz := Nat.lt_of_lt_of_le hbz hz
        have hS1 := hS.1
        obtain ⟨hp46r, F47, hp46u⟩ := hp46
        have hp46u : u45 = (u18.1, F47, T37, u18.2.2.2) := hp46u
        rw [hp46r]
        rw [hp46u] at hW
        refine lv_if_eq (tgt := 172) hx hb dL_law_159 (by decide) (fun c48 => ?_) (fun c48 => ?_)
        · skip
          exfalso; revert c48; decide
        refine lv_aload_n hx hb dL_law_162 rfl (lv_at hl 8 rfl) ?_
        refine ts_retL (va_runV (As := []) (rest := []) ⟨hx, hb, hml, hown, hts⟩ (k_X5_digest l D q b H.size (u18.1, F47, T37, u18.2.2.2) hwf2) (cwV 0 hts gL_law_X5_digest rfl rfl rfl (by decide +kernel) ⟨Nat.le_of_ble_eq_true rfl, Nat.le_of_ble_eq_true rfl⟩) (ts_preV hK hN hW 0 (by decide) cel_st rfl) rfl rfl hl.1 rfl (lv_room (Nat.le_of_ble_eq_true rfl)) dL_law_163 ⟨(by show _ ≤ 664836; omega), (by show _ ≤ 7107116; omega)⟩) hS (fun x h => by unfold ts_A at h; show b ≤ x; omega) (fun r49 u50 H locs hp51 hW hz hk hS => ?_)
        have hV := ts_kept hV (fun x h1 h2 => hk x (by omega) (fun h => by unfold ts_A at h; omega))
        have hO := ts_kept hO (fun x h1 h2 => hk x (by omega) (fun h => by unfold ts_A at h; omega))
        have hbz := Nat.lt_of_lt_of_le hbz hz
        have hS1 := hS.1
        obtain ⟨hp51r, F52, T53, hp51u⟩ := hp51
        have hp51r : r49 = digA u18.1 u18.2.2.2 := hp51r
        have hp51u : u50 = (u18.1, F52, T53, u18.2.2.2) := hp51u
        rw [hp51r]
        rw [hp51u] at hW
        refine lv_lload hx hb dL_law_166 (lv_at hl 0 rfl) ?_
        refine ts_lcmp0 hx hb dL_law_168 ?_
        refine lv_if_eq (tgt := 174) hx hb dL_law_169 (by decide) (fun c54 => ?_) (fun c54 => ?_)
        · skip
          refine lv_iinc (v := nI (t + 1)) (lv' := [(4, .int (nI (t + 1))), (9, .long (digA u18.1 u18.2.2.2)), (8, .int (nI (u.2.2.2.1 0))), (7, .int (nI (u.1.1 3))), (6, .int (nI (blwN (((cellI xs L (8 + (t % 21))) >>> ((((nI t) / (nI 21)) * (nI 7)) &&& 31)) >>> ((nI 3) &&& 31)) n))), (5, .int ((cellI xs L (8 + (t % 21))) >>> ((((nI t) / (nI 21)) * (nI 7)) &&& 31))), (3, .ref (bb + 0)), (2, .ref (b + 52 + 0)), (1, .ref (b + 0)), (0, .ref bs)]) hx hb dL_law_174 hl (k := 5) rfl (nI_add t 1) (by decide) rfl (fun ls hl => ?_)
          refine lv_goto (tgt := 36) hx hb dL_law_177 (by decide) ?_
          refine W.widen (k := 100 + (t + 1)) (n := 710 + 6 * (t + 1)) (by omega) (by omega) ?_
          exact ih (t + 1) (u18.1, F52, T53, u18.2.2.2) g20 (by omega) hI2 (by omega) H locs hW hS hV hbz hO ls (lv_sub hl [0, 6, 7, 8, 9] rfl)
        exfalso; revert c54; decide
      rw [nI_eq (by omega) (by omega)] at c32
      refine lv_goto (tgt := 174) hx hb dL_law_138 (by decide) ?_
      refine lv_iinc (v := nI (t + 1)) (lv' := [(4, .int (nI (t + 1))), (8, .int (nI (u.2.2.2.1 0))), (7, .int (nI (u.1.1 3))), (6, .int (nI (blwN (((cellI xs L (8 + (t % 21))) >>> ((((nI t) / (nI 21)) * (nI 7)) &&& 31)) >>> ((nI 3) &&& 31)) n))), (5, .int ((cellI xs L (8 + (t % 21))) >>> ((((nI t) / (nI 21)) * (nI 7)) &&& 31))), (3, .ref (bb + 0)), (2, .ref (b + 52 + 0)), (1, .ref (b + 0)), (0, .ref bs)]) hx hb dL_law_174 hl (k := 4) rfl (nI_add t 1) (by decide) rfl (fun ls hl => ?_)
      refine lv_goto (tgt := 36) hx hb dL_law_177 (by decide) ?_
      refine W.widen (k := 100 + (t + 1)) (n := 710 + 6 * (t + 1)) (by omega) (by omega) ?_
      exact ih (t + 1) (u18.1, F30, u18.2.2.1, u18.2.2.2) g20 (by omega) hI2 (by omega) H locs hW hS hV hbz hO ls (lv_sub hl [0, 5, 6, 7, 8] rfl)
    rw [nI_leI (by omega) (by omega)] at c31
    exfalso; omega
