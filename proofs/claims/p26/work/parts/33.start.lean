/-! What the law finds at its entry -/
theorem st_nest : ∀ q ∈ ts_nq, Cond.methodLinkNest q.1 q.2.1 q.2.2.1 q.2.2.2 ∈ lw_tbl := by decide +kernel
theorem st_th : ∀ w ∈ th_L, w ∈ lw_tbl := by decide +kernel
theorem st_know {args : Array Value} {s : State} (hts : ∀ w ∈ lw_tbl, w.before args s = true) : ∃ (D : va_G) (q : CQ) (cz : ClassId), va_K D vwCl (tq q) s ∧ va_K D vwCl [(cz, .boolean)] s ∧ ts_N s ∧ ts_AO s := by
  have hl : ∀ w ∈ wsL_law, w.before args s = true := fun w h => hts w (wsL_law_in w h)
  obtain ⟨c0, i0, k0⟩ := u_known (C := RX0) (T := TX0) (N := 6) (n := 6) hts inX0 (hl _ (List.mem_of_getElem? (i := 22) rfl))
  obtain ⟨c1, i1, k1⟩ := u_known (C := RX1) (T := TX1) (N := 3) (n := 3) hts inX1 (hl _ (List.mem_of_getElem? (i := 35) rfl))
  obtain ⟨c2, i2, k2⟩ := u_known (C := RX2) (T := TX2) (N := 4) (n := 4) hts inX2 (hl _ (List.mem_of_getElem? (i := 32) rfl))
  obtain ⟨c3, i3, k3⟩ := u_known (C := RX3) (T := TX3) (N := 5) (n := 5) hts inX3 (hl _ (List.mem_of_getElem? (i := 14) rfl))
  obtain ⟨c4, i4, k4⟩ := u_known (C := RX4) (T := TX4) (N := 13) (n := 13) hts inX4 (hl _ (List.mem_of_getElem? (i := 18) rfl))
  obtain ⟨c5, i5, k5⟩ := u_known (C := RX5) (T := TX5) (N := 4) (n := 4) hts inX5 (hl _ (List.mem_of_getElem? (i := 1) rfl))
  obtain ⟨c6, i6, k6⟩ := u_known (C := RX6) (T := TX6) (N := 13) (n := 13) hts inX6 (hl _ (List.mem_of_getElem? (i := 4) rfl))
  obtain ⟨dC, dI, hKc⟩ : ∃ (dC : Nat → ClassId) (dI : Nat → Nat → Nat), ∀ (k : Nat) (q : vw_C), vwCl[k]? = some q → u_Kn s q.1 q.2.1 q.2.2 (dC k) (dI k) := by
    refine ⟨fun k => if k = 0 then c0 else if k = 1 then c1 else if k = 2 then c2 else if k = 3 then c3 else if k = 4 then c4 else if k = 5 then c5 else c6, fun k => if k = 0 then i0 else if k = 1 then i1 else if k = 2 then i2 else if k = 3 then i3 else if k = 4 then i4 else if k = 5 then i5 else i6, ?_⟩
    intro k q hq
    match k, hq with
    | 0, hq => cases hq; exact k0
    | 1, hq => cases hq; exact k1
    | 2, hq => cases hq; exact k2
    | 3, hq => cases hq; exact k3
    | 4, hq => cases hq; exact k4
    | 5, hq => cases hq; exact k5
    | 6, hq => cases hq; exact k6
    | k + 7, hq => simp [vwCl] at hq
  obtain ⟨cA, kA, pA, a1, a2, a3⟩ := Cond.arrayClass_spec (hl (.arrayClass .int) (List.mem_of_getElem? (i := 6) rfl))
  obtain ⟨cZ, kZ, pZ, z1, z2, z3⟩ := Cond.arrayClass_spec (hts (.arrayClass .boolean) (by decide +kernel))
  obtain ⟨pF, cF, kF, f1, -, f2, f3, f4⟩ := Cond.arrayOver_spec (hts (.arrayOver (.object "TypecheckStation$Function")) (by decide +kernel))
  obtain ⟨pI, cI, kI, j1, j2, j3, j4⟩ := Cond.arrayOver_specA (hts (.arrayOver (.array .int)) (by decide +kernel))
  refine ⟨(dC, dI), (cA, cF, cI), cZ, ⟨hKc, fun k q hk => ?_⟩, ⟨hKc, fun k q hk => ?_⟩, fun q hq => ?_, va_AO.of (hts (.arrayOver (.object "TypecheckStation$Function")) (by decide +kernel)), hts (.arrayOver (.array .int)) (by decide +kernel)⟩
  · match k, hk with
    | 0, hk => cases hk; exact ⟨fun n z => ⟨(fun k h => (by cases h)), kA, a2, pA, a3⟩, a1⟩
    | 1, hk => cases hk; exact ⟨fun n z => ⟨(fun k h => (by cases h)), kF, f2, pF, f3⟩, kF, pF, f2, f3, f1, f4⟩
    | 2, hk => cases hk; exact ⟨fun n z => ⟨(fun k h => (by cases h)), kI, j2, pI, j3⟩, j4⟩
    | k + 3, hk => simp [tq] at hk
  · match k, hk with
    | 0, hk => cases hk; exact ⟨fun n z => ⟨(fun k h => (by cases h)), kZ, z2, pZ, z3⟩, z1⟩
    | k + 1, hk => simp at hk
  · exact va_Nw.of rfl (hts _ (st_nest q hq))
theorem st_str {args : Array Value} {s : State} {k : Nat} {tx : String} (h1 : (Cond.stringRef RX5 k tx).before args s = true) (h2 : (Cond.exactly (.string RX5 k) "java/lang/String").before args s = true) : ∃ a, vk_R RX5 k tx a s := by
  obtain ⟨a, c, cell, k, h3, -⟩ := Cond.exactly_spec h2
  exact ⟨a, vk_R.of (A := args) h1 h3⟩
theorem st_throw {s : State} {b : Nat} (hts : ∀ w ∈ lw_tbl, w.before #[Value.ref b] s = true) (hgv : (Jvm.Cond.and given_1 narrow_1).before #[Value.ref b] s = true) : ∃ a1 a2 a3, TH s.heap.size a1 a2 a3 s s.heap := by
  have hs := flat_of_before _ hgv
  obtain ⟨a1, s1⟩ := st_str (hts (.stringRef RX5 66 "the function has 6 steps") (by decide +kernel)) (hs (.exactly (.string RX5 66) "java/lang/String") (by decide +kernel))
  obtain ⟨a2, s2⟩ := st_str (hts (.stringRef RX5 75 "the function has no steps") (by decide +kernel)) (hs (.exactly (.string RX5 75) "java/lang/String") (by decide +kernel))
  obtain ⟨a3, s3⟩ := st_str (hts (.stringRef RX5 112 "the function cannot be typed") (by decide +kernel)) (hs (.exactly (.string RX5 112) "java/lang/String") (by decide +kernel))
  have hA : ∀ a : Nat, a < s.heap.size → ¬ s.heap.size ≤ a := fun a h1 h2 => by omega
  exact ⟨a1, a2, a3, ⟨s1, s2, s3⟩, ⟨vx_Zqof (hts (.laysStatic Bundle.tN "UNASSIGNED_STACK" Bundle.steD) (by decide +kernel)) (hts (.initialized Bundle.tN) (by decide +kernel)) (hs (.isRef (.static Bundle.tN "UNASSIGNED_STACK" Bundle.steD)) (by decide +kernel)) hA, vx_Zqof (hts (.laysStatic Bundle.tN "SUPPRESSED_SENTINEL" Bundle.listD) (by decide +kernel)) (hts (.initialized Bundle.tN) (by decide +kernel)) (hs (.isRef (.static Bundle.tN "SUPPRESSED_SENTINEL" Bundle.listD)) (by decide +kernel)) hA⟩, fun w hw => va_Nw.of (th_t w hw) (hts w (st_th w hw))⟩
