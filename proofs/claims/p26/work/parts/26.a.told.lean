/-! What the law has told its station -/
theorem ts_A67 {b h h' x : Nat} (hh : h ≤ h') (hx : ts_A b 52 h' x) : ts_A b 67 h x := by unfold ts_A at *; omega
theorem ts_A67b {b h h' x : Nat} (hh : h ≤ h') (hx : ts_A b 67 h' x) : ts_A b 67 h x := by unfold ts_A at *; omega
theorem ts_A67o {b h k : Nat} (hk : k < 15) : ts_A b 67 h (b + 52 + k) := by unfold ts_A; omega
def PrT (D : va_G) (q : CQ) (b sz : Nat) (u : ST) (o : OT) (bs L : Nat) (xs : Nat → Int32) : State → Prop := fun U => PrO D q b sz u o U ∧ va_X bs L xs U U.heap ∧ bs < b ∧ bs < sz ∧ L ≤ 260
theorem PrT.blind {D : va_G} {q : CQ} {b sz : Nat} {u : ST} {o : OT} {bs L : Nat} {xs : Nat → Int32} {av : List Value} : FrameBlind (va_Pc av (PrT D q b sz u o bs L xs)) := fun a U g1 mk h => ⟨h.1, (PrO.blind (av := av) a U g1 mk ⟨h.1, h.2.1⟩).2, va_X.moved (u := U) (U := U.calling g1 mk a) (Vm.Alike.refl U.vm) h.2.2.1, h.2.2.2⟩
/-- n functions are there, those from k on have no steps, function k has j; c checks at most -/
def tolJ (P : PT) (n k j c : Nat) : Prop := WP P ∧ P.1 1 = n ∧ P.1 2 = 0 ∧ P.1 0 = 20 ∧ P.1 3 ≤ c ∧ P.1 (20 + k) = j ∧ ∀ i, k < i → i < 10 → P.1 (20 + i) = 0
theorem WP.fun {P : PT} (h : WP P) (hz : P.1 1 < 10) : WP (va_up P.1 1 (P.1 1 + 1), P.2) := by
  refine ⟨h.1, ?_, h.2.2.1, fun i hi => ?_⟩
  · show va_up P.1 1 (P.1 1 + 1) 1 ≤ 10
    rw [va_up_self]
    omega
  · have e1 : va_up P.1 1 (P.1 1 + 1) (20 + i) = P.1 (20 + i) := va_up_ne _ _ (by omega)
    have e2 : va_up P.1 1 (P.1 1 + 1) (30 + i) = P.1 (30 + i) := va_up_ne _ _ (by omega)
    have e3 : va_up P.1 1 (P.1 1 + 1) (40 + i) = P.1 (40 + i) := va_up_ne _ _ (by omega)
    have e4 : va_up P.1 1 (P.1 1 + 1) 1 = P.1 1 + 1 := va_up_self _ _ _
    show va_up P.1 1 (P.1 1 + 1) (20 + i) ≤ 6 ∧ va_up P.1 1 (P.1 1 + 1) (30 + i) ≤ 3 ∧ va_up P.1 1 (P.1 1 + 1) (40 + i) ≤ 3 ∧ ∀ j, j < va_up P.1 1 (P.1 1 + 1) (20 + i) → P.2 i j ≤ 9 ∨ (20 ≤ P.2 i j ∧ P.2 i j ≤ 24) ∨ (40 ≤ P.2 i j ∧ P.2 i j < 40 + va_up P.1 1 (P.1 1 + 1) 1)
    rw [e1, e2, e3, e4]
    refine ⟨h.fsz hi, h.fin hi, h.fout hi, fun j hj => ?_⟩
    have := h.stp hi hj
    omega
theorem tolJ.fun {P : PT} {n : Nat} (h : tolJ P n 0 0 0) (hz : n < 10) : tolJ (va_up P.1 1 (P.1 1 + 1), P.2) (n + 1) 0 0 0 := by
  obtain ⟨h1, h2, h3, h4, h5, h6, h7⟩ := h
  have g : ∀ x, x ≠ 1 → va_up P.1 1 (P.1 1 + 1) x = P.1 x := fun x hx => va_up_ne _ _ hx
  have g1 : va_up P.1 1 (P.1 1 + 1) 1 = P.1 1 + 1 := va_up_self _ _ _
  exact ⟨h1.fun (by omega), g1.trans (by omega), (g 2 (by decide)).trans h3, (g 0 (by decide)).trans h4, Nat.le_trans (Nat.le_of_eq (g 3 (by decide))) h5, (g 20 (by decide)).trans h6, fun i hi hj => (g (20 + i) (by omega)).trans (h7 i hi hj)⟩
theorem diffN_0 (b : Nat) : diffN 0 b = 0 := by
  apply hasB_ext
  intro i
  rw [hasB_diff, hasB_zero]
  rfl
theorem tolJ.step {P : PT} {n k j c v : Nat} (h : tolJ P n k j c) (hj : j < 6) (hk : k < 10) (hv : v ≤ 9 ∨ (20 ≤ v ∧ v ≤ 24) ∨ (40 ≤ v ∧ v < 40 + n)) : tolJ (dropP (chkP (stepP P k v) 1)) n k (j + 1) (c + 1) := by
  obtain ⟨h1, h2, h3, h4, h5, h6, h7⟩ := h
  have g : ∀ x, x ≠ 2 → x ≠ 3 → x ≠ 20 + k → (dropP (chkP (stepP P k v) 1)).1 x = P.1 x := fun x a b d => (va_up_ne _ _ a).trans ((va_up_ne _ _ b).trans (va_up_ne _ _ d))
  have f3 : (chkP (stepP P k v) 1).1 3 = P.1 3 + 1 := by
    show va_up (va_up P.1 (20 + k) (P.1 (20 + k) + 1)) 3 (va_up P.1 (20 + k) (P.1 (20 + k) + 1) 3 + 1) 3 = _
    rw [va_up_self, va_up_ne _ _ (show 3 ≠ 20 + k by omega)]
  have f2 : (chkP (stepP P k v) 1).1 2 = 0 := by
    show va_up (va_up P.1 (20 + k) (P.1 (20 + k) + 1)) 3 (va_up P.1 (20 + k) (P.1 (20 + k) + 1) 3 + 1) 2 = 0
    rw [va_up_ne _ _ (show 2 ≠ 3 by decide), va_up_ne _ _ (show 2 ≠ 20 + k by omega)]
    exact h3
  have e2 : (dropP (chkP (stepP P k v) 1)).1 2 = 0 := by
    show va_up (chkP (stepP P k v) 1).1 2 (diffN ((chkP (stepP P k v) 1).1 2) _) 2 = 0
    rw [va_up_self, f2, diffN_0]
  have e3 : (dropP (chkP (stepP P k v) 1)).1 3 = P.1 3 + 1 := by
    show va_up (chkP (stepP P k v) 1).1 2 (diffN ((chkP (stepP P k v) 1).1 2) (dropD (chkP (stepP P k v) 1))) 3 = _
    rw [va_up_ne _ _ (show 3 ≠ 2 by decide)]
    exact f3
  have e4 : (dropP (chkP (stepP P k v) 1)).1 (20 + k) = P.1 (20 + k) + 1 := (dropP_fn _ _ (by omega)).trans (va_up_self _ _ _)
  exact ⟨WP.drop (WP.chk (h1.step hk (by omega) (show okS P v by unfold okS; rw [h2]; exact hv)) _), (g 1 (by decide) (by decide) (by omega)).trans h2, e2, (g 0 (by decide) (by decide) (by omega)).trans h4, by omega, by omega, fun i hi hj => (g _ (by omega) (by omega) (by omega)).trans (h7 i hi hj)⟩
theorem tolJ.next {P : PT} {n k j c c' : Nat} (h : tolJ P n k j c) (hk : k + 1 < 10) (hc : c ≤ c') : tolJ P n (k + 1) 0 c' := by
  obtain ⟨h1, h2, h3, h4, h5, h6, h7⟩ := h
  exact ⟨h1, h2, h3, h4, Nat.le_trans h5 hc, h7 (k + 1) (by omega) hk, fun i hi hj => h7 i (by omega) hj⟩
