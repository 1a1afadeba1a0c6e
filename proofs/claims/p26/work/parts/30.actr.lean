/-- what an act makes of the station and of who was blamed -/
def ActR (u : ST) (g : Nat → Nat) (f : Nat) (v : ST × (Nat → Nat)) : Prop :=
  (∃ (F : FT), v = ((u.1, F, u.2.2), g)) ∨
  (∃ (w : Nat) (F : FT), (w ≤ 9 ∨ (20 ≤ w ∧ w ≤ 24) ∨ (40 ≤ w ∧ w < 40 + u.1.1 1)) ∧ u.1.1 (20 + f) < 6 ∧ v = ((dropP (chkP (stepP u.1 f w) 1), F, u.2.2), g)) ∨
  (∃ (F : FT), 0 < u.1.1 (20 + f) ∧ v = ((dropP (chkP (unsP u.1 f) 1), F, u.2.2), g)) ∨
  (∃ (a o : Nat) (F : FT), a ≤ 3 ∧ o ≤ 3 ∧ v = ((dropP (hintC u.1 f a o), F, u.2.2), g)) ∨
  (∃ (a o a' o' : Nat) (F : FT), a ≤ 3 ∧ o ≤ 3 ∧ a' ≤ 3 ∧ o' ≤ 3 ∧ v = ((dropP (hintC (dropP (hintC u.1 f a o)) f a' o'), F, u.2.2), g)) ∨
  (∃ (F : FT), okF u.1 f = true ∧ v = (((va_up u.1.1 2 (setB (u.1.1 2) f), u.1.2), F, u.2.2), g)) ∨
  (∃ (s k : Nat) (F : FT), MigI u.1 s k ∧ s < 1024 ∧ v = (((va_up u.1.1 2 s, u.1.2), F, u.2.2), g)) ∨
  (∃ (n : Nat) (F : FT), n ≤ 20 ∧ v = (((va_up u.1.1 0 n, u.1.2), F, u.2.2), g)) ∨
  (∃ (F : FT) (T : TT), RT u.1 (fun c => if c = f then 1 else 0) 1 T ∧ WT T ∧ v = ((u.1, F, T, bookB T u.2.2.2), gB T g))
theorem hasB_setS (t f : Nat) : hasB (setB t f) f = true := by rw [hasB_set]; simp
theorem tyOK.set {P : PT} (h : tyOK P) {f : Nat} (hok : okF P f = true) (hf : f < P.1 1) : tyOK (va_up P.1 2 (setB (P.1 2) f), P.2) := by
  intro i hi
  have e : (va_up P.1 2 (setB (P.1 2) f)) 2 = setB (P.1 2) f := va_up_self _ _ _
  have hi2 : hasB (setB (P.1 2) f) i = true := by rw [← e]; exact hi
  rw [hasB_set] at hi2
  have hs := samP.typ P (setB (P.1 2) f)
  have e1 : (va_up P.1 2 (setB (P.1 2) f)) 1 = P.1 1 := va_up_ne _ _ (show 1 ≠ 2 by decide)
  show i < (va_up P.1 2 (setB (P.1 2) f)) 1 ∧ _
  rw [e1, sam_ok hs]
  by_cases q : f = i
  · subst q; exact ⟨hf, hok⟩
  · simp [q] at hi2
    exact h i hi2
theorem tp_ne (P : PT) (n : Nat) {k : Nat} (h : k ≠ 2) : (va_up P.1 2 n, P.2).1 k = P.1 k := va_up_ne P.1 n h
theorem tp_self (P : PT) (n : Nat) : (va_up P.1 2 n, P.2).1 2 = n := va_up_self P.1 2 n
