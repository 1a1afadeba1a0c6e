/-! What holds between the calls of the law -/
def LI (n t : Nat) (u : ST) (g : Nat → Nat) : Prop :=
  WP u.1 ∧ u.1.1 1 = n ∧ tyOK u.1 ∧ u.1.1 3 ≤ 28 + 22 * t ∧ (∀ r, n < r → r ≤ 10 → ∀ c, u.2.2.2.2.2 r c = 0) ∧ u.2.2.2.1 0 = totR u.2.2.2.2.2 0 n ∧ (u.2.2.2.1 1 ≤ u.2.2.2.1 0 ∧ u.2.2.2.1 0 ≤ t) ∧ totN u.2.2.2.2.2 11 ≤ 201 * t ∧ ∀ i, g i = u.2.2.2.2.2 11 i
theorem calN_le (P : PT) (f : Nat) : ∀ k, calN P f k ≤ k
  | 0 => Nat.le_refl _
  | k + 1 => by
    have ih := calN_le P f k
    simp only [calN]
    split <;> omega
theorem hc_3 {P : PT} {f a o : Nat} (hs : P.1 1 ≤ 10) : P.1 3 ≤ (dropP (hintC P f a o)).1 3 ∧ (dropP (hintC P f a o)).1 3 ≤ P.1 3 + 11 := by
  rw [dp_ne _ (show 3 ≠ 2 by decide)]
  have e0 : (hintP P f a o).1 3 = P.1 3 := hp_lo (by decide)
  have e1 : (hintP P f a o).1 1 = P.1 1 := hp_lo (by decide)
  unfold hintC
  split
  · rw [e0]; omega
  · have h := calN_le (hintP P f a o) f ((hintP P f a o).1 1)
    have e2 : (chkP (hintP P f a o) (1 + calN (hintP P f a o) f ((hintP P f a o).1 1))).1 3 = (hintP P f a o).1 3 + (1 + calN (hintP P f a o) f ((hintP P f a o).1 1)) := by
      show va_up (hintP P f a o).1 3 ((hintP P f a o).1 3 + (1 + calN (hintP P f a o) f ((hintP P f a o).1 1))) 3 = _
      exact va_up_self _ _ _
    rw [e2, e0]
    omega
theorem tyOK.drop (P : PT) : tyOK (dropP P) := by
  intro i hi
  have e : (dropP P).1 2 = diffN (P.1 2) (dropD P) := by
    show va_up P.1 2 (diffN (P.1 2) (dropD P)) 2 = _
    exact va_up_self _ _ _
  rw [e, hasB_diff] at hi
  unfold dropD at hi
  rw [hasB_diff, hasB_typ] at hi
  rw [dp_ne _ (show 1 ≠ 2 by decide), sam_ok (samP.drop P)]
  revert hi
  cases hasB (P.1 2) i <;> cases h : okF P i <;> by_cases q : i < P.1 1 <;> simp [q]
theorem chk_3 (P : PT) (n : Nat) : (chkP P n).1 3 = P.1 3 + n := by
  show va_up P.1 3 (P.1 3 + n) 3 = _
  exact va_up_self _ _ _
theorem LI.keep {n t : Nat} {u : ST} {g : Nat → Nat} (h : LI n t u g) {P : PT} {F : FT} (h1 : WP P) (h2 : P.1 1 = n) (h3 : tyOK P) (h4 : P.1 3 ≤ u.1.1 3 + 22) : LI n (t + 1) (P, F, u.2.2) g := by
  obtain ⟨g1, g2, g3, g4, g5, g6, g7, g8, g9⟩ := h
  exact ⟨h1, h2, h3, by show P.1 3 ≤ _; omega, g5, g6, ⟨g7.1, by show u.2.2.2.1 0 ≤ t + 1; omega⟩, by show totN u.2.2.2.2.2 11 ≤ _; omega, g9⟩
theorem LI.run {n t : Nat} {u : ST} {g : Nat → Nat} (h : LI n t u g) {f : Nat} (hf : f < n) {F : FT} {T : TT} (hR : RT u.1 (fun c => if c = f then 1 else 0) 1 T) (hW : WT T) : LI n (t + 1) (u.1, F, T, bookB T u.2.2.2) (gB T g) := by
  obtain ⟨g1, g2, g3, g4, g5, g6, g7, g8, g9⟩ := h
  have hs := g1.sz
  refine ⟨g1, g2, g3, by show u.1.1 3 ≤ _; omega, fun r h1 h2 c => ?_, ?_, ⟨?_, ?_⟩, ?_, fun i => ?_⟩
  · show (bookB T u.2.2.2).2.2 r c = 0
    by_cases hc : c < 10
    · rw [book_row _ _ (by omega) hc, g5 r h1 h2 c, hR.2.2.2.2 r (by omega) h2 c]
    · unfold bookB
      show addN (if T.1 8 = 0 then u.2.2.2.2.2 else ts_u2 u.2.2.2.2.2 11 _ _) T.2.2 11 0 r c = 0
      rw [addN_out _ _ (Or.inr (by omega))]
      split
      · exact g5 r h1 h2 c
      · rw [ts_u2_ne _ _ _ (by omega)]; exact g5 r h1 h2 c
  · show (bookB T u.2.2.2).1 0 = totR (bookB T u.2.2.2).2.2 0 n
    have e1 : ∀ k, k ≤ 10 → totR (bookB T u.2.2.2).2.2 0 k = totR u.2.2.2.2.2 0 k + totR T.2.2 0 k := fun k hk => by
      induction k with
      | zero => rfl
      | succ k ih =>
        simp only [totR]
        rw [ih (by omega), book_row _ _ (by decide) (by omega)]
        omega
    rw [book_0, e1 n (by omega), totR_one f T.2.2 hR.1.1, if_pos hf, g6]
  · show (bookB T u.2.2.2).1 1 ≤ (bookB T u.2.2.2).1 0
    rw [book_0, book_1]
    have := g7.1
    split <;> omega
  · show (bookB T u.2.2.2).1 0 ≤ t + 1
    rw [book_0]
    have := g7.2
    omega
  · show totN (bookB T u.2.2.2).2.2 11 ≤ 201 * (t + 1)
    rw [book_tot]
    have h1 := hR.2.2.2.1
    have h2 := hW.2.2.1
    omega
  · show gB T g i = (bookB T u.2.2.2).2.2 11 i
    rw [book_bl]
    unfold gB
    by_cases q : T.1 8 = 0
    · rw [if_pos q, if_neg (fun h => h.1 q), g9 i]; rfl
    · rw [if_neg q]
      by_cases e : i = T.1 8 - 1
      · subst e; rw [va_up_self, if_pos ⟨q, rfl⟩, g9]
      · rw [va_up_ne _ _ e, if_neg (fun h => e h.2), g9 i]; rfl
theorem tyOK.mig {P : PT} (h : tyOK P) {s k : Nat} (hM : MigI P s k) : tyOK (va_up P.1 2 s, P.2) := by
  intro i hi
  rw [tp_self] at hi
  rw [tp_ne P s (show 1 ≠ 2 by decide), sam_ok (samP.typ P s)]
  rcases hM.2.2 i hi with q | q
  · exact h i q
  · exact q
theorem tyOK.bud {P : PT} (h : tyOK P) (n : Nat) : tyOK (va_up P.1 0 n, P.2) := by
  intro i hi
  have e1 : (va_up P.1 0 n) 1 = P.1 1 := va_up_ne P.1 n (by decide)
  have e2 : (va_up P.1 0 n) 2 = P.1 2 := va_up_ne P.1 n (by decide)
  have hi2 : hasB (P.1 2) i = true := by rw [← e2]; exact hi
  show i < (va_up P.1 0 n) 1 ∧ _
  rw [e1, sam_ok (samP.bud P n)]
  exact h i hi2
theorem LI.act {n t : Nat} {u u' : ST} {g g' : Nat → Nat} (h : LI n t u g) {f : Nat} (hf : f < n) (ha : ActR u g f (u', g')) : LI n (t + 1) u' g' ∧ u.1.1 3 ≤ u'.1.1 3 ∧ u'.2.2.2.1 0 ≤ u.2.2.2.1 0 + 1 := by
  have h0 := h
  obtain ⟨g1, g2, g3, g4, g5, g6, g7, g8, g9⟩ := h
  have hs := g1.sz
  have hB : ∀ (P : PT) (F : FT), ((P, F, u.2.2) : ST).2.2.2.1 0 ≤ u.2.2.2.1 0 + 1 := fun P F => Nat.le_succ _
  rcases ha with ⟨F, e⟩ | ⟨w, F, hw, hz, e⟩ | ⟨F, hz, e⟩ | ⟨a, o, F, ha, ho, e⟩ | ⟨a, o, a', o', F, ha, ho, ha', ho', e⟩ | ⟨F, hok, e⟩ | ⟨s, k, F, hM, hs2, e⟩ | ⟨b, F, hb, e⟩ | ⟨F, T, hR, hW, e⟩
  · obtain ⟨rfl, rfl⟩ := Prod.mk.inj e
    exact ⟨h0.keep g1 g2 g3 (Nat.le_add_right _ _), Nat.le_refl _, hB _ _⟩
  · obtain ⟨rfl, rfl⟩ := Prod.mk.inj e
    have e3 : (dropP (chkP (stepP u.1 f w) 1)).1 3 = u.1.1 3 + 1 := by
      rw [dp_ne _ (show 3 ≠ 2 by decide), chk_3]
      show va_up u.1.1 (20 + f) _ 3 + 1 = _
      rw [va_up_ne _ _ (show 3 ≠ 20 + f by omega)]
    have e1 : (dropP (chkP (stepP u.1 f w) 1)).1 1 = u.1.1 1 := by
      rw [dp_ne _ (show 1 ≠ 2 by decide), chk_ne _ _ (show 1 ≠ 3 by decide)]
      exact va_up_ne _ _ (show 1 ≠ 20 + f by omega)
    exact ⟨h0.keep (WP.drop ((g1.step (by omega) hz hw).chk _)) (e1.trans g2) (tyOK.drop _) (by omega), by show _ ≤ (dropP (chkP (stepP u.1 f w) 1)).1 3; omega, hB _ _⟩
  · obtain ⟨rfl, rfl⟩ := Prod.mk.inj e
    have e3 : (dropP (chkP (unsP u.1 f) 1)).1 3 = u.1.1 3 + 1 := by
      rw [dp_ne _ (show 3 ≠ 2 by decide), chk_3]
      show va_up u.1.1 (20 + f) _ 3 + 1 = _
      rw [va_up_ne _ _ (show 3 ≠ 20 + f by omega)]
    have e1 : (dropP (chkP (unsP u.1 f) 1)).1 1 = u.1.1 1 := by
      rw [dp_ne _ (show 1 ≠ 2 by decide), chk_ne _ _ (show 1 ≠ 3 by decide)]
      exact va_up_ne _ _ (show 1 ≠ 20 + f by omega)
    exact ⟨h0.keep (WP.drop ((g1.uns (by omega)).chk _)) (e1.trans g2) (tyOK.drop _) (by omega), by show _ ≤ (dropP (chkP (unsP u.1 f) 1)).1 3; omega, hB _ _⟩
  · obtain ⟨rfl, rfl⟩ := Prod.mk.inj e
    have e3 := hc_3 (P := u.1) (f := f) (a := a) (o := o) hs
    exact ⟨h0.keep (WP.drop (g1.hic (by omega) ha ho)) (hc_1.trans g2) (tyOK.drop _) (by omega), e3.1, hB _ _⟩
  · obtain ⟨rfl, rfl⟩ := Prod.mk.inj e
    have w1 : WP (dropP (hintC u.1 f a o)) := WP.drop (g1.hic (by omega) ha ho)
    have e3 := hc_3 (P := u.1) (f := f) (a := a) (o := o) hs
    have e4 := hc_3 (P := dropP (hintC u.1 f a o)) (f := f) (a := a') (o := o') (by rw [hc_1]; exact hs)
    exact ⟨h0.keep (WP.drop (w1.hic (by omega) ha' ho')) (hc_1.trans (hc_1.trans g2)) (tyOK.drop _) (by omega), Nat.le_trans e3.1 e4.1, hB _ _⟩
  · obtain ⟨rfl, rfl⟩ := Prod.mk.inj e
    have e3 : ((va_up u.1.1 2 (setB (u.1.1 2) f), u.1.2) : PT).1 3 = u.1.1 3 := tp_ne u.1 _ (by decide)
    exact ⟨h0.keep (g1.typ (setB_lt g1.ty (by omega))) ((tp_ne u.1 _ (by decide)).trans g2) (g3.set hok (by omega)) (by omega), by show _ ≤ ((va_up u.1.1 2 (setB (u.1.1 2) f), u.1.2) : PT).1 3; omega, hB _ _⟩
  · obtain ⟨rfl, rfl⟩ := Prod.mk.inj e
    have e3 : ((va_up u.1.1 2 s, u.1.2) : PT).1 3 = u.1.1 3 := tp_ne u.1 _ (by decide)
    exact ⟨h0.keep (g1.typ hs2) ((tp_ne u.1 _ (by decide)).trans g2) (g3.mig hM) (by omega), by show _ ≤ ((va_up u.1.1 2 s, u.1.2) : PT).1 3; omega, hB _ _⟩
  · obtain ⟨rfl, rfl⟩ := Prod.mk.inj e
    have e3 : (va_up u.1.1 0 b) 3 = u.1.1 3 := va_up_ne u.1.1 b (by decide)
    have e1 : (va_up u.1.1 0 b) 1 = u.1.1 1 := va_up_ne u.1.1 b (by decide)
    exact ⟨h0.keep (g1.bud hb) (e1.trans g2) (g3.bud b) (by show (va_up u.1.1 0 b) 3 ≤ _; omega), by show _ ≤ (va_up u.1.1 0 b) 3; omega, hB _ _⟩
  · obtain ⟨rfl, rfl⟩ := Prod.mk.inj e
    refine ⟨h0.run hf hR hW, Nat.le_refl _, ?_⟩
    show (bookB T u.2.2.2).1 0 ≤ _
    rw [book_0]
    exact Nat.le_refl _
