/-! Sets as numbers; what a change of the program keeps -/
theorem hasB_tb (s i : Nat) : hasB s i = s.testBit i := by
  unfold hasB
  rw [Nat.testBit_eq_decide_div_mod_eq]
theorem hasB_set (s i j : Nat) : hasB (setB s i) j = (hasB s j || decide (i = j)) := by
  rw [hasB_tb, hasB_tb]
  unfold setB
  rw [Nat.testBit_or, Nat.testBit_two_pow]
theorem hasB_diff (a b i : Nat) : hasB (diffN a b) i = (hasB a i && !hasB b i) := by
  rw [hasB_tb, hasB_tb, hasB_tb]
  unfold diffN
  rw [Nat.testBit_xor, Nat.testBit_and]
  cases a.testBit i <;> cases b.testBit i <;> rfl
theorem hasB_zero (i : Nat) : hasB 0 i = false := by rw [hasB_tb, Nat.zero_testBit]
theorem hasB_ext {s t : Nat} (h : ∀ i, hasB s i = hasB t i) : s = t := by
  apply Nat.eq_of_testBit_eq
  intro i
  rw [← hasB_tb, ← hasB_tb]
  exact h i
theorem hasB_big {s n i : Nat} (hs : s < 2 ^ n) (hi : n ≤ i) : hasB s i = false := by
  rw [hasB_tb]
  exact Nat.testBit_lt_two_pow (Nat.lt_of_lt_of_le hs (Nat.pow_le_pow_right (by decide) hi))
theorem hasB_typ (P : PT) (i : Nat) : ∀ k, hasB (typN P k) i = (decide (i < k) && okF P i)
  | 0 => by
    show hasB 0 i = _
    rw [hasB_zero]
    simp
  | k + 1 => by
    have ih := hasB_typ P i k
    simp only [typN]
    by_cases hk : okF P k = true
    · rw [if_pos hk, hasB_set, ih]
      by_cases e : k = i
      · subst e
        simp [hk]
      · have : (i < k + 1) ↔ (i < k) := by omega
        simp [e, this]
    · rw [if_neg hk, ih]
      by_cases e : k = i
      · subst e
        simp [hk]
      · have : (i < k + 1) ↔ (i < k) := by omega
        simp [this]
theorem cntB_set {s i : Nat} (h : hasB s i = false) : ∀ n, cntB (setB s i) n = cntB s n + (if i < n then 1 else 0)
  | 0 => by simp [cntB]
  | n + 1 => by
    have ih := cntB_set h n
    simp only [cntB, ih, hasB_set]
    by_cases e : i = n
    · subst e
      simp [h]
    · have : (i < n + 1) ↔ (i < n) := by omega
      simp [e, this]
      omega
theorem cntB_zero : ∀ n, cntB 0 n = 0
  | 0 => rfl
  | n + 1 => by simp [cntB, cntB_zero n, hasB_zero]
theorem cntB_le (s : Nat) : ∀ n, cntB s n ≤ n
  | 0 => Nat.le_refl _
  | n + 1 => by
    have := cntB_le s n
    simp only [cntB]
    split <;> omega
/-- part and rest -/
theorem cntB_diff {a b : Nat} (h : ∀ i, hasB b i = true → hasB a i = true) : ∀ n, cntB (diffN a b) n + cntB b n = cntB a n
  | 0 => rfl
  | n + 1 => by
    have ih := cntB_diff h n
    simp only [cntB, hasB_diff]
    have hn := h n
    cases ha : hasB a n <;> cases hb : hasB b n
    · simp; omega
    · exact absurd (hn hb) (by rw [ha]; decide)
    · simp; omega
    · simp; omega
theorem cntB_mono {a b : Nat} (h : ∀ i, hasB b i = true → hasB a i = true) : ∀ n, cntB b n ≤ cntB a n
  | 0 => Nat.le_refl _
  | n + 1 => by
    have ih := cntB_mono h n
    have hn := h n
    simp only [cntB]
    cases ha : hasB a n <;> cases hb : hasB b n <;> simp <;> first | omega | exact absurd (hn hb) (by rw [ha]; decide)
theorem cntB_eq {a b : Nat} (h : ∀ i, hasB b i = true → hasB a i = true) : ∀ n, cntB b n = cntB a n → ∀ i, i < n → hasB a i = hasB b i
  | 0, _, i, hi => absurd hi (Nat.not_lt_zero i)
  | n + 1, e, i, hi => by
    have h1 := cntB_mono h n
    have hn := h n
    simp only [cntB] at e
    have e2 : cntB b n = cntB a n ∧ hasB a n = hasB b n := by
      cases ha : hasB a n <;> cases hb : hasB b n <;> simp [ha, hb] at e <;> first | (exact ⟨by omega, rfl⟩) | (exfalso; omega) | exact absurd (hn hb) (by rw [ha]; decide)
    by_cases q : i = n
    · rw [q]; exact e2.2
    · exact cntB_eq h n e2.1 i (by omega)
theorem nxtN_has (P : PT) (a : Nat → Nat → Nat) (o : Nat) : ∀ k, (nxtN P a o k).1 ≠ 0 → hasB o ((nxtN P a o k).1 - 1) = true
  | 0, h => absurd rfl h
  | k + 1, h => by
    have ih := nxtN_has P a o k
    simp only [nxtN] at h ⊢
    by_cases c1 : hasB o k = true
    · rw [if_pos c1] at h ⊢
      by_cases c2 : (nxtN P a o k).1 = 0 ∨ ¬ gainI P a k ≤ (nxtN P a o k).2
      · rw [if_pos c2]
        exact c1
      · rw [if_neg c2] at h ⊢
        exact ih h
    · rw [if_neg c1] at h ⊢
      exact ih h
theorem WP.typ {P : PT} (h : WP P) {n : Nat} (hn : n < 1024) : WP (va_up P.1 2 n, P.2) := by
  refine ⟨h.1, h.2.1, hn, fun i hi => ?_⟩
  have e1 : va_up P.1 2 n (20 + i) = P.1 (20 + i) := va_up_ne _ _ (by omega)
  have e2 : va_up P.1 2 n (30 + i) = P.1 (30 + i) := va_up_ne _ _ (by omega)
  have e3 : va_up P.1 2 n (40 + i) = P.1 (40 + i) := va_up_ne _ _ (by omega)
  show va_up P.1 2 n (20 + i) ≤ 6 ∧ va_up P.1 2 n (30 + i) ≤ 3 ∧ va_up P.1 2 n (40 + i) ≤ 3 ∧ ∀ j, j < va_up P.1 2 n (20 + i) → _
  rw [e1, e2, e3]
  exact h.2.2.2 i hi
theorem WP.bud {P : PT} (h : WP P) {n : Nat} (hn : n ≤ 20) : WP (va_up P.1 0 n, P.2) := by
  refine ⟨hn, h.2.1, h.2.2.1, fun i hi => ?_⟩
  have e1 : va_up P.1 0 n (20 + i) = P.1 (20 + i) := va_up_ne _ _ (by omega)
  have e2 : va_up P.1 0 n (30 + i) = P.1 (30 + i) := va_up_ne _ _ (by omega)
  have e3 : va_up P.1 0 n (40 + i) = P.1 (40 + i) := va_up_ne _ _ (by omega)
  show va_up P.1 0 n (20 + i) ≤ 6 ∧ va_up P.1 0 n (30 + i) ≤ 3 ∧ va_up P.1 0 n (40 + i) ≤ 3 ∧ ∀ j, j < va_up P.1 0 n (20 + i) → _
  rw [e1, e2, e3]
  exact h.2.2.2 i hi
theorem WP.drop {P : PT} (h : WP P) : WP (dropP P) := h.typ (diffN_lt (n := 10) h.ty)
theorem WP.hic {P : PT} (h : WP P) {f a o : Nat} (hf : f < 10) (ha : a ≤ 3) (ho : o ≤ 3) : WP (hintC P f a o) := by
  unfold hintC
  split
  · exact h.hint hf ha ho
  · exact (h.hint hf ha ho).chk _
def stepP (P : PT) (f v : Nat) : PT := (va_up P.1 (20 + f) (P.1 (20 + f) + 1), ts_u2 P.2 f (P.1 (20 + f)) v)
def unsP (P : PT) (f : Nat) : PT := (va_up P.1 (20 + f) (P.1 (20 + f) - 1), P.2)
theorem WP.step {P : PT} (h : WP P) {f v : Nat} (hf : f < 10) (hz : P.1 (20 + f) < 6) (hv : okS P v) : WP (stepP P f v) := by
  have n : ∀ k, k ≠ 20 + f → (stepP P f v).1 k = P.1 k := fun k h1 => va_up_ne _ _ h1
  refine ⟨?_, ?_, ?_, fun i hi => ?_⟩
  · rw [n 0 (by omega)]; exact h.1
  · rw [n 1 (by omega)]; exact h.2.1
  · rw [n 2 (by omega)]; exact h.2.2.1
  · have e2 : (stepP P f v).1 (30 + i) = P.1 (30 + i) := n _ (by omega)
    have e3 : (stepP P f v).1 (40 + i) = P.1 (40 + i) := n _ (by omega)
    have e4 : (stepP P f v).1 1 = P.1 1 := n _ (by omega)
    rw [e2, e3, e4]
    by_cases q : i = f
    · subst q
      have e1 : (stepP P i v).1 (20 + i) = P.1 (20 + i) + 1 := va_up_self _ _ _
      rw [e1]
      refine ⟨by omega, h.fin hi, h.fout hi, fun j hj => ?_⟩
      show (ts_u2 P.2 i (P.1 (20 + i)) v i j ≤ 9 ∨ (20 ≤ ts_u2 P.2 i (P.1 (20 + i)) v i j ∧ ts_u2 P.2 i (P.1 (20 + i)) v i j ≤ 24) ∨ (40 ≤ ts_u2 P.2 i (P.1 (20 + i)) v i j ∧ ts_u2 P.2 i (P.1 (20 + i)) v i j < 40 + P.1 1))
      rw [ts_u2_self]
      by_cases qj : j = P.1 (20 + i)
      · subst qj
        rw [va_up_self]
        exact hv
      · rw [va_up_ne _ _ qj]
        exact h.stp hi (by omega)
    · have e1 : (stepP P f v).1 (20 + i) = P.1 (20 + i) := n _ (by omega)
      rw [e1]
      have e5 : (stepP P f v).2 i = P.2 i := ts_u2_ne _ _ _ q
      rw [e5]
      exact h.2.2.2 i hi
theorem WP.uns {P : PT} (h : WP P) {f : Nat} (hf : f < 10) : WP (unsP P f) := by
  have n : ∀ k, k ≠ 20 + f → (unsP P f).1 k = P.1 k := fun k h1 => va_up_ne _ _ h1
  refine ⟨?_, ?_, ?_, fun i hi => ?_⟩
  · rw [n 0 (by omega)]; exact h.1
  · rw [n 1 (by omega)]; exact h.2.1
  · rw [n 2 (by omega)]; exact h.2.2.1
  · have e2 : (unsP P f).1 (30 + i) = P.1 (30 + i) := n _ (by omega)
    have e3 : (unsP P f).1 (40 + i) = P.1 (40 + i) := n _ (by omega)
    have e4 : (unsP P f).1 1 = P.1 1 := n _ (by omega)
    rw [e2, e3, e4]
    have hle : (unsP P f).1 (20 + i) ≤ P.1 (20 + i) := by
      by_cases q : i = f
      · subst q
        have e1 : (unsP P i).1 (20 + i) = P.1 (20 + i) - 1 := va_up_self _ _ _
        omega
      · rw [n _ (by omega)]
        exact Nat.le_refl _
    have hz := h.fsz hi
    exact ⟨by omega, h.fin hi, h.fout hi, fun j hj => h.stp hi (by omega)⟩
theorem dropP_fn (P : PT) (n : Nat) {k : Nat} (hk : 20 ≤ k) : (dropP (chkP P n)).1 k = P.1 k := (va_up_ne _ _ (by omega)).trans (va_up_ne _ _ (by omega))
def adI (P : PT) (f : Nat) : Nat := if P.1 (30 + f) = 3 then guessI P f else P.1 (30 + f)
def adO (P : PT) (f : Nat) : Nat := if P.1 (40 + f) = 3 then guessO P f else P.1 (40 + f)
theorem guessI_le {P : PT} (h : WP P) {f : Nat} (hf : f < 10) : guessI P f ≤ 3 := by
  unfold guessI
  split
  · omega
  · exact needP_le h (h.stp hf (by omega))
theorem guessO_le {P : PT} (h : WP P) {f : Nat} (hf : f < 10) : guessO P f ≤ 3 := by
  unfold guessO
  split
  · omega
  · exact giftP_le h (h.stp hf (by omega))
theorem adI_le {P : PT} (h : WP P) {f : Nat} (hf : f < 10) : adI P f ≤ 3 := by
  unfold adI
  split
  · exact guessI_le h hf
  · exact h.fin hf
theorem adO_le {P : PT} (h : WP P) {f : Nat} (hf : f < 10) : adO P f ≤ 3 := by
  unfold adO
  split
  · exact guessO_le h hf
  · exact h.fout hf
theorem up_id (f : Nat → Nat) (k : Nat) : va_up f k (f k) = f := by
  funext j
  by_cases h : j = k
  · subst h; rw [va_up_self]
  · rw [va_up_ne _ _ h]
/-- functions of a program that don't ask who is typed, how often it was checked, or the budget -/
def samP (P P' : PT) : Prop := P'.2 = P.2 ∧ P'.1 1 = P.1 1 ∧ ∀ k, 20 ≤ k → P'.1 k = P.1 k
theorem samP.typ (P : PT) (n : Nat) : samP P (va_up P.1 2 n, P.2) := ⟨rfl, rfl, fun k hk => va_up_ne _ _ (by omega)⟩
theorem samP.chk (P : PT) (n : Nat) : samP P (chkP P n) := ⟨rfl, rfl, fun k hk => va_up_ne _ _ (by omega)⟩
theorem samP.bud (P : PT) (n : Nat) : samP P (va_up P.1 0 n, P.2) := ⟨rfl, rfl, fun k hk => va_up_ne _ _ (by omega)⟩
theorem samP.trans {P Q S : PT} (h : samP P Q) (g : samP Q S) : samP P S := ⟨g.1.trans h.1, g.2.1.trans h.2.1, fun k hk => (g.2.2 k hk).trans (h.2.2 k hk)⟩
theorem samP.drop (P : PT) : samP P (dropP P) := samP.typ P _
theorem sam_need {P P' : PT} (h : samP P P') (v : Nat) : needP P' v = needP P v := by
  unfold needP
  split
  · exact h.2.2 _ (by omega)
  · rfl
theorem sam_gift {P P' : PT} (h : samP P P') (v : Nat) : giftP P' v = giftP P v := by
  unfold giftP
  split
  · exact h.2.2 _ (by omega)
  · rfl
theorem sam_there {P P' : PT} (h : samP P P') (f : Nat) : ∀ k, thereP P' f k = thereP P f k
  | 0 => h.2.2 _ (by omega)
  | k + 1 => by
    show giftP P' (P'.2 f k) = giftP P (P.2 f k)
    rw [h.1, sam_gift h]
theorem sam_chkN {P P' : PT} (h : samP P P') (f : Nat) : ∀ k, chkN P' f k = chkN P f k
  | 0 => rfl
  | k + 1 => by
    show needF (chkN P' f k) (needP P' (P'.2 f k)) (thereP P' f k) k = _
    rw [sam_chkN h f k, h.1, sam_need h, sam_there h]
    rfl
theorem sam_chkA {P P' : PT} (h : samP P P') (f : Nat) : chkA P' f = chkA P f := by
  unfold chkA
  rw [h.2.2 (20 + f) (by omega), h.2.2 (40 + f) (by omega), sam_chkN h, sam_there h]
theorem sam_ok {P P' : PT} (h : samP P P') (f : Nat) : okF P' f = okF P f := by unfold okF; rw [sam_chkA h]
theorem sam_typN {P P' : PT} (h : samP P P') : ∀ k, typN P' k = typN P k
  | 0 => rfl
  | k + 1 => by
    show (if okF P' k = true then setB (typN P' k) k else typN P' k) = _
    rw [sam_ok h, sam_typN h k]
    rfl
theorem sam_flt {P P' : PT} (h : samP P P') : ∀ k, fltN P' k = fltN P k
  | 0 => rfl
  | k + 1 => by
    show fltN P' k + (chkA P' k).1 = _
    rw [sam_chkA h, sam_flt h k]
    rfl
theorem sam_ment {P P' : PT} (h : samP P P') (f v : Nat) : ∀ k, mentB P' f v k = mentB P f v k
  | 0 => rfl
  | k + 1 => by
    show (mentB P' f v k || decide (P'.2 f k = v)) = _
    rw [h.1, sam_ment h f v k]
    rfl
theorem sam_cal {P P' : PT} (h : samP P P') (f : Nat) : ∀ k, calN P' f k = calN P f k
  | 0 => rfl
  | k + 1 => by
    show calN P' f k + (if k ≠ f ∧ mentB P' k (40 + f) (P'.1 (20 + k)) = true then 1 else 0) = _
    rw [h.2.2 (20 + k) (by omega), sam_ment h, sam_cal h f k]
    rfl
/-- what a migration has done: the typed ones are s now, k more than before, and those can be typed -/
def MigI (P : PT) (s k : Nat) : Prop := cntB s 10 = cntB (P.1 2) 10 + k ∧ (∀ i, hasB (P.1 2) i = true → hasB s i = true) ∧ ∀ i, hasB s i = true → hasB (P.1 2) i = true ∨ (i < P.1 1 ∧ okF P i = true)
theorem MigI.zero (P : PT) : MigI P (P.1 2) 0 := ⟨rfl, fun _ h => h, fun _ h => Or.inl h⟩
theorem MigI.next {P : PT} (hP : WP P) {s k : Nat} (h : MigI P s k) (a : Nat → Nat → Nat) (hn : nextN (va_up P.1 2 s, P.2) a ≠ 0) : MigI P (setB s (nextN (va_up P.1 2 s, P.2) a - 1)) (k + 1) ∧ nextN (va_up P.1 2 s, P.2) a - 1 < P.1 1 := by
  have h1 := nxtN_has (va_up P.1 2 s, P.2) a (openN (va_up P.1 2 s, P.2)) (P.1 1) hn
  have h2 : nextN (va_up P.1 2 s, P.2) a = (nxtN (va_up P.1 2 s, P.2) a (openN (va_up P.1 2 s, P.2)) (P.1 1)).1 := rfl
  rw [← h2] at h1
  generalize nextN (va_up P.1 2 s, P.2) a - 1 = b at h1 ⊢
  have h3 : openN (va_up P.1 2 s, P.2) = diffN (typN P (P.1 1)) s := by
    unfold openN
    rw [sam_typN (samP.typ P s)]
    rfl
  rw [h3, hasB_diff, hasB_typ] at h1
  simp only [Bool.and_eq_true, decide_eq_true_eq, Bool.not_eq_true'] at h1
  obtain ⟨⟨hb, hok⟩, hs⟩ := h1
  have hsz := hP.sz
  refine ⟨⟨?_, fun i hi => ?_, fun i hi => ?_⟩, hb⟩
  · rw [cntB_set hs, if_pos (by omega), h.1]
    omega
  · rw [hasB_set, h.2.1 i hi]
    rfl
  · rw [hasB_set] at hi
    simp only [Bool.or_eq_true, decide_eq_true_eq] at hi
    rcases hi with hi | hi
    · exact h.2.2 i hi
    · subst hi
      exact Or.inr ⟨hb, hok⟩
