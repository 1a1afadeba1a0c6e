/-! What holds between the calls of the law: sets and tolls -/
def totR (a : Nat → Nat → Nat) (r : Nat) : Nat → Nat
  | 0 => 0
  | j + 1 => totR a r j + a r j
def totN (a : Nat → Nat → Nat) : Nat → Nat
  | 0 => 0
  | k + 1 => totN a k + totR a k 10
theorem totR_mono (a : Nat → Nat → Nat) (r : Nat) {i j : Nat} (h : i ≤ j) : totR a r i ≤ totR a r j := by
  induction j with
  | zero => rw [show i = 0 by omega]; exact Nat.le_refl _
  | succ j ih =>
    by_cases e : i = j + 1
    · rw [e]; exact Nat.le_refl _
    · have := ih (by omega)
      simp only [totR]
      omega
theorem totN_mono (a : Nat → Nat → Nat) {i j : Nat} (h : i ≤ j) : totN a i ≤ totN a j := by
  induction j with
  | zero => rw [show i = 0 by omega]; exact Nat.le_refl _
  | succ j ih =>
    by_cases e : i = j + 1
    · rw [e]; exact Nat.le_refl _
    · have := ih (by omega)
      simp only [totN]
      omega
theorem tolR_le (P : PT) (a : Nat → Nat → Nat) (s r : Nat) : ∀ j, tolR P a s r j ≤ 2 * totR a r j
  | 0 => Nat.le_refl _
  | j + 1 => by
    have ih := tolR_le P a s r j
    simp only [tolR, totR]
    split <;> omega
theorem tolN_le (P : PT) (a : Nat → Nat → Nat) (s : Nat) (hP : P.1 1 ≤ 10) : ∀ k, tolN P a s k ≤ 2 * totN a k
  | 0 => Nat.le_refl _
  | k + 1 => by
    have ih := tolN_le P a s hP k
    have h1 := tolR_le P a s k (P.1 1)
    have h2 := totR_mono a k hP
    simp only [tolN, totN]
    omega
theorem tolA_le {P : PT} (hP : P.1 1 ≤ 10) (a : Nat → Nat → Nat) (s : Nat) : tolA P a s ≤ 2 * totN a 11 := by
  have h1 := tolN_le P a s hP (P.1 1 + 1)
  have h2 := totN_mono a (show P.1 1 + 1 ≤ 11 by omega)
  unfold tolA
  omega
theorem tolR_even (P : PT) (a : Nat → Nat → Nat) (s r : Nat) : ∀ j, tolR P a s r j % 2 = 0
  | 0 => rfl
  | j + 1 => by
    have ih := tolR_even P a s r j
    simp only [tolR]
    split <;> omega
theorem tolN_even (P : PT) (a : Nat → Nat → Nat) (s : Nat) : ∀ k, tolN P a s k % 2 = 0
  | 0 => rfl
  | k + 1 => by
    have ih := tolN_even P a s k
    have h1 := tolR_even P a s k (P.1 1)
    simp only [tolN]
    omega
theorem tolA_even (P : PT) (a : Nat → Nat → Nat) (s : Nat) : tolA P a s % 2 = 0 := tolN_even P a s _
theorem hasR_none {s : Nat} (h : ∀ i, hasB s i = false) (r : Nat) : hasR s r = false := by
  cases r with
  | zero => rfl
  | succ k => exact h k
theorem tolR_none (P : PT) (a : Nat → Nat → Nat) {s : Nat} (h : ∀ i, hasB s i = false) (r : Nat) : ∀ j, tolR P a s r j = 0
  | 0 => rfl
  | j + 1 => by
    have ih := tolR_none P a h r j
    simp only [tolR, ih, gcB, ggB, h j, hasR_none h r]
    simp
theorem tolN_none (P : PT) (a : Nat → Nat → Nat) {s : Nat} (h : ∀ i, hasB s i = false) : ∀ k, tolN P a s k = 0
  | 0 => rfl
  | k + 1 => by simp only [tolN, tolN_none P a h k, tolR_none P a h k]
theorem cntB_none {s : Nat} : ∀ n, cntB s n = 0 → ∀ i, i < n → hasB s i = false
  | 0, _, i, hi => absurd hi (Nat.not_lt_zero i)
  | n + 1, e, i, hi => by
    simp only [cntB] at e
    by_cases q : i = n
    · subst q
      cases h : hasB s i with
      | false => rfl
      | true => rw [h] at e; simp at e
    · exact cntB_none n (by omega) i (by omega)
/-- what is typed has no fault and nothing loose -/
def tyOK (P : PT) : Prop := ∀ i, hasB (P.1 2) i = true → i < P.1 1 ∧ okF P i = true
theorem tyOK.typ {P : PT} (h : tyOK P) (i : Nat) (hi : hasB (P.1 2) i = true) : hasB (typN P (P.1 1)) i = true := by
  obtain ⟨h1, h2⟩ := h i hi
  rw [hasB_typ, h2, decide_eq_true h1]
  rfl
theorem setB_has {s i : Nat} (h : hasB s i = true) : setB s i = s := by
  apply hasB_ext
  intro j
  rw [hasB_set]
  by_cases e : i = j
  · subst e; rw [h]; simp
  · simp [e]
theorem gainI_typed {P : PT} (a : Nat → Nat → Nat) {f : Nat} (h : hasB (P.1 2) f = true) : gainI P a f = 0 := by
  unfold gainI
  rw [setB_has h]
  exact Int32.sub_self _
theorem open_has {P : PT} {f : Nat} (hf : f < P.1 1) : hasB (openN P) f = (okF P f && !hasB (P.1 2) f) := by
  unfold openN
  rw [hasB_diff, hasB_typ, decide_eq_true hf]
  simp
theorem nxtN_none (P : PT) (a : Nat → Nat → Nat) (o : Nat) : ∀ k, (nxtN P a o k).1 = 0 → ∀ i, i < k → hasB o i = false
  | 0, _, i, hi => absurd hi (Nat.not_lt_zero i)
  | k + 1, h, i, hi => by
    have ih := nxtN_none P a o k
    simp only [nxtN] at h
    cases c : hasB o k with
    | true =>
      rw [c] at h
      simp only [if_true] at h
      split at h
      · simp at h
      · rename_i hn
        exact absurd (Or.inl h) hn
    | false =>
      rw [c] at h
      simp at h
      by_cases q : i = k
      · rw [q]; exact c
      · exact ih h i (by omega)
/-- none is next: all that can be typed are -/
theorem next_none {P : PT} (hP : WP P) (ht : tyOK P) (a : Nat → Nat → Nat) (h : nextN P a = 0) : cntB (P.1 2) 10 = cntB (typN P (P.1 1)) 10 := by
  have h1 := nxtN_none P a (openN P) (P.1 1) h
  have e : P.1 2 = typN P (P.1 1) := by
    apply hasB_ext
    intro i
    cases c : hasB (P.1 2) i with
    | true => exact (ht.typ i c).symm
    | false =>
      rw [hasB_typ]
      by_cases q : i < P.1 1
      · have h2 := h1 i q
        rw [open_has q, c] at h2
        simp at h2
        simp [h2]
      · simp [q]
  rw [← e]
theorem next_open {P : PT} (hP : WP P) (a : Nat → Nat → Nat) (h : nextN P a ≠ 0) : nextN P a - 1 < P.1 1 ∧ hasB (P.1 2) (nextN P a - 1) = false := by
  have h1 : nextN P a ≤ P.1 1 := nxtN_le P a (openN P) (P.1 1)
  have h2 : hasB (openN P) (nextN P a - 1) = true := nxtN_has P a (openN P) (P.1 1) h
  have h3 : nextN P a - 1 < P.1 1 := by omega
  rw [open_has h3] at h2
  simp at h2
  exact ⟨h3, h2.2⟩
/-- the best gain of the first k that are open, as the law keeps it -/
def bstN (P : PT) (a : Nat → Nat → Nat) : Nat → Int32
  | 0 => -1000000
  | k + 1 => if hasB (openN P) k = true then maxI (bstN P a k) (gainI P a k) else bstN P a k
theorem gainI_gt {P : PT} (hP : P.1 1 ≤ 10) (a : Nat → Nat → Nat) (ha : totN a 11 < 400000) (f : Nat) : (-1000000 : Int32) < gainI P a f := by
  have h1 := tolA_le hP a (P.1 2)
  have h2 := tolA_le hP a (setB (P.1 2) f)
  unfold gainI
  have e1 : (nI (tolA P a (P.1 2))).toInt = tolA P a (P.1 2) := nI_toInt (by omega)
  have e2 : (nI (tolA P a (setB (P.1 2) f))).toInt = tolA P a (setB (P.1 2) f) := nI_toInt (by omega)
  rw [Int32.lt_iff_toInt_lt, Int32.toInt_sub, e1, e2]
  have e3 : (-1000000 : Int32).toInt = -1000000 := rfl
  rw [e3, Int.bmod_eq_of_le (by omega) (by omega)]
  omega
theorem bst_nxt {P : PT} (hP : P.1 1 ≤ 10) (a : Nat → Nat → Nat) (ha : totN a 11 < 400000) : ∀ k, ((nxtN P a (openN P) k).1 = 0 → bstN P a k = -1000000) ∧ ((nxtN P a (openN P) k).1 ≠ 0 → bstN P a k = (nxtN P a (openN P) k).2)
  | 0 => ⟨fun _ => rfl, fun h => absurd rfl h⟩
  | k + 1 => by
    have ih := bst_nxt hP a ha k
    have hg := gainI_gt hP a ha k
    have e1 : bstN P a (k + 1) = if hasB (openN P) k = true then maxI (bstN P a k) (gainI P a k) else bstN P a k := rfl
    have e2 : nxtN P a (openN P) (k + 1) = if hasB (openN P) k = true then (if (nxtN P a (openN P) k).1 = 0 ∨ ¬ gainI P a k ≤ (nxtN P a (openN P) k).2 then (k + 1, gainI P a k) else nxtN P a (openN P) k) else nxtN P a (openN P) k := rfl
    by_cases c : hasB (openN P) k = true
    · rw [if_pos c] at e1 e2
      by_cases z : (nxtN P a (openN P) k).1 = 0
      · have i1 := ih.1 z
        rw [if_pos (Or.inl z)] at e2
        rw [e1, e2, i1]
        refine ⟨fun h => absurd h (Nat.succ_ne_zero k), fun _ => ?_⟩
        unfold maxI
        rw [if_pos hg]
      · have i1 := ih.2 z
        by_cases g : gainI P a k ≤ (nxtN P a (openN P) k).2
        · rw [if_neg (fun h => h.elim z (fun h => h g))] at e2
          rw [e1, e2, i1]
          refine ⟨fun h => absurd h z, fun _ => ?_⟩
          unfold maxI
          rw [if_neg (Int32.not_lt.mpr g)]
        · rw [if_pos (Or.inr g)] at e2
          rw [e1, e2, i1]
          refine ⟨fun h => absurd h (Nat.succ_ne_zero k), fun _ => ?_⟩
          unfold maxI
          rw [if_pos (Int32.not_le.mp g)]
    · rw [if_neg c] at e1 e2
      rw [e1, e2]
      exact ih
theorem nxt_gain (P : PT) (a : Nat → Nat → Nat) (o : Nat) : ∀ k, (nxtN P a o k).1 ≠ 0 → gainI P a ((nxtN P a o k).1 - 1) = (nxtN P a o k).2
  | 0, h => absurd rfl h
  | k + 1, h => by
    have ih := nxt_gain P a o k
    simp only [nxtN] at h ⊢
    by_cases c1 : hasB o k = true
    · rw [if_pos c1] at h ⊢
      by_cases c2 : (nxtN P a o k).1 = 0 ∨ ¬ gainI P a k ≤ (nxtN P a o k).2
      · rw [if_pos c2]
        rfl
      · rw [if_neg c2] at h ⊢
        exact ih h
    · rw [if_neg c1] at h ⊢
      exact ih h
theorem next_best {P : PT} (hP : P.1 1 ≤ 10) (a : Nat → Nat → Nat) (ha : totN a 11 < 400000) (h : nextN P a ≠ 0) : gainI P a (nextN P a - 1) = bstN P a (P.1 1) := by
  have h1 := (bst_nxt hP a ha (P.1 1)).2 h
  rw [h1]
  exact nxt_gain P a _ _ h
theorem toll_best {P : PT} (hP : WP P) (ht : tyOK P) (a : Nat → Nat → Nat) (h : ¬ cntB (P.1 2) 10 < cntB (typN P (P.1 1)) 10) : tolA P a (typN P (P.1 1)) = tolA P a (P.1 2) := by
  have h1 := cntB_mono (a := typN P (P.1 1)) (b := P.1 2) (fun i hi => ht.typ i hi) 10
  have h2 := cntB_eq (a := typN P (P.1 1)) (b := P.1 2) (fun i hi => ht.typ i hi) 10 (by omega)
  have e : typN P (P.1 1) = P.1 2 := by
    apply hasB_ext
    intro i
    by_cases q : i < 10
    · exact h2 i q
    · have hs := hP.sz
      rw [hasB_big (n := 10) (typN_lt P _ hs) (by omega), hasB_big (n := 10) hP.ty (by omega)]
  rw [e]
theorem toll_none {P : PT} (hP : WP P) (a : Nat → Nat → Nat) (h : cntB (P.1 2) 10 = 0) : tolA P a (P.1 2) = 0 := by
  have h1 := cntB_none 10 h
  refine tolN_none P a (fun i => ?_) _
  by_cases q : i < 10
  · exact h1 i q
  · exact hasB_big (n := 10) hP.ty (by omega)
theorem ts_b1 {B : Bool} : b2i B = nI 1 ↔ B = true := by cases B <;> simp [b2i, nI]
theorem zI_ge0 {r : Nat} (h : r < 2 ^ 31) : 0 ≤ zI r ↔ r ≠ 0 := by
  cases r with
  | zero => exact ⟨fun e => absurd e (by decide), fun e => absurd rfl e⟩
  | succ k => exact ⟨fun _ => Nat.succ_ne_zero k, fun _ => (ts_ge0 (by omega)).mpr (Nat.zero_le k)⟩
theorem open_n1 {P : PT} {f : Nat} (h : hasB (P.1 2) f = true) (hf : f < P.1 1) : hasB (openN P) f = false := by rw [open_has hf, h]; simp
theorem open_n2 {P : PT} {f a : Nat} (e : a = (chkA P f).1) (h : ¬ (chkA P f).1 + (chkA P f).2.2 = 0) (hf : f < P.1 1) : hasB (openN P) f = false := by
  rw [open_has hf]
  have : okF P f = false := by
    unfold okF noneF
    by_cases q : (chkA P f).1 = 0
    · rw [decide_eq_true q, decide_eq_false (fun w => h (by omega))]; rfl
    · rw [decide_eq_false q]; rfl
  rw [this]; rfl
theorem okF_of {P : PT} {f : Nat} (h : (chkA P f).1 + (chkA P f).2.2 = 0) : okF P f = true := by
  unfold okF noneF
  rw [decide_eq_true (by omega), decide_eq_true (by omega)]; rfl
theorem okF_to {P : PT} {f : Nat} (h : okF P f = true) : (chkA P f).1 + (chkA P f).2.2 = 0 := by
  unfold okF noneF at h
  simp at h
  omega
theorem open_y {P : PT} {f : Nat} (h1 : hasB (P.1 2) f = false) (h : (chkA P f).1 + (chkA P f).2.2 = 0) (hf : f < P.1 1) : hasB (openN P) f = true := by
  rw [open_has hf, okF_of h, h1]; rfl
