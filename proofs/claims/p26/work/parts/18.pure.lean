/-! What holds between the calls of the law: functions, callers, calls -/
def canN (P : PT) : Nat → Nat
  | 0 => 0
  | k + 1 => canN P k + (if okF P k = true then 1 else 0)
theorem cnt_can (P : PT) (n : Nat) : ∀ k, cntB (typN P n) k = canN P (if k ≤ n then k else n)
  | 0 => by rw [if_pos (Nat.zero_le _)]; rfl
  | k + 1 => by
    have ih := cnt_can P n k
    simp only [cntB, hasB_typ]
    by_cases h : k + 1 ≤ n
    · rw [if_pos h]
      rw [if_pos (by omega)] at ih
      simp only [canN]
      rw [ih, decide_eq_true (by omega)]
      simp
    · rw [if_neg h]
      rw [decide_eq_false (by omega)]
      by_cases h2 : k ≤ n
      · rw [if_pos h2] at ih
        rw [ih, show k = n by omega]; simp
      · rw [if_neg h2] at ih
        rw [ih]; simp
theorem cnt_typ (P : PT) {n : Nat} (h : n ≤ 10) : cntB (typN P n) 10 = canN P n := by
  rw [cnt_can]
  by_cases q : 10 ≤ n
  · rw [if_pos q, show n = 10 by omega]
  · rw [if_neg q]
theorem cnt_cut {s n : Nat} (h : ∀ i, hasB s i = true → i < n) : ∀ k, n ≤ k → cntB s k = cntB s n
  | 0, hk => by rw [show n = 0 by omega]
  | k + 1, hk => by
    by_cases q : n = k + 1
    · rw [q]
    · have ih := cnt_cut h k (by omega)
      simp only [cntB]
      rw [ih]
      have : hasB s k = false := by
        cases c : hasB s k with
        | false => rfl
        | true => exact absurd (h k c) (by omega)
      rw [this]
      simp
theorem sumN_tail {a : Nat → Nat → Nat} {f n : Nat} (h : ∀ r, n < r → r ≤ 10 → a r f = 0) : ∀ k, n + 1 ≤ k → k ≤ 11 → sumN a f k = sumN a f (n + 1)
  | 0, hk, _ => absurd hk (by omega)
  | k + 1, hk, h2 => by
    by_cases q : n = k
    · rw [q]
    · have ih := sumN_tail h k (by omega) (by omega)
      simp only [sumN]
      rw [ih, h k (by omega) (by omega)]
      rfl
theorem needF_first (F : FT) (a t k n : Nat) (hk : k ≤ n) (hn : n < 2 ^ 31) (hF : (F.2.1 = -1 ↔ F.1 = 0) ∧ F.2.1 ≤ nI n) : ((needF F a t k).2.1 = -1 ↔ (needF F a t k).1 = 0) ∧ (needF F a t k).2.1 ≤ nI n := by
  unfold needF
  split
  · exact hF
  · split
    · exact hF
    · by_cases q : F.1 = 0
      · rw [if_pos q]
        exact ⟨⟨fun e => absurd e (ts_nem1 (by omega)), fun e => absurd e (Nat.succ_ne_zero _)⟩, (nI_leI (by omega) hn).mpr hk⟩
      · rw [if_neg q]
        exact ⟨⟨fun e => absurd (hF.1.mp e) q, fun e => absurd e (Nat.succ_ne_zero _)⟩, hF.2⟩
theorem chkN_first (P : PT) (f n : Nat) (hn : n < 2 ^ 31) : ∀ k, k ≤ n → ((chkN P f k).2.1 = -1 ↔ (chkN P f k).1 = 0) ∧ (chkN P f k).2.1 ≤ nI n
  | 0, _ => by
    refine ⟨⟨fun _ => rfl, fun _ => rfl⟩, ?_⟩
    show (-1 : Int32) ≤ nI n
    rw [Int32.le_iff_toInt_le, nI_toInt hn]
    show (-1 : Int) ≤ n
    omega
  | k + 1, hk => needF_first _ _ _ _ _ (by omega) hn (chkN_first P f n hn k (by omega))
theorem chk_first {P : PT} (f : Nat) (h : P.1 (20 + f) < 2 ^ 31) : ((chkA P f).2.1 = -1 ↔ (chkA P f).1 = 0) ∧ (chkA P f).2.1 ≤ nI (P.1 (20 + f)) :=
  needF_first _ _ _ _ _ (Nat.le_refl _) h (chkN_first P f _ h _ (Nat.le_refl _))
theorem add_b2i (a : Nat) (B : Bool) : nI a + b2i B = nI (a + if B = true then 1 else 0) := by
  cases B
  · exact nI_add a 0
  · exact nI_add a 1
theorem or_b2i1 (B : Bool) : b2i B ||| nI 1 = b2i true := by cases B <;> rfl
theorem or_b2i0 (B : Bool) : b2i B ||| nI 0 = b2i B := by cases B <;> rfl
