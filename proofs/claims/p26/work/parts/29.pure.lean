/-! What an act does, in numbers -/
theorem ts_b0 {B : Bool} : b2i B = nI 0 ↔ B = false := by cases B <;> simp [b2i, nI]
theorem hc_k {P : PT} {f a o : Nat} {k : Nat} (hk : 20 ≤ k) : (dropP (hintC P f a o)).1 k = (hintP P f a o).1 k := by
  refine (va_up_ne _ _ (show k ≠ 2 by omega)).trans ?_
  unfold hintC
  split
  · rfl
  · exact va_up_ne _ _ (show k ≠ 3 by omega)
theorem hp_lo {P : PT} {f a o : Nat} {k : Nat} (hk : k < 20) : (hintP P f a o).1 k = P.1 k := (va_up_ne _ _ (show k ≠ 40 + f by omega)).trans (va_up_ne _ _ (show k ≠ 30 + f by omega))
theorem hc_lo {P : PT} {f a o : Nat} {k : Nat} (hk : k < 20) (h3 : k ≠ 3) : (hintC P f a o).1 k = P.1 k := by
  unfold hintC
  split
  · exact hp_lo hk
  · exact (va_up_ne _ _ h3).trans (hp_lo hk)
theorem dp_ne (P : PT) {k : Nat} (h : k ≠ 2) : (dropP P).1 k = P.1 k := va_up_ne _ _ h
theorem chk_ne (P : PT) (n : Nat) {k : Nat} (h : k ≠ 3) : (chkP P n).1 k = P.1 k := va_up_ne _ _ h
theorem hc_1 {P : PT} {f a o : Nat} : (dropP (hintC P f a o)).1 1 = P.1 1 := (dp_ne _ (show 1 ≠ 2 by decide)).trans (hc_lo (k := 1) (by decide) (by decide))
theorem hc_0 {P : PT} {f a o : Nat} : (dropP (hintC P f a o)).1 0 = P.1 0 := (dp_ne _ (show 0 ≠ 2 by decide)).trans (hc_lo (k := 0) (by decide) (by decide))
theorem hc_s {P : PT} {f a o : Nat} : (dropP (hintC P f a o)).2 = P.2 := by
  show (hintC P f a o).2 = P.2
  unfold hintC
  split <;> rfl
theorem hp_in {P : PT} {f a o : Nat} (hf : f < 10) : (hintP P f a o).1 (30 + f) = a := (va_up_ne _ _ (show 30 + f ≠ 40 + f by omega)).trans (va_up_self _ _ _)
theorem hp_out {P : PT} {f a o : Nat} : (hintP P f a o).1 (40 + f) = o := va_up_self _ _ _
theorem hp_ne {P : PT} {f a o k : Nat} (h1 : k ≠ 30 + f) (h2 : k ≠ 40 + f) : (hintP P f a o).1 k = P.1 k := (va_up_ne _ _ h2).trans (va_up_ne _ _ h1)
theorem hint_same {P : PT} {f a o : Nat} : dropD (hintC P f a o) = dropD (hintP P f a o) := by
  unfold hintC
  split
  · rfl
  · have h := samP.chk (hintP P f a o) (1 + calN (hintP P f a o) f ((hintP P f a o).1 1))
    have e2 : (chkP (hintP P f a o) (1 + calN (hintP P f a o) f ((hintP P f a o).1 1))).1 2 = (hintP P f a o).1 2 := chk_ne _ _ (by decide)
    unfold dropD
    rw [sam_typN h, h.2.1, e2]
theorem drop_cnt (P : PT) (n : Nat) : cntB ((dropP P).1 2) n + cntB (dropD P) n = cntB (P.1 2) n := by
  have e : (dropP P).1 2 = diffN (P.1 2) (dropD P) := by
    show va_up P.1 2 (diffN (P.1 2) (dropD P)) 2 = _
    exact va_up_self _ _ _
  rw [e]
  refine cntB_diff (fun i hi => ?_) n
  unfold dropD at hi
  rw [hasB_diff] at hi
  revert hi
  cases hasB (P.1 2) i <;> simp
theorem hint_cnt {P : PT} {f a o : Nat} : cntB ((dropP (hintC P f a o)).1 2) 10 + cntB (dropD (hintP P f a o)) 10 = cntB (P.1 2) 10 := by
  have h := drop_cnt (hintC P f a o) 10
  rw [hint_same, hc_lo (k := 2) (by decide) (by decide)] at h
  exact h
theorem tyOK.cnt {P : PT} (h : tyOK P) (hs : P.1 1 ≤ 10) : cntB (P.1 2) 10 ≤ P.1 1 := by
  rw [cnt_cut (fun i hi => (h i hi).1) 10 hs]
  exact cntB_le _ _
theorem typ_cnt {t f : Nat} (hf : f < 10) : (hasB t f = true ∧ cntB (setB t f) 10 = cntB t 10) ∨ (hasB t f = false ∧ cntB (setB t f) 10 = cntB t 10 + 1) := by
  cases h : hasB t f with
  | true => exact Or.inl ⟨rfl, by rw [setB_has h]⟩
  | false => exact Or.inr ⟨rfl, by rw [cntB_set h, if_pos hf]⟩
theorem chgN_le {P : PT} {f a o : Nat} : chgN P f a o ≤ 2 := by unfold chgN; split <;> split <;> omega
theorem chgN_0 {P : PT} {f a o : Nat} (h1 : P.1 (30 + f) = a) (h2 : P.1 (40 + f) = o) : chgN P f a o = 0 := by unfold chgN; rw [if_pos h1, if_pos h2]
/-- what was adopted is adopted -/
theorem adopt_twice {P : PT} (hP : WP P) {f : Nat} (hf : f < P.1 1) : chgN (dropP (hintC P f (adI P f) (adO P f))) f (adI (dropP (hintC P f (adI P f) (adO P f))) f) (adO (dropP (hintC P f (adI P f) (adO P f))) f) = 0 := by
  have hs := hP.sz
  generalize hA : adI P f = A
  generalize hO : adO P f = O
  have e20 : (dropP (hintC P f A O)).1 (20 + f) = P.1 (20 + f) := (hc_k (by omega)).trans (hp_ne (by omega) (by omega))
  have e30 : (dropP (hintC P f A O)).1 (30 + f) = A := (hc_k (by omega)).trans (hp_in (by omega))
  have e40 : (dropP (hintC P f A O)).1 (40 + f) = O := (hc_k (by omega)).trans hp_out
  have eS : (dropP (hintC P f A O)).2 = P.2 := hc_s
  refine chgN_0 ?_ ?_
  · rw [e30]
    unfold adI
    rw [e30]
    by_cases h3 : A = 3
    · rw [if_pos h3]
      refine h3.trans ?_
      have q : P.1 (30 + f) = 3 ∧ guessI P f = 3 := by
        unfold adI at hA
        by_cases z : P.1 (30 + f) = 3
        · rw [if_pos z] at hA; exact ⟨z, hA.trans h3⟩
        · rw [if_neg z] at hA; exact absurd (hA.trans h3) z
      have q2 := q.2
      unfold guessI at q2 ⊢
      rw [e20, eS]
      by_cases z : P.1 (20 + f) = 0
      · rw [if_pos z]
      · rw [if_neg z] at q2 ⊢
        have hst := hP.stp (i := f) (j := 0) (by omega) (by omega)
        unfold needP at q2 ⊢
        by_cases w : 40 ≤ P.2 f 0
        · rw [if_pos w] at q2 ⊢
          rw [hc_k (by omega)]
          by_cases v : P.2 f 0 - 40 = f
          · rw [v, hp_in (by omega)]; exact h3.symm
          · rw [hp_ne (by omega) (by omega)]; exact q2.symm
        · rw [if_neg w] at q2 ⊢; exact q2.symm
    · rw [if_neg h3]
  · rw [e40]
    unfold adO
    rw [e40]
    by_cases h3 : O = 3
    · rw [if_pos h3]
      refine h3.trans ?_
      have q : P.1 (40 + f) = 3 ∧ guessO P f = 3 := by
        unfold adO at hO
        by_cases z : P.1 (40 + f) = 3
        · rw [if_pos z] at hO; exact ⟨z, hO.trans h3⟩
        · rw [if_neg z] at hO; exact absurd (hO.trans h3) z
      have q2 := q.2
      unfold guessO at q2 ⊢
      rw [e20, eS]
      by_cases z : P.1 (20 + f) = 0
      · rw [if_pos z]
      · rw [if_neg z] at q2 ⊢
        have hst := hP.stp (i := f) (j := P.1 (20 + f) - 1) (by omega) (by omega)
        unfold giftP at q2 ⊢
        by_cases w : 40 ≤ P.2 f (P.1 (20 + f) - 1)
        · rw [if_pos w] at q2 ⊢
          rw [hc_k (by omega)]
          by_cases v : P.2 f (P.1 (20 + f) - 1) - 40 = f
          · rw [v, hp_out]; exact h3.symm
          · rw [hp_ne (by omega) (by omega)]; exact q2.symm
        · rw [if_neg w] at q2 ⊢; exact q2.symm
    · rw [if_neg h3]
theorem i32_mig (a b d : Int32) : d = a - (a + b) + (b + d) := by
  apply Int32.toBitVec_inj.1
  show d.toBitVec = a.toBitVec - (a.toBitVec + b.toBitVec) + (b.toBitVec + d.toBitVec)
  bv_omega
theorem mig_eq {k n c c' : Nat} (h : c' = c + k) (hc : c ≤ n) : nI k = nI (n - c) - nI n + nI c' := by
  have e1 : nI n = nI (n - c) + nI c := by rw [nI_add]; congr 1; omega
  have e2 : nI c' = nI c + nI k := by rw [nI_add, h]
  rw [e1, e2]
  exact i32_mig _ _ _
