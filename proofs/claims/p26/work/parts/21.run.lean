/-! A run: who is blamed, what is counted -/
theorem totR_up (a : Nat → Nat → Nat) {r r' c v : Nat} : ∀ n, totR (ts_u2 a r c (a r c + v)) r' n = totR a r' n + (if r' = r ∧ c < n then v else 0)
  | 0 => by simp [totR]
  | n + 1 => by
    have ih := totR_up a (r := r) (r' := r') (c := c) (v := v) n
    simp only [totR]
    rw [ih]
    by_cases e : r' = r
    · subst e
      rw [ts_u2_self]
      by_cases q : n = c
      · subst q
        rw [va_up_self, if_neg (by omega), if_pos (by omega)]
        omega
      · rw [va_up_ne _ _ q]
        by_cases z : c < n
        · rw [if_pos (by omega), if_pos (by omega)]; omega
        · rw [if_neg (by omega), if_neg (by omega)]; omega
    · rw [ts_u2_ne _ _ _ e, if_neg (by omega), if_neg (by omega)]
      omega
theorem totN_up (a : Nat → Nat → Nat) {r c v : Nat} (hc : c < 10) : ∀ n, totN (ts_u2 a r c (a r c + v)) n = totN a n + (if r < n then v else 0)
  | 0 => by simp [totN]
  | n + 1 => by
    have ih := totN_up a (r := r) (c := c) (v := v) hc n
    simp only [totN]
    rw [ih, totR_up]
    by_cases q : n = r
    · subst q
      rw [if_neg (by omega), if_pos ⟨rfl, hc⟩, if_pos (by omega)]
      omega
    · by_cases z : r < n
      · rw [if_pos z, if_neg (by omega), if_pos (by omega)]; omega
      · rw [if_neg z, if_neg (by omega), if_neg (by omega)]; omega
def unB (P : PT) (r : Nat) : Prop := r = 0 ∨ (r ≤ P.1 1 ∧ hasB (P.1 2) (r - 1) = false)
/-- what holds all along a run behind its first call -/
def RT (P : PT) (a : Nat → Nat) (x : Nat) (T : TT) : Prop :=
  (T.2.2 0 = a ∧ 1 ≤ T.1 5) ∧ unB P (T.1 9) ∧ ((T.1 6 = 0 → T.1 8 = 0) ∧ unB P (T.1 8) ∧ (T.1 8 = 0 ∨ T.1 6 ≤ 3)) ∧ totN T.2.2 11 ≤ T.1 2 + x ∧ ∀ r, P.1 1 < r → r ≤ 10 → ∀ c, T.2.2 r c = 0
section RTS
variable {P : PT} {a : Nat → Nat} {x : Nat} {T : TT}
theorem RT.mono (h : RT P a x T) {y : Nat} (hy : x ≤ y) : RT P a y T := ⟨h.1, h.2.1, h.2.2.1, by have := h.2.2.2.1; omega, h.2.2.2.2⟩
theorem RT.fail (h : RT P a x T) {fl rw_ : Nat} (h0 : fl ≠ 0) (hr : unB P rw_) (hf : rw_ = 0 ∨ fl ≤ 3) : RT P a x (failT fl rw_ T) := ⟨h.1, h.2.1, ⟨fun e => absurd e h0, hr, hf⟩, h.2.2.2.1, h.2.2.2.2⟩
theorem RT.look (h : RT P a x T) : RT P a x (lookT T) := h
theorem RT.skip (h : RT P a x T) : RT P a x (skipT T) := h
theorem RT.susp (h : RT P a x T) {rw_ : Nat} (hr : unB P rw_) : RT P a x (suspT rw_ T) := ⟨h.1, hr, h.2.2.1, h.2.2.2.1, h.2.2.2.2⟩
theorem RT.guard (h : RT P a x T) {nd fl rw_ : Nat} (h0 : fl ≠ 0) (h3 : fl ≤ 3) (hr : unB P rw_) : RT P a x (guardT nd fl rw_ T) := by
  unfold guardT
  split
  · split
    · exact h.look
    · exact h.look.fail h0 hr (Or.inr h3)
  · split
    · exact h.skip
    · split
      · exact h.skip.susp hr
      · exact h.skip
theorem RT.deep (h : RT P a x T) (d : Nat) : RT P a x (deepT d T) := by
  refine ⟨⟨h.1.1, ?_⟩, h.2.1, h.2.2.1, h.2.2.2.1, h.2.2.2.2⟩
  have := h.1.2
  show 1 ≤ maxN (T.1 5) d
  unfold maxN
  split <;> omega
theorem RT.cnt (h : RT P a 0 T) {r c : Nat} (h1 : 1 ≤ r) (hr : r ≤ P.1 1) (hn : P.1 1 ≤ 10) (hc : c < P.1 1) : RT P a 1 (cntT r c T) := by
  refine ⟨⟨(ts_u2_ne _ _ _ (by omega)).trans h.1.1, h.1.2⟩, h.2.1, h.2.2.1, ?_, fun r' h1' h2' c' => ?_⟩
  · show totN (ts_u2 T.2.2 r c (T.2.2 r c + 1)) 11 ≤ T.1 2 + 1
    have := h.2.2.2.1
    rw [totN_up _ (by omega), if_pos (by omega)]
    omega
  · show ts_u2 T.2.2 r c _ r' c' = 0
    rw [ts_u2_ne _ _ _ (by omega)]
    exact h.2.2.2.2 r' h1' h2' c'
theorem RT.beg (h : RT P a 1 T) : RT P a 0 (begT T) := ⟨h.1, h.2.1, h.2.2.1, by have := h.2.2.2.1; show totN T.2.2 11 ≤ T.1 2 + 1 + 0; omega, h.2.2.2.2⟩
theorem RT.made (h : RT P a x T) (v : Nat) : RT P a x (madeT v T) := h
theorem RT.begin (hP : WP P) {E : Nat → Nat → TT → TT} (hE : ∀ r c T, 1 ≤ r → r ≤ P.1 1 → c < P.1 1 → RT P a 0 T → RT P a 1 (E r c T)) {f v : Nat} (hf : f < P.1 1) (hv : okS P v) (h : RT P a 1 T) : RT P a 1 (beginT P E f v T) := by
  unfold beginT
  unfold okS at hv
  split
  · exact h.fail (by decide) (Or.inl rfl) (Or.inl rfl)
  · split
    · exact hE _ _ _ (by omega) (by omega) (by omega) h.beg
    · split
      · exact (h.beg.mono (by decide)).made v
      · refine (h.beg.mono (by decide)).fail (by decide) ?_ (Or.inr (by decide))
        split
        · exact h.2.1
        · rename_i hq
          exact Or.inr ⟨by omega, by simpa using hq⟩
theorem RT.go (hP : WP P) {E : Nat → Nat → TT → TT} (hE : ∀ r c T, 1 ≤ r → r ≤ P.1 1 → c < P.1 1 → RT P a 0 T → RT P a 1 (E r c T)) {f : Nat} (hf : f < P.1 1) (h : RT P a 1 T) : ∀ k, k ≤ P.1 (20 + f) → RT P a 1 (goT P E f k T)
  | 0, _ => h
  | k + 1, hk => by
    have ih := RT.go hP hE hf h k (by omega)
    have hs := hP.sz
    unfold goT
    split
    · exact RT.begin hP hE hf (hP.stp (by omega) (by omega)) ih
    · exact ih
theorem RT.first {r c : Nat} (hr : r ≤ P.1 1) (h : RT P a x T) : RT P a x (firstT P r c T) := by
  unfold firstT
  split
  · rename_i hg
    refine h.guard (by decide) (by decide) ?_
    cases r with
    | zero => exact Or.inl rfl
    | succ k =>
      unfold gcB at hg
      simp [hasR] at hg
      exact Or.inr ⟨hr, hg.2.1⟩
  · exact h
theorem RT.last {r c : Nat} (hc : c < P.1 1) (h : RT P a x T) : RT P a x (lastT P r c T) := by
  unfold lastT
  split
  · rename_i hg
    refine h.guard (by decide) (by decide) ?_
    have hg := hg.2
    unfold ggB at hg
    simp at hg
    exact Or.inr ⟨hc, hg.2.1⟩
  · exact h
theorem RT.enter (hP : WP P) : ∀ (n r c : Nat) (T : TT), 1 ≤ r → r ≤ P.1 1 → c < P.1 1 → RT P a 0 T → RT P a 1 (enterT P n r c T)
  | 0, _, _, _, _, _, _, h => (h.mono (by decide)).fail (by decide) (Or.inl rfl) (Or.inl rfl)
  | n + 1, r, c, T, h1, hr, hc, h => by
    have hs := hP.sz
    unfold enterT
    exact RT.last hc (RT.go hP (fun r c T h1 h2 h3 h4 => RT.enter hP n r c T h1 h2 h3 h4) hc (RT.first hr ((h.deep _).cnt h1 hr hs hc)) _ (Nat.le_refl _))
end RTS
theorem totR_zero (r : Nat) : ∀ n, totR (fun _ _ => 0) r n = 0
  | 0 => rfl
  | n + 1 => by simp only [totR, totR_zero r n]
theorem totN_zero : ∀ n, totN (fun _ _ => 0) n = 0
  | 0 => rfl
  | n + 1 => by simp only [totN, totN_zero n, totR_zero n]
theorem RT.run {P : PT} (hP : WP P) {f ty : Nat} {num : Int32} {bud : Nat} (hf : f < P.1 1) : RT P (fun c => if c = f then 1 else 0) 1 (runT P f ty num bud) := by
  have hs := hP.sz
  unfold runT enterT
  refine RT.last hf (RT.go hP (fun r c T h1 h2 h3 h4 => RT.enter hP 11 r c T h1 h2 h3 h4) hf (RT.first (Nat.zero_le _) ?_) _ (Nat.le_refl _))
  refine ⟨⟨?_, by show 1 ≤ maxN 0 1; decide⟩, Or.inl rfl, ⟨fun _ => rfl, Or.inl rfl, Or.inl rfl⟩, ?_, fun r h1 h2 c => ?_⟩
  · show ts_u2 (fun _ _ => 0) 0 f 1 0 = _
    rw [ts_u2_self]
    funext c
    by_cases e : c = f
    · subst e; rw [va_up_self, if_pos rfl]
    · rw [va_up_ne _ _ e, if_neg e]
  · show totN (ts_u2 (fun _ _ => 0) 0 f (0 + 1)) 11 ≤ 0 + 1
    rw [totN_up (fun _ _ => 0) (by omega), if_pos (by decide), totN_zero]
    decide
  · show ts_u2 (fun _ _ => 0) 0 f _ r c = 0
    rw [ts_u2_ne _ _ _ (by omega)]
theorem addN_in (a t : Nat → Nat → Nat) {r c : Nat} (hr : r < 11) (hc : c < 10) : addN a t 11 0 r c = a r c + t r c := if_pos (Or.inl ⟨hr, hc⟩)
theorem addN_out (a t : Nat → Nat → Nat) {r c : Nat} (h : 11 ≤ r ∨ 10 ≤ c) : addN a t 11 0 r c = a r c := if_neg (by omega)
theorem totR_add (a t : Nat → Nat → Nat) {r : Nat} (hr : r < 11) : ∀ n, n ≤ 10 → totR (addN a t 11 0) r n = totR a r n + totR t r n
  | 0, _ => rfl
  | n + 1, h => by
    simp only [totR]
    rw [totR_add a t hr n (by omega), addN_in a t hr (by omega)]
    omega
theorem totN_add (a t : Nat → Nat → Nat) : ∀ n, n ≤ 11 → totN (addN a t 11 0) n = totN a n + totN t n
  | 0, _ => rfl
  | n + 1, h => by
    simp only [totN]
    rw [totN_add a t n (by omega), totR_add a t (by omega) 10 (Nat.le_refl _)]
    omega
theorem tot_row {a a' : Nat → Nat → Nat} (h : ∀ r, r < 11 → a' r = a r) : ∀ n, n ≤ 11 → totN a' n = totN a n
  | 0, _ => rfl
  | n + 1, hn => by
    have e : ∀ j, totR a' n j = totR a n j := fun j => by
      induction j with
      | zero => rfl
      | succ j ih => simp only [totR]; rw [ih, h n (by omega)]
    simp only [totN]
    rw [tot_row h n (by omega), e]
theorem totR_one (f : Nat) (t : Nat → Nat → Nat) (h : t 0 = fun c => if c = f then 1 else 0) : ∀ n, totR t 0 n = if f < n then 1 else 0
  | 0 => rfl
  | n + 1 => by
    simp only [totR]
    rw [totR_one f t h n, h]
    dsimp only
    by_cases q : n = f
    · rw [if_neg (by omega), if_pos q, if_pos (by omega)]
    · rw [if_neg q]
      by_cases z : f < n
      · rw [if_pos z, if_pos (by omega)]
      · rw [if_neg z, if_neg (by omega)]
theorem RT.type {P : PT} (hP : WP P) {f ty : Nat} {num : Int32} {bud : Nat} (hb : bud ≤ 20) (ht : ty ≤ 2) (hf : f < P.1 1) : WT (runT P f ty num bud) := WT.enter hP 12 0 f _ (by decide) (Nat.zero_le _) hf (WT.t0 hb ht)
/-- the blame of a run: that of one who isn't typed, for a failure 1, 2 or 3 -/
theorem RT.blame {P : PT} {a : Nat → Nat} {x : Nat} {T : TT} (h : RT P a x T) (h8 : T.1 8 ≠ 0) : T.1 6 ≠ 0 ∧ T.1 6 ≤ 3 ∧ T.1 8 - 1 < P.1 1 ∧ hasB (P.1 2) (T.1 8 - 1) = false := by
  obtain ⟨h1, h2, h3⟩ := h.2.2.1
  have h4 : ¬ T.1 6 = 0 := fun e => h8 (h1 e)
  have h5 : T.1 6 ≤ 3 := h3.resolve_left h8
  have h6 := h2.resolve_left h8
  exact ⟨h4, h5, by omega, h6.2⟩
theorem book_row (T : TT) (B : BT) {r c : Nat} (hr : r < 11) (hc : c < 10) : (bookB T B).2.2 r c = B.2.2 r c + T.2.2 r c := by
  unfold bookB
  show addN (if T.1 8 = 0 then B.2.2 else ts_u2 B.2.2 11 _ _) T.2.2 11 0 r c = _
  rw [addN_in _ _ hr hc]
  split
  · rfl
  · rw [ts_u2_ne _ _ _ (by omega)]
theorem book_bl (T : TT) (B : BT) (c : Nat) : (bookB T B).2.2 11 c = B.2.2 11 c + (if T.1 8 ≠ 0 ∧ c = T.1 8 - 1 then 1 else 0) := by
  unfold bookB
  show addN (if T.1 8 = 0 then B.2.2 else ts_u2 B.2.2 11 _ _) T.2.2 11 0 11 c = _
  rw [addN_out _ _ (Or.inl (Nat.le_refl _))]
  by_cases q : T.1 8 = 0
  · rw [if_pos q, if_neg (fun h => h.1 q)]; rfl
  · rw [if_neg q, ts_u2_self]
    by_cases e : c = T.1 8 - 1
    · subst e; rw [va_up_self, if_pos ⟨q, rfl⟩]
    · rw [va_up_ne _ _ e, if_neg (fun h => e h.2)]; rfl
theorem book_out (T : TT) (B : BT) {r : Nat} (hr : 11 < r) (c : Nat) : (bookB T B).2.2 r c = B.2.2 r c := by
  unfold bookB
  show addN (if T.1 8 = 0 then B.2.2 else ts_u2 B.2.2 11 _ _) T.2.2 11 0 r c = _
  rw [addN_out _ _ (Or.inl (by omega))]
  split
  · rfl
  · rw [ts_u2_ne _ _ _ (by omega)]
theorem book_tot (T : TT) (B : BT) : totN (bookB T B).2.2 11 = totN B.2.2 11 + totN T.2.2 11 := by
  unfold bookB
  show totN (addN (if T.1 8 = 0 then B.2.2 else ts_u2 B.2.2 11 _ _) T.2.2 11 0) 11 = _
  rw [totN_add _ _ 11 (Nat.le_refl _)]
  split
  · rfl
  · rw [tot_row (a := B.2.2) (fun r hr => ts_u2_ne _ _ _ (by omega)) 11 (Nat.le_refl _)]
theorem book_0 (T : TT) (B : BT) : (bookB T B).1 0 = B.1 0 + 1 := by
  simp only [bookB]
  split <;> simp [va_up]
theorem book_1 (T : TT) (B : BT) : (bookB T B).1 1 = B.1 1 + (if T.1 6 = 0 then 0 else 1) := by
  simp only [bookB]
  split <;> simp [va_up]
theorem book_2 (T : TT) (B : BT) : (bookB T B).1 2 = B.1 2 + costT T := by simp [bookB, va_up]
theorem lat_0 (T : TT) (B : BT) : (bookB T B).2.1 0 = nI (T.1 6) := by simp [bookB, latB, va_up]
theorem lat_1 (T : TT) (B : BT) : (bookB T B).2.1 1 = zI (T.1 8) := by simp [bookB, latB, va_up]
theorem lat_2 (T : TT) (B : BT) : (bookB T B).2.1 2 = nI (costT T) := by simp [bookB, latB, va_up]
theorem lat_3 (T : TT) (B : BT) : (bookB T B).2.1 3 = nI (T.1 3) := by simp [bookB, latB, va_up]
theorem lat_5 (T : TT) (B : BT) : (bookB T B).2.1 5 = nI (if T.1 6 = 0 then T.1 1 else 3) := by
  by_cases h : T.1 6 = 0 <;> simp [bookB, latB, va_up, h]
theorem lat_6 (T : TT) (B : BT) (h : T.1 6 ≠ 0) : (bookB T B).2.1 6 = nI 0 := by simp [bookB, latB, va_up, h]
theorem lat_7 (T : TT) (B : BT) : (bookB T B).2.1 7 = nI (T.1 5) := by simp [bookB, latB, va_up]
theorem val_0 {b : Nat} (h : b < 50) : valI 0 (nI b - nI 25) := by
  refine Or.inl ⟨rfl, ?_⟩
  revert h; revert b
  decide +kernel
theorem val_1 {b : Nat} (h : b < 50) : valI 1 (nI b) := by
  refine Or.inr (Or.inl ⟨rfl, ?_⟩)
  revert h; revert b
  decide +kernel
theorem val_2 {b : Nat} (h : b < 2) : valI 2 (nI b) := by
  refine Or.inr (Or.inr ⟨rfl, ?_, trivial⟩)
  rcases Nat.lt_or_ge b 1 with q | q
  · rw [show b = 0 by omega]; exact Or.inl rfl
  · rw [show b = 1 by omega]; exact Or.inr rfl
theorem zI_lt0 {r : Nat} (h : r < 2 ^ 31) : zI r < 0 ↔ r = 0 := by
  rw [← Int32.not_le, zI_ge0 h]
  exact Decidable.not_not
def gB (T : TT) (g : Nat → Nat) : Nat → Nat := if T.1 8 = 0 then g else va_up g (T.1 8 - 1) (g (T.1 8 - 1) + 1)
theorem gB_0 {T : TT} {g : Nat → Nat} (h : T.1 8 = 0) : gB T g = g := if_pos h
theorem gB_1 {T : TT} {g : Nat → Nat} (h : T.1 8 ≠ 0) : gB T g = va_up g (T.1 8 - 1) (g (T.1 8 - 1) + 1) := if_neg h
theorem fnat_up (g : Nat → Nat) (i v : Nat) : ∀ j, j < 10 → fnat (va_up g i v) j = if j = i then nI v else fnat g j := fun j _ => by
  by_cases h : j = i
  · subst h; simp [fnat, va_up]
  · simp [fnat, va_up, h]
