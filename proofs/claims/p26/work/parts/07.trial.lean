/-! The trial in numbers. T.1: 0 budget, 1 type, 2 begun, 3 looked, 4 skipped, 5 deepest, 6 failure, 7 hasSuspect, 8 blame (0 nobody, k + 1 the function k), 9 suspect; T.2.1 0 the number; T.2.2 the calls by who calls and who is called -/
def T0 (bud ty : Nat) (num : Int32) : TT := (fun k => if k = 0 then bud else if k = 1 then ty else 0, fun _ => num, fun _ _ => 0)
def failT (fl rw_ : Nat) (T : TT) : TT := (va_up (va_up T.1 6 fl) 8 rw_, T.2)
def lookT (T : TT) : TT := (va_up T.1 3 (T.1 3 + 1), T.2)
def skipT (T : TT) : TT := (va_up T.1 4 (T.1 4 + 1), T.2)
def suspT (rw_ : Nat) (T : TT) : TT := (va_up (va_up T.1 7 1) 9 rw_, T.2)
def guardT (nd fl rw_ : Nat) (T : TT) : TT := if T.1 3 < T.1 0 then (if nd = T.1 1 then lookT T else failT fl rw_ (lookT T)) else (if nd = T.1 1 then skipT T else if T.1 7 = 0 then suspT rw_ (skipT T) else skipT T)
def maxI (x y : Int32) : Int32 := if x < y then y else x
def minI (x y : Int32) : Int32 := if y < x then y else x
def absI (x : Int32) : Int32 := if 0 ≤ x then x else 0 - x
def maxN (a b : Nat) : Nat := if a < b then b else a
theorem ts_maxN {a b : Nat} (ha : a < 2 ^ 31) (hb : b < 2 ^ 31) : (if nI a < nI b then nI b else nI a) = nI (maxN a b) := by
  unfold maxN
  by_cases h : a < b
  · rw [if_pos h, if_pos (nI_lt h hb)]
  · rw [if_neg h, if_neg (nI_nlt (by omega) ha)]
def deepT (d : Nat) (T : TT) : TT := (va_up T.1 5 (maxN (T.1 5) d), T.2)
def cntT (r c : Nat) (T : TT) : TT := (T.1, T.2.1, ts_u2 T.2.2 r c (T.2.2 r c + 1))
def begT (T : TT) : TT := (va_up T.1 2 (T.1 2 + 1), T.2)
def digI (x : Int32) : Int32 := if nI 10 ≤ absI x then (if nI 100 ≤ absI x then nI 3 else nI 2) else nI 1
def shownI (ty : Nat) (x : Int32) : Int32 := if ty = 1 then x else if ty = 2 then (if x = nI 1 then nI 4 else nI 5) else if 0 ≤ x then digI x else digI x + nI 1
def madeI (ty v : Nat) (x : Int32) : Int32 := if v = 20 then x else if v = 21 then shownI ty x else if v = 22 then (if x ≤ 0 then nI 0 else nI 1) else if v = 23 then nI 1 - x else if v = 24 then maxI (-999) (x - nI 5) else minI (nI 999) (x + nI v)
def madeT (v : Nat) (T : TT) : TT := (va_up T.1 1 (plainG v), va_up T.2.1 0 (madeI (T.1 1) v (T.2.1 0)), T.2.2)
def beginT (P : PT) (E : Nat → Nat → TT → TT) (f v : Nat) (T : TT) : TT :=
  if 200 ≤ T.1 2 then failT 5 0 T
  else if 40 ≤ v then E (f + 1) (v - 40) (begT T)
  else if plainN v = 3 ∨ plainN v = T.1 1 then madeT v (begT T)
  else failT 1 (if hasB (P.1 2) f = true then T.1 9 else f + 1) (begT T)
def goT (P : PT) (E : Nat → Nat → TT → TT) (f : Nat) : Nat → TT → TT
  | 0, T => T
  | k + 1, T => if (goT P E f k T).1 6 = 0 then beginT P E f (P.2 f k) (goT P E f k T) else goT P E f k T
def firstT (P : PT) (r c : Nat) (T : TT) : TT := if gcB P r c (P.1 2) = true then guardT (P.1 (30 + c)) 2 r T else T
def lastT (P : PT) (r c : Nat) (T : TT) : TT := if T.1 6 = 0 ∧ ggB P r c (P.1 2) = true then guardT (P.1 (40 + c)) 3 (c + 1) T else T
def enterT (P : PT) : Nat → Nat → Nat → TT → TT
  | 0, _, _, T => failT 4 0 T
  | n + 1, r, c, T => lastT P r c (goT P (enterT P n) c (P.1 (20 + c)) (firstT P r c (cntT r c (deepT (12 - n) T))))
def runT (P : PT) (f ty : Nat) (num : Int32) (bud : Nat) : TT := enterT P 12 0 f (T0 bud ty num)
def costT (T : TT) : Nat := T.1 2 + 2 * T.1 3
def WT (T : TT) : Prop := T.1 0 ≤ 20 ∧ T.1 1 ≤ 2 ∧ T.1 2 ≤ 200 ∧ T.1 3 ≤ 20 ∧ T.1 5 ≤ 12 ∧ T.1 6 ≤ 5 ∧ T.1 7 ≤ 1 ∧ T.1 8 ≤ 10 ∧ T.1 9 ≤ 10
theorem WT.t0 {bud ty : Nat} {num : Int32} (h1 : bud ≤ 20) (h2 : ty ≤ 2) : WT (T0 bud ty num) := by simp [WT, T0]; omega
theorem WT.fail {T : TT} (h : WT T) {fl r : Nat} (h1 : fl ≤ 5) (h2 : r ≤ 10) : WT (failT fl r T) := by simp [WT, failT, va_up] at *; omega
theorem WT.guard {T : TT} (h : WT T) {nd fl r : Nat} (h1 : fl ≤ 5) (h2 : r ≤ 10) : WT (guardT nd fl r T) := by
  unfold guardT
  split
  · split <;> (simp [WT, failT, lookT, va_up] at *; omega)
  · split
    · simp [WT, skipT, va_up] at *; omega
    · split <;> (simp [WT, suspT, skipT, va_up] at *; omega)
theorem WT.deep {T : TT} (h : WT T) {d : Nat} (h1 : d ≤ 12) : WT (deepT d T) := by
  simp [WT, deepT, va_up, maxN] at *
  split <;> omega
theorem WT.cnt {T : TT} (h : WT T) (r c : Nat) : WT (cntT r c T) := h
theorem WT.beg {T : TT} (h : WT T) (h1 : T.1 2 < 200) : WT (begT T) := by simp [WT, begT, va_up] at *; omega
theorem WT.made {T : TT} (h : WT T) (v : Nat) : WT (madeT v T) := by
  have := plainG_le v
  simp [WT, madeT, va_up] at *
  omega
theorem WT.begin {P : PT} (hP : WP P) {E : Nat → Nat → TT → TT} (hE : ∀ r c T, r ≤ 10 → c < P.1 1 → WT T → WT (E r c T)) {f v : Nat} (hf : f < 10) (hv : okS P v) {T : TT} (h : WT T) : WT (beginT P E f v T) := by
  unfold beginT
  unfold okS at hv
  split
  · exact h.fail (by omega) (by omega)
  · split
    · exact hE _ _ _ (by omega) (by omega) (h.beg (by omega))
    · split
      · exact (h.beg (by omega)).made v
      · refine (h.beg (by omega)).fail (by omega) ?_
        split
        · exact h.2.2.2.2.2.2.2.2
        · omega
theorem WT.go {P : PT} (hP : WP P) {E : Nat → Nat → TT → TT} (hE : ∀ r c T, r ≤ 10 → c < P.1 1 → WT T → WT (E r c T)) {f : Nat} (hf : f < 10) {T : TT} (h : WT T) : ∀ k, k ≤ P.1 (20 + f) → WT (goT P E f k T)
  | 0, _ => h
  | k + 1, hk => by
    have ih := WT.go hP hE hf h k (by omega)
    unfold goT
    split
    · exact WT.begin hP hE hf (hP.stp hf (by omega)) ih
    · exact ih
theorem WT.first {P : PT} {r c : Nat} (hr : r ≤ 10) {T : TT} (h : WT T) : WT (firstT P r c T) := by
  unfold firstT
  split
  · exact h.guard (by omega) hr
  · exact h
theorem WT.last {P : PT} {r c : Nat} (hc : c < 10) {T : TT} (h : WT T) : WT (lastT P r c T) := by
  unfold lastT
  split
  · exact h.guard (by omega) (by omega)
  · exact h
theorem WT.enter {P : PT} (hP : WP P) : ∀ (n r c : Nat) (T : TT), n ≤ 13 → r ≤ 10 → c < P.1 1 → WT T → WT (enterT P n r c T)
  | 0, _, _, _, _, _, _, h => h.fail (by omega) (by omega)
  | n + 1, r, c, T, hn, hr, hc, h => by
    have hs := hP.sz
    unfold enterT
    exact WT.last (by omega) (WT.go hP (fun r c T h1 h2 h3 => WT.enter hP n r c T (by omega) h1 h2 h3) (by omega) (WT.first hr ((h.deep (by omega)).cnt r c)) _ (Nat.le_refl _))
theorem goT_stop {P : PT} {E : Nat → Nat → TT → TT} {f : Nat} {T : TT} {k : Nat} (h : (goT P E f k T).1 6 ≠ 0) : ∀ j, goT P E f (k + j) T = goT P E f k T
  | 0 => rfl
  | j + 1 => by
    have ih := goT_stop h j
    show (if (goT P E f (k + j) T).1 6 = 0 then _ else goT P E f (k + j) T) = _
    rw [ih, if_neg h]
/-- the world tells no difference between trials that agree where it looks -/
theorem ts_eqv {D : va_G} {q : CQ} {b : Nat} {u u' : ST} {H : Heap} (hP : u'.1 = u.1) (hF : u'.2.1 = u.2.1) (hB : u'.2.2.2 = u.2.2.2) (h1 : ∀ k, k < 10 → u'.2.2.1.1 k = u.2.2.1.1 k) (h2 : u'.2.2.1.2.1 0 = u.2.2.1.2.1 0) (h3 : ∀ r c, r < 11 → c < 10 → u'.2.2.1.2.2 r c = u.2.2.1.2.2 r c) (hW : ts_W D b 52 (cel q b u) H) : ts_W D b 52 (cel q b u') H := by
  intro k hk
  have h := hW k hk
  by_cases e : k = 24
  · subst e
    rw [cel_tr] at h ⊢
    rw [h1 0 (by decide), h1 1 (by decide), h1 2 (by decide), h1 3 (by decide), h1 4 (by decide), h1 5 (by decide), h1 6 (by decide), h1 7 (by decide), h1 8 (by decide), h1 9 (by decide), h2]
    exact h
  · by_cases e2 : 26 ≤ k ∧ k < 37
    · obtain ⟨i, rfl⟩ : ∃ i, k = 26 + i := ⟨k - 26, by omega⟩
      rw [cel_tw (by omega)] at h ⊢
      have h4 : H[b + (26 + i)]? = some (arrV q.1 10 (fun j => .int (fnat (u.2.2.1.2.2 i) j))) := h
      show H[b + (26 + i)]? = some (arrV q.1 10 (fun j => .int (fnat (u'.2.2.1.2.2 i) j)))
      rw [h4]
      congr 1
      apply ts_arr
      intro j hj
      show Value.int (nI _) = Value.int (nI _)
      rw [h3 i j (by omega) hj]
    · have e3 : cel q b u' k = cel q b u k := by
        unfold cel
        rw [hP, hF, hB]
        have : k = 0 ∨ k = 1 ∨ k = 2 ∨ k < 23 ∨ k = 23 ∨ k = 25 ∨ ¬ k < 37 := by omega
        rcases this with c | c | c | c | c | c | c
        · simp [c]
        · simp [c]
        · simp [c]
        · simp [c]
        · simp [c]
        · simp [c]
        · rw [if_neg (show ¬ k = 24 by omega), if_neg (show ¬ k = 24 by omega), if_neg c, if_neg c]
      rw [e3]
      exact h
def clrN (a : Nat → Nat → Nat) (k j : Nat) : Nat → Nat → Nat := fun r c => if (r < k ∧ c < 10) ∨ (r = k ∧ c < j) then 0 else a r c
theorem clrN_0 (a : Nat → Nat → Nat) : clrN a 0 0 = a := by
  funext r c
  unfold clrN
  rw [if_neg (by omega)]
theorem clrN_s (a : Nat → Nat → Nat) (k j : Nat) : ts_u2 (clrN a k j) k j 0 = clrN a k (j + 1) := by
  funext r c
  by_cases h : r = k
  · subst h
    rw [ts_u2_self]
    by_cases hc : c = j
    · subst hc
      rw [va_up_self]
      unfold clrN
      rw [if_pos (by omega)]
    · rw [va_up_ne _ _ hc]
      unfold clrN
      by_cases hq : c < j
      · rw [if_pos (by omega), if_pos (by omega)]
      · rw [if_neg (by omega), if_neg (by omega)]
  · rw [ts_u2_ne _ _ _ h]
    unfold clrN
    by_cases hq : r < k ∧ c < 10
    · rw [if_pos (by omega), if_pos (by omega)]
    · rw [if_neg (by omega), if_neg (by omega)]
theorem clrN_n (a : Nat → Nat → Nat) (k : Nat) : clrN a k 10 = clrN a (k + 1) 0 := by
  funext r c
  unfold clrN
  by_cases hq : r < k + 1 ∧ c < 10
  · rw [if_pos (by omega), if_pos (by omega)]
  · rw [if_neg (by omega), if_neg (by omega)]
/-- the room of a nested entry -/
def rE (n : Nat) : Room := { frames := 3 * n + 5, cells := 0, slots := 0, locals := 71 * n + 200 }
def EnterOK (l : Launch) (D : va_G) (q : CQ) (b n : Nat) : Prop := ∀ (sz : Nat) (u : ST) (r c d : Nat), WP u.1 → WT u.2.2.1 → r ≤ 10 → c < u.1.1 1 → d + n = 13 →
  Met l yX4_enter wsX4_enter (rE n) (va_Pc [.ref (b + 24), .int (zI r), .int (nI c), .int (nI d)] (Pr D q b sz u)) (cV D q b sz (fun u' => u' = (u.1, u.2.1, enterT u.1 n r c u.2.2.1, u.2.2.2))) 0 0 (ts_A b 52 sz)
