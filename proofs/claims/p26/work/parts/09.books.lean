/-! The books, the tolls and the digest in numbers -/
theorem zI_m1 {r : Nat} (h : r < 2 ^ 31) : zI r = -1 ↔ r = 0 := by
  cases r with
  | zero => exact ⟨fun _ => rfl, fun _ => rfl⟩
  | succ k => exact ⟨fun e => absurd e (ts_nem1 (by omega)), fun e => absurd e (Nat.succ_ne_zero k)⟩
theorem zI_pred {r : Nat} (h : r ≠ 0) : zI r = nI (r - 1) := by
  cases r with
  | zero => exact absurd rfl h
  | succ k => rfl
def addN (a t : Nat → Nat → Nat) (k j : Nat) : Nat → Nat → Nat := fun r c => if (r < k ∧ c < 10) ∨ (r = k ∧ c < j) then a r c + t r c else a r c
theorem addN_0 (a t : Nat → Nat → Nat) : addN a t 0 0 = a := by
  funext r c
  unfold addN
  rw [if_neg (by omega)]
theorem addN_s (a t : Nat → Nat → Nat) (k j : Nat) : ts_u2 (addN a t k j) k j (addN a t k j k j + t k j) = addN a t k (j + 1) := by
  funext r c
  by_cases h : r = k
  · subst h
    rw [ts_u2_self]
    by_cases hc : c = j
    · subst hc
      rw [va_up_self]
      unfold addN
      rw [if_neg (by omega), if_pos (by omega)]
    · rw [va_up_ne _ _ hc]
      unfold addN
      by_cases hq : c < j
      · rw [if_pos (by omega), if_pos (by omega)]
      · rw [if_neg (by omega), if_neg (by omega)]
  · rw [ts_u2_ne _ _ _ h]
    unfold addN
    by_cases hq : r < k ∧ c < 10
    · rw [if_pos (by omega), if_pos (by omega)]
    · rw [if_neg (by omega), if_neg (by omega)]
theorem addN_n (a t : Nat → Nat → Nat) (k : Nat) : addN a t k 10 = addN a t (k + 1) 0 := by
  funext r c
  unfold addN
  by_cases hq : r < k + 1 ∧ c < 10
  · rw [if_pos (by omega), if_pos (by omega)]
  · rw [if_neg (by omega), if_neg (by omega)]
def latB (T : TT) (g : Nat → Int32) : Nat → Int32 := va_up (va_up (va_up (va_up (va_up (va_up (va_up (va_up g 0 (nI (T.1 6))) 1 (zI (T.1 8))) 2 (nI (costT T))) 3 (nI (T.1 3))) 4 (nI (T.1 4))) 5 (if T.1 6 = 0 then nI (T.1 1) else nI 3)) 6 (if T.1 6 = 0 then T.2.1 0 else nI 0)) 7 (nI (T.1 5))
def bookB (T : TT) (B : BT) : BT := (va_up (if T.1 6 = 0 then va_up B.1 0 (B.1 0 + 1) else va_up (va_up B.1 0 (B.1 0 + 1)) 1 (B.1 1 + 1)) 2 (B.1 2 + costT T), latB T B.2.1, addN (if T.1 8 = 0 then B.2.2 else ts_u2 B.2.2 11 (T.1 8 - 1) (B.2.2 11 (T.1 8 - 1) + 1)) T.2.2 11 0)
def sumN (a : Nat → Nat → Nat) (f : Nat) : Nat → Nat
  | 0 => 0
  | k + 1 => sumN a f k + a k f
theorem typN_lt (P : PT) : ∀ k, k ≤ 10 → typN P k < 1024
  | 0, _ => by show (0 : Nat) < 1024; decide
  | k + 1, h => by
    have ih := typN_lt P k (by omega)
    unfold typN
    split
    · exact Nat.or_lt_two_pow (n := 10) ih (Nat.pow_lt_pow_right (by decide) (by omega))
    · exact ih
theorem setB_lt {s i : Nat} (hs : s < 1024) (hi : i < 10) : setB s i < 1024 := Nat.or_lt_two_pow (n := 10) hs (Nat.pow_lt_pow_right (by decide) hi)
def tolR (P : PT) (a : Nat → Nat → Nat) (s r : Nat) : Nat → Nat
  | 0 => 0
  | j + 1 => tolR P a s r j + (if gcB P r j s = true ∨ ggB P r j s = true then 2 * a r j else 0)
def tolN (P : PT) (a : Nat → Nat → Nat) (s : Nat) : Nat → Nat
  | 0 => 0
  | k + 1 => tolN P a s k + tolR P a s k (P.1 1)
def tolA (P : PT) (a : Nat → Nat → Nat) (s : Nat) : Nat := tolN P a s (P.1 1 + 1)
def gainI (P : PT) (a : Nat → Nat → Nat) (f : Nat) : Int32 := nI (tolA P a (P.1 2)) - nI (tolA P a (setB (P.1 2) f))
/-- the best of the first k that are open: 0 none, f + 1 the function f; and its gain -/
def nxtN (P : PT) (a : Nat → Nat → Nat) (o : Nat) : Nat → Nat × Int32
  | 0 => (0, nI 0)
  | k + 1 => if hasB o k = true then (if (nxtN P a o k).1 = 0 ∨ ¬ gainI P a k ≤ (nxtN P a o k).2 then (k + 1, gainI P a k) else nxtN P a o k) else nxtN P a o k
def openN (P : PT) : Nat := diffN (typN P (P.1 1)) (P.1 2)
def nextN (P : PT) (a : Nat → Nat → Nat) : Nat := (nxtN P a (openN P) (P.1 1)).1
theorem nxtN_le (P : PT) (a : Nat → Nat → Nat) (o : Nat) : ∀ k, (nxtN P a o k).1 ≤ k
  | 0 => Nat.le_refl _
  | k + 1 => by
    have := nxtN_le P a o k
    simp only [nxtN]
    (repeat' split) <;> (try dsimp only) <;> omega
def ofFI (P : PT) (B : BT) (f w : Nat) : Int32 := if w = 0 then nI (P.1 (20 + f)) else if w = 1 then nI (P.1 (30 + f)) else if w = 2 then nI (P.1 (40 + f)) else if w = 3 then b2i (hasB (P.1 2) f) else if w = 4 then nI (chkA P f).1 else if w = 5 then (chkA P f).2.1 else if w = 6 then nI (chkA P f).2.2 else if w = 7 then nI (guessI P f) else if w = 8 then nI (guessO P f) else if w = 9 then nI (calN P f (P.1 1)) else nI (sumN B.2.2 f 11)
def manyN (P : PT) (B : BT) (w : Nat) : Nat := if w = 0 then P.1 1 else if w = 1 then cntB (P.1 2) 10 else if w = 2 then cntB (typN P (P.1 1)) 10 else if w = 3 then fltN P (P.1 1) else if w = 4 then P.1 3 else if w = 5 then B.1 0 else if w = 6 then B.1 1 else if w = 7 then B.1 2 else tolA P B.2.2 (P.1 2)
def valI (ty : Nat) (num : Int32) : Prop := (ty = 0 ∧ ¬ num < (-999) ∧ ¬ nI 999 < num) ∨ (ty = 1 ∧ ¬ num < 0 ∧ ¬ nI 999 < num) ∨ (ty = 2 ∧ (num = 0 ∨ num = nI 1) ∧ True)
theorem valI.le {ty : Nat} {num : Int32} (h : valI ty num) : ty ≤ 2 := by
  rcases h with h | h | h <;> omega
def mixL (d : Int64) (v : Int32) : Int64 := d * 31 + v.toInt64
def mixO (P : PT) (B : BT) (f : Nat) (d : Int64) : Nat → Int64
  | 0 => d
  | k + 1 => mixL (mixO P B f d k) (ofFI P B f k)
def mixS (P : PT) (f : Nat) (d : Int64) : Nat → Int64
  | 0 => d
  | k + 1 => mixL (mixS P f d k) (nI (P.2 f k))
def mixF (P : PT) (B : BT) (f : Nat) (d : Int64) : Int64 :=
  mixL (mixL (mixL (mixL (mixL (mixS P f (mixO P B f d 11) (P.1 (20 + f))) (nI (B.2.2 11 f))) (gainI P B.2.2 f)) (zI ((runT P f 0 (nI 3) (P.1 0)).1 8))) (zI ((runT P f 1 (nI 3) (P.1 0)).1 8))) (zI ((runT P f 2 (nI 1) (P.1 0)).1 8))
def digM (P : PT) (B : BT) (d : Int64) : Nat → Int64
  | 0 => d
  | k + 1 => mixL (digM P B d k) (nI (manyN P B k))
def digL (B : BT) (d : Int64) : Nat → Int64
  | 0 => d
  | k + 1 => mixL (digL B d k) (B.2.1 k)
def digF (P : PT) (B : BT) (d : Int64) : Nat → Int64
  | 0 => d
  | k + 1 => mixF P B k (digF P B d k)
def digA (P : PT) (B : BT) : Int64 := mixL (mixL (digF P B (digL B (digM P B 58113 9) 8) (P.1 1)) (zI (nextN P B.2.2))) (nI (tolA P B.2.2 (typN P (P.1 1))))
