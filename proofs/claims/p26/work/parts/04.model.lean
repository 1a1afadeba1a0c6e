/-! Numbers of the machine, and the station in numbers -/
theorem ts_lays {big ws : List Cond} (p : Nat) (h : (big.drop p).take ws.length = ws) : ∀ w ∈ ws, w ∈ big := fun w hw => List.mem_of_mem_drop (List.mem_of_mem_take (by rw [h]; exact hw))
def ts_u2 (a : Nat → Nat → Nat) (r j v : Nat) : Nat → Nat → Nat := fun r' => if r' = r then va_up (a r) j v else a r'
theorem ts_u2_ne (a : Nat → Nat → Nat) {r r' : Nat} (j v : Nat) (h : r' ≠ r) : ts_u2 a r j v r' = a r' := if_neg h
theorem ts_u2_self (a : Nat → Nat → Nat) (r j v : Nat) : ts_u2 a r j v r = va_up (a r) j v := if_pos rfl
theorem ts_u2_row (a : Nat → Nat → Nat) (r i v j : Nat) : fnat (ts_u2 a r i v r) j = if j = i then nI v else fnat (a r) j := by
  rw [ts_u2_self]
  by_cases h : j = i
  · subst h; simp [fnat, va_up]
  · simp [fnat, va_up, h]
def b2i (B : Bool) : Int32 := if B = true then 1 else 0
theorem b2i_eq (B : Bool) : (b2i B = 0) = (B = false) := by cases B <;> simp [b2i]
theorem b2i_nar (B : Bool) : narrow .boolean (.int (b2i B)) = .int (b2i B) := by cases B <;> rfl
theorem b2i_t : b2i true = nI 1 := rfl
theorem b2i_f : b2i false = nI 0 := rfl
theorem ts_eq0 {n : Nat} (h : n < 2 ^ 31) : nI n = 0 ↔ n = 0 := by rw [show (0 : Int32) = nI 0 from rfl, nI_eq h (by omega)]
theorem ts_lt0 {n : Nat} (h : n < 2 ^ 31) : nI n < 0 ↔ n < 0 := by rw [show (0 : Int32) = nI 0 from rfl, nI_ltI h (by omega)]
theorem ts_ge0 {n : Nat} (h : n < 2 ^ 31) : 0 ≤ nI n ↔ 0 ≤ n := by rw [show (0 : Int32) = nI 0 from rfl, nI_leI (by omega) h]
theorem ts_gt0 {n : Nat} (h : n < 2 ^ 31) : 0 < nI n ↔ 0 < n := by rw [show (0 : Int32) = nI 0 from rfl, nI_ltI (by omega) h]
theorem ts_le0 {n : Nat} (h : n < 2 ^ 31) : nI n ≤ 0 ↔ n ≤ 0 := by rw [show (0 : Int32) = nI 0 from rfl, nI_leI h (by omega)]
theorem ts_or (a b : Nat) : nI a ||| nI b = nI (a ||| b) := by
  apply Int32.toBitVec_inj.mp
  simp [nI, Int32.toBitVec_or, Int32.ofNat]
theorem ts_shl {i : Nat} (h : i < 31) : nI 1 <<< (nI i &&& 31) = nI (2 ^ i) := by
  have := pk_shlN (n := 1) (nI i &&& 31) i (by revert h; revert i; decide +kernel) (by
    have : 2 ^ i < 2 ^ 31 := Nat.pow_lt_pow_right (by decide) h
    omega)
  rw [this, Nat.one_mul]
theorem ts_bit {s i : Nat} (hs : s < 2 ^ 31) (hi : i < 31) : (nI s >>> (nI i &&& 31)) &&& nI 1 = nI (s / 2 ^ i % 2) := by
  rw [pk_shrN hs (nI i &&& 31) i (by revert hi; revert i; decide +kernel)]
  exact pk_andN (by have : s / 2 ^ i ≤ s := Nat.div_le_self _ _; omega) 1 (by decide)
/-- what a plain step needs and gives -/
def plainN (v : Nat) : Nat := if v = 20 then 1 else if v = 21 then 3 else if v = 23 then 2 else 0
def plainG (v : Nat) : Nat := if v = 21 then 1 else if v = 22 then 2 else if v = 23 then 2 else 0
theorem plainN_le (v : Nat) : plainN v ≤ 3 := by unfold plainN; repeat' split <;> omega
theorem plainG_le (v : Nat) : plainG v ≤ 2 := by unfold plainG; repeat' split <;> omega
/-- the station's program is well made -/
def WP (P : PT) : Prop := P.1 0 ≤ 20 ∧ P.1 1 ≤ 10 ∧ P.1 2 < 1024 ∧ ∀ i, i < 10 → P.1 (20 + i) ≤ 6 ∧ P.1 (30 + i) ≤ 3 ∧ P.1 (40 + i) ≤ 3 ∧ ∀ j, j < P.1 (20 + i) → (P.2 i j ≤ 9 ∨ (20 ≤ P.2 i j ∧ P.2 i j ≤ 24) ∨ (40 ≤ P.2 i j ∧ P.2 i j < 40 + P.1 1))
theorem WP.bu {P : PT} (h : WP P) : P.1 0 ≤ 20 := h.1
theorem WP.sz {P : PT} (h : WP P) : P.1 1 ≤ 10 := h.2.1
theorem WP.ty {P : PT} (h : WP P) : P.1 2 < 1024 := h.2.2.1
theorem WP.fsz {P : PT} (h : WP P) {i : Nat} (hi : i < 10) : P.1 (20 + i) ≤ 6 := (h.2.2.2 i hi).1
theorem WP.fin {P : PT} (h : WP P) {i : Nat} (hi : i < 10) : P.1 (30 + i) ≤ 3 := (h.2.2.2 i hi).2.1
theorem WP.fout {P : PT} (h : WP P) {i : Nat} (hi : i < 10) : P.1 (40 + i) ≤ 3 := (h.2.2.2 i hi).2.2.1
theorem WP.stp {P : PT} (h : WP P) {i j : Nat} (hi : i < 10) (hj : j < P.1 (20 + i)) : P.2 i j ≤ 9 ∨ (20 ≤ P.2 i j ∧ P.2 i j ≤ 24) ∨ (40 ≤ P.2 i j ∧ P.2 i j < 40 + P.1 1) := (h.2.2.2 i hi).2.2.2 j hj
def okS (P : PT) (v : Nat) : Prop := v ≤ 9 ∨ (20 ≤ v ∧ v ≤ 24) ∨ (40 ≤ v ∧ v < 40 + P.1 1)
def isCallB (v : Nat) : Bool := decide (40 ≤ v)
def needP (P : PT) (v : Nat) : Nat := if 40 ≤ v then P.1 (30 + (v - 40)) else plainN v
def giftP (P : PT) (v : Nat) : Nat := if 40 ≤ v then P.1 (40 + (v - 40)) else plainG v
theorem needP_le {P : PT} (h : WP P) {v : Nat} (hv : okS P v) : needP P v ≤ 3 := by
  have hs := h.sz
  unfold okS at hv
  unfold needP
  split
  · exact h.fin (by omega)
  · exact plainN_le v
theorem giftP_le {P : PT} (h : WP P) {v : Nat} (hv : okS P v) : giftP P v ≤ 3 := by
  have hs := h.sz
  unfold okS at hv
  unfold giftP
  split
  · exact h.fout (by omega)
  · have := plainG_le v
    omega
def guessI (P : PT) (f : Nat) : Nat := if P.1 (20 + f) = 0 then 3 else needP P (P.2 f 0)
def guessO (P : PT) (f : Nat) : Nat := if P.1 (20 + f) = 0 then 3 else giftP P (P.2 f (P.1 (20 + f) - 1))
/-- one more need that is looked at -/
def needF (F : FT) (needed there place : Nat) : FT := if needed = 3 ∨ needed = there then F else if there = 3 then (F.1, F.2.1, F.2.2 + 1) else (F.1 + 1, (if F.1 = 0 then nI place else F.2.1), F.2.2)
def thereP (P : PT) (f : Nat) : Nat → Nat
  | 0 => P.1 (30 + f)
  | k + 1 => giftP P (P.2 f k)
def chkN (P : PT) (f : Nat) : Nat → FT
  | 0 => (0, -1, 0)
  | k + 1 => needF (chkN P f k) (needP P (P.2 f k)) (thereP P f k) k
def chkA (P : PT) (f : Nat) : FT := needF (chkN P f (P.1 (20 + f))) (P.1 (40 + f)) (thereP P f (P.1 (20 + f))) (P.1 (20 + f))
theorem needF_le (F : FT) (a b c : Nat) : (needF F a b c).1 ≤ F.1 + 1 ∧ (needF F a b c).2.2 ≤ F.2.2 + 1 := by
  unfold needF
  split
  · exact ⟨Nat.le_succ _, Nat.le_succ _⟩
  · split
    · exact ⟨Nat.le_succ _, Nat.le_refl _⟩
    · exact ⟨Nat.le_refl _, Nat.le_succ _⟩
theorem chkN_le (P : PT) (f : Nat) : ∀ k, (chkN P f k).1 ≤ k ∧ (chkN P f k).2.2 ≤ k
  | 0 => ⟨Nat.le_refl _, Nat.le_refl _⟩
  | k + 1 => by
    have h := chkN_le P f k
    have g := needF_le (chkN P f k) (needP P (P.2 f k)) (thereP P f k) k
    show (needF _ _ _ _).1 ≤ _ ∧ (needF _ _ _ _).2.2 ≤ _
    omega
theorem chkA_le {P : PT} (h : WP P) {f : Nat} (hf : f < 10) : (chkA P f).1 ≤ 7 ∧ (chkA P f).2.2 ≤ 7 := by
  have h1 := chkN_le P f (P.1 (20 + f))
  have h2 := needF_le (chkN P f (P.1 (20 + f))) (P.1 (40 + f)) (thereP P f (P.1 (20 + f))) (P.1 (20 + f))
  have h3 := h.fsz hf
  unfold chkA
  omega
def noneF (F : FT) : Bool := decide (F.1 = 0) && decide (F.2.2 = 0)
def okF (P : PT) (f : Nat) : Bool := noneF (chkA P f)
/-- the set of functions that can be typed, of the first k; a set is a number, a bit each -/
def setB (s i : Nat) : Nat := s ||| 2 ^ i
def hasB (s i : Nat) : Bool := decide (s / 2 ^ i % 2 = 1)
def typN (P : PT) : Nat → Nat
  | 0 => 0
  | k + 1 => if okF P k = true then setB (typN P k) k else typN P k
def fltN (P : PT) : Nat → Nat
  | 0 => 0
  | k + 1 => fltN P k + (chkA P k).1
def mentB (P : PT) (f v : Nat) : Nat → Bool
  | 0 => false
  | k + 1 => mentB P f v k || decide (P.2 f k = v)
def calN (P : PT) (f : Nat) : Nat → Nat
  | 0 => 0
  | k + 1 => calN P f k + (if k ≠ f ∧ mentB P k (40 + f) (P.1 (20 + k)) = true then 1 else 0)
