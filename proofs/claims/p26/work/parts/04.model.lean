/-! Numbers of the machine, and the station in numbers -/
theorem ts_lays {big ws : List Cond} (p : Nat) (h : (big.drop p).take ws.length = ws) : ∀ w ∈ ws, w ∈ big := fun w hw => List.mem_of_mem_drop (List.mem_of_mem_take (by rw [h]; exact hw))
def ts_u2 (a : Nat → Nat → Nat) (r j v : Nat) : Nat → Nat → Nat := fun r' => if r' = r then va_up (a r) j v else a r'
theorem ts_u2_ne (a : Nat → Nat → Nat) {r r' : Nat} (j v : Nat) (h : r' ≠ r) : ts_u2 a r j v r' = a r' := if_neg h
theorem ts_u2_self (a : Nat → Nat → Nat) (r j v : Nat) : ts_u2 a r j v r = va_up (a r) j v := if_pos rfl
theorem ts_u2_row (a : Nat → Nat → Nat) (r i v j : Nat) : fnat (ts_u2 a r i v r) j = if j = i then nI v else fnat (a r) j := by
  rw [ts_u2_self]
  by_cases h : j = i
  · subst h; simp [fnat, va_up]
  · simp [fnat, va_up, h]
def b2i (B : Bool) : Int32 := if B = true then 1 else 0
theorem b2i_eq (B : Bool) : (b2i B = 0) = (B = false) := by cases B <;> simp [b2i]
theorem b2i_nar (B : Bool) : narrow .boolean (.int (b2i B)) = .int (b2i B) := by cases B <;> rfl
theorem b2i_t : b2i true = nI 1 := rfl
theorem b2i_f : b2i false = nI 0 := rfl
theorem ts_eq0 {n : Nat} (h : n < 2 ^ 31) : nI n = 0 ↔ n = 0 := by rw [show (0 : Int32) = nI 0 from rfl, nI_eq h (by omega)]
theorem ts_lt0 {n : Nat} (h : n < 2 ^ 31) : nI n < 0 ↔ n < 0 := by rw [show (0 : Int32) = nI 0 from rfl, nI_ltI h (by omega)]
theorem ts_ge0 {n : Nat} (h : n < 2 ^ 31) : 0 ≤ nI n ↔ 0 ≤ n := by rw [show (0 : Int32) = nI 0 from rfl, nI_leI (by omega) h]
theorem ts_gt0 {n : Nat} (h : n < 2 ^ 31) : 0 < nI n ↔ 0 < n := by rw [show (0 : Int32) = nI 0 from rfl, nI_ltI (by omega) h]
theorem ts_le0 {n : Nat} (h : n < 2 ^ 31) : nI n ≤ 0 ↔ n ≤ 0 := by rw [show (0 : Int32) = nI 0 from rfl, nI_leI h (by omega)]
theorem ts_or (a b : Nat) : nI a ||| nI b = nI (a ||| b) := by
  apply Int32.toBitVec_inj.1
  show BitVec.ofNat 32 a ||| BitVec.ofNat 32 b = BitVec.ofNat 32 (a ||| b)
  apply BitVec.eq_of_getLsbD_eq
  intro i hi
  simp [hi]
def diffN (a b : Nat) : Nat := a ^^^ (a &&& b)
theorem ts_diff (a b : Nat) : nI a &&& (nI b ^^^ (-1)) = nI (diffN a b) := by
  apply Int32.toBitVec_inj.1
  show BitVec.ofNat 32 a &&& (BitVec.ofNat 32 b ^^^ BitVec.allOnes 32) = BitVec.ofNat 32 (a ^^^ (a &&& b))
  apply BitVec.eq_of_getLsbD_eq
  intro i hi
  simp only [BitVec.getLsbD_and, BitVec.getLsbD_xor, BitVec.getLsbD_ofNat, BitVec.getLsbD_allOnes, Nat.testBit_xor, Nat.testBit_and, hi, decide_true, Bool.true_and]
  cases a.testBit i <;> cases b.testBit i <;> rfl
theorem diffN_lt {a b n : Nat} (h : a < 2 ^ n) : diffN a b < 2 ^ n := Nat.xor_lt_two_pow h (Nat.lt_of_le_of_lt Nat.and_le_left h)
theorem ts_shl {i : Nat} (h : i < 31) : nI 1 <<< (nI i &&& 31) = nI (2 ^ i) := by
  have := pk_shlN (n := 1) (nI i &&& 31) i (by revert h; revert i; decide +kernel) (by
    have : 2 ^ i < 2 ^ 31 := Nat.pow_lt_pow_right (by decide) h
    omega)
  rw [this, Nat.one_mul]
theorem ts_bit {s i : Nat} (hs : s < 2 ^ 31) (hi : i < 31) : (nI s >>> (nI i &&& 31)) &&& nI 1 = nI (s / 2 ^ i % 2) := by
  rw [pk_shrN hs (nI i &&& 31) i (by revert hi; revert i; decide +kernel)]
  exact pk_andN (by have : s / 2 ^ i ≤ s := Nat.div_le_self _ _; omega) 1 (by decide)
/-- what a plain step needs and gives -/
def plainN (v : Nat) : Nat := if v = 20 then 1 else if v = 21 then 3 else if v = 23 then 2 else 0
def plainG (v : Nat) : Nat := if v = 21 then 1 else if v = 22 then 2 else if v = 23 then 2 else 0
theorem plainN_le (v : Nat) : plainN v ≤ 3 := by unfold plainN; (repeat' split) <;> omega
theorem plainG_le (v : Nat) : plainG v ≤ 2 := by unfold plainG; (repeat' split) <;> omega
/-- the station's program is well made -/
def WP (P : PT) : Prop := P.1 0 ≤ 20 ∧ P.1 1 ≤ 10 ∧ P.1 2 < 1024 ∧ ∀ i, i < 10 → P.1 (20 + i) ≤ 6 ∧ P.1 (30 + i) ≤ 3 ∧ P.1 (40 + i) ≤ 3 ∧ ∀ j, j < P.1 (20 + i) → (P.2 i j ≤ 9 ∨ (20 ≤ P.2 i j ∧ P.2 i j ≤ 24) ∨ (40 ≤ P.2 i j ∧ P.2 i j < 40 + P.1 1))
theorem WP.bu {P : PT} (h : WP P) : P.1 0 ≤ 20 := h.1
theorem WP.sz {P : PT} (h : WP P) : P.1 1 ≤ 10 := h.2.1
theorem WP.ty {P : PT} (h : WP P) : P.1 2 < 1024 := h.2.2.1
theorem WP.fsz {P : PT} (h : WP P) {i : Nat} (hi : i < 10) : P.1 (20 + i) ≤ 6 := (h.2.2.2 i hi).1
theorem WP.fin {P : PT} (h : WP P) {i : Nat} (hi : i < 10) : P.1 (30 + i) ≤ 3 := (h.2.2.2 i hi).2.1
theorem WP.fout {P : PT} (h : WP P) {i : Nat} (hi : i < 10) : P.1 (40 + i) ≤ 3 := (h.2.2.2 i hi).2.2.1
theorem WP.stp {P : PT} (h : WP P) {i j : Nat} (hi : i < 10) (hj : j < P.1 (20 + i)) : P.2 i j ≤ 9 ∨ (20 ≤ P.2 i j ∧ P.2 i j ≤ 24) ∨ (40 ≤ P.2 i j ∧ P.2 i j < 40 + P.1 1) := (h.2.2.2 i hi).2.2.2 j hj
def okS (P : PT) (v : Nat) : Prop := v ≤ 9 ∨ (20 ≤ v ∧ v ≤ 24) ∨ (40 ≤ v ∧ v < 40 + P.1 1)
def isCallB (v : Nat) : Bool := decide (40 ≤ v)
def needP (P : PT) (v : Nat) : Nat := if 40 ≤ v then P.1 (30 + (v - 40)) else plainN v
def giftP (P : PT) (v : Nat) : Nat := if 40 ≤ v then P.1 (40 + (v - 40)) else plainG v
theorem needP_le {P : PT} (h : WP P) {v : Nat} (hv : okS P v) : needP P v ≤ 3 := by
  have hs := h.sz
  unfold okS at hv
  unfold needP
  split
  · exact h.fin (by omega)
  · exact plainN_le v
theorem giftP_le {P : PT} (h : WP P) {v : Nat} (hv : okS P v) : giftP P v ≤ 3 := by
  have hs := h.sz
  unfold okS at hv
  unfold giftP
  split
  · exact h.fout (by omega)
  · have := plainG_le v
    omega
def guessI (P : PT) (f : Nat) : Nat := if P.1 (20 + f) = 0 then 3 else needP P (P.2 f 0)
def guessO (P : PT) (f : Nat) : Nat := if P.1 (20 + f) = 0 then 3 else giftP P (P.2 f (P.1 (20 + f) - 1))
/-- one more need that is looked at -/
def needF (F : FT) (needed there place : Nat) : FT := if needed = 3 ∨ needed = there then F else if there = 3 then (F.1, F.2.1, F.2.2 + 1) else (F.1 + 1, (if F.1 = 0 then nI place else F.2.1), F.2.2)
def thereP (P : PT) (f : Nat) : Nat → Nat
  | 0 => P.1 (30 + f)
  | k + 1 => giftP P (P.2 f k)
def chkN (P : PT) (f : Nat) : Nat → FT
  | 0 => (0, -1, 0)
  | k + 1 => needF (chkN P f k) (needP P (P.2 f k)) (thereP P f k) k
def chkA (P : PT) (f : Nat) : FT := needF (chkN P f (P.1 (20 + f))) (P.1 (40 + f)) (thereP P f (P.1 (20 + f))) (P.1 (20 + f))
theorem needF_le (F : FT) (a b c : Nat) : (needF F a b c).1 ≤ F.1 + 1 ∧ (needF F a b c).2.2 ≤ F.2.2 + 1 := by
  unfold needF
  split
  · exact ⟨Nat.le_succ _, Nat.le_succ _⟩
  · split
    · exact ⟨Nat.le_succ _, Nat.le_refl _⟩
    · exact ⟨Nat.le_refl _, Nat.le_succ _⟩
theorem chkN_le (P : PT) (f : Nat) : ∀ k, (chkN P f k).1 ≤ k ∧ (chkN P f k).2.2 ≤ k
  | 0 => ⟨Nat.le_refl _, Nat.le_refl _⟩
  | k + 1 => by
    have h := chkN_le P f k
    have g := needF_le (chkN P f k) (needP P (P.2 f k)) (thereP P f k) k
    show (needF _ _ _ _).1 ≤ _ ∧ (needF _ _ _ _).2.2 ≤ _
    omega
theorem chkA_le {P : PT} (h : WP P) {f : Nat} (hf : f < 10) : (chkA P f).1 ≤ 7 ∧ (chkA P f).2.2 ≤ 7 := by
  have h1 := chkN_le P f (P.1 (20 + f))
  have h2 := needF_le (chkN P f (P.1 (20 + f))) (P.1 (40 + f)) (thereP P f (P.1 (20 + f))) (P.1 (20 + f))
  have h3 := h.fsz hf
  unfold chkA
  omega
def noneF (F : FT) : Bool := decide (F.1 = 0) && decide (F.2.2 = 0)
def okF (P : PT) (f : Nat) : Bool := noneF (chkA P f)
/-- the set of functions that can be typed, of the first k; a set is a number, a bit each -/
def setB (s i : Nat) : Nat := s ||| 2 ^ i
def hasB (s i : Nat) : Bool := decide (s / 2 ^ i % 2 = 1)
def typN (P : PT) : Nat → Nat
  | 0 => 0
  | k + 1 => if okF P k = true then setB (typN P k) k else typN P k
def fltN (P : PT) : Nat → Nat
  | 0 => 0
  | k + 1 => fltN P k + (chkA P k).1
def mentB (P : PT) (f v : Nat) : Nat → Bool
  | 0 => false
  | k + 1 => mentB P f v k || decide (P.2 f k = v)
def calN (P : PT) (f : Nat) : Nat → Nat
  | 0 => 0
  | k + 1 => calN P f k + (if k ≠ f ∧ mentB P k (40 + f) (P.1 (20 + k)) = true then 1 else 0)
theorem ts_bf {B : Bool} (h : b2i B = 0) : B = false := by rw [b2i_eq] at h; exact h
theorem ts_bt {B : Bool} (h : ¬ b2i B = 0) : B = true := by rw [b2i_eq] at h; simpa using h
theorem ts_df {p : Prop} [Decidable p] (h : b2i (decide p) = 0) : ¬ p := by have := ts_bf h; simpa using this
theorem ts_dt {p : Prop} [Decidable p] (h : ¬ b2i (decide p) = 0) : p := by have := ts_bt h; simpa using this
theorem mentB_up {P : PT} {f v j : Nat} (h : mentB P f v j = true) : ∀ n, j ≤ n → mentB P f v n = true
  | 0, hn => by rw [show j = 0 by omega] at h; exact h
  | n + 1, hn => by
    rcases Nat.lt_or_ge j (n + 1) with q | q
    · show (mentB P f v n || _) = true
      rw [mentB_up h n (by omega)]
      rfl
    · rw [show n + 1 = j by omega]
      exact h
theorem zI_succ (r : Nat) : zI r + 1 = zI (r + 1) := by
  cases r with
  | zero => rfl
  | succ k => exact nI_1 k
theorem zI_row (r : Nat) : zI r + nI 1 = nI r := by
  cases r with
  | zero => rfl
  | succ k => exact nI_1 k
theorem zI_lt {r n : Nat} (hr : r < 2 ^ 31) (hn : n < 2 ^ 31) : zI r < nI n ↔ r ≤ n := by
  cases r with
  | zero =>
    refine ⟨fun _ => Nat.zero_le _, fun _ => ?_⟩
    have h1 : (nI n).toInt = n := nI_toInt hn
    show (-1 : Int32) < nI n
    rw [Int32.lt_iff_toInt_lt, h1]
    show (-1 : Int) < n
    omega
  | succ k => exact (nI_ltI (by omega) hn).trans ⟨fun h => h, fun h => h⟩
theorem zI_le {r n : Nat} (hr : r < 2 ^ 31) (hn : n < 2 ^ 31) : nI n ≤ zI r ↔ n < r := by
  cases r with
  | zero =>
    refine ⟨fun h => ?_, fun h => absurd h (Nat.not_lt_zero _)⟩
    have h1 : (nI n).toInt = n := nI_toInt hn
    have h2 : nI n ≤ (-1 : Int32) := h
    rw [Int32.le_iff_toInt_le, h1] at h2
    have h3 : (n : Int) ≤ -1 := h2
    omega
  | succ k => exact (nI_leI hn (by omega)).trans ⟨fun h => Nat.lt_succ_of_le h, fun h => Nat.le_of_lt_succ h⟩
def hasR (s : Nat) : Nat → Bool
  | 0 => false
  | k + 1 => hasB s k
theorem ts_nem1 {n : Nat} (h : n < 2 ^ 31) : nI n ≠ -1 := fun e => by
  have h1 : (nI n).toInt = n := nI_toInt h
  rw [e] at h1
  have h2 : (-1 : Int) = n := h1
  omega
def cntB (s : Nat) : Nat → Nat
  | 0 => 0
  | k + 1 => cntB s k + (if hasB s k = true then 1 else 0)
def gcB (P : PT) (r j s : Nat) : Bool := hasB s j && (!hasR s r && decide (P.1 (30 + j) ≠ 3))
def ggB (P : PT) (r j s : Nat) : Bool := hasR s r && (!hasB s j && decide (P.1 (40 + j) ≠ 3))
/-- what leaves the typed ones when steps or hints have changed -/
def dropD (P : PT) : Nat := diffN (P.1 2) (typN P (P.1 1))
def dropP (P : PT) : PT := (va_up P.1 2 (diffN (P.1 2) (dropD P)), P.2)
def chkP (P : PT) (n : Nat) : PT := (va_up P.1 3 (P.1 3 + n), P.2)
def hintP (P : PT) (f a o : Nat) : PT := (va_up (va_up P.1 (30 + f) a) (40 + f) o, P.2)
def chgN (P : PT) (f a o : Nat) : Nat := (if P.1 (30 + f) = a then 0 else 1) + (if P.1 (40 + f) = o then 0 else 1)
def hintC (P : PT) (f a o : Nat) : PT := if chgN P f a o = 0 then hintP P f a o else chkP (hintP P f a o) (1 + calN (hintP P f a o) f ((hintP P f a o).1 1))
theorem WP.chk {P : PT} (h : WP P) (n : Nat) : WP (va_up P.1 3 n, P.2) := by
  refine ⟨?_, ?_, ?_, fun i hi => ?_⟩
  · exact h.1
  · exact h.2.1
  · exact h.2.2.1
  · have e1 : va_up P.1 3 n (20 + i) = P.1 (20 + i) := va_up_ne _ _ (by omega)
    have e2 : va_up P.1 3 n (30 + i) = P.1 (30 + i) := va_up_ne _ _ (by omega)
    have e3 : va_up P.1 3 n (40 + i) = P.1 (40 + i) := va_up_ne _ _ (by omega)
    show va_up P.1 3 n (20 + i) ≤ 6 ∧ va_up P.1 3 n (30 + i) ≤ 3 ∧ va_up P.1 3 n (40 + i) ≤ 3 ∧ ∀ j, j < va_up P.1 3 n (20 + i) → _
    rw [e1, e2, e3]
    exact h.2.2.2 i hi
theorem WP.hint {P : PT} (h : WP P) {f a o : Nat} (hf : f < 10) (ha : a ≤ 3) (ho : o ≤ 3) : WP (hintP P f a o) := by
  have n : ∀ k, k ≠ 30 + f → k ≠ 40 + f → (hintP P f a o).1 k = P.1 k := fun k h1 h2 => (va_up_ne _ _ h2).trans (va_up_ne _ _ h1)
  refine ⟨?_, ?_, ?_, fun i hi => ?_⟩
  · rw [n 0 (by omega) (by omega)]; exact h.1
  · rw [n 1 (by omega) (by omega)]; exact h.2.1
  · rw [n 2 (by omega) (by omega)]; exact h.2.2.1
  · have e1 : (hintP P f a o).1 (20 + i) = P.1 (20 + i) := n _ (by omega) (by omega)
    have e4 : (hintP P f a o).1 1 = P.1 1 := n _ (by omega) (by omega)
    have e2 : (hintP P f a o).1 (30 + i) ≤ 3 := by
      by_cases q : i = f
      · subst q
        show va_up (va_up P.1 (30 + i) a) (40 + i) o (30 + i) ≤ 3
        rw [va_up_ne _ _ (by omega), va_up_self]
        exact ha
      · rw [n _ (by omega) (by omega)]
        exact h.fin hi
    have e3 : (hintP P f a o).1 (40 + i) ≤ 3 := by
      by_cases q : i = f
      · subst q
        show va_up (va_up P.1 (30 + i) a) (40 + i) o (40 + i) ≤ 3
        rw [va_up_self]
        exact ho
      · rw [n _ (by omega) (by omega)]
        exact h.fout hi
    refine ⟨by rw [e1]; exact h.fsz hi, e2, e3, fun j hj => ?_⟩
    rw [e1] at hj
    rw [e4]
    exact h.stp hi hj
theorem hint_back (g : Nat → Nat) (f a o : Nat) : va_up (va_up (va_up (va_up g (30 + f) a) (40 + f) o) (30 + f) (g (30 + f))) (40 + f) (g (40 + f)) = g := by
  funext k
  by_cases h1 : k = 40 + f
  · subst h1; rw [va_up_self]
  · rw [va_up_ne _ _ h1]
    by_cases h2 : k = 30 + f
    · subst h2; rw [va_up_self]
    · rw [va_up_ne _ _ h2, va_up_ne _ _ h1, va_up_ne _ _ h2]
