/-! What the station's 52 cells hold, in numbers: P: 0 budget, 1 size, 2 typed, 3 checks, 20+i a function's size, 30+i its in, 40+i its out; steps. F: faults, first fault, loose. T: the trial. B: the books. -/
abbrev PT : Type := (Nat → Nat) × (Nat → Nat → Nat)
abbrev FT : Type := Nat × Int32 × Nat
abbrev TT : Type := (Nat → Nat) × (Nat → Int32) × (Nat → Nat → Nat)
abbrev BT : Type := (Nat → Nat) × (Nat → Int32) × (Nat → Nat → Nat)
abbrev ST : Type := PT × FT × TT × BT
abbrev CQ : Type := ClassId × ClassId × ClassId
def tq (q : CQ) : List (ClassId × FieldType) := [(q.1, .int), (q.2.1, .object "TypecheckStation$Function"), (q.2.2, .array .int)]
/-- who calls, who is blamed: 0 is outside or nobody, k + 1 the function k -/
def zI : Nat → Int32
  | 0 => -1
  | k + 1 => nI k
def fnat (g : Nat → Nat) : Nat → Int32 := fun j => nI (g j)
def cel (q : CQ) (b : Nat) (u : ST) (k : Nat) : va_E :=
  if k = 0 then .inr (5, [.ref (b + 1), .ref (b + 24), .ref (b + 37), .int (nI (u.1.1 0))])
  else if k = 1 then .inr (3, [.ref (b + 2), .ref (b + 23), .int (nI (u.1.1 1)), .int (nI (u.1.1 2)), .int (nI (u.1.1 3))])
  else if k = 2 then .inl (q.2.1, 10, .inr (.inr (.inr (.inr (fun i => some (b + (3 + 2 * i)))))))
  else if k < 23 then (if k % 2 = 1 then .inr (2, [.ref (b + (k + 1)), .int (nI (u.1.1 (20 + (k - 3) / 2))), .int (nI (u.1.1 (30 + (k - 3) / 2))), .int (nI (u.1.1 (40 + (k - 3) / 2)))]) else .inl (q.1, 6, .inl (fnat (u.1.2 ((k - 4) / 2)))))
  else if k = 23 then .inr (1, [.int (nI u.2.1.1), .int u.2.1.2.1, .int (nI u.2.1.2.2)])
  else if k = 24 then .inr (4, [.ref (b + 1), .ref (b + 25), .int (nI (u.2.2.1.1 0)), .int (nI (u.2.2.1.1 1)), .int (u.2.2.1.2.1 0), .int (nI (u.2.2.1.1 2)), .int (nI (u.2.2.1.1 3)), .int (nI (u.2.2.1.1 4)), .int (nI (u.2.2.1.1 5)), .int (nI (u.2.2.1.1 6)), .int (zI (u.2.2.1.1 8)), .int (nI (u.2.2.1.1 7)), .int (zI (u.2.2.1.1 9))])
  else if k = 25 then .inl (q.2.2, 11, .inr (.inr (.inr (.inr (fun i => some (b + (26 + i)))))))
  else if k < 37 then .inl (q.1, 10, .inl (fnat (u.2.2.1.2.2 (k - 26))))
  else if k = 37 then .inr (0, [.ref (b + 38), .ref (b + 50), .ref (b + 51), .int (nI (u.2.2.2.1 0)), .int (nI (u.2.2.2.1 1)), .int (nI (u.2.2.2.1 2))])
  else if k = 38 then .inl (q.2.2, 11, .inr (.inr (.inr (.inr (fun i => some (b + (39 + i)))))))
  else if k < 50 then .inl (q.1, 10, .inl (fnat (u.2.2.2.2.2 (k - 39))))
  else if k = 50 then .inl (q.1, 10, .inl (fnat (u.2.2.2.2.2 11)))
  else .inl (q.1, 8, .inl u.2.2.2.2.1)
section CEL
variable {q : CQ} {b : Nat} {u u' : ST}
theorem cel_st : cel q b u 0 = .inr (5, [.ref (b + 1), .ref (b + 24), .ref (b + 37), .int (nI (u.1.1 0))]) := rfl
theorem cel_pr : cel q b u 1 = .inr (3, [.ref (b + 2), .ref (b + 23), .int (nI (u.1.1 1)), .int (nI (u.1.1 2)), .int (nI (u.1.1 3))]) := rfl
theorem cel_fs : cel q b u 2 = .inl (q.2.1, 10, .inr (.inr (.inr (.inr (fun i => some (b + (3 + 2 * i))))))) := rfl
theorem cel_fn {i : Nat} (h : i < 10) : cel q b u (3 + 2 * i) = .inr (2, [.ref (b + (4 + 2 * i)), .int (nI (u.1.1 (20 + i))), .int (nI (u.1.1 (30 + i))), .int (nI (u.1.1 (40 + i)))]) := by
  have e1 : (3 + 2 * i - 3) / 2 = i := by omega
  have e2 : 3 + 2 * i + 1 = 4 + 2 * i := by omega
  unfold cel
  rw [if_neg (by omega), if_neg (by omega), if_neg (by omega), if_pos (by omega), if_pos (by omega), e1, e2]
theorem cel_sp {i : Nat} (h : i < 10) : cel q b u (4 + 2 * i) = .inl (q.1, 6, .inl (fnat (u.1.2 i))) := by
  have e1 : (4 + 2 * i - 4) / 2 = i := by omega
  unfold cel
  rw [if_neg (by omega), if_neg (by omega), if_neg (by omega), if_pos (by omega), if_neg (by omega), e1]
theorem cel_fi : cel q b u 23 = .inr (1, [.int (nI u.2.1.1), .int u.2.1.2.1, .int (nI u.2.1.2.2)]) := rfl
theorem cel_tr : cel q b u 24 = .inr (4, [.ref (b + 1), .ref (b + 25), .int (nI (u.2.2.1.1 0)), .int (nI (u.2.2.1.1 1)), .int (u.2.2.1.2.1 0), .int (nI (u.2.2.1.1 2)), .int (nI (u.2.2.1.1 3)), .int (nI (u.2.2.1.1 4)), .int (nI (u.2.2.1.1 5)), .int (nI (u.2.2.1.1 6)), .int (zI (u.2.2.1.1 8)), .int (nI (u.2.2.1.1 7)), .int (zI (u.2.2.1.1 9))]) := rfl
theorem cel_tc : cel q b u 25 = .inl (q.2.2, 11, .inr (.inr (.inr (.inr (fun i => some (b + (26 + i))))))) := rfl
theorem cel_tw {i : Nat} (h : i < 11) : cel q b u (26 + i) = .inl (q.1, 10, .inl (fnat (u.2.2.1.2.2 i))) := by
  have e1 : 26 + i - 26 = i := by omega
  unfold cel
  rw [if_neg (by omega), if_neg (by omega), if_neg (by omega), if_neg (by omega), if_neg (by omega), if_neg (by omega), if_neg (by omega), if_pos (by omega), e1]
theorem cel_bk : cel q b u 37 = .inr (0, [.ref (b + 38), .ref (b + 50), .ref (b + 51), .int (nI (u.2.2.2.1 0)), .int (nI (u.2.2.2.1 1)), .int (nI (u.2.2.2.1 2))]) := rfl
theorem cel_bc : cel q b u 38 = .inl (q.2.2, 11, .inr (.inr (.inr (.inr (fun i => some (b + (39 + i))))))) := rfl
theorem cel_bw {i : Nat} (h : i < 11) : cel q b u (39 + i) = .inl (q.1, 10, .inl (fnat (u.2.2.2.2.2 i))) := by
  have e1 : 39 + i - 39 = i := by omega
  unfold cel
  rw [if_neg (by omega), if_neg (by omega), if_neg (by omega), if_neg (by omega), if_neg (by omega), if_neg (by omega), if_neg (by omega), if_neg (by omega), if_neg (by omega), if_neg (by omega), if_pos (by omega), e1]
theorem cel_bb : cel q b u 50 = .inl (q.1, 10, .inl (fnat (u.2.2.2.2.2 11))) := rfl
theorem cel_bl : cel q b u 51 = .inl (q.1, 8, .inl u.2.2.2.2.1) := rfl
/-- what a change of one part leaves -/
theorem cel_oP (hs : u'.1.2 = u.1.2) (hf : ∀ i, 20 ≤ i → u'.1.1 i = u.1.1 i) (h0 : u'.1.1 0 = u.1.1 0) (h2 : u'.2 = u.2) : ∀ k, k < 52 → k ≠ 1 → cel q b u' k = cel q b u k := by
  intro k hk hn
  unfold cel
  rw [hs, h0, h2, hf (20 + (k - 3) / 2) (by omega), hf (30 + (k - 3) / 2) (by omega), hf (40 + (k - 3) / 2) (by omega)]
  simp only [if_neg hn]
theorem cel_oS (hs : u'.1.2 = u.1.2) (hf : ∀ i, 1 ≤ i → u'.1.1 i = u.1.1 i) (h2 : u'.2 = u.2) : ∀ k, k < 52 → k ≠ 0 → cel q b u' k = cel q b u k := by
  intro k hk hn
  unfold cel
  rw [hs, h2, hf 1 (by omega), hf 2 (by omega), hf 3 (by omega), hf (20 + (k - 3) / 2) (by omega), hf (30 + (k - 3) / 2) (by omega), hf (40 + (k - 3) / 2) (by omega)]
  simp only [if_neg hn]
theorem cel_oFn {i : Nat} (hi : i < 10) (hs : u'.1.2 = u.1.2) (hf : ∀ j, j ≠ 20 + i → j ≠ 30 + i → j ≠ 40 + i → u'.1.1 j = u.1.1 j) (h2 : u'.2 = u.2) : ∀ k, k < 52 → k ≠ 3 + 2 * i → cel q b u' k = cel q b u k := by
  intro k hk hn
  unfold cel
  rw [hs, h2, hf 0 (by omega) (by omega) (by omega), hf 1 (by omega) (by omega) (by omega), hf 2 (by omega) (by omega) (by omega), hf 3 (by omega) (by omega) (by omega)]
  by_cases c0 : k = 0
  · rw [if_pos c0, if_pos c0]
  rw [if_neg c0, if_neg c0]
  by_cases c1 : k = 1
  · rw [if_pos c1, if_pos c1]
  rw [if_neg c1, if_neg c1]
  by_cases c2 : k = 2
  · rw [if_pos c2, if_pos c2]
  rw [if_neg c2, if_neg c2]
  by_cases c3 : k < 23
  · rw [if_pos c3, if_pos c3]
    by_cases c4 : k % 2 = 1
    · rw [if_pos c4, if_pos c4, hf (20 + (k - 3) / 2) (by omega) (by omega) (by omega), hf (30 + (k - 3) / 2) (by omega) (by omega) (by omega), hf (40 + (k - 3) / 2) (by omega) (by omega) (by omega)]
    · rw [if_neg c4, if_neg c4]
  · rw [if_neg c3, if_neg c3]
theorem cel_oSp {i : Nat} (hi : i < 10) (hf : u'.1.1 = u.1.1) (hs : ∀ j, j ≠ i → u'.1.2 j = u.1.2 j) (h2 : u'.2 = u.2) : ∀ k, k < 52 → k ≠ 4 + 2 * i → cel q b u' k = cel q b u k := by
  intro k hk hn
  unfold cel
  rw [hf, h2]
  by_cases c0 : k = 0
  · rw [if_pos c0, if_pos c0]
  rw [if_neg c0, if_neg c0]
  by_cases c1 : k = 1
  · rw [if_pos c1, if_pos c1]
  rw [if_neg c1, if_neg c1]
  by_cases c2 : k = 2
  · rw [if_pos c2, if_pos c2]
  rw [if_neg c2, if_neg c2]
  by_cases c3 : k < 23
  · rw [if_pos c3, if_pos c3]
    by_cases c4 : k % 2 = 1
    · rw [if_pos c4, if_pos c4]
    · rw [if_neg c4, if_neg c4, hs ((k - 4) / 2) (by omega)]
  · rw [if_neg c3, if_neg c3]
theorem cel_oF (hP : u'.1 = u.1) (h2 : u'.2.2 = u.2.2) : ∀ k, k < 52 → k ≠ 23 → cel q b u' k = cel q b u k := by
  intro k hk hn
  unfold cel
  rw [hP, h2]
  simp only [if_neg hn]
theorem cel_oT (hP : u'.1 = u.1) (hF : u'.2.1 = u.2.1) (hc : u'.2.2.1.2.2 = u.2.2.1.2.2) (hB : u'.2.2.2 = u.2.2.2) : ∀ k, k < 52 → k ≠ 24 → cel q b u' k = cel q b u k := by
  intro k hk hn
  unfold cel
  rw [hP, hF, hc, hB]
  simp only [if_neg hn]
theorem cel_oTw {i : Nat} (hi : i < 11) (hP : u'.1 = u.1) (hF : u'.2.1 = u.2.1) (h1 : u'.2.2.1.1 = u.2.2.1.1) (h2 : u'.2.2.1.2.1 = u.2.2.1.2.1) (hc : ∀ j, j ≠ i → u'.2.2.1.2.2 j = u.2.2.1.2.2 j) (hB : u'.2.2.2 = u.2.2.2) : ∀ k, k < 52 → k ≠ 26 + i → cel q b u' k = cel q b u k := by
  intro k hk hn
  unfold cel
  rw [hP, hF, h1, h2, hB]
  by_cases c : k < 37
  · by_cases d : 26 ≤ k
    · rw [hc (k - 26) (by omega)]
    · rw [if_pos c]
      have : k = 0 ∨ k = 1 ∨ k = 2 ∨ k < 23 ∨ k = 23 ∨ k = 24 ∨ k = 25 := by omega
      rcases this with e | e | e | e | e | e | e <;> simp [e]
  · simp [c]
theorem cel_oB (hP : u'.1 = u.1) (hF : u'.2.1 = u.2.1) (hT : u'.2.2.1 = u.2.2.1) (hc : u'.2.2.2.2 = u.2.2.2.2) : ∀ k, k < 52 → k ≠ 37 → cel q b u' k = cel q b u k := by
  intro k hk hn
  unfold cel
  rw [hP, hF, hT, hc]
  simp only [if_neg hn]
theorem cel_oBl (hP : u'.1 = u.1) (hF : u'.2.1 = u.2.1) (hT : u'.2.2.1 = u.2.2.1) (h1 : u'.2.2.2.1 = u.2.2.2.1) (hc : u'.2.2.2.2.2 = u.2.2.2.2.2) : ∀ k, k < 52 → k ≠ 51 → cel q b u' k = cel q b u k := by
  intro k hk hn
  have : k < 50 ∨ k = 50 := by omega
  unfold cel
  rw [hP, hF, hT, h1, hc]
  rcases this with e | e
  · have h38 : (k < 50) = True := by simp [e]
    simp only [h38, if_true]
  · simp [e]
theorem cel_oBw {i r : Nat} (hi : i < 12) (hr : r = if i = 11 then 50 else 39 + i) (hP : u'.1 = u.1) (hF : u'.2.1 = u.2.1) (hT : u'.2.2.1 = u.2.2.1) (h1 : u'.2.2.2.1 = u.2.2.2.1) (h2 : u'.2.2.2.2.1 = u.2.2.2.2.1) (hc : ∀ j, j ≠ i → u'.2.2.2.2.2 j = u.2.2.2.2.2 j) : ∀ k, k < 52 → k ≠ r → cel q b u' k = cel q b u k := by
  intro k hk hn
  unfold cel
  rw [hP, hF, hT, h1, h2]
  by_cases c : k = 50
  · have hi11 : i ≠ 11 := fun e => hn (by rw [hr, if_pos e, c])
    rw [hc 11 (Ne.symm hi11)]
    simp [c]
  · by_cases d : k < 50
    · by_cases d2 : 39 ≤ k
      · rw [hc (k - 39) (fun e => by
          have h11 : i ≠ 11 := by omega
          rw [if_neg h11] at hr
          omega)]
        simp [c]
      · have : k = 0 ∨ k = 1 ∨ k = 2 ∨ k < 23 ∨ k = 23 ∨ k = 24 ∨ k = 25 ∨ k < 37 ∨ k = 37 ∨ k = 38 := by omega
        rcases this with e | e | e | e | e | e | e | e | e | e <;> simp [e]
    · simp [c, d]
end CEL
/-! Contracts of the station's methods -/
def Ws (D : va_G) (q : CQ) (b : Nat) (u : ST) (U : State) : Prop := ts_W D b 52 (cel q b u) U.heap
def Pr (D : va_G) (q : CQ) (b sz : Nat) (u : ST) : State → Prop := fun U => U.heap.size = sz ∧ Ws D q b u U ∧ va_K D vwCl (tq q) U ∧ ts_N U
abbrev cI (D : va_G) (q : CQ) (b sz : Nat) (post : Int32 → ST → Prop) := va_Qi post (Ws D q b) (ts_A b 52 sz)
abbrev cL (D : va_G) (q : CQ) (b sz : Nat) (post : Int64 → ST → Prop) := va_Ql post (Ws D q b) (ts_A b 52 sz)
abbrev cV (D : va_G) (q : CQ) (b sz : Nat) (post : ST → Prop) := va_Qv post (Ws D q b) (ts_A b 52 sz)
abbrev cR (D : va_G) (q : CQ) (b sz k : Nat) (post : ST → Prop) := va_Qr post (fun u a t => a = b + k ∧ Ws D q b u t) (ts_A b 52 sz)
theorem Pr.blind {D : va_G} {q : CQ} {b sz : Nat} {u : ST} {av : List Value} : FrameBlind (va_Pc av (Pr D q b sz u)) := fun a U g mk h => ⟨h.1, h.2.1, h.2.2.1, va_K.moved (u := U) (U := U.calling g mk a) (Vm.Alike.refl U.vm) h.2.2.2.1, ts_N.same (s := U) (U := U.calling g mk a) rfl h.2.2.2.2⟩
section CALLS
variable {p : Program} {l : Launch} {e : Env} {R : Room} {s : State} {m : MethodId} {args : Array Value} {below : List Frame} {meth : Method} {c : Code} {H : Heap} {locs : List Loc} {cells slots : Nat} {Q : State → Prop}
variable {cc : ByteArray} {pc : Nat} {ls : Array Slot} {rest st : List Value} {D : va_G} {q : CQ} {A : Nat → Prop} {b : Nat} {u : ST} {H0 : Heap} {nL n index maxL : Nat} {Ts ws : List Cond} {own C : String} {y : MethodName} {bytes : ByteArray} {ret : Option FieldType} {rm : Room} {As : List Value}
theorem ts_preV (hK : va_K D vwCl (tq q) s) (hN : ts_N s) (hW : ts_W D b 52 (cel q b u) H) (k : Nat) (hk : k < 52) {ci : Nat} {fs : List Value} {T : u_T} {N : Nat} (he : cel q b u k = .inr (ci, fs)) (hc : vwCl[ci]? = some (C, T, N)) : PreV s H C (b + k) (va_Pc (.ref (b + k) :: As) (Pr D q b H.size u)) As :=
  ⟨Pr.blind, va_recv hK (ts_one hW hk he) hc (q0 := 0) rfl, fun U hU hW' => ⟨rfl, by rw [hU], by show ts_W D b 52 (cel q b u) U.heap; rw [hU]; exact hW, va_K.moved hW'.alike hK, hN.warm hW'⟩⟩
theorem ts_preS (hK : va_K D vwCl (tq q) s) (hN : ts_N s) (hW : ts_W D b 52 (cel q b u) H) : PreS s H (va_Pc As (Pr D q b H.size u)) As :=
  ⟨Pr.blind, fun U hU hW' => ⟨rfl, by rw [hU], by show ts_W D b 52 (cel q b u) U.heap; rw [hU]; exact hW, va_K.moved hW'.alike hK, hN.warm hW'⟩⟩
/-- behind a call that answers an int -/
theorem ts_retI {post : Int32 → ST → Prop} {a : Array Value} (hr : va_Run p l e R s m args below meth c H locs cells slots 0 0 (F0 m pc ls st) rest (cI D q b H.size post a) (ts_A b 52 H.size)) (hS : va_S A H0 H locs) (hA : ∀ x, ts_A b 52 H.size x → A x)
    (kk : ∀ (r : Int32) (u' : ST) (H1 : Heap) (locs1 : List Loc), post r u' → ts_W D b 52 (cel q b u') H1 → H.size ≤ H1.size → (∀ x : Nat, x < H.size → ¬ ts_A b 52 H.size x → H1[x]? = H[x]?) → va_S A H0 H1 locs1 → W p l e R s m args below meth c H1 locs1 cells slots Q (F0 m (pc + 3) ls (.int r :: rest))) : W p l e R s m args below meth c H locs cells slots Q (F0 m pc ls st) :=
  va_calli hr hS (fun x _ h => hA x h) hA (fun r u' t H1 locs1 ht _ hp hB hz hk hS1 => kk r u' H1 locs1 hp (by rw [← ht]; exact hB) hz hk hS1)
theorem ts_retL {post : Int64 → ST → Prop} {a : Array Value} (hr : va_Run p l e R s m args below meth c H locs cells slots 0 0 (F0 m pc ls st) rest (cL D q b H.size post a) (ts_A b 52 H.size)) (hS : va_S A H0 H locs) (hA : ∀ x, ts_A b 52 H.size x → A x)
    (kk : ∀ (r : Int64) (u' : ST) (H1 : Heap) (locs1 : List Loc), post r u' → ts_W D b 52 (cel q b u') H1 → H.size ≤ H1.size → (∀ x : Nat, x < H.size → ¬ ts_A b 52 H.size x → H1[x]? = H[x]?) → va_S A H0 H1 locs1 → W p l e R s m args below meth c H1 locs1 cells slots Q (F0 m (pc + 3) ls (.long r :: rest))) : W p l e R s m args below meth c H locs cells slots Q (F0 m pc ls st) :=
  va_calll hr hS (fun x _ h => hA x h) hA (fun r u' t H1 locs1 ht _ hp hB hz hk hS1 => kk r u' H1 locs1 hp (by rw [← ht]; exact hB) hz hk hS1)
theorem ts_retV {post : ST → Prop} {a : Array Value} (hr : va_Run p l e R s m args below meth c H locs cells slots 0 0 (F0 m pc ls st) rest (cV D q b H.size post a) (ts_A b 52 H.size)) (hS : va_S A H0 H locs) (hA : ∀ x, ts_A b 52 H.size x → A x)
    (kk : ∀ (u' : ST) (H1 : Heap) (locs1 : List Loc), post u' → ts_W D b 52 (cel q b u') H1 → H.size ≤ H1.size → (∀ x : Nat, x < H.size → ¬ ts_A b 52 H.size x → H1[x]? = H[x]?) → va_S A H0 H1 locs1 → W p l e R s m args below meth c H1 locs1 cells slots Q (F0 m (pc + 3) ls rest)) : W p l e R s m args below meth c H locs cells slots Q (F0 m pc ls st) :=
  va_callv hr hS (fun x _ h => hA x h) hA (fun u' t H1 locs1 ht _ hp hB hz hk hS1 => kk u' H1 locs1 hp (by rw [← ht]; exact hB) hz hk hS1)
theorem ts_retR {k : Nat} {post : ST → Prop} {a : Array Value} (hr : va_Run p l e R s m args below meth c H locs cells slots 0 0 (F0 m pc ls st) rest (cR D q b H.size k post a) (ts_A b 52 H.size)) (hS : va_S A H0 H locs) (hA : ∀ x, ts_A b 52 H.size x → A x)
    (kk : ∀ (u' : ST) (H1 : Heap) (locs1 : List Loc), post u' → ts_W D b 52 (cel q b u') H1 → H.size ≤ H1.size → (∀ x : Nat, x < H.size → ¬ ts_A b 52 H.size x → H1[x]? = H[x]?) → va_S A H0 H1 locs1 → W p l e R s m args below meth c H1 locs1 cells slots Q (F0 m (pc + 3) ls (.ref (b + k) :: rest))) : W p l e R s m args below meth c H locs cells slots Q (F0 m pc ls st) :=
  va_callr hr hS (fun x _ h => hA x h) hA (fun u' ra t H1 locs1 ht _ hp hB hz hk hS1 => by
    obtain ⟨rfl, hB⟩ := hB
    exact kk u' H1 locs1 hp (by rw [← ht]; exact hB) hz hk hS1)
/-- the ends of a method -/
theorem ts_iret {post : Int32 → ST → Prop} {y : MethodName} {ws : List Cond} {maxL : Nat} {v : Int32} (C0 : ts_Cx p s m args meth c cc maxL (some .int) y ws) (hW : ts_W D b 52 (cel q b u) H) (hS : va_S (ts_A b 52 s.heap.size) s.heap H locs) (hp : post v u) (hdg : decode cc pc = .ok (.ireturn, 1)) :
    W p l e R s m args below meth c H locs 0 0 (MQ below (cI D q b s.heap.size post) args s 0 0 (ts_A b 52 s.heap.size)) (F0 m pc ls [.int v]) :=
  W.iret C0.1 C0.2.1 C0.2.2.2.2.2.1 (fun t ht _ => ⟨⟨v, u, rfl, hp, by show ts_W D b 52 (cel q b u) t.heap; rw [ht]; exact hW⟩, hS.F ht⟩) hS.2.2 hdg C0.2.2.2.2.2.2.1
theorem ts_zret {post : Int32 → ST → Prop} {y : MethodName} {ws : List Cond} {maxL : Nat} {v : Int32} {ty : FieldType} (C0 : ts_Cx p s m args meth c cc maxL (some ty) y ws) (hn : narrow ty (.int v) = .int v) (hW : ts_W D b 52 (cel q b u) H) (hS : va_S (ts_A b 52 s.heap.size) s.heap H locs) (hp : post v u) (hdg : decode cc pc = .ok (.ireturn, 1)) :
    W p l e R s m args below meth c H locs 0 0 (MQ below (cI D q b s.heap.size post) args s 0 0 (ts_A b 52 s.heap.size)) (F0 m pc ls [.int v]) :=
  W.zret C0.1 C0.2.1 C0.2.2.2.2.2.1 hn (fun t ht _ => ⟨⟨v, u, rfl, hp, by show ts_W D b 52 (cel q b u) t.heap; rw [ht]; exact hW⟩, hS.F ht⟩) hS.2.2 hdg C0.2.2.2.2.2.2.1
theorem ts_lret {post : Int64 → ST → Prop} {y : MethodName} {ws : List Cond} {maxL : Nat} {v : Int64} (C0 : ts_Cx p s m args meth c cc maxL (some .long) y ws) (hW : ts_W D b 52 (cel q b u) H) (hS : va_S (ts_A b 52 s.heap.size) s.heap H locs) (hp : post v u) (hdg : decode cc pc = .ok (.lreturn, 1)) :
    W p l e R s m args below meth c H locs 0 0 (MQ below (cL D q b s.heap.size post) args s 0 0 (ts_A b 52 s.heap.size)) (F0 m pc ls [.long v]) :=
  W.lret C0.1 C0.2.1 C0.2.2.2.2.2.1 (fun t ht _ => ⟨⟨v, u, rfl, hp, by show ts_W D b 52 (cel q b u) t.heap; rw [ht]; exact hW⟩, hS.F ht⟩) hS.2.2 hdg C0.2.2.2.2.2.2.1
theorem ts_vret {post : ST → Prop} {y : MethodName} {ws : List Cond} {maxL : Nat} (C0 : ts_Cx p s m args meth c cc maxL none y ws) (hW : ts_W D b 52 (cel q b u) H) (hS : va_S (ts_A b 52 s.heap.size) s.heap H locs) (hp : post u) (hdg : decode cc pc = .ok (.return_, 1)) :
    W p l e R s m args below meth c H locs 0 0 (MQ below (cV D q b s.heap.size post) args s 0 0 (ts_A b 52 s.heap.size)) (F0 m pc ls []) :=
  W.vret C0.1 C0.2.1 C0.2.2.2.2.2.1 (fun t ht _ => ⟨⟨u, rfl, hp, by show ts_W D b 52 (cel q b u) t.heap; rw [ht]; exact hW⟩, hS.F ht⟩) hS.2.2 hdg C0.2.2.2.2.2.2.1
theorem ts_aret {k : Nat} {post : ST → Prop} {y : MethodName} {ws : List Cond} {maxL : Nat} {rt : FieldType} (C0 : ts_Cx p s m args meth c cc maxL (some rt) y ws) (hrt : (∃ n, rt = .object n) ∨ ∃ t, rt = .array t) (hW : ts_W D b 52 (cel q b u) H) (hS : va_S (ts_A b 52 s.heap.size) s.heap H locs) (hp : post u) (hdg : decode cc pc = .ok (.areturn, 1)) :
    W p l e R s m args below meth c H locs 0 0 (MQ below (cR D q b s.heap.size k post) args s 0 0 (ts_A b 52 s.heap.size)) (F0 m pc ls [.ref (b + k)]) :=
  W.aret C0.1 C0.2.1 C0.2.2.2.2.2.1 hrt (Or.inr ⟨_, rfl⟩) (fun t ht _ => ⟨⟨u, b + k, rfl, hp, rfl, by show ts_W D b 52 (cel q b u) t.heap; rw [ht]; exact hW⟩, hS.F ht⟩) hS.2.2 hdg C0.2.2.2.2.2.2.1
end CALLS
