/-! The law's own methods: the station, and the array of who was blamed behind it -/
def Bl (D : va_G) (q : CQ) (bb : Nat) (g : Nat → Nat) (H : Heap) : Prop := ts_W D bb 1 (fun _ => .inl (q.1, 10, .inl (fnat g))) H
def PrB (D : va_G) (q : CQ) (b sz : Nat) (u : ST) (bb : Nat) (g : Nat → Nat) : State → Prop := fun U => Pr D q b sz u U ∧ Bl D q bb g U.heap ∧ b + 52 ≤ bb ∧ bb < sz
def ts_AB (b bb sz : Nat) : Nat → Prop := fun x => ts_A b 52 sz x ∨ x = bb
abbrev cB (D : va_G) (q : CQ) (b bb sz : Nat) (post : Int32 → ST × (Nat → Nat) → Prop) := va_Qi post (fun v t => Ws D q b v.1 t ∧ Bl D q bb v.2 t.heap) (ts_AB b bb sz)
theorem PrB.blind {D : va_G} {q : CQ} {b sz : Nat} {u : ST} {bb : Nat} {g : Nat → Nat} {av : List Value} : FrameBlind (va_Pc av (PrB D q b sz u bb g)) := fun a U g1 mk h => ⟨h.1, (Pr.blind (av := av) a U g1 mk ⟨h.1, h.2.1⟩).2, h.2.2.1, h.2.2.2⟩
section LAWB
variable {p : Program} {l : Launch} {e : Env} {R : Room} {s : State} {m : MethodId} {args : Array Value} {below : List Frame} {meth : Method} {c : Code} {H : Heap} {locs : List Loc} {cells slots : Nat} {Q : State → Prop}
variable {cc : ByteArray} {pc : Nat} {ls : Array Slot} {rest st : List Value} {D : va_G} {q : CQ} {A : Nat → Prop} {b : Nat} {u : ST} {bb : Nat} {g : Nat → Nat} {H0 : Heap} {ws : List Cond} {As : List Value}
theorem ts_preB (hK : va_K D vwCl (tq q) s) (hN : ts_N s) (hW : ts_W D b 52 (cel q b u) H) (hV : Bl D q bb g H) (hbb : b + 52 ≤ bb) (hbz : bb < H.size) : PreS s H (va_Pc As (PrB D q b H.size u bb g)) As :=
  ⟨PrB.blind, fun U hU hW' => ⟨rfl, ⟨by rw [hU], by show ts_W D b 52 (cel q b u) U.heap; rw [hU]; exact hW, va_K.moved hW'.alike hK, hN.warm hW'⟩, by show Bl D q bb g U.heap; rw [hU]; exact hV, hbb, hbz⟩⟩
theorem ts_retB {post : Int32 → ST × (Nat → Nat) → Prop} {a : Array Value} (hr : va_Run p l e R s m args below meth c H locs cells slots 0 0 (F0 m pc ls st) rest (cB D q b bb H.size post a) (ts_AB b bb H.size)) (hS : va_S A H0 H locs) (hA : ∀ x, ts_AB b bb H.size x → A x)
    (kk : ∀ (r : Int32) (u' : ST) (g' : Nat → Nat) (H1 : Heap) (locs1 : List Loc), post r (u', g') → ts_W D b 52 (cel q b u') H1 → Bl D q bb g' H1 → H.size ≤ H1.size → (∀ x : Nat, x < H.size → ¬ ts_AB b bb H.size x → H1[x]? = H[x]?) → va_S A H0 H1 locs1 → W p l e R s m args below meth c H1 locs1 cells slots Q (F0 m (pc + 3) ls (.int r :: rest))) : W p l e R s m args below meth c H locs cells slots Q (F0 m pc ls st) :=
  va_calli hr hS (fun x _ h => hA x h) hA (fun r u' t H1 locs1 ht _ hp hB hz hk hS1 => kk r u'.1 u'.2 H1 locs1 hp (by rw [← ht]; exact hB.1) (by rw [← ht]; exact hB.2) hz hk hS1)
theorem ts_zretB {post : Int32 → ST × (Nat → Nat) → Prop} {y : MethodName} {ws : List Cond} {maxL : Nat} {v : Int32} {ty : FieldType} (C0 : ts_Cx p s m args meth c cc maxL (some ty) y ws) (hn : narrow ty (.int v) = .int v) (hW : ts_W D b 52 (cel q b u) H) (hV : Bl D q bb g H) (hS : va_S (ts_AB b bb s.heap.size) s.heap H locs) (hp : post v (u, g)) (hdg : decode cc pc = .ok (.ireturn, 1)) :
    W p l e R s m args below meth c H locs 0 0 (MQ below (cB D q b bb s.heap.size post) args s 0 0 (ts_AB b bb s.heap.size)) (F0 m pc ls [.int v]) :=
  W.zret C0.1 C0.2.1 C0.2.2.2.2.2.1 hn (fun t ht _ => ⟨⟨v, (u, g), rfl, hp, by show ts_W D b 52 (cel q b u) t.heap; rw [ht]; exact hW, by show Bl D q bb g t.heap; rw [ht]; exact hV⟩, hS.F ht⟩) hS.2.2 hdg C0.2.2.2.2.2.2.1
theorem Bl.set {g g' : Nat → Nat} {H1 : Heap} (h : ts_W D bb 1 (fun _ => .inl (q.1, 10, .inl (fnat g'))) H1) : Bl D q bb g' H1 := h
end LAWB
theorem blw_and (v : Int32) : v &&& nI 2147483647 = nI (v.toBitVec.toNat % 2 ^ 31) := pk_and v 31 (by decide)
/-- below: what is left of the lower 31 bits -/
def blwN (v : Int32) (n : Nat) : Nat := v.toBitVec.toNat % 2 ^ 31 % n
theorem blwN_lt (v : Int32) {n : Nat} (h : 0 < n) : blwN v n < n := Nat.mod_lt _ h
