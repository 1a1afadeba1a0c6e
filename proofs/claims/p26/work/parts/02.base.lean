/-! The world by offsets: n cells from the address b on, what each holds by f; rows for one cell of it. -/
def ts_W (D : va_G) (b n : Nat) (f : Nat → va_E) (H : Heap) : Prop := ∀ k, k < n → va_at D vwCl (b + k, f k) H
def ts_A (b n sz : Nat) : Nat → Prop := fun x => (b ≤ x ∧ x < b + n) ∨ sz ≤ x
theorem ts_Ain {b n sz k : Nat} (h : k < n) : ts_A b n sz (b + k) := Or.inl ⟨by omega, by omega⟩
theorem ts_Aup {b n sz sz' x : Nat} (h : sz ≤ sz') (hx : ts_A b n sz' x) : ts_A b n sz x := hx.elim Or.inl (fun q => Or.inr (Nat.le_trans h q))
theorem ts_one {D : va_G} {b n : Nat} {f : Nat → va_E} {H : Heap} (h : ts_W D b n f H) {k : Nat} (hk : k < n) {e : va_E} (he : f k = e) : va_P D vwCl [(b + k, e)] H := by
  intro j q hj
  have h0 : j < 1 := (List.getElem?_eq_some_iff.mp hj).1
  rw [show j = 0 by omega] at hj
  cases hj
  rw [← he]
  exact h k hk
theorem ts_kept {D : va_G} {b n : Nat} {f : Nat → va_E} {H H1 : Heap} (h : ts_W D b n f H) (hq : ∀ x, b ≤ x → x < b + n → H1[x]? = H[x]?) : ts_W D b n f H1 := fun k hk => (h k hk).kept (hq (b + k) (by omega) (by omega))
theorem ts_conv {D : va_G} {b n : Nat} {f f' : Nat → va_E} {H : Heap} (h : ts_W D b n f H) (hf : ∀ k, k < n → f' k = f k) : ts_W D b n f' H := fun k hk => by rw [hf k hk]; exact h k hk
theorem ts_set {D : va_G} {b n : Nat} {f f' : Nat → va_E} {H H1 : Heap} (h : ts_W D b n f H) {k : Nat} (he : va_at D vwCl (b + k, f' k) H1) (hoth : ∀ i, i < n → i ≠ k → f' i = f i) (oq : ∀ x, x ≠ b + k → H1[x]? = H[x]?) : ts_W D b n f' H1 := by
  intro i hi
  by_cases e : i = k
  · subst e
    exact he
  · rw [hoth i hi e]
    exact (h i hi).kept (oq (b + i) (by omega))
theorem ts_arr {c : ClassId} {n : Nat} {f g : Nat → Value} (h : ∀ j, j < n → f j = g j) : arrV c n f = arrV c n g := by
  have e : (Array.ofFn (n := n) fun j => f j.val) = Array.ofFn (n := n) fun j => g j.val := by
    apply Array.ext
    · simp
    · intro j h1 h2
      simp only [Array.getElem_ofFn]
      exact h j (by simpa using h1)
  show ({ cls := c, slots := Array.ofFn (n := n) fun j => f j.val, vm := .none } : Cell) = { cls := c, slots := Array.ofFn (n := n) fun j => g j.val, vm := .none }
  rw [e]
section TSR
variable {p : Program} {l : Launch} {e : Env} {R : Room} {s : State} {m : MethodId} {args : Array Value} {below : List Frame} {meth : Method} {c : Code} {H : Heap} {locs : List Loc} {cells slots : Nat} {Q : State → Prop}
variable {cc : ByteArray} {pc : Nat} {ls : Array Slot} {rest : List Value} {D : va_G} {A : Nat → Prop} {b n : Nat} {tys : List (ClassId × FieldType)} {f : Nat → va_E} {H0 : Heap}
theorem ts_get (hexec : p.tables.exec = Jvm.exec) (hb : c.code = cc) {own C : String} {T : u_T} {N ci index : Nat} {Ts : List Cond} (hts : ∀ w ∈ Ts, w.before args s = true) (hin : ∀ w ∈ u_ws C T N, w ∈ Ts) (hown : s.vm.findClass own = some m.cls) (hK : va_K D vwCl tys s) (hW : ts_W D b n f H) (k : Nat) (hk : k < n) {fs : List Value} (he : f k = .inr (ci, fs)) (hc : vwCl[ci]? = some (C, T, N)) (j : Nat) (hj : j < N) (hlink : Cond.fieldLink own index (T j).1 (T j).2.1 (T j).2.2.1 ∈ Ts) {v : Value} (hv : fs[j]? = some v) (hdg : decode cc pc = .ok (.getfield index, 3))
    (kk : W p l e R s m args below meth c H locs cells slots Q (F0 m (pc + 3) ls (v :: rest))) : W p l e R s m args below meth c H locs cells slots Q (F0 m pc ls (.ref (b + k) :: rest)) :=
  va_get hexec hb hts hin hown hK (ts_one hW hk he) 0 rfl hc j hj (hts _ hlink) (fun _ h => h) hv hdg kk
theorem ts_put (hexec : p.tables.exec = Jvm.exec) (hb : c.code = cc) {own C : String} {T : u_T} {N ci index : Nat} {Ts : List Cond} (hts : ∀ w ∈ Ts, w.before args s = true) (hin : ∀ w ∈ u_ws C T N, w ∈ Ts) (ty0 : Nat → FieldType) (hty : ∀ k, k < N → parseFieldDescriptor (T k).2.2.1 = some (ty0 k)) (hnm : ∀ a, a < N → ∀ b, b < N → a ≠ b → (T a).2.1 ≠ (T b).2.1) (hown : s.vm.findClass own = some m.cls) (hK : va_K D vwCl tys s) (hW : ts_W D b n f H) (hS0 : va_S A H0 H locs) (hA : ∀ k, k < n → A (b + k)) (k : Nat) (hk : k < n) {fs : List Value} (he : f k = .inr (ci, fs)) (hc : vwCl[ci]? = some (C, T, N)) (j : Nat) (hj : j < N) (hlink : Cond.fieldLink own index (T j).1 (T j).2.1 (T j).2.2.1 ∈ Ts) (hfin : (T j).2.2.2 = false) {v : Value} (hn : narrow (ty0 j) v = v) (hfit : fits (ty0 j) v = true) (hl : j < fs.length)
    (f' : Nat → va_E) (hf' : f' k = .inr (ci, fs.set j v)) (hoth : ∀ i, i < n → i ≠ k → f' i = f i) (hdg : decode cc pc = .ok (.putfield index, 3))
    (kk : ∀ (H1 : Heap) (locs1 : List Loc), (∀ x, x ≠ b + k → H1[x]? = H[x]?) → H1.size = H.size → ts_W D b n f' H1 → va_S A H0 H1 locs1 → W p l e R s m args below meth c H1 locs1 cells slots Q (F0 m (pc + 3) ls rest)) : W p l e R s m args below meth c H locs cells slots Q (F0 m pc ls (v :: .ref (b + k) :: rest)) := by
  have hap := va_apart (own := own) hts hin ty0 hty hnm hK hc
  obtain ⟨r, h1, cell, q1, q2, q3, q4⟩ := ts_one hW hk he 0 _ rfl
  have hr : r = (C, T, N) := Option.some.inj (h1.symm.trans hc)
  subst hr
  obtain ⟨hSl, hfc, kC, hkC, hkind⟩ := hK.1 ci _ hc
  obtain ⟨cf, kf, fi, fl, hi, hsl⟩ := hSl j hj
  have hlay := hts _ (hin _ (u_in_lay hj))
  unfold u_lay at hlay
  rw [if_neg (by rw [hfin]; decide)] at hlay
  have hst := (u_facts hfc hkC (u_lays hts hin hj) hi).1
  have h6 := u_store hfc hkC hkind hlay hi (hty j hj) hn hfit
  refine W.putK hexec hb (f := fl) ⟨hown, hts _ hlink, ⟨_, _, _, hi⟩, hst⟩ (by rw [q2]; exact h6) q1 q3 (by rw [hsl]; exact k2_hasslot (q4 j hj)) rfl rfl hdg fun H' e1 e2 e3 => ?_
  rw [hsl] at e1 ⊢
  refine kk H' _ e3 e2 (ts_set hW ?_ hoth e3) (hS0.put e2 e3 (hA k hk))
  rw [hf']
  exact ⟨_, hc, t_OB.to (V := updV (vp_V fs) j v) ⟨_, e1, q2, q3, t_set q4 hap hj v⟩ (fun i _ => vp_updV_set hl v i)⟩
theorem ts_iald (hexec : p.tables.exec = Jvm.exec) (hb : c.code = cc) (hK : va_K D vwCl tys s) (hW : ts_W D b n f H) (k : Nat) (hk : k < n) (t0 : Nat) {cA : ClassId} {N i : Nat} {g : Nat → Int32} (he : f k = .inl (cA, N, .inl g)) (ht : tys[t0]? = some (cA, .int)) (hi : i < N) (hN : N < 2 ^ 31) {v : Int32} (hv : g i = v) (hdg : decode cc pc = .ok (.iaload, 1))
    (kk : W p l e R s m args below meth c H locs cells slots Q (F0 m (pc + 1) ls (.int v :: rest))) : W p l e R s m args below meth c H locs cells slots Q (F0 m pc ls (.int (nI i) :: .ref (b + k) :: rest)) := by
  refine va_iald hexec hb hK (ts_one hW hk he) 0 t0 rfl ht (vp_in_nI hi hN) hdg ?_
  rw [nI_clamp (by omega), hv]
  exact kk
theorem ts_aald (hexec : p.tables.exec = Jvm.exec) (hb : c.code = cc) (hK : va_K D vwCl tys s) (hW : ts_W D b n f H) (k : Nat) (hk : k < n) (t0 : Nat) {cA : ClassId} {ty : FieldType} {N i : Nat} {g : Nat → Option Nat} (he : f k = .inl (cA, N, .inr (.inr (.inr (.inr g))))) (ht : tys[t0]? = some (cA, ty)) (hty : ty.isReference = true) (hi : i < N) (hN : N < 2 ^ 31) {a : Nat} (hv : g i = some a) (hdg : decode cc pc = .ok (.aaload, 1))
    (kk : W p l e R s m args below meth c H locs cells slots Q (F0 m (pc + 1) ls (.ref a :: rest))) : W p l e R s m args below meth c H locs cells slots Q (F0 m pc ls (.int (nI i) :: .ref (b + k) :: rest)) := by
  have hin := vp_in_nI hi hN
  have hc : (nI i).toNatClampNeg = i := nI_clamp (by omega)
  have hP := ts_one hW hk he 0 _ rfl
  refine W.aald (v := .ref a) (ty := ty) hexec hb hP ((hK.2 t0 _ ht).1 N (fun j => va_rf (g j))) hty (fun q => by cases q) (by show ¬ (nI i < 0 ∨ (arrV _ _ _).slots.size ≤ _); rw [arrV_size]; exact hin) ?_ rfl rfl hdg kk
  show (arrV _ _ _).slots[_]? = _
  rw [hc, arrV_read _ _ hi, hv]
  rfl
theorem ts_iast (hexec : p.tables.exec = Jvm.exec) (hb : c.code = cc) (hK : va_K D vwCl tys s) (hW : ts_W D b n f H) (hS0 : va_S A H0 H locs) (hA : ∀ k, k < n → A (b + k)) (k : Nat) (hk : k < n) (t0 : Nat) {cA : ClassId} {N i : Nat} {g g' : Nat → Int32} (he : f k = .inl (cA, N, .inl g)) (ht : tys[t0]? = some (cA, .int)) (hi : i < N) (hN : N < 2 ^ 31) {v : Int32}
    (f' : Nat → va_E) (hf' : f' k = .inl (cA, N, .inl g')) (hg : ∀ j, j < N → g' j = if j = i then v else g j) (hoth : ∀ j, j < n → j ≠ k → f' j = f j) (hdg : decode cc pc = .ok (.iastore, 1))
    (kk : ∀ (H1 : Heap) (locs1 : List Loc), (∀ x, x ≠ b + k → H1[x]? = H[x]?) → H1.size = H.size → ts_W D b n f' H1 → va_S A H0 H1 locs1 → W p l e R s m args below meth c H1 locs1 cells slots Q (F0 m (pc + 1) ls rest)) : W p l e R s m args below meth c H locs cells slots Q (F0 m pc ls (.int v :: .int (nI i) :: .ref (b + k) :: rest)) := by
  have hin := vp_in_nI hi hN
  have hc : (nI i).toNatClampNeg = i := nI_clamp (by omega)
  refine W.iast hexec hb (ts_one hW hk he 0 _ rfl) ((hK.2 t0 _ ht).1 N (fun j => .int (g j))) (fun q => by cases q) (by show ¬ (nI i < 0 ∨ (arrV _ _ _).slots.size ≤ _); rw [arrV_size]; exact hin) rfl rfl hdg fun H1 e1 e2 e3 => ?_
  refine kk H1 _ e3 e2 (ts_set hW ?_ hoth e3) (hS0.put e2 e3 (hA k hk))
  rw [hf']
  show H1[b + k]? = some (vp_cell _ _)
  rw [e1, vp_cell_i, vp_cell_i, arrV_store, hc]
  congr 1
  apply ts_arr
  intro j hj
  rw [hg j hj]
  by_cases q : j = i
  · subst q
    simp [updV]
  · simp [updV, q]
theorem ts_alen (hexec : p.tables.exec = Jvm.exec) (hb : c.code = cc) (hK : va_K D vwCl tys s) (hW : ts_W D b n f H) (k : Nat) (hk : k < n) (t0 : Nat) {cA : ClassId} {x : vp_A} (he : f k = .inl (cA, x)) {ty : FieldType} (ht : tys[t0]? = some (cA, ty)) {v : Int32} (hv : Int32.ofNat x.1 = v) (hdg : decode cc pc = .ok (.arraylength, 1))
    (kk : W p l e R s m args below meth c H locs cells slots Q (F0 m (pc + 1) ls (.int v :: rest))) : W p l e R s m args below meth c H locs cells slots Q (F0 m pc ls (.ref (b + k) :: rest)) :=
  va_alen hexec hb hK (ts_one hW hk he) 0 t0 rfl ht hv hdg kk
theorem ts_iadd (hexec : p.tables.exec = Jvm.exec) (hb : c.code = cc) {x y v : Int32} (hdg : decode cc pc = .ok (.iadd, 1)) (hv : x + y = v)
    (kk : W p l e R s m args below meth c H locs cells slots Q (F0 m (pc + 1) ls (.int v :: rest))) : W p l e R s m args below meth c H locs cells slots Q (F0 m pc ls (.int y :: .int x :: rest)) := by
  subst hv
  exact lv_iadd hexec hb hdg kk
theorem ts_isub (hexec : p.tables.exec = Jvm.exec) (hb : c.code = cc) {x y v : Int32} (hdg : decode cc pc = .ok (.isub, 1)) (hv : x - y = v)
    (kk : W p l e R s m args below meth c H locs cells slots Q (F0 m (pc + 1) ls (.int v :: rest))) : W p l e R s m args below meth c H locs cells slots Q (F0 m pc ls (.int y :: .int x :: rest)) := by
  subst hv
  exact lv_isub hexec hb hdg kk
theorem ts_imul (hexec : p.tables.exec = Jvm.exec) (hb : c.code = cc) {x y v : Int32} (hdg : decode cc pc = .ok (.imul, 1)) (hv : x * y = v)
    (kk : W p l e R s m args below meth c H locs cells slots Q (F0 m (pc + 1) ls (.int v :: rest))) : W p l e R s m args below meth c H locs cells slots Q (F0 m pc ls (.int y :: .int x :: rest)) := by
  subst hv
  exact lv_imul hexec hb hdg kk
theorem ts_iand (hexec : p.tables.exec = Jvm.exec) (hb : c.code = cc) {x y v : Int32} (hdg : decode cc pc = .ok (.iand, 1)) (hv : x &&& y = v)
    (kk : W p l e R s m args below meth c H locs cells slots Q (F0 m (pc + 1) ls (.int v :: rest))) : W p l e R s m args below meth c H locs cells slots Q (F0 m pc ls (.int y :: .int x :: rest)) := by
  subst hv
  exact lv_iand hexec hb hdg kk
theorem ts_ior (hexec : p.tables.exec = Jvm.exec) (hb : c.code = cc) {x y v : Int32} (hdg : decode cc pc = .ok (.ior, 1)) (hv : x ||| y = v)
    (kk : W p l e R s m args below meth c H locs cells slots Q (F0 m (pc + 1) ls (.int v :: rest))) : W p l e R s m args below meth c H locs cells slots Q (F0 m pc ls (.int y :: .int x :: rest)) := by
  subst hv
  exact lv_ior hexec hb hdg kk
theorem ts_ixor (hexec : p.tables.exec = Jvm.exec) (hb : c.code = cc) {x y v : Int32} (hdg : decode cc pc = .ok (.ixor, 1)) (hv : x ^^^ y = v)
    (kk : W p l e R s m args below meth c H locs cells slots Q (F0 m (pc + 1) ls (.int v :: rest))) : W p l e R s m args below meth c H locs cells slots Q (F0 m pc ls (.int y :: .int x :: rest)) := by
  subst hv
  exact lv_ixor hexec hb hdg kk
theorem ts_ishl (hexec : p.tables.exec = Jvm.exec) (hb : c.code = cc) {x y v : Int32} (hdg : decode cc pc = .ok (.ishl, 1)) (hv : x <<< (y &&& 31) = v)
    (kk : W p l e R s m args below meth c H locs cells slots Q (F0 m (pc + 1) ls (.int v :: rest))) : W p l e R s m args below meth c H locs cells slots Q (F0 m pc ls (.int y :: .int x :: rest)) := by
  subst hv
  exact lv_ishl hexec hb hdg kk
theorem ts_ishr (hexec : p.tables.exec = Jvm.exec) (hb : c.code = cc) {x y v : Int32} (hdg : decode cc pc = .ok (.ishr, 1)) (hv : x >>> (y &&& 31) = v)
    (kk : W p l e R s m args below meth c H locs cells slots Q (F0 m (pc + 1) ls (.int v :: rest))) : W p l e R s m args below meth c H locs cells slots Q (F0 m pc ls (.int y :: .int x :: rest)) := by
  subst hv
  exact lv_ishr hexec hb hdg kk
theorem ts_int {x y : Int32} (hv : x = y) (kk : W p l e R s m args below meth c H locs cells slots Q (F0 m pc ls (.int y :: rest))) : W p l e R s m args below meth c H locs cells slots Q (F0 m pc ls (.int x :: rest)) := by
  subst hv
  exact kk
theorem ts_ref {x y : Nat} (hv : x = y) (kk : W p l e R s m args below meth c H locs cells slots Q (F0 m pc ls (.ref y :: rest))) : W p l e R s m args below meth c H locs cells slots Q (F0 m pc ls (.ref x :: rest)) := by
  subst hv
  exact kk
end TSR
/-! Private methods of nest mates: the words about them, all of this system -/
def ts_nq : List (String × Nat × MethodName × String) := [("TypecheckStation$Program", 20, ⟨"TypecheckStation$Findings", "<init>", "()V"⟩, "TypecheckStation"), ("TypecheckStation$Trial", 15, ⟨"TypecheckStation", "newCallTable", "()[[I"⟩, "TypecheckStation"), ("TypecheckStation$Books", 9, ⟨"TypecheckStation", "newCallTable", "()[[I"⟩, "TypecheckStation"), ("TypecheckStation$Program", 29, ⟨"TypecheckStation", "isCall", "(I)Z"⟩, "TypecheckStation"), ("TypecheckStation$Program", 36, ⟨"TypecheckStation", "plainNeed", "(I)I"⟩, "TypecheckStation"), ("TypecheckStation$Program", 43, ⟨"TypecheckStation", "plainGift", "(I)I"⟩, "TypecheckStation"), ("TypecheckStation$Program", 72, ⟨"TypecheckStation", "with", "(II)I"⟩, "TypecheckStation"), ("TypecheckStation$Program", 106, ⟨"TypecheckStation", "has", "(II)Z"⟩, "TypecheckStation"), ("TypecheckStation$Trial", 75, ⟨"TypecheckStation", "rowOf", "(I)I"⟩, "TypecheckStation"), ("TypecheckStation$Trial", 119, ⟨"TypecheckStation", "isCall", "(I)Z"⟩, "TypecheckStation"), ("TypecheckStation$Trial", 123, ⟨"TypecheckStation", "plainNeed", "(I)I"⟩, "TypecheckStation"), ("TypecheckStation$Trial", 126, ⟨"TypecheckStation", "has", "(II)Z"⟩, "TypecheckStation"), ("TypecheckStation$Trial", 133, ⟨"TypecheckStation", "plainGift", "(I)I"⟩, "TypecheckStation"), ("TypecheckStationLaw", 14, ⟨"TypecheckStationLaw$Own", "<init>", "()V"⟩, "TypecheckStationLaw"), ("TypecheckStationLaw$Own", 110, ⟨"TypecheckStationLaw", "cell", "([II)I"⟩, "TypecheckStationLaw"), ("TypecheckStationLaw$Own", 116, ⟨"TypecheckStationLaw", "below", "(II)I"⟩, "TypecheckStationLaw"), ("TypecheckStationLaw", 53, ⟨"TypecheckStationLaw$Own", "step", "(III)I"⟩, "TypecheckStationLaw")]
def ts_N (U : State) : Prop := ∀ q ∈ ts_nq, va_Nw (.methodLinkNest q.1 q.2.1 q.2.2.1 q.2.2.2) U
theorem ts_N.warm {s U : State} (hW : s.WarmedH U.vm) (h : ts_N s) : ts_N U := fun q hq => va_Nw.warmM hW (h q hq)
theorem ts_N.same {s U : State} (e : s.vm = U.vm) (h : ts_N s) : ts_N U := fun q hq => va_Nw.same rfl e (h q hq)
/-! A method's entry -/
def ts_Cx (p : Program) (s : State) (m : MethodId) (args : Array Value) (meth : Method) (c : Code) (cc : ByteArray) (maxL : Nat) (ret : Option FieldType) (y : MethodName) (ws : List Cond) : Prop :=
  p.tables.exec = Jvm.exec ∧ c.code = cc ∧ c.maxLocals = maxL ∧ s.vm.findClass y.cls = some m.cls ∧ (∀ w ∈ ws, w.before args s = true) ∧ meth.sig.returnType = ret ∧ meth.locks = false ∧ meth.name = y.name
theorem ts_met {l : Launch} {y : MethodName} {ws ws' : List Cond} {rm : Room} {cc : ByteArray} {maxL : Nat} {ret : Option FieldType} {av : List Value} {X : State → Prop} {Qc : Array Value → State → Outcome → State → Prop} {mc ms : Nat} {free : Addr → Prop}
    (hy : plainName y.cls = true) (hw : ws = Cond.code y cc maxL ret :: ws') (hlen : (lg_sl av).length ≤ maxL)
    (body : ∀ (p : Program) (e : Env) (s : State) (m : MethodId) (below : List Frame) (meth : Method) (c : Code), ts_Cx p s m av.toArray meth c cc maxL ret y ws → X s → ∀ ls : Array Slot, lv_has ls maxL (lv_args 0 av) →
      W p l e rm s m av.toArray below meth c s.heap [] 0 0 (MQ below Qc av.toArray s mc ms free) (F0 m 0 ls [])) :
    Met l y ws rm (va_Pc av X) Qc mc ms free := by
  refine Met.ofW (cc := cc) (maxL := maxL) (ret := ret) hy hw ?_
  intro p e s m args below meth c s₁ B hml hv
  obtain ⟨rfl, hX⟩ := hv
  have hl := lv_entry av (n := maxL) hlen
  rw [lg_entry_eq]
  exact body p e s m below meth c ⟨B.exec, B.bytes, hml, findClass_of_methodNamed B.named, atoms_spec (ws := ws) B.pre, B.returns, B.notSynchronized, (name_of_methodNamed B.named B.method).1⟩ hX _ hl
