/-! Making: cells come one behind another at the heap's end -/
theorem ts_born {D : va_G} {b n : Nat} {f : Nat → va_E} {H H1 : Heap} {e : va_E} (hz : H.size = b + n) (hW : ts_W D b n f H) (ho : ∀ x, x < H.size → H1[x]? = H[x]?) (he : va_at D vwCl (b + n, e) H1) : ts_W D b (n + 1) (va_up f n e) H1 := by
  intro k hk
  by_cases q : k = n
  · subst q
    rw [va_up_self]
    exact he
  · rw [va_up_ne _ _ q]
    exact (hW k (by omega)).kept (ho _ (by omega))
theorem ts_Skeep {A : Nat → Prop} {H0 H H1 : Heap} {locs : List Loc} (hS : va_S A H0 H locs) (hz : H.size ≤ H1.size) (ho : ∀ x, x < H.size → H1[x]? = H[x]?) : va_S A H0 H1 locs :=
  ⟨Nat.le_trans hS.1 hz, fun x h1 h2 => (ho x (Nat.lt_of_lt_of_le h1 hS.1)).trans (hS.2.1 x h1 h2), hS.2.2⟩
def ts_AO2 (U : State) : Prop := (Cond.arrayOver (.array .int)).before #[] U = true
theorem ts_AO2.moved {u U : State} (hvm : u.vm.Alike U.vm) (h : ts_AO2 u) : ts_AO2 U := by
  unfold ts_AO2 Cond.before Cond.holds at h ⊢
  simp only [Cond.value] at h ⊢
  have f1 : U.vm.findClass (FieldType.array .int).toString = u.vm.findClass (FieldType.array .int).toString := hvm.findClass _ _
  have f2 : U.vm.findClass ("[" ++ (FieldType.array .int).toString) = u.vm.findClass ("[" ++ (FieldType.array .int).toString) := hvm.findClass _ _
  rw [f1]
  cases hc : u.vm.findClass (FieldType.array .int).toString with
  | none => rw [hc] at h; simp at h
  | some comp =>
    rw [hc] at h
    simp only [Option.bind_some] at h ⊢
    have hi : (U.vm.classes.findIdx? fun (x : Class) => match x.kind with | .array component _ => component == comp | _ => false) = (u.vm.classes.findIdx? fun (x : Class) => match x.kind with | .array component _ => component == comp | _ => false) := by
      have q1 := va_idx_bare U.vm comp
      have q2 := va_idx_bare u.vm comp
      first | rw [hvm.bare_eq] at q1 | rw [← hvm.bare_eq] at q1
      exact q1.symm.trans q2
    cases hj : (u.vm.classes.findIdx? fun (x : Class) => match x.kind with | .array component _ => component == comp | _ => false) with
    | none =>
      have h2 := (congrArg (fun o : Option Nat => (o.bind (fun c => (u.vm.classes[c]?).map fun (k : Class) => match k.kind with | .array _ ty => decide (ty = FieldType.array .int) && decide (u.vm.findClass ("[" ++ (FieldType.array .int).toString) = some c) | _ => false) == some true)) hj).symm.trans h
      simp at h2
    | some c =>
      have h2 := (congrArg (fun o : Option Nat => (o.bind (fun c => (u.vm.classes[c]?).map fun (k : Class) => match k.kind with | .array _ ty => decide (ty = FieldType.array .int) && decide (u.vm.findClass ("[" ++ (FieldType.array .int).toString) = some c) | _ => false) == some true)) hj).symm.trans h
      refine (congrArg (fun o : Option Nat => (o.bind (fun c => (U.vm.classes[c]?).map fun (k : Class) => match k.kind with | .array _ ty => decide (ty = FieldType.array .int) && decide (U.vm.findClass ("[" ++ (FieldType.array .int).toString) = some c) | _ => false) == some true)) (hi.trans hj)).trans ?_
      simp only [Option.bind_some] at h2 ⊢
      cases hk : u.vm.classes[c]? with
      | none => rw [hk] at h2; simp at h2
      | some k =>
        rw [hk] at h2
        obtain ⟨k', hk', he⟩ := hvm.2.2 _ _ hk
        have hkind : k'.kind = k.kind := by rw [he]
        rw [hk']
        simp only [Option.map_some, hkind, f2] at h2 ⊢
        exact h2
def ts_AO (U : State) : Prop := va_AO "TypecheckStation$Function" U ∧ ts_AO2 U
theorem ts_AO.moved {u U : State} (hvm : u.vm.Alike U.vm) (h : ts_AO u) : ts_AO U := ⟨va_AO.moved hvm h.1, ts_AO2.moved hvm h.2⟩
section TSN
variable {p : Program} {l : Launch} {e : Env} {R : Room} {s : State} {m : MethodId} {args : Array Value} {below : List Frame} {meth : Method} {c : Code} {H : Heap} {locs : List Loc} {cells slots : Nat} {Q : State → Prop}
variable {cc : ByteArray} {pc : Nat} {ls : Array Slot} {rest : List Value} {D : va_G} {A : Nat → Prop} {b n : Nat} {tys : List (ClassId × FieldType)} {f : Nat → va_E} {H0 : Heap}
theorem ts_new (hexec : p.tables.exec = Jvm.exec) (hb : c.code = cc) {own C : String} {T : u_T} {N ci index : Nat} {Ts : List Cond} (hts : ∀ w ∈ Ts, w.before args s = true) (hin : ∀ w ∈ u_ws C T N, w ∈ Ts) (ty : Nat → FieldType) (hty : ∀ k, k < N → parseFieldDescriptor (T k).2.2.1 = some (ty k)) (hown : s.vm.findClass own = some m.cls) (hcl : Cond.classLink own index C ∈ Ts) (hinst : Cond.instantiable C N ∈ Ts) (hini : Cond.initialized C ∈ Ts)
    (hK : va_K D vwCl tys s) (hz : H.size = b + n) (hW : ts_W D b n f H) (hS : va_S A H0 H locs) (hc : vwCl[ci]? = some (C, T, N)) (fs : List Value) (hfs : ∀ j, j < N → defaultValue (ty j) = vp_V fs j) (hcells : cells + 1 ≤ R.cells) (hslots : slots + N ≤ R.slots) (hdg : decode cc pc = .ok (.new index, 3))
    (kk : ∀ H1 : Heap, H1.size = b + (n + 1) → (∀ x, x < H.size → H1[x]? = H[x]?) → ts_W D b (n + 1) (va_up f n (.inr (ci, fs))) H1 → va_S A H0 H1 locs → W p l e R s m args below meth c H1 locs (cells + 1) (slots + N) Q (F0 m (pc + 3) ls (.ref (b + n) :: rest))) : W p l e R s m args below meth c H locs cells slots Q (F0 m pc ls rest) := by
  have hKn := hK.1 ci _ hc
  refine W.newcK hexec hb hown (hts _ hcl) (hts _ hinst) (hts _ hini) rfl hdg hcells hslots hKn.2.1 hz fun H1 kC hkC e1 z1 o1 => ?_
  have o2 : ∀ x, x < H.size → H1[x]? = H[x]? := fun x hx => o1 x (by omega)
  exact kk H1 (by omega) o2 (ts_born hz hW o2 ⟨_, hc, (u_born ty hts hin hKn hkC e1 hty).to hfs⟩) (ts_Skeep hS (by omega) o2)
/-- an array of a primitive type whose class is q's -/
theorem ts_newa (hexec : p.tables.exec = Jvm.exec) (hb : c.code = cc) {atype : ArrayType} {Ts : List Cond} (hts : ∀ w ∈ Ts, w.before args s = true) (harr : Cond.arrayClass (newarray.typeOf atype) ∈ Ts) (hK : va_K D vwCl tys s) (t0 : Nat) {cA : ClassId} (ht : tys[t0]? = some (cA, newarray.typeOf atype)) (hra : va_RA s cA (newarray.typeOf atype) → s.vm.findClass ("[" ++ (newarray.typeOf atype).toString) = some cA)
    (hz : H.size = b + n) (hW : ts_W D b n f H) (hS : va_S A H0 H locs) {N : Nat} (a0 : vp_A) (ha : vp_cell cA a0 = arrV cA N (fun _ => defaultValue (newarray.typeOf atype))) (hN : N < 2 ^ 20) (hbytes : N * componentBytes (newarray.typeOf atype) ≤ 536870912) (hcells : cells + 1 ≤ R.cells) (hslots : slots + N ≤ R.slots) (hdg : decode cc pc = .ok (.newarray atype, 2))
    (kk : ∀ H1 : Heap, H1.size = b + (n + 1) → (∀ x, x < H.size → H1[x]? = H[x]?) → ts_W D b (n + 1) (va_up f n (.inl (cA, a0))) H1 → va_S A H0 H1 locs → W p l e R s m args below meth c H1 locs (cells + 1) (slots + N) Q (F0 m (pc + 2) ls (.ref (b + n) :: rest))) : W p l e R s m args below meth c H locs cells slots Q (F0 m pc ls (.int (nI N) :: rest)) := by
  refine va_newaK hexec hb (hts _ harr) rfl hdg rfl (nI_pos (by omega)) (nI_clamp (by omega)) hbytes hcells hslots hz fun H1 cA' e1 z1 o1 hAr hNm => ?_
  have o2 : ∀ x, x < H.size → H1[x]? = H[x]? := fun x hx => o1 x (by omega)
  have hcA : cA' = cA := Option.some.inj (hNm.symm.trans (hra (hK.2 t0 _ ht).2))
  subst hcA
  refine kk H1 (by omega) o2 (ts_born hz hW o2 ?_) (ts_Skeep hS (by omega) o2)
  show H1[b + n]? = some (vp_cell _ _)
  rw [ha]
  exact e1
/-- an array of references to objects of C -/
theorem ts_newq (hexec : p.tables.exec = Jvm.exec) (hb : c.code = cc) {own C : String} {index : Nat} {Ts : List Cond} (hts : ∀ w ∈ Ts, w.before args s = true) (hown : s.vm.findClass own = some m.cls) (hclink : Cond.classLink own index C ∈ Ts) (hover : va_AO C s) (hK : va_K D vwCl tys s) (t0 : Nat) {cA : ClassId} (ht : tys[t0]? = some (cA, .object C))
    (hz : H.size = b + n) (hW : ts_W D b n f H) (hS : va_S A H0 H locs) {N : Nat} (hN : N < 2 ^ 20) (hcells : cells + 1 ≤ R.cells) (hslots : slots + N ≤ R.slots) (hdg : decode cc pc = .ok (.anewarray index, 3))
    (kk : ∀ H1 : Heap, H1.size = b + (n + 1) → (∀ x, x < H.size → H1[x]? = H[x]?) → ts_W D b (n + 1) (va_up f n (.inl (cA, N, .inr (.inr (.inr (.inr (fun _ => none))))))) H1 → va_S A H0 H1 locs → W p l e R s m args below meth c H1 locs (cells + 1) (slots + N) Q (F0 m (pc + 3) ls (.ref (b + n) :: rest))) : W p l e R s m args below meth c H locs cells slots Q (F0 m pc ls (.int (nI N) :: rest)) := by
  have hcl : (nI N).toNatClampNeg = N := nI_clamp (by omega)
  refine W.anew hexec hb hown (hts _ hclink) (va_AO.use hover) rfl hdg rfl (nI_pos (by omega)) (by rw [hcl]; omega) hcells (by rw [hcl]; exact hslots) fun cA' kA comp f1 f2 f3 f4 => ?_
  rw [hcl]
  obtain ⟨-, kB, comp2, g1, g2, g3, g4⟩ := hK.2 t0 _ ht
  have hcA : cA' = cA := Option.some.inj (f1.symm.trans g4)
  subst hcA
  generalize hH1 : H.push ({ cls := cA', slots := Array.replicate N .null, vm := .none } : Cell) = H1
  have z1 : H1.size = H.size + 1 := by rw [← hH1, Array.size_push]
  have e1 : H1[H.size]? = some (arrV cA' N (fun _ => .null)) := by rw [← hH1, Array.getElem?_push_size, ← arrV_new]
  have o1 : ∀ q : Nat, q < H.size → H1[q]? = H[q]? := fun q hq => by rw [← hH1, Array.getElem?_push, if_neg (Nat.ne_of_lt hq)]
  rw [hz]
  refine kk H1 (by omega) o1 (ts_born hz hW o1 ?_) (ts_Skeep hS (by omega) o1)
  show H1[b + n]? = some (vp_cell _ _)
  rw [← hz, vp_cell_q]
  exact e1
/-- 'new int[N][K]': the outer array, then its rows -/
theorem ts_mna (hexec : p.tables.exec = Jvm.exec) (hb : c.code = cc) {own : String} {index : Nat} {Ts : List Cond} (hts : ∀ w ∈ Ts, w.before args s = true) (hown : s.vm.findClass own = some m.cls) (hclink : Cond.classLink own index "[[I" ∈ Ts) (hover : ts_AO2 s) (harr : Cond.arrayClass .int ∈ Ts) {q : CQ} (hK : va_K D vwCl (tq q) s)
    (hz : H.size = b + n) (hW : ts_W D b n f H) (hS : va_S A H0 H locs) {N K : Nat} (hN : N < 2 ^ 10) (hK1 : K < 2 ^ 10) (hcells : cells + (1 + N) ≤ R.cells) (hslots : slots + (N + N * K) ≤ R.slots) (hdg : decode cc pc = .ok (.multianewarray index 2, 4))
    (kk : ∀ H1 : Heap, H1.size = b + (n + 1 + N) → (∀ x, x < H.size → H1[x]? = H[x]?) → ts_W D b (n + 1 + N) (fun k => if k < n then f k else if k = n then .inl (q.2.2, N, .inr (.inr (.inr (.inr (fun i => some (b + (n + 1 + i))))))) else .inl (q.1, K, .inl (fun _ => 0))) H1 → va_S A H0 H1 locs → W p l e R s m args below meth c H1 locs (cells + 1 + N) (slots + N + N * K) Q (F0 m (pc + 4) ls (.ref (b + n) :: rest))) : W p l e R s m args below meth c H locs cells slots Q (F0 m pc ls (.int (nI K) :: .int (nI N) :: rest)) := by
  have hclN : (nI N).toNatClampNeg = N := nI_clamp (by omega)
  have hclK : (nI K).toNatClampNeg = K := nI_clamp (by omega)
  intro T hT Xs
  obtain ⟨vm₁, cA, comp, -, fA, fC, hO, -, X', step⟩ := Xs.multianewarray2F hexec (ty := .int) hown (hts _ hclink) (show (Cond.arrayOver (.array .int)).before args s = true from hover) (hts _ harr) (g := F0 m pc ls (.int (nI K) :: .int (nI N) :: rest)) rfl (by rw [hb]; exact hdg) rfl (nI_pos (by omega)) (nI_pos (by omega)) (by rw [hclN]; omega) (by rw [hclK]; show K * 4 ≤ _; omega) (by rw [hclK]; omega) rfl rfl (by rw [hclN]; exact hcells) (by rw [hclN, hclK]; exact hslots)
  rw [hclN, hclK] at X' step
  have e1 : cA = q.2.2 := Option.some.inj (fA.symm.trans (hK.2 2 _ rfl).2)
  have e2 : comp = q.1 := Option.some.inj (fC.symm.trans (hK.2 0 _ rfl).2)
  subst e1
  subst e2
  have hTh : (T.setVm vm₁).heap = H := hT
  generalize hF : Jvm.Free.Multi.fill (T.setVm vm₁) q.2.2 q.1 N K (defaultValue .int) N = F at X' step
  obtain ⟨f1, f2, -, -⟩ := Jvm.Free.Multi.fill_facts (T.setVm vm₁) q.2.2 q.1 N K (defaultValue .int) N
  rw [hF, hTh] at f1 f2
  have hold : ∀ x : Nat, x < H.size → F.heap[x]? = H[x]? := fun x hx => by
    have := Jvm.Free.Multi.fill_old (T.setVm vm₁) q.2.2 q.1 N K (defaultValue .int) (a := x) (by rw [hTh]; exact hx) N
    rw [hF, hTh] at this
    exact this
  have hrow : ∀ j : Nat, j < N → F.heap[H.size + 1 + j]? = some (arrV q.1 K (fun _ => .int 0)) := fun j hj => by
    have := Jvm.Free.Multi.fill_inner (T.setVm vm₁) q.2.2 q.1 N K (defaultValue .int) N j hj
    rw [hF, hTh] at this
    rw [this]
    exact congrArg some (arrV_new q.1 K (.int 0))
  have hout : Jvm.Free.Multi.outerC q.2.2 N H.size N = arrV q.2.2 N (fun j => va_rf (some (b + (n + 1 + j)))) := by
    rw [vr_outer]
    apply ts_arr
    intro j hj
    rw [if_pos hj, hz]
    show Value.ref _ = Value.ref _
    rw [show b + n + 1 + j = b + (n + 1 + j) by omega]
  rw [hout] at f2
  have hFW : ts_W D b (n + 1 + N) (fun k => if k < n then f k else if k = n then .inl (q.2.2, N, .inr (.inr (.inr (.inr (fun i => some (b + (n + 1 + i))))))) else .inl (q.1, K, .inl (fun _ => 0))) F.heap := by
    intro k hk
    by_cases c1 : k < n
    · show va_at D vwCl (b + k, if k < n then f k else _) F.heap
      rw [if_pos c1]
      exact (hW k c1).kept (hold _ (by omega))
    · by_cases c2 : k = n
      · show va_at D vwCl (b + k, if k < n then f k else if k = n then _ else _) F.heap
        rw [if_neg c1, if_pos c2, c2, ← hz]
        exact f2
      · show va_at D vwCl (b + k, if k < n then f k else if k = n then _ else _) F.heap
        rw [if_neg c1, if_neg c2]
        have := hrow (k - (n + 1)) (by omega)
        rw [show H.size + 1 + (k - (n + 1)) = b + k by omega] at this
        exact this
  obtain ⟨t, a1, b1⟩ := kk F.heap (by omega) hold hFW (ts_Skeep hS (by omega) hold) F rfl X'
  refine ⟨t, step _ ?_, b1⟩
  have hTz : T.heap.size = b + n := by rw [hT]; exact hz
  rw [hTz]
  exact a1
theorem ts_putF (hexec : p.tables.exec = Jvm.exec) (hb : c.code = cc) {own C : String} {T : u_T} {N ci index : Nat} {Ts : List Cond} (hts : ∀ w ∈ Ts, w.before args s = true) (hin : ∀ w ∈ u_ws C T N, w ∈ Ts) (ty0 : Nat → FieldType) (hty : ∀ k, k < N → parseFieldDescriptor (T k).2.2.1 = some (ty0 k)) (hnm : ∀ a, a < N → ∀ b, b < N → a ≠ b → (T a).2.1 ≠ (T b).2.1) (hown : s.vm.findClass own = some m.cls) (hK : va_K D vwCl tys s) (hW : ts_W D b n f H) (hS0 : va_S A H0 H locs) (k : Nat) (hk : k < n) (hA : A (b + k)) {fs : List Value} (he : f k = .inr (ci, fs)) (hc : vwCl[ci]? = some (C, T, N)) (j : Nat) (hj : j < N) (hlink : Cond.fieldLink own index (T j).1 (T j).2.1 (T j).2.2.1 ∈ Ts) (hfin : (T j).2.2.2 = true) (hin2 : meth.name = "<init>") (hdecl : (T j).1 = own) {v : Value} (hn : narrow (ty0 j) v = v) (hfit : fits (ty0 j) v = true) (hl : j < fs.length) (hdg : decode cc pc = .ok (.putfield index, 3))
    (kk : ∀ (H1 : Heap) (locs1 : List Loc), (∀ x, x ≠ b + k → H1[x]? = H[x]?) → H1.size = H.size → ts_W D b n (va_up f k (.inr (ci, fs.set j v))) H1 → va_S A H0 H1 locs1 → W p l e R s m args below meth c H1 locs1 cells slots Q (F0 m (pc + 3) ls rest)) : W p l e R s m args below meth c H locs cells slots Q (F0 m pc ls (v :: .ref (b + k) :: rest)) := by
  have hap := va_apart (own := own) hts hin ty0 hty hnm hK hc
  obtain ⟨r, h1, cell, q1, q2, q3, q4⟩ := ts_one hW hk he 0 _ rfl
  have hr : r = (C, T, N) := Option.some.inj (h1.symm.trans hc)
  subst hr
  obtain ⟨hSl, hfc, kC, hkC, hkind⟩ := hK.1 ci _ hc
  obtain ⟨cf, kf, fi, fl, hi, hsl⟩ := hSl j hj
  have hlay := hts _ (hin _ (u_in_lay hj))
  unfold u_lay at hlay
  rw [if_pos hfin] at hlay
  have hst := (u_facts hfc hkC (u_lays hts hin hj) hi).1
  have hcf : m.cls = cf := by
    obtain ⟨_, _, c', _, _, _, -, -, hf', -, -, -, hown2, -⟩ := Cond.laysFinal_spec hlay
    have e1 : c' = cf := by have := hi.symm.trans hf'; simp at this; exact this.1.symm
    rw [hdecl] at hown2
    rw [← e1]; exact Option.some.inj (hown.symm.trans hown2)
  have h6 := u_fits hfc hkC hkind (Or.inr hlay) hi (hty j hj) hn hfit
  refine W.putFinK hexec hb hown (hts _ hlink) hi hst hcf hin2 (by rw [q2]; exact h6) q1 q3 (by rw [hsl]; exact k2_hasslot (q4 j hj)) rfl rfl hdg fun H' e1 e2 e3 => ?_
  rw [hsl] at e1 ⊢
  refine kk H' _ e3 e2 (ts_set hW ?_ (fun i _ hne => va_up_ne _ _ hne) e3) (hS0.put e2 e3 hA)
  rw [va_up_self]
  exact ⟨_, hc, t_OB.to (V := updV (vp_V fs) j v) ⟨_, e1, q2, q3, t_set q4 hap hj v⟩ (fun i _ => vp_updV_set hl v i)⟩
theorem ts_putU (hexec : p.tables.exec = Jvm.exec) (hb : c.code = cc) {own C : String} {T : u_T} {N ci index : Nat} {Ts : List Cond} (hts : ∀ w ∈ Ts, w.before args s = true) (hin : ∀ w ∈ u_ws C T N, w ∈ Ts) (ty0 : Nat → FieldType) (hty : ∀ k, k < N → parseFieldDescriptor (T k).2.2.1 = some (ty0 k)) (hnm : ∀ a, a < N → ∀ b, b < N → a ≠ b → (T a).2.1 ≠ (T b).2.1) (hown : s.vm.findClass own = some m.cls) (hK : va_K D vwCl tys s) (hW : ts_W D b n f H) (hS0 : va_S A H0 H locs) (hA : ∀ k, k < n → A (b + k)) (k : Nat) (hk : k < n) {fs : List Value} (he : f k = .inr (ci, fs)) (hc : vwCl[ci]? = some (C, T, N)) (j : Nat) (hj : j < N) (hlink : Cond.fieldLink own index (T j).1 (T j).2.1 (T j).2.2.1 ∈ Ts) (hfin : (T j).2.2.2 = false) {v : Value} (hn : narrow (ty0 j) v = v) (hfit : fits (ty0 j) v = true) (hl : j < fs.length) (hdg : decode cc pc = .ok (.putfield index, 3))
    (kk : ∀ (H1 : Heap) (locs1 : List Loc), (∀ x, x ≠ b + k → H1[x]? = H[x]?) → H1.size = H.size → ts_W D b n (va_up f k (.inr (ci, fs.set j v))) H1 → va_S A H0 H1 locs1 → W p l e R s m args below meth c H1 locs1 cells slots Q (F0 m (pc + 3) ls rest)) : W p l e R s m args below meth c H locs cells slots Q (F0 m pc ls (v :: .ref (b + k) :: rest)) :=
  ts_put hexec hb hts hin ty0 hty hnm hown hK hW hS0 hA k hk he hc j hj hlink hfin hn hfit hl (va_up f k (.inr (ci, fs.set j v))) (va_up_self _ _ _) (fun i _ hne => va_up_ne _ _ hne) hdg kk
theorem ts_astq (hexec : p.tables.exec = Jvm.exec) (hb : c.code = cc) (hK : va_K D vwCl tys s) (hW : ts_W D b n f H) (hS : va_S A H0 H locs) (hA : ∀ k, k < n → A (b + k)) (k t0 kv ci : Nat) (hk : k < n) (hkv : kv < n) {cA : ClassId} {r : vw_C} {N i : Nat} {vs : List Value} {g : Nat → Option Nat} (he : f k = .inl (cA, N, .inr (.inr (.inr (.inr g))))) (ht : tys[t0]? = some (cA, .object r.1)) (hv : f kv = .inr (ci, vs)) (hc : vwCl[ci]? = some r) (hi : i < N) (hN : N < 2 ^ 31) (hdg : decode cc pc = .ok (.aastore, 1))
    (kk : ∀ (H1 : Heap) (locs1 : List Loc), (∀ x, x ≠ b + k → H1[x]? = H[x]?) → H1.size = H.size → ts_W D b n (va_up f k (.inl (cA, N, .inr (.inr (.inr (.inr (va_up g i (some (b + kv))))))))) H1 → va_S A H0 H1 locs1 → W p l e R s m args below meth c H1 locs1 cells slots Q (F0 m (pc + 1) ls rest)) : W p l e R s m args below meth c H locs cells slots Q (F0 m pc ls (.ref (b + kv) :: .int (nI i) :: .ref (b + k) :: rest)) := by
  have hcl : (nI i).toNatClampNeg = i := nI_clamp (by omega)
  obtain ⟨r', hr', cellV, g1, g2, g3, -⟩ := ts_one hW hkv hv 0 _ rfl
  have hcls := (hK.1 ci r hc).2
  obtain ⟨kA, comp, k1, k2, k3, -⟩ := (hK.2 t0 _ ht).2
  have hcomp : comp = D.1 ci := Option.some.inj (k3.symm.trans hcls.1)
  subst hcomp
  obtain ⟨kC, hkC, -⟩ := hcls.2
  refine W.aast hexec hb (ts_one hW hk he 0 _ rfl) (fun q h => by cases h) (fun h => by cases h) k1 k2 rfl hkC ⟨nI_pos (by omega), by rw [hcl]; show _ < (arrV _ _ _).slots.size; rw [arrV_size]; exact hi⟩ g1 (fun q h => by rw [g3] at h; cases h) (by rw [g2]; exact hkC) (by rw [g2]; exact va_assign hcls) rfl rfl hdg fun H1 e z oq => ?_
  refine kk H1 _ oq z (ts_set hW ?_ (fun i _ hne => va_up_ne _ _ hne) oq) (hS.put z oq (hA k hk))
  rw [va_up_self]
  show H1[b + k]? = some (vp_cell _ _)
  rw [e]
  rw [vp_cell_q, vp_cell_q, arrV_store, hcl]
  congr 2
  funext q
  by_cases hq : q = i
  · subst hq
    simp [updV, va_up, va_rf]
  · simp [updV, va_up, hq]
end TSN
