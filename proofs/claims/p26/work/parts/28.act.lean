/-! One act of the law: the station, who was blamed, what a throw needs -/
def PrA (D : va_G) (q : CQ) (b sz : Nat) (u : ST) (bb : Nat) (g : Nat → Nat) (a1 a2 a3 : Nat) : State → Prop := fun U => PrB D q b sz u bb g U ∧ TH b a1 a2 a3 U U.heap
theorem PrA.blind {D : va_G} {q : CQ} {b sz : Nat} {u : ST} {bb : Nat} {g : Nat → Nat} {a1 a2 a3 : Nat} {av : List Value} : FrameBlind (va_Pc av (PrA D q b sz u bb g a1 a2 a3)) := fun a U g1 mk h => ⟨h.1, (PrB.blind (av := av) a U g1 mk ⟨h.1, h.2.1⟩).2, TH.same (s := U) (U := U.calling g1 mk a) rfl (Vm.Alike.refl U.vm) h.2.2⟩
theorem ts_metH {l : Launch} {y : MethodName} {ws ws' : List Cond} {rm : Room} {cc : ByteArray} {maxL : Nat} {ret : Option FieldType} {hh : List (Nat × Nat × Nat × Nat)} {av : List Value} {X : State → Prop} {Qc : Array Value → State → Outcome → State → Prop} {XC : String → State → State → Prop} {mc ms : Nat} {free : Addr → Prop}
    (hy : plainName y.cls = true) (hw : ws = Cond.codeWith y cc maxL ret hh :: ws') (hlen : (lg_sl av).length ≤ maxL)
    (body : ∀ (p : Program) (e : Env) (s : State) (m : MethodId) (below : List Frame) (meth : Method) (c : Code), ts_Cx p s m av.toArray meth c cc maxL ret y ws → c.exceptionTable.toList = tableOf hh → X s → ∀ ls : Array Slot, lv_has ls maxL (lv_args 0 av) →
      W p l e rm s m av.toArray below meth c s.heap [] 0 0 (vx_MQ below Qc XC av.toArray s mc ms free) (F0 m 0 ls [])) :
    vx_Met l y ws rm (va_Pc av X) Qc XC mc ms free := by
  refine vx_ofWH (cc := cc) (maxL := maxL) (ret := ret) (hh := hh) hy hw ?_
  intro p e s m args below meth c s₁ B hml hv
  obtain ⟨rfl, hX⟩ := hv
  have hl := lv_entry av (n := maxL) hlen
  have hts : ∀ w ∈ ws, w.before av.toArray s = true := atoms_spec (ws := ws) B.pre
  have hT := vx_table (x := y) B (hts (Cond.codeWith y cc maxL ret hh) (by rw [hw]; exact List.mem_cons_self))
  rw [lg_entry_eq]
  exact body p e s m below meth c ⟨B.exec, B.bytes, hml, findClass_of_methodNamed B.named, hts, B.returns, B.notSynchronized, (name_of_methodNamed B.named B.method).1⟩ hT hX _ hl
section ACT
variable {p : Program} {l : Launch} {e : Env} {R : Room} {s : State} {m : MethodId} {args : Array Value} {below : List Frame} {meth : Method} {c : Code} {H : Heap} {locs : List Loc} {cells slots : Nat} {Q : State → Prop}
variable {cc : ByteArray} {pc : Nat} {ls : Array Slot} {rest st : List Value} {D : va_G} {q : CQ} {A : Nat → Prop} {b : Nat} {u : ST} {bb : Nat} {g : Nat → Nat} {H0 : Heap} {ws : List Cond} {As : List Value} {a1 a2 a3 : Nat}
theorem ts_preE (hK : va_K D vwCl (tq q) s) (hN : ts_N s) (hW : ts_W D b 52 (cel q b u) H) (hE : TH b a1 a2 a3 s H) : PreV s H RX5 (b + 0) (va_Pc (.ref (b + 0) :: As) (PrE D q b H.size u a1 a2 a3)) As :=
  ⟨PrE.blind, va_recv hK (ts_one hW (by decide) cel_st) rfl (q0 := 0) rfl, fun U hU hW' => ⟨rfl, ⟨by rw [hU], by show ts_W D b 52 (cel q b u) U.heap; rw [hU]; exact hW, va_K.moved hW'.alike hK, hN.warm hW'⟩, by rw [hU]; exact hE.warm hW'⟩⟩
theorem ts_preA (hK : va_K D vwCl (tq q) s) (hN : ts_N s) (hW : ts_W D b 52 (cel q b u) H) (hV : Bl D q bb g H) (hbb : b + 52 ≤ bb) (hbz : bb < H.size) (hE : TH b a1 a2 a3 s H) : PreS s H (va_Pc As (PrA D q b H.size u bb g a1 a2 a3)) As :=
  ⟨PrA.blind, fun U hU hW' => ⟨rfl, ⟨⟨by rw [hU], by show ts_W D b 52 (cel q b u) U.heap; rw [hU]; exact hW, va_K.moved hW'.alike hK, hN.warm hW'⟩, by show Bl D q bb g U.heap; rw [hU]; exact hV, hbb, hbz⟩, by rw [hU]; exact hE.warm hW'⟩⟩
theorem ts_zretA {post : Int32 → ST × (Nat → Nat) → Prop} {XC : String → State → State → Prop} {y : MethodName} {ws : List Cond} {maxL : Nat} {v : Int32} {ty : FieldType} (C0 : ts_Cx p s m args meth c cc maxL (some ty) y ws) (hn : narrow ty (.int v) = .int v) (hW : ts_W D b 52 (cel q b u) H) (hV : Bl D q bb g H) (hS : va_S (ts_AB b bb s.heap.size) s.heap H locs) (hp : post v (u, g)) (hdg : decode cc pc = .ok (.ireturn, 1)) :
    W p l e R s m args below meth c H locs cells slots (vx_MQ below (cB D q b bb s.heap.size post) XC args s cells slots (ts_AB b bb s.heap.size)) (F0 m pc ls [.int v]) :=
  vx_ret (W.zret C0.1 C0.2.1 C0.2.2.2.2.2.1 hn (fun t ht _ => ⟨⟨v, (u, g), rfl, hp, by show ts_W D b 52 (cel q b u) t.heap; rw [ht]; exact hW, by show Bl D q bb g t.heap; rw [ht]; exact hV⟩, hS.F ht⟩) hS.2.2 hdg C0.2.2.2.2.2.2.1)
/-- a call that throws for sure, caught -/
theorem ts_xcall {a : Array Value} (hr : vx_Run p l e R s m args below meth c H locs cells slots 1 6 (F0 m pc ls st) rest (cI D q b H.size (fun _ _ => False) a) (XE D q b H.size u) (ts_A b 52 H.size)) (hS : va_S A H0 H locs) (hA : ∀ x, ts_A b 52 H.size x → A x)
    (hown : s.vm.findClass RL = some m.cls) {hh : List (Nat × Nat × Nat × Nat)} (hT : c.exceptionTable.toList = tableOf hh) (pre : List ExceptionTableEntry) (x : ExceptionTableEntry) (suf : List ExceptionTableEntry) (hsplit : tableOf hh = pre ++ x :: suf) (hpass : ∀ z ∈ pre, covers z pc = false) (hx : covers x pc = true) (h90 : x.catchType = 90) (h400 : x.handlerPc = 400)
    (hlink : (Cond.classLink RL 90 "java/lang/IllegalStateException").before args s = true) (hcast : (Cond.castable "java/lang/IllegalStateException" "java/lang/IllegalStateException").before args s = true)
    (kk : ∀ (q9 : Nat) (F : FT) (H1 : Heap) (locs1 : List Loc), ts_W D b 52 (cel q b (u.1, F, u.2.2)) H1 → H.size ≤ H1.size → (∀ x : Nat, x < H.size → ¬ ts_A b 52 H.size x → H1[x]? = H[x]?) → va_S A H0 H1 locs1 → W p l e R s m args below meth c H1 locs1 (cells + 1) (slots + 6) Q (F0 m 400 ls [.ref q9])) : W p l e R s m args below meth c H locs cells slots Q (F0 m pc ls st) := by
  refine vx_calli hr hS (fun x _ h => hA x h) hA (fun x _ h => hA x h) ?_ (fun _ _ _ _ _ _ _ h => False.elim h)
  intro E ce q9 u' t H1 locs1 ht _ hp hB hz hk hS1 hce hcv hcl
  obtain ⟨F, rfl⟩ := hp
  obtain ⟨rfl, hW⟩ := hB
  refine vx_catch hown pre x suf (hT.trans hsplit) (fun z hz => Or.inl (hpass z hz)) hx (by rw [h90]; decide) (by rw [h90]; exact hlink) hcast hce hcv hcl ?_
  rw [h400]
  exact kk q9 F H1 locs1 (by rw [← ht]; exact hW) hz hk hS1
end ACT
