/-! 'throw new IllegalStateException(..)' -/
def iseN : String := "java/lang/IllegalStateException"
def iseL : List String := ["java/lang/RuntimeException", "java/lang/Exception"]
def th_L : List Cond := [.declares ⟨"java/lang/RuntimeException", "<init>", "(Ljava/lang/String;)V"⟩, .declares ⟨"java/lang/Exception", "<init>", "(Ljava/lang/String;)V"⟩, .declares ⟨"java/lang/Throwable", "<init>", "(Ljava/lang/String;)V"⟩, .castable "java/lang/IllegalStateException" "java/lang/IllegalStateException"]
theorem th_B : (vx_atS RX5 43 "java/lang/IllegalStateException" ["java/lang/RuntimeException", "java/lang/Exception"]).filter (fun w => !goodWord w) = th_L := by decide +kernel
theorem th_g : ∀ w ∈ Cond.classLink RX5 39 "java/lang/IllegalStateException" :: Cond.initialized "java/lang/IllegalStateException" :: vx_atS RX5 43 "java/lang/IllegalStateException" ["java/lang/RuntimeException", "java/lang/Exception"], vx_ot w = true := by decide +kernel
theorem th_t : ∀ w ∈ th_L, w.onTables = true := by decide +kernel
def TH (b a1 a2 a3 : Nat) (U : State) (H : Heap) : Prop := (vk_R RX5 66 "the function has 6 steps" a1 U ∧ vk_R RX5 75 "the function has no steps" a2 U ∧ vk_R RX5 112 "the function cannot be typed" a3 U) ∧ (vx_Zq Bundle.tN "UNASSIGNED_STACK" Bundle.steD (fun x => b ≤ x) U H ∧ vx_Zq Bundle.tN "SUPPRESSED_SENTINEL" Bundle.listD (fun x => b ≤ x) U H) ∧ ∀ w ∈ th_L, va_Nw w U
theorem TH.warm {b a1 a2 a3 : Nat} {s U : State} {H : Heap} (hW : s.WarmedH U.vm) (h : TH b a1 a2 a3 s H) : TH b a1 a2 a3 U H :=
  ⟨⟨vk_R.warm hW h.1.1, vk_R.warm hW h.1.2.1, vk_R.warm hW h.1.2.2⟩, ⟨vx_Zq.moved hW.alike h.2.1.1, vx_Zq.moved hW.alike h.2.1.2⟩, fun w hw => by
    have h1 := h.2.2 w hw
    unfold th_L at hw
    rcases List.mem_cons.mp hw with e | hw
    · rw [e] at h1 ⊢; exact va_Nw.warmD hW h1
    rcases List.mem_cons.mp hw with e | hw
    · rw [e] at h1 ⊢; exact va_Nw.warmD hW h1
    rcases List.mem_cons.mp hw with e | hw
    · rw [e] at h1 ⊢; exact va_Nw.warmD hW h1
    rcases List.mem_cons.mp hw with e | hw
    · rw [e] at h1 ⊢; exact va_Nw.warmC hW h1
    cases hw⟩
theorem TH.same {b a1 a2 a3 : Nat} {s U : State} {H : Heap} (hv : U.vm = s.vm) (ha : s.vm.Alike U.vm) (h : TH b a1 a2 a3 s H) : TH b a1 a2 a3 U H :=
  ⟨⟨vk_R.same hv h.1.1, vk_R.same hv h.1.2.1, vk_R.same hv h.1.2.2⟩, ⟨vx_Zq.moved ha h.2.1.1, vx_Zq.moved ha h.2.1.2⟩, fun w hw => va_tabs (th_t w hw) hv.symm (h.2.2 w hw)⟩
theorem TH.kept {b a1 a2 a3 : Nat} {s : State} {H H1 : Heap} (h : TH b a1 a2 a3 s H) (hq : ∀ a : Nat, a < H.size → ¬ b ≤ a → H1[a]? = H[a]?) : TH b a1 a2 a3 s H1 := ⟨h.1, ⟨vx_Zq.kept h.2.1.1 hq, vx_Zq.kept h.2.1.2 hq⟩, h.2.2⟩
def PrE (D : va_G) (q : CQ) (b sz : Nat) (u : ST) (a1 a2 a3 : Nat) : State → Prop := fun U => Pr D q b sz u U ∧ TH b a1 a2 a3 U U.heap
theorem PrE.blind {D : va_G} {q : CQ} {b sz : Nat} {u : ST} {a1 a2 a3 : Nat} {av : List Value} : FrameBlind (va_Pc av (PrE D q b sz u a1 a2 a3)) := fun a U g1 mk h => ⟨h.1, (Pr.blind (av := av) a U g1 mk ⟨h.1, h.2.1⟩).2, TH.same (s := U) (U := U.calling g1 mk a) rfl (Vm.Alike.refl U.vm) h.2.2⟩
abbrev XE (D : va_G) (q : CQ) (b sz : Nat) (u : ST) : String → State → State → Prop := vx_X (fun u' : ST => ∃ F : FT, u' = (u.1, F, u.2.2)) (fun E u' t => E = "java/lang/IllegalStateException" ∧ Ws D q b u' t) (ts_A b 52 sz)
theorem Ws.size {D : va_G} {q : CQ} {b : Nat} {u : ST} {H : Heap} (h : ts_W D b 52 (cel q b u) H) : b + 52 ≤ H.size := by
  have h1 : b + 51 < H.size := (h 51 (by decide)).lt
  omega
theorem ts_metX {l : Launch} {y : MethodName} {ws ws' : List Cond} {rm : Room} {cc : ByteArray} {maxL : Nat} {ret : Option FieldType} {av : List Value} {X : State → Prop} {Qc : Array Value → State → Outcome → State → Prop} {XC : String → State → State → Prop} {mc ms : Nat} {free : Addr → Prop}
    (hy : plainName y.cls = true) (hw : ws = Cond.code y cc maxL ret :: ws') (hlen : (lg_sl av).length ≤ maxL)
    (body : ∀ (p : Program) (e : Env) (s : State) (m : MethodId) (below : List Frame) (meth : Method) (c : Code), ts_Cx p s m av.toArray meth c cc maxL ret y ws → (∀ x ∈ c.exceptionTable.toList, False) → X s → ∀ ls : Array Slot, lv_has ls maxL (lv_args 0 av) →
      W p l e rm s m av.toArray below meth c s.heap [] 0 0 (vx_MQ below Qc XC av.toArray s mc ms free) (F0 m 0 ls [])) :
    vx_Met l y ws rm (va_Pc av X) Qc XC mc ms free := by
  refine vx_ofW (cc := cc) (maxL := maxL) (ret := ret) hy hw ?_
  intro p e s m args below meth c s₁ B hml hnt hv
  obtain ⟨rfl, hX⟩ := hv
  have hl := lv_entry av (n := maxL) hlen
  rw [lg_entry_eq]
  exact body p e s m below meth c ⟨B.exec, B.bytes, hml, findClass_of_methodNamed B.named, atoms_spec (ws := ws) B.pre, B.returns, B.notSynchronized, (name_of_methodNamed B.named B.method).1⟩ hnt hX _ hl
section THROW
variable {p : Program} {l : Launch} {e : Env} {R : Room} {s : State} {m : MethodId} {args : Array Value} {below : List Frame} {meth : Method} {c : Code} {H : Heap} {locs : List Loc} {cells slots : Nat}
variable {cc : ByteArray} {pc : Nat} {ls : Array Slot} {rest : List Value} {D : va_G} {q : CQ} {b : Nat} {u : ST} {F : FT} {ws : List Cond} {y : MethodName} {maxL : Nat} {ret : Option FieldType} {Qc : Array Value → State → Outcome → State → Prop}
theorem ts_thr (C0 : ts_Cx p s m args meth c cc maxL ret y ws) (hcls : y.cls = RX5) (hlt : l.stackTraces = false) (hnt : ∀ x ∈ c.exceptionTable.toList, False) {is sa a1 a2 a3 : Nat} {text : String} (hsz : ls.size = maxL)
    (hk : Cond.classLink RX5 39 "java/lang/IllegalStateException" ∈ ws) (hini : Cond.initialized "java/lang/IllegalStateException" ∈ ws) (hgw : ∀ w ∈ (vx_atS RX5 43 "java/lang/IllegalStateException" ["java/lang/RuntimeException", "java/lang/Exception"]).filter goodWord, w ∈ ws)
    (hE : TH b a1 a2 a3 s s.heap) (hstr : vk_R RX5 is text sa s) (hWs0 : b + 52 ≤ s.heap.size) (hW : ts_W D b 52 (cel q b (u.1, F, u.2.2)) H) (hS : va_S (ts_A b 52 s.heap.size) s.heap H locs)
    (d0 : decode cc pc = .ok (.new 39, 3)) (d3 : decode cc (pc + 3) = .ok (.dup, 1)) (d4 : decode cc (pc + 4) = .ok (.ldc is, 2)) (d6 : decode cc (pc + 6) = .ok (.invokespecial 43, 3)) (d9 : decode cc (pc + 9) = .ok (.athrow, 1))
    (hR : 5 < R.frames ∧ (rest.map fun v => v.category).sum + 82 ≤ R.locals ∧ 1 ≤ R.cells ∧ 6 ≤ R.slots) :
    W p l e R s m args below meth c H locs 0 0 (vx_MQ below Qc (XE D q b s.heap.size u) args s 1 6 (ts_A b 52 s.heap.size)) (F0 m pc ls rest) := by
  obtain ⟨hx, hb, hml, hown, hts, -, hlocks, -⟩ := C0
  rw [hcls] at hown
  have hAB : ∀ x, ts_A b 52 s.heap.size x → b ≤ x := fun x h => by unfold ts_A at h; omega
  refine vx_throwS (own := RX5) (cls := "java/lang/IllegalStateException") (text := text) (names := ["java/lang/RuntimeException", "java/lang/Exception"]) (ik := 39) (is := is) (ic := 43) (sa := sa) (A := ts_A b 52 s.heap.size) hx hb hlt hown (by decide) (by decide) (hts _ hk) (hts _ hini) hstr
    (vx_hat (B := th_L) (fun w hw => hts w (hgw w hw)) (fun w hw => by rw [th_B] at hw; exact hw) (fun w hw => va_tabs (th_t w hw) rfl (hE.2.2 w hw))) th_g (vx_Zq.narrow hE.2.1.1 hAB) (vx_Zq.narrow hE.2.1.2 hAB) hS (hsz.trans hml.symm) d0 d3 d4 d6 d9 (fun x hx => absurd (hnt x hx) id) hR.1 hR.2.1 hR.2.2.1 hR.2.2.2 hlocks ?_ hS.2.2 (Nat.le_refl _) (Nat.le_refl _)
  intro t ht hz hq
  refine ⟨(u.1, F, u.2.2), ⟨F, rfl⟩, ⟨rfl, ?_⟩, Nat.le_trans hS.1 hz, fun x h1 h2 => (hq x (Nat.lt_of_lt_of_le h1 hS.1)).trans (hS.2.1 x h1 h2)⟩
  show ts_W D b 52 (cel q b (u.1, F, u.2.2)) t.heap
  exact ts_kept hW (fun x h1 h2 => hq x (by have := Ws.size hW; omega))
end THROW
