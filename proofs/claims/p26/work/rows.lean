section
-- ===== PART A: goes FIRST, ahead of the names: the tables' words, and 'selects' of the private methods out of them =====
/-- a private method of a class that the tables say can be made, by its rows of tables_1 -/
def lw_okq (q : MethodName × Nat) : Prop := (q.1.cls ≠ "java/lang/invoke/MethodHandle" ∧ q.1.cls ≠ "java/lang/invoke/VarHandle") ∧ Cond.instantiable q.1.cls q.2 ∈ tables_1 ∧ Cond.privateMethod q.1 ∈ tables_1 ∧ Cond.instanceMethod q.1 ∈ tables_1
theorem lw_p0 : lw_okq (⟨"java/lang/Throwable", "fillInStackTrace", "(I)Ljava/lang/Throwable;"⟩, 6) := ⟨⟨by decide +kernel, by decide +kernel⟩, List.mem_of_getElem? (i := 257) (by decide +kernel), List.mem_of_getElem? (i := 255) (by decide +kernel), List.mem_of_getElem? (i := 256) (by decide +kernel)⟩
theorem lw_p1 : lw_okq (⟨"TypecheckStation", "tollWith", "(I)I"⟩, 4) := ⟨⟨by decide +kernel, by decide +kernel⟩, List.mem_of_getElem? (i := 17) (by decide +kernel), List.mem_of_getElem? (i := 337) (by decide +kernel), List.mem_of_getElem? (i := 338) (by decide +kernel)⟩
theorem lw_p2 : lw_okq (⟨"TypecheckStation", "mixedFunction", "(JI)J"⟩, 4) := ⟨⟨by decide +kernel, by decide +kernel⟩, List.mem_of_getElem? (i := 17) (by decide +kernel), List.mem_of_getElem? (i := 369) (by decide +kernel), List.mem_of_getElem? (i := 370) (by decide +kernel)⟩
theorem lw_p3 : lw_okq (⟨"TypecheckStation", "requireFunction", "(I)V"⟩, 4) := ⟨⟨by decide +kernel, by decide +kernel⟩, List.mem_of_getElem? (i := 17) (by decide +kernel), List.mem_of_getElem? (i := 377) (by decide +kernel), List.mem_of_getElem? (i := 378) (by decide +kernel)⟩
theorem lw_p4 : lw_okq (⟨"TypecheckStation", "gainOf", "(I)I"⟩, 4) := ⟨⟨by decide +kernel, by decide +kernel⟩, List.mem_of_getElem? (i := 17) (by decide +kernel), List.mem_of_getElem? (i := 432) (by decide +kernel), List.mem_of_getElem? (i := 433) (by decide +kernel)⟩
theorem lw_p5 : lw_okq (⟨"TypecheckStation$Trial", "clear", "()V"⟩, 13) := ⟨⟨by decide +kernel, by decide +kernel⟩, List.mem_of_getElem? (i := 106) (by decide +kernel), List.mem_of_getElem? (i := 452) (by decide +kernel), List.mem_of_getElem? (i := 453) (by decide +kernel)⟩
theorem lw_p6 : lw_okq (⟨"TypecheckStation$Trial", "enter", "(III)V"⟩, 13) := ⟨⟨by decide +kernel, by decide +kernel⟩, List.mem_of_getElem? (i := 106) (by decide +kernel), List.mem_of_getElem? (i := 456) (by decide +kernel), List.mem_of_getElem? (i := 457) (by decide +kernel)⟩
theorem lw_p7 : lw_okq (⟨"TypecheckStation$Trial", "fail", "(II)V"⟩, 13) := ⟨⟨by decide +kernel, by decide +kernel⟩, List.mem_of_getElem? (i := 106) (by decide +kernel), List.mem_of_getElem? (i := 460) (by decide +kernel), List.mem_of_getElem? (i := 461) (by decide +kernel)⟩
theorem lw_p8 : lw_okq (⟨"TypecheckStation$Trial", "guard", "(III)V"⟩, 13) := ⟨⟨by decide +kernel, by decide +kernel⟩, List.mem_of_getElem? (i := 106) (by decide +kernel), List.mem_of_getElem? (i := 469) (by decide +kernel), List.mem_of_getElem? (i := 470) (by decide +kernel)⟩
theorem lw_p9 : lw_okq (⟨"TypecheckStation$Trial", "goThrough", "(II)V"⟩, 13) := ⟨⟨by decide +kernel, by decide +kernel⟩, List.mem_of_getElem? (i := 106) (by decide +kernel), List.mem_of_getElem? (i := 473) (by decide +kernel), List.mem_of_getElem? (i := 474) (by decide +kernel)⟩
theorem lw_p10 : lw_okq (⟨"TypecheckStation$Trial", "begin", "(III)V"⟩, 13) := ⟨⟨by decide +kernel, by decide +kernel⟩, List.mem_of_getElem? (i := 106) (by decide +kernel), List.mem_of_getElem? (i := 477) (by decide +kernel), List.mem_of_getElem? (i := 478) (by decide +kernel)⟩
theorem lw_p11 : lw_okq (⟨"TypecheckStation$Trial", "made", "(I)I"⟩, 13) := ⟨⟨by decide +kernel, by decide +kernel⟩, List.mem_of_getElem? (i := 106) (by decide +kernel), List.mem_of_getElem? (i := 484) (by decide +kernel), List.mem_of_getElem? (i := 485) (by decide +kernel)⟩
theorem lw_p12 : lw_okq (⟨"TypecheckStation$Trial", "shownLength", "()I"⟩, 13) := ⟨⟨by decide +kernel, by decide +kernel⟩, List.mem_of_getElem? (i := 106) (by decide +kernel), List.mem_of_getElem? (i := 488) (by decide +kernel), List.mem_of_getElem? (i := 489) (by decide +kernel)⟩
theorem lw_p13 : lw_okq (⟨"TypecheckStation", "nextToType", "()I"⟩, 4) := ⟨⟨by decide +kernel, by decide +kernel⟩, List.mem_of_getElem? (i := 17) (by decide +kernel), List.mem_of_getElem? (i := 504) (by decide +kernel), List.mem_of_getElem? (i := 505) (by decide +kernel)⟩
theorem lw_p14 : lw_okq (⟨"TypecheckStation$Books", "addCalls", "(LTypecheckStation$Trial;)V"⟩, 6) := ⟨⟨by decide +kernel, by decide +kernel⟩, List.mem_of_getElem? (i := 167) (by decide +kernel), List.mem_of_getElem? (i := 703) (by decide +kernel), List.mem_of_getElem? (i := 704) (by decide +kernel)⟩
theorem lw_p15 : lw_okq (⟨"TypecheckStation$Books", "keepLatest", "(LTypecheckStation$Trial;)V"⟩, 6) := ⟨⟨by decide +kernel, by decide +kernel⟩, List.mem_of_getElem? (i := 167) (by decide +kernel), List.mem_of_getElem? (i := 707) (by decide +kernel), List.mem_of_getElem? (i := 708) (by decide +kernel)⟩
def lw_privs_1 : List (MethodName × Nat) := [(⟨"java/lang/Throwable", "fillInStackTrace", "(I)Ljava/lang/Throwable;"⟩, 6), (⟨"TypecheckStation", "tollWith", "(I)I"⟩, 4), (⟨"TypecheckStation", "mixedFunction", "(JI)J"⟩, 4), (⟨"TypecheckStation", "requireFunction", "(I)V"⟩, 4), (⟨"TypecheckStation", "gainOf", "(I)I"⟩, 4), (⟨"TypecheckStation$Trial", "clear", "()V"⟩, 13), (⟨"TypecheckStation$Trial", "enter", "(III)V"⟩, 13), (⟨"TypecheckStation$Trial", "fail", "(II)V"⟩, 13), (⟨"TypecheckStation$Trial", "guard", "(III)V"⟩, 13), (⟨"TypecheckStation$Trial", "goThrough", "(II)V"⟩, 13), (⟨"TypecheckStation$Trial", "begin", "(III)V"⟩, 13), (⟨"TypecheckStation$Trial", "made", "(I)I"⟩, 13), (⟨"TypecheckStation$Trial", "shownLength", "()I"⟩, 13), (⟨"TypecheckStation", "nextToType", "()I"⟩, 4), (⟨"TypecheckStation$Books", "addCalls", "(LTypecheckStation$Trial;)V"⟩, 6), (⟨"TypecheckStation$Books", "keepLatest", "(LTypecheckStation$Trial;)V"⟩, 6)]
theorem lw_r1 : ∀ q ∈ lw_privs_1, lw_okq q := List.forall_mem_cons.mpr ⟨lw_p0, List.forall_mem_cons.mpr ⟨lw_p1, List.forall_mem_cons.mpr ⟨lw_p2, List.forall_mem_cons.mpr ⟨lw_p3, List.forall_mem_cons.mpr ⟨lw_p4, List.forall_mem_cons.mpr ⟨lw_p5, List.forall_mem_cons.mpr ⟨lw_p6, List.forall_mem_cons.mpr ⟨lw_p7, List.forall_mem_cons.mpr ⟨lw_p8, List.forall_mem_cons.mpr ⟨lw_p9, List.forall_mem_cons.mpr ⟨lw_p10, List.forall_mem_cons.mpr ⟨lw_p11, List.forall_mem_cons.mpr ⟨lw_p12, List.forall_mem_cons.mpr ⟨lw_p13, List.forall_mem_cons.mpr ⟨lw_p14, List.forall_mem_cons.mpr ⟨lw_p15, fun _ h => absurd h List.not_mem_nil⟩⟩⟩⟩⟩⟩⟩⟩⟩⟩⟩⟩⟩⟩⟩⟩
def lw_privs : List (MethodName × Nat) := lw_privs_1
def lw_tbl : List Cond := k2_sels lw_privs ++ tables_1
theorem lw_privs_ok : ∀ q ∈ lw_privs, lw_okq q := lw_r1
-- ===== end of PART A; then your names; then what follows =====
end
section
/-! ===== BEGIN words of one list among another's, by their places ===== -/
theorem goodIn_r {big : List Cond} (ws : List Cond) (ps : List Nat) (hp : ws = ps.filterMap (fun i => big[i]?)) (h : ws.all goodWord = true) : GoodIn big ws := by
  intro w hw
  have h1 := List.all_eq_true.mp h w hw
  rw [hp] at hw
  obtain ⟨i, -, hi⟩ := List.mem_filterMap.mp hw
  have hm : w ∈ big := by first | exact List.mem_of_getElem? hi | exact List.getElem?_mem hi
  exact ⟨hm, good_of_word h1⟩
theorem goodIn_app {big a b : List Cond} (ha : GoodIn big a) (hb : GoodIn big b) : GoodIn big (a ++ b) := fun w h => (List.mem_append.mp h).elim (ha w) (hb w)
theorem goodIn_ca {big a b : List Cond} {c : Cond} (ha : GoodIn big (c :: a)) (hb : GoodIn big b) : GoodIn big (c :: (a ++ b)) := fun w h => (List.mem_cons.mp h).elim (fun e => ha w (List.mem_cons.mpr (Or.inl e))) (fun h => (List.mem_append.mp h).elim (fun h => ha w (List.mem_cons.mpr (Or.inr h))) (hb w))
theorem goodIn_sub {big ws : List Cond} (hm : ∀ w ∈ ws, w ∈ big) (h : ws.all goodWord = true) : GoodIn big ws := fun w hw => ⟨hm w hw, good_of_word (List.all_eq_true.mp h w hw)⟩
/-! ===== END ===== -/

/-! ===== BEGIN new T[n][m]: the outer array a place, the inner ones among the pooled ===== -/
/-- f, but v at every address of l -/
def vr_up {α : Type} (f : Nat → α) (l : List Nat) (v : α) : Nat → α := fun a => if a ∈ l then v else f a
theorem vr_up_in {α : Type} {f : Nat → α} {l : List Nat} {v : α} {a : Nat} (h : a ∈ l) : vr_up f l v a = v := if_pos h
theorem vr_up_ne {α : Type} {f : Nat → α} {l : List Nat} {v : α} {a : Nat} (h : a ∉ l) : vr_up f l v a = f a := if_neg h
theorem vr_rows {L l : List Nat} {f : Nat → va_E} {e : va_E} (h : ∀ a, a ∈ l → a ∉ L) : va_pl L f ++ l.map (fun a => (a, e)) = va_pl (L ++ l) (vr_up f l e) := by
  unfold va_pl
  rw [List.map_append]
  congr 1
  · apply List.map_congr_left
    intro a ha
    rw [vr_up_ne (fun q => h a q ha)]
  · apply List.map_congr_left
    intro a ha
    rw [vr_up_in ha]
theorem vr_lay {X rows : va_W} {x : Nat × va_E} {pl : va_W} {D : va_G} {cl : List vw_C} {H : Heap} (hP : va_P D cl (((X ++ pl) ++ [x]) ++ rows) H) : va_P D cl ((X ++ [x]) ++ (pl ++ rows)) H := by
  rw [List.append_assoc (X ++ pl)] at hP
  have h := va_P.swap hP
  rw [← List.append_assoc X] at h
  have h2 := va_P.swap h
  rw [List.append_assoc (X ++ [x])] at h2
  exact h2
theorem vr_layD {X rows : va_W} {x : Nat × va_E} {pl : va_W} {A : Nat → Prop} (hD : va_D A (((X ++ pl) ++ [x]) ++ rows)) : va_D A ((X ++ [x]) ++ (pl ++ rows)) := by
  rw [List.append_assoc (X ++ pl)] at hD
  have h := va_D.swap hD
  rw [← List.append_assoc X] at h
  have h2 := va_D.swap h
  rw [List.append_assoc (X ++ [x])] at h2
  exact h2
theorem vr_outer (c : ClassId) (N h0 : Nat) : ∀ i : Nat, Jvm.Free.Multi.outerC c N h0 i = arrV c N (fun j => va_rf (if j < i then some (h0 + 1 + j) else none))
  | 0 => by
    show ({ cls := c, slots := Array.replicate N .null, vm := .none } : Cell) = _
    rw [arrV_new]
    refine congrArg (arrV c N) (funext fun j => ?_)
    simp [va_rf]
  | i + 1 => by
    show (Jvm.Free.Multi.outerC c N h0 i).setSlot i (.ref (h0 + 1 + i)) = _
    rw [vr_outer c N h0 i, arrV_store]
    refine congrArg (arrV c N) (funext fun j => ?_)
    by_cases e : j = i
    · subst e
      simp [updV, va_rf]
    · by_cases h : j < i
      · simp [updV, e, h, Nat.lt_succ_of_lt h]
      · simp [updV, e, h, show ¬ j < i + 1 by omega]
/-! ===== END ===== -/

/-! ===== BEGIN exceptions that leave a method, and their catching by the caller (launches without stack traces) ===== -/
section VXA
/-! The laws vx_back, vx_callV, vx_callS, vx_callSW, vx_throw0, vx_throwS follow proofs of the library, with one case more: JvmDerived/Free/Laws.lean (Back.of_free), Shelf42/LK1.lean (callV, callS), Shelf/KitTraced.lean (throwNew0V, throwNewS). -/
/-- where a method has thrown q: the class by its name, the cell, what was written, the world -/
def vx_T (XC : String → State → State → Prop) (st : State) (q : Addr) (t : State) (mc ms : Nat) (free : Addr → Prop) : Prop :=
  ∃ (E : String) (ce : Cell) (L : List Loc), XC E st t ∧ t.heap[q]? = some ce ∧ ce.vm = .none ∧ st.vm.findClass E = some ce.cls ∧ st.WarmedH t.vm ∧ st.sameButNew ({ t with vm := st.vm } : State) L mc ms ∧ ∀ z ∈ L, free z.base
def vx_Q (Qc : Array Value → State → Outcome → State → Prop) (XC : String → State → State → Prop) (mc ms : Nat) (free : Addr → Prop) : Array Value → State → Outcome → State → Prop := fun a st o t =>
  (Qc a st o t ∧ ∃ L, FrameEnd st o t L mc ms ∧ ∀ q ∈ L, free q.base) ∨ ∃ q, o = .threw q ∧ vx_T XC st q t mc ms free
/-- a callee that returns or throws -/
def vx_Met (l : Launch) (y : MethodName) (ws : List Cond) (rm : Room) (Pc : Array Value → State → Prop) (Qc : Array Value → State → Outcome → State → Prop) (XC : String → State → State → Prop) (mc ms : Nat) (free : Addr → Prop) : Prop :=
  MetFree l y (headSpec ws rm) Pc (fun _ _ _ _ _ => True) (vx_Q Qc XC mc ms free)
def vx_Post (XC : String → State → State → Prop) (mc ms : Nat) (free : Addr → Prop) : Pt → Array Value → Addr → Pt → Prop := fun A a q B =>
  ∃ (g : JFrame) (mk : MethodId) (t : State) (L : List Loc) (E : String) (ce : Cell), B.U.heap = t.heap ∧ B.U.vm = t.vm ∧ XC E (A.U.calling g mk a) t ∧ t.heap[q]? = some ce ∧ ce.vm = .none ∧ A.U.vm.findClass E = some ce.cls ∧ B.locs = A.locs ++ L ∧ (∀ z ∈ L, free z.base) ∧ B.cells = A.cells + mc ∧ B.slots = A.slots + ms
def vx_Back (l : Launch) (R : Room) (p : Program) (e : Env) (below : List Frame) (s : State) (sargs : Array Value) (y : MethodName) (len W9 : Nat)
    (Pre : Pt → Array Value → Prop) (Post : Pt → Array Value → Option Value → Pt → Prop) (PostX : Pt → Array Value → Addr → Pt → Prop) : Prop :=
  ∀ (m : MethodId) (meth : Method) (c : Code) (A : Pt) (g : JFrame) (ig : Instr) (mk : MethodId) (a : Array Value),
    Stand p l e R s m sargs below meth c A.U A.locs A.cells A.slots → g.method = m → g.locals.size = c.maxLocals → decode c.code g.pc = .ok (ig, len) →
    2 * g.monitorRoom + (g.stack.map fun v => v.category).sum ≤ W9 → A.U.methodNamed? y = some mk → Pre A a →
    (∃ (v : Option Value) (B : Pt), Stand p l e R s m sargs below meth c B.U B.locs B.cells B.slots ∧ Post A a v B ∧
      Steps p.tables e below (doInvoke e (A.U.setTop g) [] mk a).1 (B.U.setTop { g with pc := g.pc + len, stack := v.toList ++ g.stack })) ∨
    (∃ (q : Addr) (B : Pt), Stand p l e R s m sargs below meth c B.U B.locs B.cells B.slots ∧ PostX A a q B ∧
      Steps p.tables e below (doInvoke e (A.U.setTop g) [] mk a).1 ((B.U.setTop g).pushFrame (.throwing q)))
section Payer
variable {l : Launch} {R : Room} {p : Program} {e : Env} {below : List Frame} {s : State} {sargs : Array Value} {y : MethodName} {len W9 : Nat}
theorem vx_back {ws : List Cond} {rm : Room} {Pc : Array Value → State → Prop} {Qc : Array Value → State → Outcome → State → Prop} {XC : String → State → State → Prop} {mc ms : Nat} {free : Addr → Prop} {bytes : ByteArray} {maxL : Nat} {ret : Option FieldType}
    (hM : vx_Met l y ws rm Pc Qc XC mc ms free) (hblind : FrameBlind Pc) (hrc : rm.cells = mc) (hrs : rm.slots = ms)
    (hframes : rm.frames + 1 ≤ R.frames) (hlocals : W9 + (maxL + 11) + rm.locals ≤ R.locals)
    (hws : ∀ w ∈ ws, ∀ a' U, s.WarmedH U.vm → w.before a' U = true) (hcode : Cond.code y bytes maxL ret ∈ ws) (hinit : ∀ a' U, s.WarmedH U.vm → (Cond.initialized y.cls).before a' U = true) :
    vx_Back l R p e below s sargs y len W9 (PreOf R mc ms Pc) (PostOf Qc mc ms free) (vx_Post XC mc ms free) := by
  intro m meth c A g ig mk a X hg hsize hdg hW hn hp
  have h1 : (headSpec ws rm).pre.before a A.U = true := atoms_intro fun w hw => hws w hw _ _ X.warmed
  have h2 : (Cond.code y bytes maxL ret).before a A.U = true := hws _ hcode _ _ X.warmed
  have h3 : (Cond.initialized y.cls).before a A.U = true := hinit _ _ X.warmed
  have h4 : A.cells + (headSpec ws rm).room.cells ≤ R.cells := by rw [show (headSpec ws rm).room.cells = mc from hrc]; exact hp.1
  have h5 : A.slots + (headSpec ws rm).room.slots ≤ R.slots := by rw [show (headSpec ws rm).room.slots = ms from hrs]; exact hp.2.1
  have hPc : Pc a (A.U.calling g mk a) := hblind _ _ _ _ hp.2.2
  obtain ⟨U, Ls, c0, s0⟩ := A
  dsimp only [Pt.U, Pt.locs, Pt.cells, Pt.slots] at h1 h2 h3 h4 h5 X hn hPc ⊢
  obtain ⟨methY, cY, hmY, hcY, -, hlY, -, -, -, -⟩ := Cond.code_spec hn h2
  obtain ⟨kY, hkY, -⟩ := className_of_methodNamed hn
  have hinitY : kY.init = .initialized := Cond.initialized_spec (findClass_of_methodNamed hn) hkY h3
  have h : At U g.method c below := by rw [hg]; exact X.here
  have hlocals9 : W9 + (maxL + 11) + (headSpec ws rm).room.locals ≤ R.locals := hlocals
  have happ : (headSpec ws rm).appliesLoose y e.platform (U.calling g mk a) = true :=
    Spec.appliesLoose_calling (g := g) h hdg hn hkY hinitY
      (X.room_calling (g := g) (R' := (headSpec ws rm).room) hsize hmY hcY hframes (by rw [hlY]; omega) h4 h5) h1
  obtain ⟨mid, hmid⟩ := h.above
  have hfr : (U.setTop g).frames = (.java g :: mid) ++ below := by rw [State.frames_setTop' g h.top, hmid]; rfl
  obtain ⟨o, s₂, hsteps, -, hend, hq⟩ := Steps.callFree hM p X.admits X.cas X.clock (acts := []) hfr happ hPc trivial
  have hq' : vx_Q Qc XC mc ms free a (U.calling g mk a) o s₂ := hq
  rw [State.frames_setTop' g h.top] at hend
  obtain ⟨g₀, hg0⟩ := Option.isSome_iff_exists.mp h.top
  obtain ⟨r, hr⟩ := State.topJava?_eq_some.mp hg0
  have hr' : (({ U with heap := s₂.heap, slotsUsed := s₂.slotsUsed } : State).setVm s₂.vm).frames = .java g₀ :: r := hr
  rcases hq' with ⟨hqc, L, hfe, hL⟩ | ⟨q, rfl, E, ce, L, hx, hce, hcv, hcl, hW₂, hsm, hL⟩
  · obtain ⟨⟨v, rfl⟩, hW₂, e2, q2, q3, q4, q5, q6⟩ := id hfe
    have e3 : s₂ = ({ (U.calling g mk a).setFrames s₂.frames with heap := s₂.heap, slotsUsed := s₂.slotsUsed } : State).setVm s₂.vm := by
      have : s₂ = ({ s₂ with vm := (U.calling g mk a).vm } : State).setVm s₂.vm := rfl
      rw [e2] at this
      exact this
    obtain ⟨c₂, i₂, len₂, hc₂, hd₂, hf₂⟩ := hend
    have hW' : U.WarmedH s₂.vm := hW₂
    have hcc : c₂ = c := by
      have h1 : s₂.code? g.method = U.code? g.method := by
        rw [State.code?_eq, State.code?_eq, hW'.alike.method?]
      exact Option.some.inj (hc₂.symm.trans (h1.trans h.code))
    subst hcc
    have hlen : len₂ = len := by rw [hdg] at hd₂; cases hd₂; rfl
    subst hlen
    have hs₂ : s₂ = (({ U with heap := s₂.heap, slotsUsed := s₂.slotsUsed } : State).setVm s₂.vm).setTop { g with pc := g.pc + len₂, stack := v.toList ++ g.stack } := by
      refine e3.trans ?_
      rw [hf₂, State.calling_eq h.top, State.setFrames_setFrames, State.setTop_of_frames _ hr', hr]
      rfl
    have hsame : U.sameButNew ({ U with heap := s₂.heap, slotsUsed := s₂.slotsUsed } : State) L mc ms := by
      refine ⟨?_, q2, q3, q4, q5, q6⟩
      obtain ⟨t, ht, -⟩ := State.frames_cons hr
      show ({ U with heap := s₂.heap, slotsUsed := s₂.slotsUsed } : State) = { U.setFrames U.frames with heap := s₂.heap, slotsUsed := s₂.slotsUsed }
      rw [State.setFrames_self ht]
    subst hg
    refine Or.inl ⟨v, ⟨(({ U with heap := s₂.heap, slotsUsed := s₂.slotsUsed } : State).setVm s₂.vm), Ls ++ L, c0 + mc, s0 + ms⟩,
      ⟨X.admits, X.cas, X.clock, X.frames, X.room, X.hears, X.method, X.code, (X.here.setHeapUsed s₂.heap s₂.slotsUsed).setVm hW'.alike, X.tail, State.WarmedH.trans X.warmed hW', X.limits, X.bytes, X.same.trans (hsame.setVm s.vm)⟩,
      ⟨g, mk, s₂, L, rfl, rfl, hqc, rfl, hL, rfl, rfl⟩, ?_⟩
    show Steps p.tables e below _ ((({ U with heap := s₂.heap, slotsUsed := s₂.slotsUsed } : State).setVm s₂.vm).setTop { g with pc := g.pc + len₂, stack := v.toList ++ g.stack })
    rw [← hs₂]
    exact hsteps
  · obtain ⟨e2, q2, q3, q4, q5, q6⟩ := id hsm
    have e3 : s₂ = ({ (U.calling g mk a).setFrames s₂.frames with heap := s₂.heap, slotsUsed := s₂.slotsUsed } : State).setVm s₂.vm := by
      have : s₂ = ({ s₂ with vm := (U.calling g mk a).vm } : State).setVm s₂.vm := rfl
      rw [e2] at this
      exact this
    have hf₂ : s₂.frames = .throwing q :: .java g :: U.frames.tail := hend
    have hW' : U.WarmedH s₂.vm := hW₂
    have hs₂ : s₂ = ((({ U with heap := s₂.heap, slotsUsed := s₂.slotsUsed } : State).setVm s₂.vm).setTop g).pushFrame (.throwing q) := by
      refine e3.trans ?_
      rw [hf₂, State.calling_eq h.top, State.setFrames_setFrames, State.pushFrame, State.frames_setTop _ hr', State.setTop_of_frames _ hr', State.setFrames_setFrames, hr]
      rfl
    have hsame : U.sameButNew ({ U with heap := s₂.heap, slotsUsed := s₂.slotsUsed } : State) L mc ms := by
      refine ⟨?_, q2, q3, q4, q5, q6⟩
      obtain ⟨t, ht, -⟩ := State.frames_cons hr
      show ({ U with heap := s₂.heap, slotsUsed := s₂.slotsUsed } : State) = { U.setFrames U.frames with heap := s₂.heap, slotsUsed := s₂.slotsUsed }
      rw [State.setFrames_self ht]
    subst hg
    refine Or.inr ⟨q, ⟨(({ U with heap := s₂.heap, slotsUsed := s₂.slotsUsed } : State).setVm s₂.vm), Ls ++ L, c0 + mc, s0 + ms⟩,
      ⟨X.admits, X.cas, X.clock, X.frames, X.room, X.hears, X.method, X.code, (X.here.setHeapUsed s₂.heap s₂.slotsUsed).setVm hW'.alike, X.tail, State.WarmedH.trans X.warmed hW', X.limits, X.bytes, X.same.trans (hsame.setVm s.vm)⟩,
      ⟨g, mk, s₂, L, E, ce, rfl, rfl, hx, hce, hcv, hcl, rfl, hL, rfl, rfl⟩, ?_⟩
    show Steps p.tables e below _ (((({ U with heap := s₂.heap, slotsUsed := s₂.slotsUsed } : State).setVm s₂.vm).setTop g).pushFrame (.throwing q))
    rw [← hs₂]
    exact hsteps
end Payer
section Calls
variable {p : Program} {l : Launch} {e : Env} {R : Room} {s : State} {m : MethodId} {args : Array Value} {below : List Frame} {meth : Method} {c : Code} {T : State} {locs : List Loc} {cells slots : Nat}
theorem vx_callV (X : Stand p l e R s m args below meth c T locs cells slots) (hexec : p.tables.exec = Jvm.exec) {own C : String} {index : Nat} {y : MethodName} {bytes : ByteArray} {maxL : Nat} {ret : Option FieldType}
    (hown : s.vm.findClass own = some m.cls) (hlink : (Cond.methodLink own index y).before args s = true) (hinst : (Cond.instanceMethod y).before args s = true) (hsel : (Cond.selects C y y).before args s = true)
    (hcode : (Cond.code y bytes maxL ret).before args s = true) (hy : y.cls ≠ "java/lang/invoke/MethodHandle" ∧ y.cls ≠ "java/lang/invoke/VarHandle")
    {W9 : Nat} {Pre : Pt → Array Value → Prop} {Post : Pt → Array Value → Option Value → Pt → Prop} {PostX : Pt → Array Value → Addr → Pt → Prop} (hK : vx_Back l R p e below s args y 3 W9 Pre Post PostX)
    {b : Addr} {cellB : Cell} (hcell : T.heap[b]? = some cellB) (hobj : cellB.vm.isStatics = false) (hcls : s.vm.findClass C = some cellB.cls)
    {g : JFrame} (hg : g.method = m) (hsize : g.locals.size = c.maxLocals) {argsL rest : List Value} (hlen : ∀ sig, parseMethodDescriptor y.desc = some sig → argsL.length = sig.parameters.length)
    (hstack : g.stack = argsL.reverse ++ .ref b :: rest) (hW : 2 * g.monitorRoom + (rest.map fun v => v.category).sum ≤ W9) (hdg : decode c.code g.pc = .ok (.invokevirtual index, 3))
    (hpre : ∀ vm₁, s.WarmedH vm₁ → Pre ⟨T.setVm vm₁, locs, cells, slots⟩ (Value.ref b :: argsL).toArray) :
    (∃ (v : Option Value) (vm₁ : Vm) (B : Pt), s.WarmedH vm₁ ∧ Stand p l e R s m args below meth c B.U B.locs B.cells B.slots ∧ Post ⟨T.setVm vm₁, locs, cells, slots⟩ (Value.ref b :: argsL).toArray v B ∧
      ∀ target, Steps p.tables e below (B.U.setTop { g with pc := g.pc + 3, stack := v.toList ++ rest }) target → Steps p.tables e below (T.setTop g) target) ∨
    (∃ (q : Addr) (vm₁ : Vm) (B : Pt), s.WarmedH vm₁ ∧ Stand p l e R s m args below meth c B.U B.locs B.cells B.slots ∧ PostX ⟨T.setVm vm₁, locs, cells, slots⟩ (Value.ref b :: argsL).toArray q B ∧
      Steps p.tables e below (T.setTop g) ((B.U.setTop { g with stack := rest }).pushFrame (.throwing q))) := by
  obtain ⟨mk, methM, hnamed, hmethM, hstM, habM⟩ := Cond.instanceMethod_spec hinst
  obtain ⟨methM', cM, hmethM', -, -, -, -, -, -, hsigM⟩ := Cond.code_spec hnamed hcode
  cases hmethM.symm.trans hmethM'
  obtain ⟨c2, r2, m2, q1, q2, q3, q4, kP, hkP, hkPi⟩ := Cond.selects_spec hsel
  cases hcls.symm.trans q1
  cases (State.methodFound?_of_named hnamed hy).symm.trans q2
  cases hnamed.symm.trans q3
  have hselP : selectMethod e.platform s.vm cellB.cls mk = .method mk := by rw [Launch.admits_selectMethod X.admits]; exact q4
  obtain ⟨vm₁, X₁, hstep₁⟩ := X.invokevirtual hexec hown hlink hnamed hmethM hstM hkP hkPi hy (a := b) (cell := cellB) hcell
    (fun z h => by rw [h] at hobj; cases hobj) hselP hmethM habM hkP hkPi (g := g) hg (argsL := argsL) (rest := rest) (hlen _ hsigM) hstack hdg
  rcases hK m meth c ⟨T.setVm vm₁, locs, cells, slots⟩ { g with stack := rest } (.invokevirtual index) mk (Value.ref b :: argsL).toArray X₁ hg hsize hdg hW (X₁.named hnamed) (hpre vm₁ X₁.warmed) with ⟨v, B, X', hpost, hsteps⟩ | ⟨q, B, X', hpost, hsteps⟩
  · exact Or.inl ⟨v, vm₁, B, X₁.warmed, X', hpost, fun target h => hstep₁ _ fun acts => by rw [doInvoke_state]; exact hsteps.trans h⟩
  · exact Or.inr ⟨q, vm₁, B, X₁.warmed, X', hpost, hstep₁ _ fun acts => by rw [doInvoke_state]; exact hsteps⟩
theorem vx_callS (X : Stand p l e R s m args below meth c T locs cells slots) (hexec : p.tables.exec = Jvm.exec) {own : String} {index : Nat} {y : MethodName} {bytes : ByteArray} {maxL : Nat} {ret : Option FieldType}
    (hown : s.vm.findClass own = some m.cls) (hlink : (Cond.methodLink own index y).before args s = true) (hstat : (Cond.static y).before args s = true) (hinit : (Cond.initialized y.cls).before args s = true)
    (hcode : (Cond.code y bytes maxL ret).before args s = true) (hy : y.cls ≠ "java/lang/invoke/MethodHandle" ∧ y.cls ≠ "java/lang/invoke/VarHandle")
    {W9 : Nat} {Pre : Pt → Array Value → Prop} {Post : Pt → Array Value → Option Value → Pt → Prop} {PostX : Pt → Array Value → Addr → Pt → Prop} (hK : vx_Back l R p e below s args y 3 W9 Pre Post PostX)
    {g : JFrame} (hg : g.method = m) (hsize : g.locals.size = c.maxLocals) {argsL rest : List Value} (hlen : ∀ sig, parseMethodDescriptor y.desc = some sig → argsL.length = sig.parameters.length)
    (hstack : g.stack = argsL.reverse ++ rest) (hW : 2 * g.monitorRoom + (rest.map fun v => v.category).sum ≤ W9) (hdg : decode c.code g.pc = .ok (.invokestatic index, 3))
    (hpre : ∀ vm₁, s.WarmedH vm₁ → Pre ⟨T.setVm vm₁, locs, cells, slots⟩ argsL.toArray) :
    (∃ (v : Option Value) (vm₁ : Vm) (B : Pt), s.WarmedH vm₁ ∧ Stand p l e R s m args below meth c B.U B.locs B.cells B.slots ∧ Post ⟨T.setVm vm₁, locs, cells, slots⟩ argsL.toArray v B ∧
      ∀ target, Steps p.tables e below (B.U.setTop { g with pc := g.pc + 3, stack := v.toList ++ rest }) target → Steps p.tables e below (T.setTop g) target) ∨
    (∃ (q : Addr) (vm₁ : Vm) (B : Pt), s.WarmedH vm₁ ∧ Stand p l e R s m args below meth c B.U B.locs B.cells B.slots ∧ PostX ⟨T.setVm vm₁, locs, cells, slots⟩ argsL.toArray q B ∧
      Steps p.tables e below (T.setTop g) ((B.U.setTop { g with stack := rest }).pushFrame (.throwing q))) := by
  obtain ⟨mk, hnamed⟩ := Cond.code_named hcode
  obtain ⟨methM, cM, hmethM, -, -, -, -, -, -, hsigM⟩ := Cond.code_spec hnamed hcode
  have hstatic : methM.isStatic = true := Cond.static_spec hnamed hmethM hstat
  obtain ⟨kP, hkP, -⟩ := className_of_methodNamed hnamed
  have hinitP : kP.init = .initialized := Cond.initialized_spec (findClass_of_methodNamed hnamed) hkP hinit
  obtain ⟨vm₁, X₁, hstep₁⟩ := X.invokestatic hexec hown hlink hnamed hmethM hstatic hkP hinitP hy (g := g) hg (argsL := argsL) (rest := rest) (hlen _ hsigM) hstack hdg
  rcases hK m meth c ⟨T.setVm vm₁, locs, cells, slots⟩ { g with stack := rest } (.invokestatic index) mk argsL.toArray X₁ hg hsize hdg hW (X₁.named hnamed) (hpre vm₁ X₁.warmed) with ⟨v, B, X', hpost, hsteps⟩ | ⟨q, B, X', hpost, hsteps⟩
  · exact Or.inl ⟨v, vm₁, B, X₁.warmed, X', hpost, fun target h => hstep₁ _ fun acts => by rw [doInvoke_state]; exact hsteps.trans h⟩
  · exact Or.inr ⟨q, vm₁, B, X₁.warmed, X', hpost, hstep₁ _ fun acts => by rw [doInvoke_state]; exact hsteps⟩
end Calls
theorem vx_cls {s : State} {T : State} {vm₁ : Vm} {E : String} {k : ClassId} (hW : s.WarmedH vm₁) (h : (T.setVm vm₁).vm.findClass E = some k) : s.vm.findClass E = some k := by
  have h1 : vm₁.findClass E = some k := h
  rw [hW.alike.findClass] at h1
  exact h1
/-- the method's frame g, with q thrown over it -/
def vx_W (p : Program) (l : Launch) (e : Env) (R : Room) (s : State) (m : MethodId) (args : Array Value) (below : List Frame) (meth : Method) (c : Code) (H : Heap) (locs : List Loc) (cells slots : Nat) (Q : State → Prop) (g : JFrame) (q : Addr) : Prop :=
  ∀ T : State, T.heap = H → Stand p l e R s m args below meth c T locs cells slots → ∃ t, Steps p.tables e below ((T.setTop g).pushFrame (.throwing q)) t ∧ Q t
def vx_Run (p : Program) (l : Launch) (e : Env) (R : Room) (s : State) (m : MethodId) (args : Array Value) (below : List Frame) (meth : Method) (c : Code) (H : Heap) (locs : List Loc) (cells slots mc ms : Nat) (g : JFrame) (rest : List Value) (Qa : State → Outcome → State → Prop) (XC : String → State → State → Prop) (free : Addr → Prop) : Prop :=
  ∀ T : State, T.heap = H → Stand p l e R s m args below meth c T locs cells slots →
    (∃ (v : Option Value) (st₀ t T' : State) (L : List Loc), st₀.heap = H ∧ Stand p l e R s m args below meth c T' (locs ++ L) (cells + mc) (slots + ms) ∧ (∀ q ∈ L, free q.base) ∧ T'.heap = t.heap ∧ T'.vm = t.vm ∧ Qa st₀ (.returned v) t ∧
      Goes p e below T g T' { g with pc := g.pc + 3, stack := v.toList ++ rest }) ∨
    (∃ (q : Addr) (st₀ t T' : State) (L : List Loc) (E : String) (ce : Cell), st₀.heap = H ∧ Stand p l e R s m args below meth c T' (locs ++ L) (cells + mc) (slots + ms) ∧ (∀ z ∈ L, free z.base) ∧ T'.heap = t.heap ∧ T'.vm = t.vm ∧ XC E st₀ t ∧ t.heap[q]? = some ce ∧ ce.vm = .none ∧ s.vm.findClass E = some ce.cls ∧
      Steps p.tables e below (T.setTop g) ((T'.setTop { g with stack := rest }).pushFrame (.throwing q)))
def vx_X {S : Type} (px : S → Prop) (B : String → S → State → Prop) (A : Nat → Prop) : String → State → State → Prop := fun E st t => ∃ u : S, px u ∧ B E u t ∧ va_F A st t
section Runs
variable {p : Program} {l : Launch} {e : Env} {R : Room} {s : State} {m : MethodId} {args : Array Value} {below : List Frame} {meth : Method} {c : Code} {H : Heap} {locs : List Loc} {cells slots : Nat}
variable {y : MethodName} {bytes cc : ByteArray} {maxL nL mc ms n index : Nat} {ret : Option FieldType} {ws : List Cond} {rm : Room} {Pc : Array Value → State → Prop} {Qc : Array Value → State → Outcome → State → Prop} {XC : String → State → State → Prop} {free : Addr → Prop} {Ts : List Cond} {own C : String} {b : Addr} {As rest : List Value} {g : JFrame}
theorem vx_callBack (cb : CallB R s args own index y bytes maxL ret ws rm mc ms n) (hM : vx_Met l y ws rm Pc Qc XC mc ms free) (hbl : FrameBlind Pc) : vx_Back l R p e below s args y 3 8 (PreOf R mc ms Pc) (PostOf Qc mc ms free) (vx_Post XC mc ms free) := by
  obtain ⟨hrc, hrs, hfr, hlo, hws, hcw, -, hini, -⟩ := cb
  exact vx_back (bytes := bytes) (maxL := maxL) (ret := ret) hM hbl hrc hrs hfr hlo hws hcw (fun a' U hW => word_at hW (Or.inl (by first | rfl | simp [Cond.onTables, Cond.keeps, Cond.steady])) hini)
theorem vx_runV (S : CallFix p m c cc nL s args Ts own) (hM : vx_Met l y ws rm Pc Qc XC mc ms free) (cw : CallW R s args own C index y bytes maxL ret ws rm mc ms n) (hp : PreV s H C b Pc As)
    (hg : g.method = m) (hn : As.length = n) (hsize : g.locals.size = nL) (hstack : g.stack = As.reverse ++ .ref b :: rest) (hW : 2 * g.monitorRoom + (rest.map fun v => v.category).sum ≤ 8) (hdg : decode cc g.pc = .ok (.invokevirtual index, 3)) (hf : cells + mc ≤ R.cells ∧ slots + ms ≤ R.slots) :
    vx_Run p l e R s m args below meth c H locs cells slots mc ms g rest (Qc (Value.ref b :: As).toArray) XC free := by
  have hK : vx_Back l R p e below s args y 3 8 (PreOf R mc ms Pc) (PostOf Qc mc ms free) (vx_Post XC mc ms free) := vx_callBack cw.1 hM hp.1
  obtain ⟨⟨-, -, -, -, -, -, hcode, -, hy, hlen, hl⟩, hin, hse⟩ := cw
  obtain ⟨hx, hb, hml, ho, -⟩ := S
  obtain ⟨-, ⟨cellB, hcB, hoB, hclB⟩, hPc⟩ := hp
  intro T hT X
  rcases vx_callV X hx (C := C) (bytes := bytes) (maxL := maxL) (ret := ret) ho hl hin hse hcode hy hK (by rw [hT]; exact hcB) hoB hclB hg (hsize.trans hml.symm) (argsL := As) (rest := rest) (fun sig h => hn.trans (hlen sig h)) hstack hW (by rw [hb]; exact hdg)
    (fun vm₁ hW₁ => ⟨hf.1, hf.2, hPc (T.setVm vm₁) hT hW₁⟩) with ⟨v, vm₁, ⟨U', l2, c2, s2⟩, hW₁, X', ⟨g', mk, t, L, e1, e2, hq, h1, hL, h2, h3⟩, st⟩ | ⟨q, vm₁, ⟨U', l2, c2, s2⟩, hW₁, X', ⟨g', mk, t, L, E, ce, e1, e2, hq, hce, hcv, hcl, h1, hL, h2, h3⟩, st⟩
  · dsimp only [Pt.U, Pt.locs, Pt.cells, Pt.slots] at X' e1 e2 h1 h2 h3 st
    subst h1; subst h2; subst h3
    exact Or.inl ⟨v, (T.setVm vm₁).calling g' mk (Value.ref b :: As).toArray, t, U', L, hT, X', hL, e1, e2, hq, st⟩
  · dsimp only [Pt.U, Pt.locs, Pt.cells, Pt.slots] at X' e1 e2 h1 h2 h3 st hcl
    subst h1; subst h2; subst h3
    exact Or.inr ⟨q, (T.setVm vm₁).calling g' mk (Value.ref b :: As).toArray, t, U', L, E, ce, hT, X', hL, e1, e2, hq, hce, hcv, vx_cls hW₁ hcl, st⟩
theorem vx_runS (S : CallFix p m c cc nL s args Ts own) (hM : vx_Met l y ws rm Pc Qc XC mc ms free) (cw : CallB R s args own index y bytes maxL ret ws rm mc ms n ∧ (Cond.static y).before args s = true) (hp : PreS s H Pc As)
    (hg : g.method = m) (hn : As.length = n) (hsize : g.locals.size = nL) (hstack : g.stack = As.reverse ++ rest) (hW : 2 * g.monitorRoom + (rest.map fun v => v.category).sum ≤ 8) (hdg : decode cc g.pc = .ok (.invokestatic index, 3)) (hf : cells + mc ≤ R.cells ∧ slots + ms ≤ R.slots) :
    vx_Run p l e R s m args below meth c H locs cells slots mc ms g rest (Qc As.toArray) XC free := by
  have hK : vx_Back l R p e below s args y 3 8 (PreOf R mc ms Pc) (PostOf Qc mc ms free) (vx_Post XC mc ms free) := vx_callBack cw.1 hM hp.1
  obtain ⟨⟨-, -, -, -, -, -, hcode, hini, hy, hlen, hl⟩, hstt⟩ := cw
  obtain ⟨hx, hb, hml, ho, -⟩ := S
  intro T hT X
  rcases vx_callS X hx (bytes := bytes) (maxL := maxL) (ret := ret) ho hl hstt hini hcode hy hK hg (hsize.trans hml.symm) (argsL := As) (rest := rest) (fun sig h => hn.trans (hlen sig h)) hstack hW (by rw [hb]; exact hdg)
    (fun vm₁ hW₁ => ⟨hf.1, hf.2, hp.2 (T.setVm vm₁) hT hW₁⟩) with ⟨v, vm₁, ⟨U', l2, c2, s2⟩, hW₁, X', ⟨g', mk, t, L, e1, e2, hq, h1, hL, h2, h3⟩, st⟩ | ⟨q, vm₁, ⟨U', l2, c2, s2⟩, hW₁, X', ⟨g', mk, t, L, E, ce, e1, e2, hq, hce, hcv, hcl, h1, hL, h2, h3⟩, st⟩
  · dsimp only [Pt.U, Pt.locs, Pt.cells, Pt.slots] at X' e1 e2 h1 h2 h3 st
    subst h1; subst h2; subst h3
    exact Or.inl ⟨v, (T.setVm vm₁).calling g' mk As.toArray, t, U', L, hT, X', hL, e1, e2, hq, st⟩
  · dsimp only [Pt.U, Pt.locs, Pt.cells, Pt.slots] at X' e1 e2 h1 h2 h3 st hcl
    subst h1; subst h2; subst h3
    exact Or.inr ⟨q, (T.setVm vm₁).calling g' mk As.toArray, t, U', L, E, ce, hT, X', hL, e1, e2, hq, hce, hcv, vx_cls hW₁ hcl, st⟩
end Runs
section Rows
variable {p : Program} {l : Launch} {e : Env} {R : Room} {s : State} {m : MethodId} {args : Array Value} {below : List Frame} {meth : Method} {c : Code} {H : Heap} {locs : List Loc} {cells slots : Nat} {Q : State → Prop}
variable {mc ms : Nat} {free : Addr → Prop} {A0 A1 : Nat → Prop} {H0 : Heap} {a : Array Value} {pc : Nat} {ls : Array Slot} {st0 rest : List Value}
theorem vx_keep {st₀ t T' : State} {L : List Loc} (h0 : st₀.heap = H) (e1 : T'.heap = t.heap) (hS : va_S A0 H0 H locs) (hA : ∀ q, q < H.size → A1 q → A0 q) (hf : ∀ q, free q → A0 q) (hL : ∀ q ∈ L, free q.base) (hF : va_F A1 st₀ t) :
    H.size ≤ T'.heap.size ∧ (∀ q : Nat, q < H.size → ¬ A1 q → T'.heap[q]? = H[q]?) ∧ va_S A0 H0 T'.heap (locs ++ L) := by
  obtain ⟨hz, hk⟩ := hF
  rw [h0] at hz hk
  exact ⟨by rw [e1]; exact hz, fun q h1 h2 => by rw [e1]; exact hk q h1 h2,
    ⟨Nat.le_trans hS.1 (by rw [e1]; exact hz), fun q h1 h2 => by rw [e1, hk q (Nat.lt_of_lt_of_le h1 hS.1) (fun z => h2 (hA q (Nat.lt_of_lt_of_le h1 hS.1) z))]; exact hS.2.1 q h1 h2, fun q hq => by
      rcases List.mem_append.mp hq with h | h
      · exact hS.2.2 q h
      · exact hf _ (hL q h)⟩⟩
theorem vx_calli {S SX : Type} {post : Int32 → S → Prop} {px : SX → Prop} {B : S → State → Prop} {BX : String → SX → State → Prop} {AX : Nat → Prop} (hr : vx_Run p l e R s m args below meth c H locs cells slots mc ms (F0 m pc ls st0) rest (va_Qi post B A1 a) (vx_X px BX AX) free) (hS : va_S A0 H0 H locs) (hA : ∀ q, q < H.size → A1 q → A0 q) (hf : ∀ q, free q → A0 q) (hAX : ∀ q, q < H.size → AX q → A0 q)
    (kx : ∀ (E : String) (ce : Cell) (q9 : Addr) (u : SX) (t : State) (H1 : Heap) (locs1 : List Loc), t.heap = H1 → s.vm.Alike t.vm → px u → BX E u t → H.size ≤ H1.size → (∀ q : Nat, q < H.size → ¬ AX q → H1[q]? = H[q]?) → va_S A0 H0 H1 locs1 → H1[q9]? = some ce → ce.vm = .none → s.vm.findClass E = some ce.cls → vx_W p l e R s m args below meth c H1 locs1 (cells + mc) (slots + ms) Q (F0 m pc ls rest) q9)
    (kk : ∀ (r : Int32) (u : S) (t : State) (H1 : Heap) (locs1 : List Loc), t.heap = H1 → s.vm.Alike t.vm → post r u → B u t → H.size ≤ H1.size → (∀ q : Nat, q < H.size → ¬ A1 q → H1[q]? = H[q]?) → va_S A0 H0 H1 locs1 → W p l e R s m args below meth c H1 locs1 (cells + mc) (slots + ms) Q (F0 m (pc + 3) ls (.int r :: rest))) : W p l e R s m args below meth c H locs cells slots Q (F0 m pc ls st0) := by
  intro T hT X
  rcases hr T hT X with ⟨v, st₀, t, T', L, h0, X', hL, e1, e2, ⟨⟨r, u, hv, hp, hb⟩, hF⟩, st⟩ | ⟨q, st₀, t, T', L, E, ce, h0, X', hL, e1, e2, ⟨u, hp, hb, hF⟩, hce, hcv, hcl, st⟩
  · cases hv
    obtain ⟨k1, k2, k3⟩ := vx_keep h0 e1 hS hA hf hL hF
    obtain ⟨t2, a1, b1⟩ := kk r u t T'.heap (locs ++ L) e1.symm (by rw [← e2]; exact X'.warmed.alike) hp hb k1 k2 k3 T' rfl X'
    exact ⟨t2, st t2 a1, b1⟩
  · obtain ⟨k1, k2, k3⟩ := vx_keep h0 e1 hS hAX hf hL hF
    obtain ⟨t2, a1, b1⟩ := kx E ce q u t T'.heap (locs ++ L) e1.symm (by rw [← e2]; exact X'.warmed.alike) hp hb k1 k2 k3 (by rw [e1]; exact hce) hcv hcl T' rfl X'
    exact ⟨t2, st.trans a1, b1⟩
theorem vx_calll {S SX : Type} {post : Int64 → S → Prop} {px : SX → Prop} {B : S → State → Prop} {BX : String → SX → State → Prop} {AX : Nat → Prop} (hr : vx_Run p l e R s m args below meth c H locs cells slots mc ms (F0 m pc ls st0) rest (va_Ql post B A1 a) (vx_X px BX AX) free) (hS : va_S A0 H0 H locs) (hA : ∀ q, q < H.size → A1 q → A0 q) (hf : ∀ q, free q → A0 q) (hAX : ∀ q, q < H.size → AX q → A0 q)
    (kx : ∀ (E : String) (ce : Cell) (q9 : Addr) (u : SX) (t : State) (H1 : Heap) (locs1 : List Loc), t.heap = H1 → s.vm.Alike t.vm → px u → BX E u t → H.size ≤ H1.size → (∀ q : Nat, q < H.size → ¬ AX q → H1[q]? = H[q]?) → va_S A0 H0 H1 locs1 → H1[q9]? = some ce → ce.vm = .none → s.vm.findClass E = some ce.cls → vx_W p l e R s m args below meth c H1 locs1 (cells + mc) (slots + ms) Q (F0 m pc ls rest) q9)
    (kk : ∀ (r : Int64) (u : S) (t : State) (H1 : Heap) (locs1 : List Loc), t.heap = H1 → s.vm.Alike t.vm → post r u → B u t → H.size ≤ H1.size → (∀ q : Nat, q < H.size → ¬ A1 q → H1[q]? = H[q]?) → va_S A0 H0 H1 locs1 → W p l e R s m args below meth c H1 locs1 (cells + mc) (slots + ms) Q (F0 m (pc + 3) ls (.long r :: rest))) : W p l e R s m args below meth c H locs cells slots Q (F0 m pc ls st0) := by
  intro T hT X
  rcases hr T hT X with ⟨v, st₀, t, T', L, h0, X', hL, e1, e2, ⟨⟨r, u, hv, hp, hb⟩, hF⟩, st⟩ | ⟨q, st₀, t, T', L, E, ce, h0, X', hL, e1, e2, ⟨u, hp, hb, hF⟩, hce, hcv, hcl, st⟩
  · cases hv
    obtain ⟨k1, k2, k3⟩ := vx_keep h0 e1 hS hA hf hL hF
    obtain ⟨t2, a1, b1⟩ := kk r u t T'.heap (locs ++ L) e1.symm (by rw [← e2]; exact X'.warmed.alike) hp hb k1 k2 k3 T' rfl X'
    exact ⟨t2, st t2 a1, b1⟩
  · obtain ⟨k1, k2, k3⟩ := vx_keep h0 e1 hS hAX hf hL hF
    obtain ⟨t2, a1, b1⟩ := kx E ce q u t T'.heap (locs ++ L) e1.symm (by rw [← e2]; exact X'.warmed.alike) hp hb k1 k2 k3 (by rw [e1]; exact hce) hcv hcl T' rfl X'
    exact ⟨t2, st.trans a1, b1⟩
theorem vx_callf {S SX : Type} {post : UInt32 → S → Prop} {px : SX → Prop} {B : S → State → Prop} {BX : String → SX → State → Prop} {AX : Nat → Prop} (hr : vx_Run p l e R s m args below meth c H locs cells slots mc ms (F0 m pc ls st0) rest (va_Qf post B A1 a) (vx_X px BX AX) free) (hS : va_S A0 H0 H locs) (hA : ∀ q, q < H.size → A1 q → A0 q) (hf : ∀ q, free q → A0 q) (hAX : ∀ q, q < H.size → AX q → A0 q)
    (kx : ∀ (E : String) (ce : Cell) (q9 : Addr) (u : SX) (t : State) (H1 : Heap) (locs1 : List Loc), t.heap = H1 → s.vm.Alike t.vm → px u → BX E u t → H.size ≤ H1.size → (∀ q : Nat, q < H.size → ¬ AX q → H1[q]? = H[q]?) → va_S A0 H0 H1 locs1 → H1[q9]? = some ce → ce.vm = .none → s.vm.findClass E = some ce.cls → vx_W p l e R s m args below meth c H1 locs1 (cells + mc) (slots + ms) Q (F0 m pc ls rest) q9)
    (kk : ∀ (r : UInt32) (u : S) (t : State) (H1 : Heap) (locs1 : List Loc), t.heap = H1 → s.vm.Alike t.vm → post r u → B u t → H.size ≤ H1.size → (∀ q : Nat, q < H.size → ¬ A1 q → H1[q]? = H[q]?) → va_S A0 H0 H1 locs1 → W p l e R s m args below meth c H1 locs1 (cells + mc) (slots + ms) Q (F0 m (pc + 3) ls (.float r :: rest))) : W p l e R s m args below meth c H locs cells slots Q (F0 m pc ls st0) := by
  intro T hT X
  rcases hr T hT X with ⟨v, st₀, t, T', L, h0, X', hL, e1, e2, ⟨⟨r, u, hv, hp, hb⟩, hF⟩, st⟩ | ⟨q, st₀, t, T', L, E, ce, h0, X', hL, e1, e2, ⟨u, hp, hb, hF⟩, hce, hcv, hcl, st⟩
  · cases hv
    obtain ⟨k1, k2, k3⟩ := vx_keep h0 e1 hS hA hf hL hF
    obtain ⟨t2, a1, b1⟩ := kk r u t T'.heap (locs ++ L) e1.symm (by rw [← e2]; exact X'.warmed.alike) hp hb k1 k2 k3 T' rfl X'
    exact ⟨t2, st t2 a1, b1⟩
  · obtain ⟨k1, k2, k3⟩ := vx_keep h0 e1 hS hAX hf hL hF
    obtain ⟨t2, a1, b1⟩ := kx E ce q u t T'.heap (locs ++ L) e1.symm (by rw [← e2]; exact X'.warmed.alike) hp hb k1 k2 k3 (by rw [e1]; exact hce) hcv hcl T' rfl X'
    exact ⟨t2, st.trans a1, b1⟩
theorem vx_calld {S SX : Type} {post : UInt64 → S → Prop} {px : SX → Prop} {B : S → State → Prop} {BX : String → SX → State → Prop} {AX : Nat → Prop} (hr : vx_Run p l e R s m args below meth c H locs cells slots mc ms (F0 m pc ls st0) rest (va_Qd post B A1 a) (vx_X px BX AX) free) (hS : va_S A0 H0 H locs) (hA : ∀ q, q < H.size → A1 q → A0 q) (hf : ∀ q, free q → A0 q) (hAX : ∀ q, q < H.size → AX q → A0 q)
    (kx : ∀ (E : String) (ce : Cell) (q9 : Addr) (u : SX) (t : State) (H1 : Heap) (locs1 : List Loc), t.heap = H1 → s.vm.Alike t.vm → px u → BX E u t → H.size ≤ H1.size → (∀ q : Nat, q < H.size → ¬ AX q → H1[q]? = H[q]?) → va_S A0 H0 H1 locs1 → H1[q9]? = some ce → ce.vm = .none → s.vm.findClass E = some ce.cls → vx_W p l e R s m args below meth c H1 locs1 (cells + mc) (slots + ms) Q (F0 m pc ls rest) q9)
    (kk : ∀ (r : UInt64) (u : S) (t : State) (H1 : Heap) (locs1 : List Loc), t.heap = H1 → s.vm.Alike t.vm → post r u → B u t → H.size ≤ H1.size → (∀ q : Nat, q < H.size → ¬ A1 q → H1[q]? = H[q]?) → va_S A0 H0 H1 locs1 → W p l e R s m args below meth c H1 locs1 (cells + mc) (slots + ms) Q (F0 m (pc + 3) ls (.double r :: rest))) : W p l e R s m args below meth c H locs cells slots Q (F0 m pc ls st0) := by
  intro T hT X
  rcases hr T hT X with ⟨v, st₀, t, T', L, h0, X', hL, e1, e2, ⟨⟨r, u, hv, hp, hb⟩, hF⟩, st⟩ | ⟨q, st₀, t, T', L, E, ce, h0, X', hL, e1, e2, ⟨u, hp, hb, hF⟩, hce, hcv, hcl, st⟩
  · cases hv
    obtain ⟨k1, k2, k3⟩ := vx_keep h0 e1 hS hA hf hL hF
    obtain ⟨t2, a1, b1⟩ := kk r u t T'.heap (locs ++ L) e1.symm (by rw [← e2]; exact X'.warmed.alike) hp hb k1 k2 k3 T' rfl X'
    exact ⟨t2, st t2 a1, b1⟩
  · obtain ⟨k1, k2, k3⟩ := vx_keep h0 e1 hS hAX hf hL hF
    obtain ⟨t2, a1, b1⟩ := kx E ce q u t T'.heap (locs ++ L) e1.symm (by rw [← e2]; exact X'.warmed.alike) hp hb k1 k2 k3 (by rw [e1]; exact hce) hcv hcl T' rfl X'
    exact ⟨t2, st.trans a1, b1⟩
theorem vx_callv {S SX : Type} {post : S → Prop} {px : SX → Prop} {B : S → State → Prop} {BX : String → SX → State → Prop} {AX : Nat → Prop} (hr : vx_Run p l e R s m args below meth c H locs cells slots mc ms (F0 m pc ls st0) rest (va_Qv post B A1 a) (vx_X px BX AX) free) (hS : va_S A0 H0 H locs) (hA : ∀ q, q < H.size → A1 q → A0 q) (hf : ∀ q, free q → A0 q) (hAX : ∀ q, q < H.size → AX q → A0 q)
    (kx : ∀ (E : String) (ce : Cell) (q9 : Addr) (u : SX) (t : State) (H1 : Heap) (locs1 : List Loc), t.heap = H1 → s.vm.Alike t.vm → px u → BX E u t → H.size ≤ H1.size → (∀ q : Nat, q < H.size → ¬ AX q → H1[q]? = H[q]?) → va_S A0 H0 H1 locs1 → H1[q9]? = some ce → ce.vm = .none → s.vm.findClass E = some ce.cls → vx_W p l e R s m args below meth c H1 locs1 (cells + mc) (slots + ms) Q (F0 m pc ls rest) q9)
    (kk : ∀ (u : S) (t : State) (H1 : Heap) (locs1 : List Loc), t.heap = H1 → s.vm.Alike t.vm → post u → B u t → H.size ≤ H1.size → (∀ q : Nat, q < H.size → ¬ A1 q → H1[q]? = H[q]?) → va_S A0 H0 H1 locs1 → W p l e R s m args below meth c H1 locs1 (cells + mc) (slots + ms) Q (F0 m (pc + 3) ls (rest))) : W p l e R s m args below meth c H locs cells slots Q (F0 m pc ls st0) := by
  intro T hT X
  rcases hr T hT X with ⟨v, st₀, t, T', L, h0, X', hL, e1, e2, ⟨⟨u, hv, hp, hb⟩, hF⟩, st⟩ | ⟨q, st₀, t, T', L, E, ce, h0, X', hL, e1, e2, ⟨u, hp, hb, hF⟩, hce, hcv, hcl, st⟩
  · cases hv
    obtain ⟨k1, k2, k3⟩ := vx_keep h0 e1 hS hA hf hL hF
    obtain ⟨t2, a1, b1⟩ := kk u t T'.heap (locs ++ L) e1.symm (by rw [← e2]; exact X'.warmed.alike) hp hb k1 k2 k3 T' rfl X'
    exact ⟨t2, st t2 a1, b1⟩
  · obtain ⟨k1, k2, k3⟩ := vx_keep h0 e1 hS hAX hf hL hF
    obtain ⟨t2, a1, b1⟩ := kx E ce q u t T'.heap (locs ++ L) e1.symm (by rw [← e2]; exact X'.warmed.alike) hp hb k1 k2 k3 (by rw [e1]; exact hce) hcv hcl T' rfl X'
    exact ⟨t2, st.trans a1, b1⟩
/-- caught by the row x of this method's table; the rows ahead don't take it -/
theorem vx_catch {own name : String} {E : String} {ce : Cell} {q : Addr} (hown : s.vm.findClass own = some m.cls) (pre : List ExceptionTableEntry) (x : ExceptionTableEntry) (suf : List ExceptionTableEntry) (hsplit : c.exceptionTable.toList = pre ++ x :: suf)
    (hpass : ∀ z ∈ pre, covers z pc = false ∨ (z.catchType ≠ 0 ∧ ∃ nm : String, (Cond.classLink own z.catchType nm).before args s = true ∧ va_Nc E nm s)) (hx : covers x pc = true) (h0 : x.catchType ≠ 0)
    (hlink : (Cond.classLink own x.catchType name).before args s = true) (hcast : (Cond.castable E name).before args s = true) (hcell : H[q]? = some ce) (hv : ce.vm = .none) (hcl : s.vm.findClass E = some ce.cls)
    (kk : W p l e R s m args below meth c H locs cells slots Q (F0 m x.handlerPc ls [.ref q])) : vx_W p l e R s m args below meth c H locs cells slots Q (F0 m pc ls rest) q := by
  intro T hT X
  have hpl : e.platform.magicAccessors = ({} : Platform).magicAccessors := by rw [X.admits.platform]
  obtain ⟨c3, c4, hc3, hc4, hasg⟩ := Cond.castable_spec hcast
  cases Option.some.inj (hc3.symm.trans hcl)
  obtain ⟨c5, hc5, hcl5⟩ := Cond.classLink_spec hown hlink e.platform hpl
  cases Option.some.inj (hc4.symm.trans hc5)
  obtain ⟨vm', X', st⟩ := X.thenCaughtThrough q (g := F0 m pc ls rest) rfl (Steps.refl _) (by rw [hT]; exact hcell) (by rw [hv]; rfl) (by obtain ⟨k9, h9, -⟩ := Vm.findClass_spec hcl; exact ⟨k9, h9⟩) pre x suf hsplit
    (fun z hz => by
      rcases hpass z hz with h | ⟨hz0, nm, hl1, hn1⟩
      · exact Or.inl h
      · obtain ⟨c6, hc6, hcl6⟩ := Cond.classLink_spec hown hl1 e.platform hpl
        obtain ⟨a8, b8, h1, h2, h3⟩ := hn1
        cases Option.some.inj (h1.symm.trans hcl)
        cases Option.some.inj (h2.symm.trans hc6)
        exact Or.inr ⟨hz0, _, hcl6, h3⟩) hx (Or.inr ⟨h0, c4, hcl5, hasg⟩)
  obtain ⟨t, a1, b1⟩ := kk (T.setVm vm') hT X'
  exact ⟨t, st.trans a1, b1⟩
end Rows
section Ends
variable {p : Program} {l : Launch} {e : Env} {R : Room} {s : State} {m : MethodId} {args : Array Value} {below : List Frame} {meth : Method} {c : Code} {H : Heap} {locs : List Loc} {cells slots : Nat} {Q : State → Prop}
variable {mc ms : Nat} {free : Addr → Prop} {A0 A1 : Nat → Prop} {H0 : Heap} {a : Array Value} {ls : Array Slot} {st0 rest : List Value}
variable {Qc : Array Value → State → Outcome → State → Prop} {XC : String → State → State → Prop}
/-- what a body that may throw owes at its end -/
def vx_MQ (below : List Frame) (Qc : Array Value → State → Outcome → State → Prop) (XC : String → State → State → Prop) (a : Array Value) (s : State) (mc ms : Nat) (free : Addr → Prop) : State → Prop := fun t =>
  ∃ o, t.status = .running ∧ Ended t below o ∧ vx_Q Qc XC mc ms free a s o t
theorem vx_ret {g : JFrame} {mc ms : Nat} (k : W p l e R s m args below meth c H locs cells slots (MQ below Qc args s mc ms free) g) : W p l e R s m args below meth c H locs cells slots (vx_MQ below Qc XC args s mc ms free) g := by
  intro T hT X
  obtain ⟨t, a1, o, b1, b2, b3, b4⟩ := k T hT X
  exact ⟨t, a1, o, b1, b2, Or.inl ⟨b3, b4⟩⟩
/-- not caught here: it goes on to the caller -/
theorem vx_widen {g : JFrame} {q : Addr} {k n : Nat} (h1 : cells ≤ k) (h2 : slots ≤ n) (kk : vx_W p l e R s m args below meth c H locs k n Q g q) : vx_W p l e R s m args below meth c H locs cells slots Q g q := fun T hT X => kk T hT (stand_widen X h1 h2)
theorem vx_out {pc : Nat} {E : String} {ce : Cell} {q : Addr} {mc ms : Nat} (hout : ∀ x ∈ c.exceptionTable.toList, covers x pc = false) (hlocks : meth.locks = false) (hcell : H[q]? = some ce) (hv : ce.vm = .none) (hcl : s.vm.findClass E = some ce.cls)
    (hx : ∀ t : State, t.heap = H → s.vm.Alike t.vm → XC E s t) (hf : ∀ z ∈ locs, free z.base) (hc : cells ≤ mc) (hs : slots ≤ ms) :
    vx_W p l e R s m args below meth c H locs cells slots (vx_MQ below Qc XC args s mc ms free) (F0 m pc ls rest) q := by
  intro T hT X
  obtain ⟨st1, hrun, hend, hW, hsm⟩ := X.leaveThrown q (g := F0 m pc ls rest) rfl rfl rfl hout hlocks
  have hcell9 : (T.setFrames (.throwing q :: below)).heap[q]? = some ce := by
    show T.heap[q]? = some ce
    rw [hT]; exact hcell
  exact ⟨_, st1, .threw q, hrun, hend, Or.inr ⟨q, rfl, E, ce, locs, hx _ hT hW.alike, hcell9, hv, hcl, hW, hsm.mono hc hs, hf⟩⟩
theorem vx_frame {U : State} {k n : Nat} (h : s.sameButNew ({ U with vm := s.vm } : State) locs k n) : s.heap.size ≤ U.heap.size ∧ ∀ q : Nat, q < s.heap.size → (∀ z ∈ locs, z.base ≠ q) → U.heap[q]? = s.heap[q]? := by
  obtain ⟨-, h2, -, -, -, h6⟩ := h
  refine ⟨h2, fun q hq hz => ?_⟩
  obtain ⟨c9, e1, e2, e3, e4⟩ := h6 q _ (Array.getElem?_eq_getElem hq)
  have hs : c9.slots = (s.heap[q]).slots := Array.ext_getElem? fun i => e4 i fun hm => hz _ hm rfl
  have h9 : c9 = s.heap[q] := by
    rw [hs] at e2
    exact e2
  have e5 : U.heap[q]? = some c9 := e1
  rw [e5, h9, Array.getElem?_eq_getElem hq]
/-- the words of a throw but the four that speak of the heap -/
def vx_no (w : Cond) : Bool := decide (w ≠ .isRef (.static Bundle.tN "UNASSIGNED_STACK" Bundle.steD)) && decide (w ≠ .isRef (.static Bundle.tN "SUPPRESSED_SENTINEL" Bundle.listD)) && decide (w ≠ .laysStatic Bundle.tN "UNASSIGNED_STACK" Bundle.steD) && decide (w ≠ .laysStatic Bundle.tN "SUPPRESSED_SENTINEL" Bundle.listD)
def vx_at0 (own : String) (ic : Nat) (X : String) (names : List String) : List Cond := (Bundle.ownAtoms0 own ic X names).filter vx_no
def vx_atS (own : String) (ic : Nat) (X : String) (names : List String) : List Cond := (Bundle.ownAtoms own ic X names).filter vx_no
/-- a word that the tables alone decide, or a good one -/
def vx_ot (w : Cond) : Bool := w.onTables || goodWord w
theorem vx_ot_at {args a' : Array Value} {s U : State} {w : Cond} (hW : s.WarmedH U.vm) (hvm : s.vm = U.vm) (hg : vx_ot w = true) (h : w.before args s = true) : w.before a' U = true := by
  simp only [vx_ot, Bool.or_eq_true] at hg
  rcases hg with hg | hg
  · exact va_tabs hg hvm h
  · exact word_at hW (good_of_word hg) h
/-- a list's words: the good ones out of the method's own list, the others by premises of their own -/
theorem vx_hat {args : Array Value} {s : State} {L B : List Cond} (h1 : ∀ w ∈ L.filter goodWord, w.before args s = true) (h2 : ∀ w ∈ L.filter (fun w => !goodWord w), w ∈ B) (h3 : ∀ w ∈ B, w.before args s = true) : ∀ w ∈ L, w.before args s = true := by
  intro w hw
  by_cases g : goodWord w = true
  · exact h1 w (List.mem_filter.mpr ⟨hw, g⟩)
  · refine h3 w (h2 w (List.mem_filter.mpr ⟨hw, ?_⟩))
    show (!goodWord w) = true
    cases hgw : goodWord w
    · rfl
    · exact absurd hgw g
theorem vx_c {args : Array Value} {s : State} {w : Cond} {B : List Cond} (h : w.before args s = true) (t : ∀ w ∈ B, w.before args s = true) : ∀ w' ∈ w :: B, w'.before args s = true := fun w' h' => (List.mem_cons.mp h').elim (fun e => by rw [e]; exact h) (t w')
theorem vx_n {args : Array Value} {s : State} : ∀ w ∈ ([] : List Cond), w.before args s = true := fun _ h => nomatch h
theorem vx_own {args : Array Value} {s : State} {L : List Cond} (h1 : ∀ w ∈ L.filter vx_no, w.before args s = true)
    (hU : (Cond.isRef (.static Bundle.tN "UNASSIGNED_STACK" Bundle.steD)).before args s = true) (hN : (Cond.isRef (.static Bundle.tN "SUPPRESSED_SENTINEL" Bundle.listD)).before args s = true)
    (lU : (Cond.laysStatic Bundle.tN "UNASSIGNED_STACK" Bundle.steD).before args s = true) (lN : (Cond.laysStatic Bundle.tN "SUPPRESSED_SENTINEL" Bundle.listD).before args s = true) : ∀ w ∈ L, w.before args s = true := by
  intro w hw
  by_cases e1 : w = .isRef (.static Bundle.tN "UNASSIGNED_STACK" Bundle.steD)
  · rw [e1]; exact hU
  · by_cases e2 : w = .isRef (.static Bundle.tN "SUPPRESSED_SENTINEL" Bundle.listD)
    · rw [e2]; exact hN
    · by_cases e3 : w = .laysStatic Bundle.tN "UNASSIGNED_STACK" Bundle.steD
      · rw [e3]; exact lU
      · by_cases e4 : w = .laysStatic Bundle.tN "SUPPRESSED_SENTINEL" Bundle.listD
        · rw [e4]; exact lN
        · exact h1 w (List.mem_filter.mpr ⟨hw, by unfold vx_no; rw [decide_eq_true e1, decide_eq_true e2, decide_eq_true e3, decide_eq_true e4]; rfl⟩)
/-- where a static field lies, its class's statics cell in H -/
def vx_L (C n d : String) (A : Nat → Prop) (U : State) (H : Heap) : Prop := ∃ (c : ClassId) (k : Class) (i : Nat) (f : Field) (a : Nat) (cell : Cell), U.vm.findClass C = some c ∧ U.fieldFound? C n d = some (c, k, i, f) ∧ f.isStatic = true ∧ k.statics = some a ∧ H[a]? = some cell ∧ cell.vm.isStatics = true ∧ cell.cls = c ∧ f.slot < cell.slots.size ∧ k.staticTypes[f.slot]? = some f.type ∧ ¬ A a
theorem vx_L.moved {C n d : String} {A : Nat → Prop} {u U : State} {H : Heap} (hvm : u.vm.Alike U.vm) (h : vx_L C n d A u H) : vx_L C n d A U H := by
  obtain ⟨c, k, i, f, a, cell, h1, h2, h3, h4, h5, h6, h7, h8, h9, h10⟩ := h
  obtain ⟨k', hi', he⟩ := State.fieldFound?_setVm hvm h2
  exact ⟨c, k', i, f, a, cell, by rw [hvm.findClass]; exact h1, hi', h3, by rw [he]; exact h4, h5, h6, h7, h8, by rw [he]; exact h9, h10⟩
theorem vx_L.kept {C n d : String} {A : Nat → Prop} {U : State} {H H1 : Heap} (h : vx_L C n d A U H) (hq : ∀ a : Nat, a < H.size → ¬ A a → H1[a]? = H[a]?) : vx_L C n d A U H1 := by
  obtain ⟨c, k, i, f, a, cell, h1, h2, h3, h4, h5, h6, h7, h8, h9, h10⟩ := h
  exact ⟨c, k, i, f, a, cell, h1, h2, h3, h4, by rw [hq a (Array.getElem?_eq_some_iff.mp h5).1 h10]; exact h5, h6, h7, h8, h9, h10⟩
theorem vx_L.narrow {C n d : String} {A B : Nat → Prop} {U : State} {H : Heap} (h : vx_L C n d A U H) (hAB : ∀ q, B q → A q) : vx_L C n d B U H := by
  obtain ⟨c, k, i, f, a, cell, h1, h2, h3, h4, h5, h6, h7, h8, h9, h10⟩ := h
  exact ⟨c, k, i, f, a, cell, h1, h2, h3, h4, h5, h6, h7, h8, h9, fun z => h10 (hAB _ z)⟩
theorem vx_L.word {C n d : String} {A : Nat → Prop} {s : State} {args : Array Value} (h : vx_L C n d A s s.heap) : (Cond.laysStatic C n d).before args s = true := by
  obtain ⟨c, k, i, f, a, cell, h1, h2, h3, h4, h5, h6, h7, h8, h9, -⟩ := h
  show (Cond.laysStatic C n d).holds args s none s [] = true
  exact Cond.laysStatic_of h1 h2 h3 h4 h5 h6 h7 h8 h9
/-- .. and what it holds: null or some reference -/
def vx_Zq (C n d : String) (A : Nat → Prop) (U : State) (H : Heap) : Prop := va_Zq C n d A U H ∧ vx_L C n d A U H
theorem vx_Zq.moved {C n d : String} {A : Nat → Prop} {u U : State} {H : Heap} (hvm : u.vm.Alike U.vm) (h : vx_Zq C n d A u H) : vx_Zq C n d A U H := ⟨va_Zq.moved hvm h.1, vx_L.moved hvm h.2⟩
theorem vx_Zq.kept {C n d : String} {A : Nat → Prop} {U : State} {H H1 : Heap} (h : vx_Zq C n d A U H) (hq : ∀ a : Nat, a < H.size → ¬ A a → H1[a]? = H[a]?) : vx_Zq C n d A U H1 := ⟨va_Zq.kept h.1 hq, vx_L.kept h.2 hq⟩
theorem vx_Zq.narrow {C n d : String} {A B : Nat → Prop} {U : State} {H : Heap} (h : vx_Zq C n d A U H) (hAB : ∀ q, B q → A q) : vx_Zq C n d B U H := ⟨va_Zq.narrow h.1 hAB, vx_L.narrow h.2 hAB⟩
theorem vx_Zqof {args : Array Value} {s : State} {C n d : String} {A : Nat → Prop} (hl : (Cond.laysStatic C n d).before args s = true) (hini : (Cond.initialized C).before args s = true) (h : (Cond.isRef (.static C n d)).before args s = true) (hA : ∀ a : Nat, a < s.heap.size → ¬ A a) : vx_Zq C n d A s s.heap := by
  refine ⟨va_Zqof hl hini h hA, ?_⟩
  obtain ⟨c, k, i, f, a, cell, h1, h2, h3, h4, h5, h6, h7, h8, h9⟩ := Cond.laysStatic_spec hl
  exact ⟨c, k, i, f, a, cell, h1, h2, h3, h4, h5, h6, h7, h8, h9, hA a (Array.getElem?_eq_some_iff.mp h5).1⟩
theorem vx_isRef {C n d : String} {v : Value} {A : Nat → Prop} {s : State} {args : Array Value} (h : va_Z C n d v A s s.heap) (hv : v.isRef = true) : (Cond.isRef (.static C n d)).before args s = true := by
  obtain ⟨cf, kf, fi, f, a, cell, h1, h2, h3, h4, h5, h6, h7, -⟩ := h
  have he : (Term.static C n d).eval args s none [] s = some v := by
    simp [Term.eval, State.fieldNamed?, h1, h2, h4, h5, h6, h7]
  simp only [Cond.before, Cond.holds, Cond.value, he]
  cases v <;> simp_all [Value.isRef]
theorem vx_isRefq {C n d : String} {A : Nat → Prop} {s : State} {args : Array Value} (h : va_Zq C n d A s s.heap) : (Cond.isRef (.static C n d)).before args s = true := by
  rcases h with h | ⟨t, h⟩
  · exact vx_isRef h rfl
  · exact vx_isRef h rfl
/-- the same frame, seen from here: as if the method were called anew in this heap -/
theorem vx_rebase {T : State} (X : Stand p l e R s m args below meth c T locs cells slots) {R' : Room} (hf : R'.frames ≤ R.frames) (hl : R'.locals ≤ R.locals) (hc : cells + R'.cells ≤ R.cells) (hs : slots + R'.slots ≤ R.slots) :
    Stand p l e R' ((T.setVm s.vm).setFrames (.invoking m args :: below)) m args below meth c T [] 0 0 := by
  have htop : (T.setVm s.vm).topJava?.isSome := X.here.top
  have hF : ((T.setVm s.vm).setFrames (.invoking m args :: below)).frames = .invoking m args :: below := State.frames_setFrames _ (State.cur_lt_of_top htop)
  obtain ⟨g₀, hg0⟩ := Option.isSome_iff_exists.mp htop
  obtain ⟨r, hr⟩ := State.topJava?_eq_some.mp hg0
  have hl9 : e.platform.stackLimits (T.setVm s.vm).me = e.platform.stackLimits s.me := X.limits
  have hb9 : (T.setVm s.vm).me.stackBytes = s.me.stackBytes := X.bytes
  refine ⟨X.admits, X.cas, X.clock, hF, ?_, X.hears, X.method, X.code, X.here, X.tail, X.warmed, ?_, ?_, ?_⟩
  · have h := X.room
    have hU : ((T.setVm s.vm).setFrames (.invoking m args :: below)).localsInUse = s.localsInUse := by
      rw [State.localsInUse_invoking hF (meth := meth) (c := c) X.method X.code, State.localsInUse_invoking X.frames X.method X.code]
    simp only [State.hasRoom, Bool.and_eq_true, decide_eq_true_eq] at h ⊢
    obtain ⟨⟨⟨⟨h1, h2, h3, h4, h5, h6⟩, h7⟩, h8⟩, h9⟩ := h
    rw [X.frames, List.length_cons] at h2 h3
    have q1 := X.heapSize
    have q2 := X.used
    simp only [hF, hU, List.length_cons, State.stackLimits_setFrames, State.stackBytes_setFrames, hl9, hb9]
    refine ⟨⟨⟨⟨by omega, by omega, by omega, by omega, by omega, h6⟩, ?_⟩, ?_⟩, X.book⟩
    · show T.heap.size + R'.cells ≤ e.platform.maxCells
      omega
    · show T.slotsUsed + R'.slots ≤ e.platform.maxSlots
      omega
  · rw [State.stackLimits_setFrames]; rfl
  · rw [State.stackBytes_setFrames]; rfl
  · refine ⟨?_, Nat.le_refl _, Nat.le_refl _, ?_, ?_, fun a c9 h9 => ⟨c9, h9, rfl, rfl, fun _ _ => rfl⟩⟩
    · obtain ⟨t, ht, -⟩ := State.frames_cons hr
      show T.setVm s.vm = { ((T.setVm s.vm).setFrames (.invoking m args :: below)).setFrames (T.setVm s.vm).frames with heap := T.heap, slotsUsed := T.slotsUsed }
      rw [State.setFrames_setFrames, State.setFrames_self ht]
      rfl
    · show T.slotsUsed = T.slotsUsed + ((T.heap.toList.drop T.heap.size).map (·.slots.size)).sum
      rw [List.drop_eq_nil_of_le (Nat.le_of_eq Array.length_toList)]
      rfl
    · show ((T.heap.toList.drop T.heap.size).map (·.slots.size)).sum ≤ 0
      rw [List.drop_eq_nil_of_le (Nat.le_of_eq Array.length_toList)]
      exact Nat.le_refl _
/-- 'throw new E()': new; dup; invokespecial; athrow -/
theorem vx_throw0 {cc : ByteArray} {pc : Nat} (hexec : p.tables.exec = Jvm.exec) (hb : c.code = cc) (hl : l.stackTraces = false) {own cls : String} {names : List String} {ik ic mc ms : Nat} {A : Nat → Prop}
    (hown : s.vm.findClass own = some m.cls) (hcls : Bundle.fit cls = true) (hnames : ∀ n ∈ names, Bundle.fit n = true)
    (hk : (Cond.classLink own ik cls).before args s = true) (hini : (Cond.initialized cls).before args s = true) (hat : ∀ w ∈ vx_at0 own ic cls names, w.before args s = true)
    (hgood : ∀ w ∈ Cond.classLink own ik cls :: Cond.initialized cls :: vx_at0 own ic cls names, vx_ot w = true)
    (hU : vx_Zq Bundle.tN "UNASSIGNED_STACK" Bundle.steD A s s.heap) (hN : vx_Zq Bundle.tN "SUPPRESSED_SENTINEL" Bundle.listD A s s.heap) (hS : va_S A s.heap H locs) (hsize : ls.size = c.maxLocals)
    (d0 : decode cc pc = .ok (.new ik, 3)) (d3 : decode cc (pc + 3) = .ok (.dup, 1)) (d4 : decode cc (pc + 4) = .ok (.invokespecial ic, 3)) (d7 : decode cc (pc + 7) = .ok (.athrow, 1))
    (hout : ∀ x ∈ c.exceptionTable.toList, covers x (pc + 7) = false)
    (hRframes : names.length + 3 < R.frames) (hRlocals : (rest.map fun v => v.category).sum + (13 * (names.length + 1) + 42) ≤ R.locals) (hRcells : cells + 1 ≤ R.cells) (hRslots : slots + 6 ≤ R.slots) (hlocks : meth.locks = false)
    (hx : ∀ t : State, s.vm.Alike t.vm → H.size ≤ t.heap.size → (∀ q : Nat, q < H.size → t.heap[q]? = H[q]?) → XC cls s t)
    (hf : ∀ z ∈ locs, free z.base) (hc : cells + 1 ≤ mc) (hs : slots + 6 ≤ ms) :
    W p l e R s m args below meth c H locs cells slots (vx_MQ below Qc XC args s mc ms free) (F0 m pc ls rest) := by
  intro T hT X
  have htr : e.platform.stackTraces = false := (show e.platform.stackTraces = l.stackTraces by rw [X.admits.platform]).trans hl
  have Y := vx_rebase X (R' := { frames := R.frames, locals := R.locals, cells := 1, slots := 6 }) (Nat.le_refl _) (Nat.le_refl _) hRcells hRslots
  obtain ⟨s', hA⟩ : ∃ z, z = (T.setVm s.vm).setFrames (.invoking m args :: below) := ⟨_, rfl⟩
  rw [← hA] at Y
  have hvm : s'.vm = s.vm := by rw [hA]; rfl
  have hhp : s'.heap = H := by rw [hA]; exact hT
  have hW0 : s.WarmedH s'.vm := by rw [hvm]; exact State.WarmedH.refl s
  have hat' : ∀ w ∈ vx_at0 own ic cls names, w.before args s' = true := fun w hw => vx_ot_at hW0 hvm.symm (hgood w (List.mem_cons_of_mem _ (List.mem_cons_of_mem _ hw))) (hat w hw)
  have hk' : (Cond.classLink own ik cls).before args s' = true := vx_ot_at hW0 hvm.symm (hgood _ List.mem_cons_self) hk
  have hini' : (Cond.initialized cls).before args s' = true := vx_ot_at hW0 hvm.symm (hgood _ (List.mem_cons_of_mem _ List.mem_cons_self)) hini
  have hU' : vx_Zq Bundle.tN "UNASSIGNED_STACK" Bundle.steD A s' s'.heap := by rw [hhp]; exact vx_Zq.moved hW0.alike (hU.kept hS.2.1)
  have hN' : vx_Zq Bundle.tN "SUPPRESSED_SENTINEL" Bundle.listD A s' s'.heap := by rw [hhp]; exact vx_Zq.moved hW0.alike (hN.kept hS.2.1)
  have h : ∀ w ∈ Bundle.ownAtoms0 own ic cls names, w.before args s' = true := vx_own hat' (vx_isRefq hU'.1) (vx_isRefq hN'.1) hU'.2.word hN'.2.word
  have hown' : s'.vm.findClass own = some m.cls := by rw [hvm]; exact hown
  have hins : (Cond.instantiable cls 6).before args s' = true := h _ (by simp [Bundle.ownAtoms0])
  obtain ⟨vm₁, cX, kX, hfX, hkX, -, -, X₁, st1⟩ := Y.newCold hexec (own := own) (C := cls) (index := ik) (n := 6) hown' hk' hins hini'
    (g := F0 m pc ls rest) rfl (by rw [hb]; exact d0) (Nat.le_refl _) (Nat.le_refl _)
  generalize hT1 : (T.setVm vm₁).pushCell { cls := cX, slots := kX.instanceTypes.map defaultValue, vm := .none } = T1 at X₁ st1
  have hcat : (Value.ref T.heap.size).category = 1 := rfl
  have hcellA : T1.heap[T.heap.size]? = some (freshCell cX kX) := by rw [← hT1]; exact State.heap_pushCell_size _ _
  have d3' : decode c.code (pc + 3) = .ok (.dup, 1) := by rw [hb]; exact d3
  obtain ⟨U, hsteps, hrun, hend, hW, hsame, ce, hce, hO⟩ := X₁.ctorThrow0 hexec htr (own := own) (cls := cls) (names := names) (ic := ic) hown' hcls hnames h (fun x hx => nomatch hx) hfX hkX hcellA (by rw [hhp, hT]; exact Nat.le_refl _)
    (g := { method := m, pc := pc + 4, locals := ls, stack := .ref T.heap.size :: .ref T.heap.size :: rest, locked := none }) rfl hsize rfl rfl (rest := rest) rfl
    (by rw [hb]; exact d4) (by rw [hb]; exact d7) hout hRframes (by simp only [List.map_cons, List.sum_cons, hcat]; omega) hlocks
  obtain ⟨f1, f2⟩ := vx_frame hsame
  rw [hhp] at f1 f2
  have hWs : s.WarmedH U.vm := State.WarmedH.trans hW0 hW
  have hcl : s.vm.findClass cls = some ce.cls := by
    have h9 := hO.cls
    rw [hvm] at h9
    exact h9
  have hall : s.sameButNew ({ U with vm := s.vm } : State) locs mc ms := by
    subst hA
    obtain ⟨e1, e2⟩ := hsame
    rw [State.setFrames_setFrames] at e1
    have h2 : (T.setVm s.vm).sameButNew ({ U with vm := s.vm } : State) [] (0 + 1) (0 + 6) := ⟨e1, e2⟩
    have h3 := X.same.trans h2
    rw [List.append_nil] at h3
    exact h3.mono hc hs
  refine ⟨U, ?_, .threw T.heap.size, hrun, hend, Or.inr ⟨T.heap.size, rfl, cls, ce, locs, hx U hWs.alike f1 (fun q hq => f2 q hq (fun z hz => nomatch hz)), hce, hO.vm, hcl, hWs, hall, hf⟩⟩
  refine st1 _ ?_
  show Steps p.tables e below (T1.setTop { method := m, pc := pc + 3, locals := ls, stack := .ref T.heap.size :: rest, locked := none }) _
  jvm_step X₁.here [X₁.here.top, hexec, d3', Value.category]
  exact hsteps
/-- 'throw new E("text")': new; dup; ldc; invokespecial; athrow -/
theorem vx_throwS {cc : ByteArray} {pc : Nat} (hexec : p.tables.exec = Jvm.exec) (hb : c.code = cc) (hl : l.stackTraces = false) {own cls text : String} {names : List String} {ik is ic mc ms sa : Nat} {A : Nat → Prop}
    (hown : s.vm.findClass own = some m.cls) (hcls : Bundle.fit cls = true) (hnames : ∀ n ∈ names, Bundle.fit n = true)
    (hk : (Cond.classLink own ik cls).before args s = true) (hini : (Cond.initialized cls).before args s = true) (hstr : vk_R own is text sa s) (hat : ∀ w ∈ vx_atS own ic cls names, w.before args s = true)
    (hgood : ∀ w ∈ Cond.classLink own ik cls :: Cond.initialized cls :: vx_atS own ic cls names, vx_ot w = true)
    (hU : vx_Zq Bundle.tN "UNASSIGNED_STACK" Bundle.steD A s s.heap) (hN : vx_Zq Bundle.tN "SUPPRESSED_SENTINEL" Bundle.listD A s s.heap) (hS : va_S A s.heap H locs) (hsize : ls.size = c.maxLocals)
    (d0 : decode cc pc = .ok (.new ik, 3)) (d3 : decode cc (pc + 3) = .ok (.dup, 1)) (d4 : decode cc (pc + 4) = .ok (.ldc is, 2)) (d6 : decode cc (pc + 6) = .ok (.invokespecial ic, 3)) (d9 : decode cc (pc + 9) = .ok (.athrow, 1))
    (hout : ∀ x ∈ c.exceptionTable.toList, covers x (pc + 9) = false)
    (hRframes : names.length + 3 < R.frames) (hRlocals : (rest.map fun v => v.category).sum + (13 * (names.length + 1) + 43) ≤ R.locals) (hRcells : cells + 1 ≤ R.cells) (hRslots : slots + 6 ≤ R.slots) (hlocks : meth.locks = false)
    (hx : ∀ t : State, s.vm.Alike t.vm → H.size ≤ t.heap.size → (∀ q : Nat, q < H.size → t.heap[q]? = H[q]?) → XC cls s t)
    (hf : ∀ z ∈ locs, free z.base) (hc : cells + 1 ≤ mc) (hs : slots + 6 ≤ ms) :
    W p l e R s m args below meth c H locs cells slots (vx_MQ below Qc XC args s mc ms free) (F0 m pc ls rest) := by
  intro T hT X
  have htr : e.platform.stackTraces = false := (show e.platform.stackTraces = l.stackTraces by rw [X.admits.platform]).trans hl
  have Y := vx_rebase X (R' := { frames := R.frames, locals := R.locals, cells := 1, slots := 6 }) (Nat.le_refl _) (Nat.le_refl _) hRcells hRslots
  obtain ⟨s', hA⟩ : ∃ z, z = (T.setVm s.vm).setFrames (.invoking m args :: below) := ⟨_, rfl⟩
  rw [← hA] at Y
  have hvm : s'.vm = s.vm := by rw [hA]; rfl
  have hhp : s'.heap = H := by rw [hA]; exact hT
  have hW0 : s.WarmedH s'.vm := by rw [hvm]; exact State.WarmedH.refl s
  have hat' : ∀ w ∈ vx_atS own ic cls names, w.before args s' = true := fun w hw => vx_ot_at hW0 hvm.symm (hgood w (List.mem_cons_of_mem _ (List.mem_cons_of_mem _ hw))) (hat w hw)
  have hk' : (Cond.classLink own ik cls).before args s' = true := vx_ot_at hW0 hvm.symm (hgood _ List.mem_cons_self) hk
  have hini' : (Cond.initialized cls).before args s' = true := vx_ot_at hW0 hvm.symm (hgood _ (List.mem_cons_of_mem _ List.mem_cons_self)) hini
  have hU' : vx_Zq Bundle.tN "UNASSIGNED_STACK" Bundle.steD A s' s'.heap := by rw [hhp]; exact vx_Zq.moved hW0.alike (hU.kept hS.2.1)
  have hN' : vx_Zq Bundle.tN "SUPPRESSED_SENTINEL" Bundle.listD A s' s'.heap := by rw [hhp]; exact vx_Zq.moved hW0.alike (hN.kept hS.2.1)
  have h : ∀ w ∈ Bundle.ownAtoms own ic cls names, w.before args s' = true := vx_own hat' (vx_isRefq hU'.1) (vx_isRefq hN'.1) hU'.2.word hN'.2.word
  have hown' : s'.vm.findClass own = some m.cls := by rw [hvm]; exact hown
  have hins : (Cond.instantiable cls 6).before args s' = true := h _ (by simp [Bundle.ownAtoms])
  obtain ⟨vm₁, cX, kX, hfX, hkX, -, -, X₁, st1⟩ := Y.newCold hexec (own := own) (C := cls) (index := ik) (n := 6) hown' hk' hins hini'
    (g := F0 m pc ls rest) rfl (by rw [hb]; exact d0) (Nat.le_refl _) (Nat.le_refl _)
  generalize hT1 : (T.setVm vm₁).pushCell { cls := cX, slots := kX.instanceTypes.map defaultValue, vm := .none } = T1 at X₁ st1
  have hcat : (Value.ref T.heap.size).category = 1 := rfl
  have hcellA : T1.heap[T.heap.size]? = some (freshCell cX kX) := by rw [← hT1]; exact State.heap_pushCell_size _ _
  have d3' : decode c.code (pc + 3) = .ok (.dup, 1) := by rw [hb]; exact d3
  have d4' : decode c.code (pc + 4) = .ok (.ldc is, 2) := by rw [hb]; exact d4
  have hstr' : vk_R own is text sa s' := vk_R.warm hW0 hstr
  obtain ⟨U, hsteps, hrun, hend, hW, hsame, ce, hce, hO⟩ := X₁.ctorThrowS hexec htr (own := own) (cls := cls) (names := names) (ic := ic) hown' hcls hnames h (fun x hx => nomatch hx) hfX hkX hcellA (by rw [hhp, hT]; exact Nat.le_refl _) (msg := .ref sa) rfl
    (g := { method := m, pc := pc + 6, locals := ls, stack := .ref sa :: .ref T.heap.size :: .ref T.heap.size :: rest, locked := none }) rfl hsize rfl rfl (rest := rest) rfl
    (by rw [hb]; exact d6) (by rw [hb]; exact d9) hout hRframes (by simp only [List.map_cons, List.sum_cons, hcat]; omega) hlocks
  obtain ⟨f1, f2⟩ := vx_frame hsame
  rw [hhp] at f1 f2
  have hWs : s.WarmedH U.vm := State.WarmedH.trans hW0 hW
  have hcl : s.vm.findClass cls = some ce.cls := by
    have h9 := hO.cls
    rw [hvm] at h9
    exact h9
  have hall : s.sameButNew ({ U with vm := s.vm } : State) locs mc ms := by
    subst hA
    obtain ⟨e1, e2⟩ := hsame
    rw [State.setFrames_setFrames] at e1
    have h2 : (T.setVm s.vm).sameButNew ({ U with vm := s.vm } : State) [] (0 + 1) (0 + 6) := ⟨e1, e2⟩
    have h3 := X.same.trans h2
    rw [List.append_nil] at h3
    exact h3.mono hc hs
  refine ⟨U, ?_, .threw T.heap.size, hrun, hend, Or.inr ⟨T.heap.size, rfl, cls, ce, locs, hx U hWs.alike f1 (fun q hq => f2 q hq (fun z hz => nomatch hz)), hce, hO.vm, hcl, hWs, hall, hf⟩⟩
  refine st1 _ ?_
  show Steps p.tables e below (T1.setTop { method := m, pc := pc + 3, locals := ls, stack := .ref T.heap.size :: rest, locked := none }) _
  jvm_step X₁.here [X₁.here.top, hexec, d3', Value.category]
  exact X₁.ldcString hexec (own := own) (text := text) (index := is) (a := sa) hown' hstr'.1 hstr'.2
    (g := { method := m, pc := pc + 4, locals := ls, stack := .ref T.heap.size :: .ref T.heap.size :: rest, locked := none }) rfl d4' _ hsteps
/-- 'throw new E("text")', the text by a wide index -/
theorem vx_throwSW {cc : ByteArray} {pc : Nat} (hexec : p.tables.exec = Jvm.exec) (hb : c.code = cc) (hl : l.stackTraces = false) {own cls text : String} {names : List String} {ik is ic mc ms sa : Nat} {A : Nat → Prop}
    (hown : s.vm.findClass own = some m.cls) (hcls : Bundle.fit cls = true) (hnames : ∀ n ∈ names, Bundle.fit n = true)
    (hk : (Cond.classLink own ik cls).before args s = true) (hini : (Cond.initialized cls).before args s = true) (hstr : vk_R own is text sa s) (hat : ∀ w ∈ vx_atS own ic cls names, w.before args s = true)
    (hgood : ∀ w ∈ Cond.classLink own ik cls :: Cond.initialized cls :: vx_atS own ic cls names, vx_ot w = true)
    (hU : vx_Zq Bundle.tN "UNASSIGNED_STACK" Bundle.steD A s s.heap) (hN : vx_Zq Bundle.tN "SUPPRESSED_SENTINEL" Bundle.listD A s s.heap) (hS : va_S A s.heap H locs) (hsize : ls.size = c.maxLocals)
    (d0 : decode cc pc = .ok (.new ik, 3)) (d3 : decode cc (pc + 3) = .ok (.dup, 1)) (d4 : decode cc (pc + 4) = .ok (.ldc_w is, 3)) (d7 : decode cc (pc + 7) = .ok (.invokespecial ic, 3)) (d10 : decode cc (pc + 10) = .ok (.athrow, 1))
    (hout : ∀ x ∈ c.exceptionTable.toList, covers x (pc + 10) = false)
    (hRframes : names.length + 3 < R.frames) (hRlocals : (rest.map fun v => v.category).sum + (13 * (names.length + 1) + 43) ≤ R.locals) (hRcells : cells + 1 ≤ R.cells) (hRslots : slots + 6 ≤ R.slots) (hlocks : meth.locks = false)
    (hx : ∀ t : State, s.vm.Alike t.vm → H.size ≤ t.heap.size → (∀ q : Nat, q < H.size → t.heap[q]? = H[q]?) → XC cls s t)
    (hf : ∀ z ∈ locs, free z.base) (hc : cells + 1 ≤ mc) (hs : slots + 6 ≤ ms) :
    W p l e R s m args below meth c H locs cells slots (vx_MQ below Qc XC args s mc ms free) (F0 m pc ls rest) := by
  intro T hT X
  have htr : e.platform.stackTraces = false := (show e.platform.stackTraces = l.stackTraces by rw [X.admits.platform]).trans hl
  have Y := vx_rebase X (R' := { frames := R.frames, locals := R.locals, cells := 1, slots := 6 }) (Nat.le_refl _) (Nat.le_refl _) hRcells hRslots
  obtain ⟨s', hA⟩ : ∃ z, z = (T.setVm s.vm).setFrames (.invoking m args :: below) := ⟨_, rfl⟩
  rw [← hA] at Y
  have hvm : s'.vm = s.vm := by rw [hA]; rfl
  have hhp : s'.heap = H := by rw [hA]; exact hT
  have hW0 : s.WarmedH s'.vm := by rw [hvm]; exact State.WarmedH.refl s
  have hat' : ∀ w ∈ vx_atS own ic cls names, w.before args s' = true := fun w hw => vx_ot_at hW0 hvm.symm (hgood w (List.mem_cons_of_mem _ (List.mem_cons_of_mem _ hw))) (hat w hw)
  have hk' : (Cond.classLink own ik cls).before args s' = true := vx_ot_at hW0 hvm.symm (hgood _ List.mem_cons_self) hk
  have hini' : (Cond.initialized cls).before args s' = true := vx_ot_at hW0 hvm.symm (hgood _ (List.mem_cons_of_mem _ List.mem_cons_self)) hini
  have hU' : vx_Zq Bundle.tN "UNASSIGNED_STACK" Bundle.steD A s' s'.heap := by rw [hhp]; exact vx_Zq.moved hW0.alike (hU.kept hS.2.1)
  have hN' : vx_Zq Bundle.tN "SUPPRESSED_SENTINEL" Bundle.listD A s' s'.heap := by rw [hhp]; exact vx_Zq.moved hW0.alike (hN.kept hS.2.1)
  have h : ∀ w ∈ Bundle.ownAtoms own ic cls names, w.before args s' = true := vx_own hat' (vx_isRefq hU'.1) (vx_isRefq hN'.1) hU'.2.word hN'.2.word
  have hown' : s'.vm.findClass own = some m.cls := by rw [hvm]; exact hown
  have hins : (Cond.instantiable cls 6).before args s' = true := h _ (by simp [Bundle.ownAtoms])
  obtain ⟨vm₁, cX, kX, hfX, hkX, -, -, X₁, st1⟩ := Y.newCold hexec (own := own) (C := cls) (index := ik) (n := 6) hown' hk' hins hini'
    (g := F0 m pc ls rest) rfl (by rw [hb]; exact d0) (Nat.le_refl _) (Nat.le_refl _)
  generalize hT1 : (T.setVm vm₁).pushCell { cls := cX, slots := kX.instanceTypes.map defaultValue, vm := .none } = T1 at X₁ st1
  have hcat : (Value.ref T.heap.size).category = 1 := rfl
  have hcellA : T1.heap[T.heap.size]? = some (freshCell cX kX) := by rw [← hT1]; exact State.heap_pushCell_size _ _
  have d3' : decode c.code (pc + 3) = .ok (.dup, 1) := by rw [hb]; exact d3
  have d4' : decode c.code (pc + 4) = .ok (.ldc_w is, 3) := by rw [hb]; exact d4
  have hstr' : vk_R own is text sa s' := vk_R.warm hW0 hstr
  obtain ⟨U, hsteps, hrun, hend, hW, hsame, ce, hce, hO⟩ := X₁.ctorThrowS hexec htr (own := own) (cls := cls) (names := names) (ic := ic) hown' hcls hnames h (fun x hx => nomatch hx) hfX hkX hcellA (by rw [hhp, hT]; exact Nat.le_refl _) (msg := .ref sa) rfl
    (g := { method := m, pc := pc + 7, locals := ls, stack := .ref sa :: .ref T.heap.size :: .ref T.heap.size :: rest, locked := none }) rfl hsize rfl rfl (rest := rest) rfl
    (by rw [hb]; exact d7) (by rw [hb]; exact d10) hout hRframes (by simp only [List.map_cons, List.sum_cons, hcat]; omega) hlocks
  obtain ⟨f1, f2⟩ := vx_frame hsame
  rw [hhp] at f1 f2
  have hWs : s.WarmedH U.vm := State.WarmedH.trans hW0 hW
  have hcl : s.vm.findClass cls = some ce.cls := by
    have h9 := hO.cls
    rw [hvm] at h9
    exact h9
  have hall : s.sameButNew ({ U with vm := s.vm } : State) locs mc ms := by
    subst hA
    obtain ⟨e1, e2⟩ := hsame
    rw [State.setFrames_setFrames] at e1
    have h2 : (T.setVm s.vm).sameButNew ({ U with vm := s.vm } : State) [] (0 + 1) (0 + 6) := ⟨e1, e2⟩
    have h3 := X.same.trans h2
    rw [List.append_nil] at h3
    exact h3.mono hc hs
  refine ⟨U, ?_, .threw T.heap.size, hrun, hend, Or.inr ⟨T.heap.size, rfl, cls, ce, locs, hx U hWs.alike f1 (fun q hq => f2 q hq (fun z hz => nomatch hz)), hce, hO.vm, hcl, hWs, hall, hf⟩⟩
  refine st1 _ ?_
  show Steps p.tables e below (T1.setTop { method := m, pc := pc + 3, locals := ls, stack := .ref T.heap.size :: rest, locked := none }) _
  jvm_step X₁.here [X₁.here.top, hexec, d3', Value.category]
  exact X₁.ldcStringW hexec (own := own) (text := text) (index := is) (a := sa) hown' hstr'.1 hstr'.2
    (g := { method := m, pc := pc + 4, locals := ls, stack := .ref T.heap.size :: .ref T.heap.size :: rest, locked := none }) rfl d4' _ hsteps
end Ends
section Bodies
variable {l : Launch}
theorem vx_ofW {y : MethodName} {ws ws' : List Cond} {rm : Room} {Pc : Array Value → State → Prop} {Qc : Array Value → State → Outcome → State → Prop} {XC : String → State → State → Prop} {mc ms : Nat} {free : Addr → Prop} {cc : ByteArray} {maxL : Nat} {ret : Option FieldType}
    (hy : plainName y.cls = true) (hw : ws = Cond.code y cc maxL ret :: ws')
    (body : ∀ p e s m args below meth c s₁, BodyLoose p l y (headSpec ws rm) cc maxL ret e s m args below meth c s₁ → c.maxLocals = maxL → (∀ x ∈ c.exceptionTable.toList, False) → Pc args s →
      W p l e (headSpec ws rm).room s m args below meth c s.heap [] 0 0 (vx_MQ below Qc XC args s mc ms free) (entryFrame m args maxL)) : vx_Met l y ws rm Pc Qc XC mc ms free := by
  refine MetFree.of_bodyS (code := cc) (maxLocals := maxL) (ret := ret) hy ?_ ?_
  · intro args s m h hn
    obtain ⟨meth, c, h1, h2, h3, h4, h5, h6, -, -⟩ := Cond.code_spec hn (atoms_spec (ws := ws) h _ (by rw [hw]; exact List.mem_cons_self))
    exact ⟨meth, c, h1, h2, h3, h4, h5, h6⟩
  · intro p e s m args below meth c s₁ B hml hP _
    have hh0 : s₁.heap = s.heap := by rw [B.state]; rfl
    have ht : ∀ x ∈ c.exceptionTable.toList, False := by
      obtain ⟨meth9, c9, h1, h2, -, -, -, -, h7, -⟩ := Cond.code_spec B.named (atoms_spec (ws := ws) B.pre _ (by rw [hw]; exact List.mem_cons_self))
      cases Option.some.inj (h1.symm.trans B.method)
      cases Option.some.inj (h2.symm.trans (Stand.of_body B).code)
      intro x hx
      rw [Array.isEmpty_iff.mp h7] at hx
      cases hx
    obtain ⟨t, a1, o, b1, b2, b3⟩ := body p e s m args below meth c s₁ B hml ht hP s₁ hh0 (Stand.of_body B)
    exact ⟨t, o, a1, b1, b2, b3⟩
/-- the table of a body with handlers -/
theorem vx_table {p : Program} {x y : MethodName} {S : Spec} {cc bytes : ByteArray} {maxL maxL' : Nat} {ret ret' : Option FieldType} {e : Env} {s s₁ : State} {m : MethodId} {args : Array Value} {below : List Frame} {meth : Method} {c : Code} {hh : List (Nat × Nat × Nat × Nat)}
    (B : BodyLoose p l y S cc maxL ret e s m args below meth c s₁) (h : (Cond.codeWith y bytes maxL' ret' hh).before args s = true) : c.exceptionTable.toList = tableOf hh := by
  obtain ⟨m9, meth9, c9, hn9, h1, h2, -, -, h6, -⟩ := Cond.codeWith_spec h
  cases Option.some.inj (hn9.symm.trans B.named)
  cases Option.some.inj (h1.symm.trans B.method)
  cases Option.some.inj (h2.symm.trans (Stand.of_body B).code)
  rw [← h6, table_eq]
end Bodies
end VXA
/-! ===== END ===== -/
/-! ===== BEGIN a static call of a method with an exception table ===== -/
section VXS
variable {p : Program} {l : Launch} {e : Env} {R : Room} {s : State} {m : MethodId} {args : Array Value} {below : List Frame} {meth : Method} {c : Code} {T : State} {H : Heap} {locs : List Loc} {cells slots : Nat}
abbrev vx_CSW (R : Room) (s : State) (args : Array Value) (own : String) (index : Nat) (y : MethodName) (bytes : ByteArray) (maxL : Nat) (ret : Option FieldType) (hh : List (Nat × Nat × Nat × Nat)) (ws : List Cond) (rm : Room) (mc ms n : Nat) : Prop :=
  (rm.cells = mc ∧ rm.slots = ms ∧ rm.frames + 1 ≤ R.frames ∧ 8 + (maxL + 11) + rm.locals ≤ R.locals ∧ (∀ w ∈ ws, ∀ (a' : Array Value) (U : State), s.WarmedH U.vm → w.before a' U = true) ∧ Cond.codeWith y bytes maxL ret hh ∈ ws) ∧
  (Cond.codeWith y bytes maxL ret hh).before args s = true ∧ (Cond.initialized y.cls).before args s = true ∧ (y.cls ≠ "java/lang/invoke/MethodHandle" ∧ y.cls ≠ "java/lang/invoke/VarHandle") ∧
  (∀ sig, parseMethodDescriptor y.desc = some sig → n = sig.parameters.length) ∧ (Cond.methodLink own index y).before args s = true ∧ (Cond.static y).before args s = true
theorem vx_cwSW {own : String} {index maxL mc ms : Nat} {y : MethodName} {bytes : ByteArray} {ret : Option FieldType} {hh : List (Nat × Nat × Nat × Nat)} {Ts ws ws' : List Cond} {rm : Room} (n : Nat) (ht : ∀ w ∈ Ts, w.before args s = true) (hT : GoodIn Ts (va_wsS own index y ws)) (hw : ws = Cond.codeWith y bytes maxL ret hh :: ws') (hrc : rm.cells = mc) (hrs : rm.slots = ms)
    (hd : y.cls ≠ "java/lang/invoke/MethodHandle" ∧ y.cls ≠ "java/lang/invoke/VarHandle" ∧ (parseMethodDescriptor y.desc).map (fun d => d.parameters.length) = some n) (hR : rm.frames + 1 ≤ R.frames ∧ 8 + (maxL + 11) + rm.locals ≤ R.locals) :
    vx_CSW R s args own index y bytes maxL ret hh ws rm mc ms n := by
  have ok : ∀ w ∈ va_wsS own index y ws, w.before args s = true := fun w h => ht w (hT w h).1
  have hG : GoodIn Ts ws := fun w h => hT w (by unfold va_wsS; exact List.mem_append_right _ h)
  have hc : Cond.codeWith y bytes maxL ret hh ∈ ws := by rw [hw]; exact List.mem_cons_self
  refine ⟨⟨hrc, hrs, hR.1, hR.2, pay_in ht hG, hc⟩, ht _ (hG _ hc).1, ok _ (by simp [va_wsS]), ⟨hd.1, hd.2.1⟩, fun sig h => ?_, ok _ (by simp [va_wsS]), ok _ (by simp [va_wsS])⟩
  have h2 := hd.2.2
  rw [h] at h2
  exact (Option.some.inj h2).symm
theorem vx_callSW (X : Stand p l e R s m args below meth c T locs cells slots) (hexec : p.tables.exec = Jvm.exec) {own : String} {index : Nat} {y : MethodName} {bytes : ByteArray} {maxL : Nat} {ret : Option FieldType} {hh : List (Nat × Nat × Nat × Nat)}
    (hown : s.vm.findClass own = some m.cls) (hlink : (Cond.methodLink own index y).before args s = true) (hstat : (Cond.static y).before args s = true) (hinit : (Cond.initialized y.cls).before args s = true)
    (hcode : (Cond.codeWith y bytes maxL ret hh).before args s = true) (hy : y.cls ≠ "java/lang/invoke/MethodHandle" ∧ y.cls ≠ "java/lang/invoke/VarHandle")
    {W9 : Nat} {Pre : Pt → Array Value → Prop} {Post : Pt → Array Value → Option Value → Pt → Prop} (hK : Back l R p e below s args y 3 W9 Pre Post)
    {g : JFrame} (hg : g.method = m) (hsize : g.locals.size = c.maxLocals) {argsL rest : List Value} (hlen : ∀ sig, parseMethodDescriptor y.desc = some sig → argsL.length = sig.parameters.length)
    (hstack : g.stack = argsL.reverse ++ rest) (hW : 2 * g.monitorRoom + (rest.map fun v => v.category).sum ≤ W9) (hdg : decode c.code g.pc = .ok (.invokestatic index, 3))
    (hpre : ∀ vm₁, s.WarmedH vm₁ → Pre ⟨T.setVm vm₁, locs, cells, slots⟩ argsL.toArray) :
    ∃ (v : Option Value) (vm₁ : Vm) (B : Pt), s.WarmedH vm₁ ∧ Stand p l e R s m args below meth c B.U B.locs B.cells B.slots ∧ Post ⟨T.setVm vm₁, locs, cells, slots⟩ argsL.toArray v B ∧
      ∀ target, Steps p.tables e below (B.U.setTop { g with pc := g.pc + 3, stack := v.toList ++ rest }) target → Steps p.tables e below (T.setTop g) target := by
  obtain ⟨mk, methM, cM, hnamed, hmethM, -, -, -, -, -, -, hsigM⟩ := Cond.codeWith_spec hcode
  have hstatic : methM.isStatic = true := Cond.static_spec hnamed hmethM hstat
  obtain ⟨kP, hkP, -⟩ := className_of_methodNamed hnamed
  have hinitP : kP.init = .initialized := Cond.initialized_spec (findClass_of_methodNamed hnamed) hkP hinit
  obtain ⟨vm₁, X₁, hstep₁⟩ := X.invokestatic hexec hown hlink hnamed hmethM hstatic hkP hinitP hy (g := g) hg (argsL := argsL) (rest := rest) (hlen _ hsigM) hstack hdg
  obtain ⟨v, B, X', hpost, hsteps⟩ := hK m meth c ⟨T.setVm vm₁, locs, cells, slots⟩ { g with stack := rest } (.invokestatic index) mk argsL.toArray X₁ hg hsize hdg hW (X₁.named hnamed) (hpre vm₁ X₁.warmed)
  exact ⟨v, vm₁, B, X₁.warmed, X', hpost, fun target h => hstep₁ _ fun acts => by rw [doInvoke_state]; exact hsteps.trans h⟩
theorem vx_runSW {y : MethodName} {bytes cc : ByteArray} {maxL nL mc ms n index : Nat} {ret : Option FieldType} {hh : List (Nat × Nat × Nat × Nat)} {ws : List Cond} {rm : Room} {Pc : Array Value → State → Prop} {Qc : Array Value → State → Outcome → State → Prop} {free : Addr → Prop} {Ts : List Cond} {own : String} {As rest : List Value} {g : JFrame}
    (S : CallFix p m c cc nL s args Ts own) (hM : Met l y ws rm Pc Qc mc ms free) (cw : vx_CSW R s args own index y bytes maxL ret hh ws rm mc ms n) (hp : PreS s H Pc As)
    (hg : g.method = m) (hn : As.length = n) (hsize : g.locals.size = nL) (hstack : g.stack = As.reverse ++ rest) (hW : 2 * g.monitorRoom + (rest.map fun v => v.category).sum ≤ 8) (hdg : decode cc g.pc = .ok (.invokestatic index, 3)) (hf : cells + mc ≤ R.cells ∧ slots + ms ≤ R.slots) :
    va_Run p l e R s m args below meth c H locs cells slots mc ms g rest (Qc As.toArray) (free) := by
  obtain ⟨⟨hrc, hrs, hfr, hlo, hws, hcw⟩, hcode, hini, hy, hlen, hl, hstt⟩ := cw
  have hK : Back l R p e below s args y 3 8 (PreOf R mc ms Pc) (PostOf Qc mc ms free) := va_backW (hh := hh) (bytes := bytes) (maxL := maxL) (ret := ret) hM hp.1 hrc hrs hfr hlo hws hcw (fun a' U hW => word_at hW (Or.inl (by first | rfl | simp [Cond.onTables, Cond.keeps, Cond.steady])) hini)
  obtain ⟨hx, hb, hml, ho, -⟩ := S
  intro T hT X
  obtain ⟨v, vm₁, ⟨U', l2, c2, s2⟩, hW₁, X', ⟨g', mk, t, L, e1, e2, hq, h1, hL, h2, h3⟩, st⟩ := vx_callSW X hx (hh := hh) (bytes := bytes) (maxL := maxL) (ret := ret) ho hl hstt hini hcode hy hK hg (hsize.trans hml.symm) (argsL := As) (rest := rest) (fun sig h => hn.trans (hlen sig h)) hstack hW (by rw [hb]; exact hdg)
    (fun vm₁ hW₁ => ⟨hf.1, hf.2, hp.2 (T.setVm vm₁) hT hW₁⟩)
  dsimp only [Pt.U, Pt.locs, Pt.cells, Pt.slots] at X' e1 e2 h1 h2 h3 st
  subst h1; subst h2; subst h3
  exact ⟨v, (T.setVm vm₁).calling g' mk As.toArray, t, U', L, hT, X', hL, e1, e2, hq, st⟩
/-- not caught here, past rows that name other classes: it goes on to the caller -/
theorem vx_outP {p : Program} {l : Launch} {e : Env} {R : Room} {s : State} {m : MethodId} {args : Array Value} {below : List Frame} {meth : Method} {c : Code} {H : Heap} {locs : List Loc} {cells slots : Nat} {free : Addr → Prop} {ls : Array Slot} {rest : List Value} {Qc : Array Value → State → Outcome → State → Prop} {XC : String → State → State → Prop}
    {pc : Nat} {own E : String} {ce : Cell} {q : Addr} {mc ms : Nat} (hown : s.vm.findClass own = some m.cls) (hlocks : meth.locks = false)
    (hpass : ∀ z ∈ c.exceptionTable.toList, covers z pc = false ∨ (z.catchType ≠ 0 ∧ ∃ nm : String, (Cond.classLink own z.catchType nm).before args s = true ∧ va_Nc E nm s)) (hcell : H[q]? = some ce) (hv : ce.vm = .none) (hcl : s.vm.findClass E = some ce.cls)
    (hx : ∀ t : State, t.heap = H → s.vm.Alike t.vm → XC E s t) (hf : ∀ z ∈ locs, free z.base) (hc : cells ≤ mc) (hs : slots ≤ ms) :
    vx_W p l e R s m args below meth c H locs cells slots (vx_MQ below Qc XC args s mc ms free) (F0 m pc ls rest) q := by
  intro T hT X
  have hpl : e.platform.magicAccessors = ({} : Platform).magicAccessors := by rw [X.admits.platform]
  obtain ⟨vm', hW', X', st⟩ := X.outThrough hlocks q (g := F0 m pc ls rest) rfl rfl rfl (cell := ce) (by rw [hT]; exact hcell) (by rw [hv]; rfl)
    (by obtain ⟨k9, h9, -⟩ := Vm.findClass_spec hcl; exact ⟨k9, h9⟩) (fun z hz => by
      rcases hpass z hz with h | ⟨hz0, nm, hl1, hn1⟩
      · exact Or.inl h
      · obtain ⟨c6, hc6, hcl6⟩ := Cond.classLink_spec hown hl1 e.platform hpl
        obtain ⟨a8, b8, h1, h2, h3⟩ := hn1
        cases Option.some.inj (h1.symm.trans hcl)
        cases Option.some.inj (h2.symm.trans hc6)
        exact Or.inr ⟨hz0, _, hcl6, h3⟩)
  obtain ⟨g₀, hfr⟩ := X'.frames_eq
  have hcell9 : ((T.setVm vm').setFrames (.throwing q :: below)).heap[q]? = some ce := by
    show T.heap[q]? = some ce
    rw [hT]; exact hcell
  have hend : Ended ((T.setVm vm').setFrames (.throwing q :: below)) below (.threw q) := State.frames_setFrames _ (State.cur_lt_of_frames hfr)
  refine ⟨(T.setVm vm').setFrames (.throwing q :: below), ?_, .threw q, X'.here.running, hend, Or.inr ⟨q, rfl, E, ce, locs, hx _ hT (X'.ends _).1.alike, hcell9, hv, hcl, (X'.ends _).1, (X'.ends _).2.mono hc hs, hf⟩⟩
  rw [X.pushThrowing_eq]
  exact st
/-- a thing of a world lies in the heap -/
theorem vx_lt {D : va_G} {cl : List vw_C} {ws : va_W} {H1 : Heap} (h : va_P D cl ws H1) {k : Nat} {q : Nat × va_E} (hk : ws[k]? = some q) : q.1 < H1.size := (h k q hk).lt
end VXS
/-! ===== END ===== -/
/-! ===== BEGIN methods with a table of their own: called by a name, returning or throwing ===== -/
section VXH
/-! vx_backW, vx_callVX, vx_callSX, vx_callVW, vx_runVW, vx_runVX, vx_runSX, vx_ofWH follow the same proofs as their sisters above (Free/Laws.lean, Shelf42/LK1.lean); vx_outP calls Shelf42/NT130.lean (outThrough). -/
section
variable {l : Launch} {R : Room} {p : Program} {e : Env} {below : List Frame} {s : State} {sargs : Array Value} {y : MethodName} {len W9 : Nat}
theorem vx_backW {ws : List Cond} {rm : Room} {Pc : Array Value → State → Prop} {Qc : Array Value → State → Outcome → State → Prop} {XC : String → State → State → Prop} {mc ms : Nat} {free : Addr → Prop} {bytes : ByteArray} {maxL : Nat} {ret : Option FieldType} {hh : List (Nat × Nat × Nat × Nat)}
    (hM : vx_Met l y ws rm Pc Qc XC mc ms free) (hblind : FrameBlind Pc) (hrc : rm.cells = mc) (hrs : rm.slots = ms)
    (hframes : rm.frames + 1 ≤ R.frames) (hlocals : W9 + (maxL + 11) + rm.locals ≤ R.locals)
    (hws : ∀ w ∈ ws, ∀ a' U, s.WarmedH U.vm → w.before a' U = true) (hcode : Cond.codeWith y bytes maxL ret hh ∈ ws) (hinit : ∀ a' U, s.WarmedH U.vm → (Cond.initialized y.cls).before a' U = true) :
    vx_Back l R p e below s sargs y len W9 (PreOf R mc ms Pc) (PostOf Qc mc ms free) (vx_Post XC mc ms free) := by
  intro m meth c A g ig mk a X hg hsize hdg hW hn hp
  have h1 : (headSpec ws rm).pre.before a A.U = true := atoms_intro fun w hw => hws w hw _ _ X.warmed
  have h2 : (Cond.codeWith y bytes maxL ret hh).before a A.U = true := hws _ hcode _ _ X.warmed
  have h3 : (Cond.initialized y.cls).before a A.U = true := hinit _ _ X.warmed
  have h4 : A.cells + (headSpec ws rm).room.cells ≤ R.cells := by rw [show (headSpec ws rm).room.cells = mc from hrc]; exact hp.1
  have h5 : A.slots + (headSpec ws rm).room.slots ≤ R.slots := by rw [show (headSpec ws rm).room.slots = ms from hrs]; exact hp.2.1
  have hPc : Pc a (A.U.calling g mk a) := hblind _ _ _ _ hp.2.2
  obtain ⟨U, Ls, c0, s0⟩ := A
  dsimp only [Pt.U, Pt.locs, Pt.cells, Pt.slots] at h1 h2 h3 h4 h5 X hn hPc ⊢
  obtain ⟨m9, methY, cY, hn9, hmY, hcY, -, hlY, -⟩ := Cond.codeWith_spec h2
  cases Option.some.inj (hn9.symm.trans hn)
  obtain ⟨kY, hkY, -⟩ := className_of_methodNamed hn
  have hinitY : kY.init = .initialized := Cond.initialized_spec (findClass_of_methodNamed hn) hkY h3
  have h : At U g.method c below := by rw [hg]; exact X.here
  have hlocals9 : W9 + (maxL + 11) + (headSpec ws rm).room.locals ≤ R.locals := hlocals
  have happ : (headSpec ws rm).appliesLoose y e.platform (U.calling g mk a) = true :=
    Spec.appliesLoose_calling (g := g) h hdg hn hkY hinitY
      (X.room_calling (g := g) (R' := (headSpec ws rm).room) hsize hmY hcY hframes (by rw [hlY]; omega) h4 h5) h1
  obtain ⟨mid, hmid⟩ := h.above
  have hfr : (U.setTop g).frames = (.java g :: mid) ++ below := by rw [State.frames_setTop' g h.top, hmid]; rfl
  obtain ⟨o, s₂, hsteps, -, hend, hq⟩ := Steps.callFree hM p X.admits X.cas X.clock (acts := []) hfr happ hPc trivial
  have hq' : vx_Q Qc XC mc ms free a (U.calling g mk a) o s₂ := hq
  rw [State.frames_setTop' g h.top] at hend
  obtain ⟨g₀, hg0⟩ := Option.isSome_iff_exists.mp h.top
  obtain ⟨r, hr⟩ := State.topJava?_eq_some.mp hg0
  have hr' : (({ U with heap := s₂.heap, slotsUsed := s₂.slotsUsed } : State).setVm s₂.vm).frames = .java g₀ :: r := hr
  rcases hq' with ⟨hqc, L, hfe, hL⟩ | ⟨q, rfl, E, ce, L, hx, hce, hcv, hcl, hW₂, hsm, hL⟩
  · obtain ⟨⟨v, rfl⟩, hW₂, e2, q2, q3, q4, q5, q6⟩ := id hfe
    have e3 : s₂ = ({ (U.calling g mk a).setFrames s₂.frames with heap := s₂.heap, slotsUsed := s₂.slotsUsed } : State).setVm s₂.vm := by
      have : s₂ = ({ s₂ with vm := (U.calling g mk a).vm } : State).setVm s₂.vm := rfl
      rw [e2] at this
      exact this
    obtain ⟨c₂, i₂, len₂, hc₂, hd₂, hf₂⟩ := hend
    have hW' : U.WarmedH s₂.vm := hW₂
    have hcc : c₂ = c := by
      have h1 : s₂.code? g.method = U.code? g.method := by
        rw [State.code?_eq, State.code?_eq, hW'.alike.method?]
      exact Option.some.inj (hc₂.symm.trans (h1.trans h.code))
    subst hcc
    have hlen : len₂ = len := by rw [hdg] at hd₂; cases hd₂; rfl
    subst hlen
    have hs₂ : s₂ = (({ U with heap := s₂.heap, slotsUsed := s₂.slotsUsed } : State).setVm s₂.vm).setTop { g with pc := g.pc + len₂, stack := v.toList ++ g.stack } := by
      refine e3.trans ?_
      rw [hf₂, State.calling_eq h.top, State.setFrames_setFrames, State.setTop_of_frames _ hr', hr]
      rfl
    have hsame : U.sameButNew ({ U with heap := s₂.heap, slotsUsed := s₂.slotsUsed } : State) L mc ms := by
      refine ⟨?_, q2, q3, q4, q5, q6⟩
      obtain ⟨t, ht, -⟩ := State.frames_cons hr
      show ({ U with heap := s₂.heap, slotsUsed := s₂.slotsUsed } : State) = { U.setFrames U.frames with heap := s₂.heap, slotsUsed := s₂.slotsUsed }
      rw [State.setFrames_self ht]
    subst hg
    refine Or.inl ⟨v, ⟨(({ U with heap := s₂.heap, slotsUsed := s₂.slotsUsed } : State).setVm s₂.vm), Ls ++ L, c0 + mc, s0 + ms⟩,
      ⟨X.admits, X.cas, X.clock, X.frames, X.room, X.hears, X.method, X.code, (X.here.setHeapUsed s₂.heap s₂.slotsUsed).setVm hW'.alike, X.tail, State.WarmedH.trans X.warmed hW', X.limits, X.bytes, X.same.trans (hsame.setVm s.vm)⟩,
      ⟨g, mk, s₂, L, rfl, rfl, hqc, rfl, hL, rfl, rfl⟩, ?_⟩
    show Steps p.tables e below _ ((({ U with heap := s₂.heap, slotsUsed := s₂.slotsUsed } : State).setVm s₂.vm).setTop { g with pc := g.pc + len₂, stack := v.toList ++ g.stack })
    rw [← hs₂]
    exact hsteps
  · obtain ⟨e2, q2, q3, q4, q5, q6⟩ := id hsm
    have e3 : s₂ = ({ (U.calling g mk a).setFrames s₂.frames with heap := s₂.heap, slotsUsed := s₂.slotsUsed } : State).setVm s₂.vm := by
      have : s₂ = ({ s₂ with vm := (U.calling g mk a).vm } : State).setVm s₂.vm := rfl
      rw [e2] at this
      exact this
    have hf₂ : s₂.frames = .throwing q :: .java g :: U.frames.tail := hend
    have hW' : U.WarmedH s₂.vm := hW₂
    have hs₂ : s₂ = ((({ U with heap := s₂.heap, slotsUsed := s₂.slotsUsed } : State).setVm s₂.vm).setTop g).pushFrame (.throwing q) := by
      refine e3.trans ?_
      rw [hf₂, State.calling_eq h.top, State.setFrames_setFrames, State.pushFrame, State.frames_setTop _ hr', State.setTop_of_frames _ hr', State.setFrames_setFrames, hr]
      rfl
    have hsame : U.sameButNew ({ U with heap := s₂.heap, slotsUsed := s₂.slotsUsed } : State) L mc ms := by
      refine ⟨?_, q2, q3, q4, q5, q6⟩
      obtain ⟨t, ht, -⟩ := State.frames_cons hr
      show ({ U with heap := s₂.heap, slotsUsed := s₂.slotsUsed } : State) = { U.setFrames U.frames with heap := s₂.heap, slotsUsed := s₂.slotsUsed }
      rw [State.setFrames_self ht]
    subst hg
    refine Or.inr ⟨q, ⟨(({ U with heap := s₂.heap, slotsUsed := s₂.slotsUsed } : State).setVm s₂.vm), Ls ++ L, c0 + mc, s0 + ms⟩,
      ⟨X.admits, X.cas, X.clock, X.frames, X.room, X.hears, X.method, X.code, (X.here.setHeapUsed s₂.heap s₂.slotsUsed).setVm hW'.alike, X.tail, State.WarmedH.trans X.warmed hW', X.limits, X.bytes, X.same.trans (hsame.setVm s.vm)⟩,
      ⟨g, mk, s₂, L, E, ce, rfl, rfl, hx, hce, hcv, hcl, rfl, hL, rfl, rfl⟩, ?_⟩
    show Steps p.tables e below _ (((({ U with heap := s₂.heap, slotsUsed := s₂.slotsUsed } : State).setVm s₂.vm).setTop g).pushFrame (.throwing q))
    rw [← hs₂]
    exact hsteps
end
variable {p : Program} {l : Launch} {e : Env} {R : Room} {s : State} {m : MethodId} {args : Array Value} {below : List Frame} {meth : Method} {c : Code} {T : State} {H : Heap} {locs : List Loc} {cells slots : Nat}
theorem vx_callVX (X : Stand p l e R s m args below meth c T locs cells slots) (hexec : p.tables.exec = Jvm.exec) {own C : String} {index : Nat} {y : MethodName} {bytes : ByteArray} {maxL : Nat} {ret : Option FieldType} {hh : List (Nat × Nat × Nat × Nat)}
    (hown : s.vm.findClass own = some m.cls) (hlink : (Cond.methodLink own index y).before args s = true) (hinst : (Cond.instanceMethod y).before args s = true) (hsel : (Cond.selects C y y).before args s = true)
    (hcode : (Cond.codeWith y bytes maxL ret hh).before args s = true) (hy : y.cls ≠ "java/lang/invoke/MethodHandle" ∧ y.cls ≠ "java/lang/invoke/VarHandle")
    {W9 : Nat} {Pre : Pt → Array Value → Prop} {Post : Pt → Array Value → Option Value → Pt → Prop} {PostX : Pt → Array Value → Addr → Pt → Prop} (hK : vx_Back l R p e below s args y 3 W9 Pre Post PostX)
    {b : Addr} {cellB : Cell} (hcell : T.heap[b]? = some cellB) (hobj : cellB.vm.isStatics = false) (hcls : s.vm.findClass C = some cellB.cls)
    {g : JFrame} (hg : g.method = m) (hsize : g.locals.size = c.maxLocals) {argsL rest : List Value} (hlen : ∀ sig, parseMethodDescriptor y.desc = some sig → argsL.length = sig.parameters.length)
    (hstack : g.stack = argsL.reverse ++ .ref b :: rest) (hW : 2 * g.monitorRoom + (rest.map fun v => v.category).sum ≤ W9) (hdg : decode c.code g.pc = .ok (.invokevirtual index, 3))
    (hpre : ∀ vm₁, s.WarmedH vm₁ → Pre ⟨T.setVm vm₁, locs, cells, slots⟩ (Value.ref b :: argsL).toArray) :
    (∃ (v : Option Value) (vm₁ : Vm) (B : Pt), s.WarmedH vm₁ ∧ Stand p l e R s m args below meth c B.U B.locs B.cells B.slots ∧ Post ⟨T.setVm vm₁, locs, cells, slots⟩ (Value.ref b :: argsL).toArray v B ∧
      ∀ target, Steps p.tables e below (B.U.setTop { g with pc := g.pc + 3, stack := v.toList ++ rest }) target → Steps p.tables e below (T.setTop g) target) ∨
    (∃ (q : Addr) (vm₁ : Vm) (B : Pt), s.WarmedH vm₁ ∧ Stand p l e R s m args below meth c B.U B.locs B.cells B.slots ∧ PostX ⟨T.setVm vm₁, locs, cells, slots⟩ (Value.ref b :: argsL).toArray q B ∧
      Steps p.tables e below (T.setTop g) ((B.U.setTop { g with stack := rest }).pushFrame (.throwing q))) := by
  obtain ⟨mk, methM, hnamed, hmethM, hstM, habM⟩ := Cond.instanceMethod_spec hinst
  obtain ⟨m8, methM', cM, hn8, hmethM', -, -, -, -, -, -, hsigM⟩ := Cond.codeWith_spec hcode
  cases Option.some.inj (hn8.symm.trans hnamed)
  cases hmethM.symm.trans hmethM'
  obtain ⟨c2, r2, m2, q1, q2, q3, q4, kP, hkP, hkPi⟩ := Cond.selects_spec hsel
  cases hcls.symm.trans q1
  cases (State.methodFound?_of_named hnamed hy).symm.trans q2
  cases hnamed.symm.trans q3
  have hselP : selectMethod e.platform s.vm cellB.cls mk = .method mk := by rw [Launch.admits_selectMethod X.admits]; exact q4
  obtain ⟨vm₁, X₁, hstep₁⟩ := X.invokevirtual hexec hown hlink hnamed hmethM hstM hkP hkPi hy (a := b) (cell := cellB) hcell
    (fun z h => by rw [h] at hobj; cases hobj) hselP hmethM habM hkP hkPi (g := g) hg (argsL := argsL) (rest := rest) (hlen _ hsigM) hstack hdg
  rcases hK m meth c ⟨T.setVm vm₁, locs, cells, slots⟩ { g with stack := rest } (.invokevirtual index) mk (Value.ref b :: argsL).toArray X₁ hg hsize hdg hW (X₁.named hnamed) (hpre vm₁ X₁.warmed) with ⟨v, B, X', hpost, hsteps⟩ | ⟨q, B, X', hpost, hsteps⟩
  · exact Or.inl ⟨v, vm₁, B, X₁.warmed, X', hpost, fun target h => hstep₁ _ fun acts => by rw [doInvoke_state]; exact hsteps.trans h⟩
  · exact Or.inr ⟨q, vm₁, B, X₁.warmed, X', hpost, hstep₁ _ fun acts => by rw [doInvoke_state]; exact hsteps⟩
theorem vx_callSX (X : Stand p l e R s m args below meth c T locs cells slots) (hexec : p.tables.exec = Jvm.exec) {own : String} {index : Nat} {y : MethodName} {bytes : ByteArray} {maxL : Nat} {ret : Option FieldType} {hh : List (Nat × Nat × Nat × Nat)}
    (hown : s.vm.findClass own = some m.cls) (hlink : (Cond.methodLink own index y).before args s = true) (hstat : (Cond.static y).before args s = true) (hinit : (Cond.initialized y.cls).before args s = true)
    (hcode : (Cond.codeWith y bytes maxL ret hh).before args s = true) (hy : y.cls ≠ "java/lang/invoke/MethodHandle" ∧ y.cls ≠ "java/lang/invoke/VarHandle")
    {W9 : Nat} {Pre : Pt → Array Value → Prop} {Post : Pt → Array Value → Option Value → Pt → Prop} {PostX : Pt → Array Value → Addr → Pt → Prop} (hK : vx_Back l R p e below s args y 3 W9 Pre Post PostX)
    {g : JFrame} (hg : g.method = m) (hsize : g.locals.size = c.maxLocals) {argsL rest : List Value} (hlen : ∀ sig, parseMethodDescriptor y.desc = some sig → argsL.length = sig.parameters.length)
    (hstack : g.stack = argsL.reverse ++ rest) (hW : 2 * g.monitorRoom + (rest.map fun v => v.category).sum ≤ W9) (hdg : decode c.code g.pc = .ok (.invokestatic index, 3))
    (hpre : ∀ vm₁, s.WarmedH vm₁ → Pre ⟨T.setVm vm₁, locs, cells, slots⟩ argsL.toArray) :
    (∃ (v : Option Value) (vm₁ : Vm) (B : Pt), s.WarmedH vm₁ ∧ Stand p l e R s m args below meth c B.U B.locs B.cells B.slots ∧ Post ⟨T.setVm vm₁, locs, cells, slots⟩ argsL.toArray v B ∧
      ∀ target, Steps p.tables e below (B.U.setTop { g with pc := g.pc + 3, stack := v.toList ++ rest }) target → Steps p.tables e below (T.setTop g) target) ∨
    (∃ (q : Addr) (vm₁ : Vm) (B : Pt), s.WarmedH vm₁ ∧ Stand p l e R s m args below meth c B.U B.locs B.cells B.slots ∧ PostX ⟨T.setVm vm₁, locs, cells, slots⟩ argsL.toArray q B ∧
      Steps p.tables e below (T.setTop g) ((B.U.setTop { g with stack := rest }).pushFrame (.throwing q))) := by
  obtain ⟨mk, methM, cM, hnamed, hmethM, -, -, -, -, -, -, hsigM⟩ := Cond.codeWith_spec hcode
  have hstatic : methM.isStatic = true := Cond.static_spec hnamed hmethM hstat
  obtain ⟨kP, hkP, -⟩ := className_of_methodNamed hnamed
  have hinitP : kP.init = .initialized := Cond.initialized_spec (findClass_of_methodNamed hnamed) hkP hinit
  obtain ⟨vm₁, X₁, hstep₁⟩ := X.invokestatic hexec hown hlink hnamed hmethM hstatic hkP hinitP hy (g := g) hg (argsL := argsL) (rest := rest) (hlen _ hsigM) hstack hdg
  rcases hK m meth c ⟨T.setVm vm₁, locs, cells, slots⟩ { g with stack := rest } (.invokestatic index) mk argsL.toArray X₁ hg hsize hdg hW (X₁.named hnamed) (hpre vm₁ X₁.warmed) with ⟨v, B, X', hpost, hsteps⟩ | ⟨q, B, X', hpost, hsteps⟩
  · exact Or.inl ⟨v, vm₁, B, X₁.warmed, X', hpost, fun target h => hstep₁ _ fun acts => by rw [doInvoke_state]; exact hsteps.trans h⟩
  · exact Or.inr ⟨q, vm₁, B, X₁.warmed, X', hpost, hstep₁ _ fun acts => by rw [doInvoke_state]; exact hsteps⟩
theorem vx_callVW (X : Stand p l e R s m args below meth c T locs cells slots) (hexec : p.tables.exec = Jvm.exec) {own C : String} {index : Nat} {y : MethodName} {bytes : ByteArray} {maxL : Nat} {ret : Option FieldType} {hh : List (Nat × Nat × Nat × Nat)}
    (hown : s.vm.findClass own = some m.cls) (hlink : (Cond.methodLink own index y).before args s = true) (hinst : (Cond.instanceMethod y).before args s = true) (hsel : (Cond.selects C y y).before args s = true)
    (hcode : (Cond.codeWith y bytes maxL ret hh).before args s = true) (hy : y.cls ≠ "java/lang/invoke/MethodHandle" ∧ y.cls ≠ "java/lang/invoke/VarHandle")
    {W9 : Nat} {Pre : Pt → Array Value → Prop} {Post : Pt → Array Value → Option Value → Pt → Prop} (hK : Back l R p e below s args y 3 W9 Pre Post)
    {b : Addr} {cellB : Cell} (hcell : T.heap[b]? = some cellB) (hobj : cellB.vm.isStatics = false) (hcls : s.vm.findClass C = some cellB.cls)
    {g : JFrame} (hg : g.method = m) (hsize : g.locals.size = c.maxLocals) {argsL rest : List Value} (hlen : ∀ sig, parseMethodDescriptor y.desc = some sig → argsL.length = sig.parameters.length)
    (hstack : g.stack = argsL.reverse ++ .ref b :: rest) (hW : 2 * g.monitorRoom + (rest.map fun v => v.category).sum ≤ W9) (hdg : decode c.code g.pc = .ok (.invokevirtual index, 3))
    (hpre : ∀ vm₁, s.WarmedH vm₁ → Pre ⟨T.setVm vm₁, locs, cells, slots⟩ (Value.ref b :: argsL).toArray) :
    ∃ (v : Option Value) (vm₁ : Vm) (B : Pt), s.WarmedH vm₁ ∧ Stand p l e R s m args below meth c B.U B.locs B.cells B.slots ∧ Post ⟨T.setVm vm₁, locs, cells, slots⟩ (Value.ref b :: argsL).toArray v B ∧
      ∀ target, Steps p.tables e below (B.U.setTop { g with pc := g.pc + 3, stack := v.toList ++ rest }) target → Steps p.tables e below (T.setTop g) target := by
  obtain ⟨mk, methM, hnamed, hmethM, hstM, habM⟩ := Cond.instanceMethod_spec hinst
  obtain ⟨m8, methM', cM, hn8, hmethM', -, -, -, -, -, -, hsigM⟩ := Cond.codeWith_spec hcode
  cases Option.some.inj (hn8.symm.trans hnamed)
  cases hmethM.symm.trans hmethM'
  obtain ⟨c2, r2, m2, q1, q2, q3, q4, kP, hkP, hkPi⟩ := Cond.selects_spec hsel
  cases hcls.symm.trans q1
  cases (State.methodFound?_of_named hnamed hy).symm.trans q2
  cases hnamed.symm.trans q3
  have hselP : selectMethod e.platform s.vm cellB.cls mk = .method mk := by rw [Launch.admits_selectMethod X.admits]; exact q4
  obtain ⟨vm₁, X₁, hstep₁⟩ := X.invokevirtual hexec hown hlink hnamed hmethM hstM hkP hkPi hy (a := b) (cell := cellB) hcell
    (fun z h => by rw [h] at hobj; cases hobj) hselP hmethM habM hkP hkPi (g := g) hg (argsL := argsL) (rest := rest) (hlen _ hsigM) hstack hdg
  obtain ⟨v, B, X', hpost, hsteps⟩ := hK m meth c ⟨T.setVm vm₁, locs, cells, slots⟩ { g with stack := rest } (.invokevirtual index) mk (Value.ref b :: argsL).toArray X₁ hg hsize hdg hW (X₁.named hnamed) (hpre vm₁ X₁.warmed)
  exact ⟨v, vm₁, B, X₁.warmed, X', hpost, fun target h => hstep₁ _ fun acts => by rw [doInvoke_state]; exact hsteps.trans h⟩
abbrev vx_CVW (R : Room) (s : State) (args : Array Value) (own C : String) (index : Nat) (y : MethodName) (bytes : ByteArray) (maxL : Nat) (ret : Option FieldType) (hh : List (Nat × Nat × Nat × Nat)) (ws : List Cond) (rm : Room) (mc ms n : Nat) : Prop :=
  (rm.cells = mc ∧ rm.slots = ms ∧ rm.frames + 1 ≤ R.frames ∧ 8 + (maxL + 11) + rm.locals ≤ R.locals ∧ (∀ w ∈ ws, ∀ (a' : Array Value) (U : State), s.WarmedH U.vm → w.before a' U = true) ∧ Cond.codeWith y bytes maxL ret hh ∈ ws) ∧
  (Cond.codeWith y bytes maxL ret hh).before args s = true ∧ (Cond.initialized y.cls).before args s = true ∧ (y.cls ≠ "java/lang/invoke/MethodHandle" ∧ y.cls ≠ "java/lang/invoke/VarHandle") ∧
  (∀ sig, parseMethodDescriptor y.desc = some sig → n = sig.parameters.length) ∧ (Cond.methodLink own index y).before args s = true ∧ (Cond.instanceMethod y).before args s = true ∧ (Cond.selects C y y).before args s = true
theorem vx_cwVW {own C : String} {index maxL mc ms : Nat} {y : MethodName} {bytes : ByteArray} {ret : Option FieldType} {hh : List (Nat × Nat × Nat × Nat)} {Ts ws ws' : List Cond} {rm : Room} (n : Nat) (ht : ∀ w ∈ Ts, w.before args s = true) (hT : GoodIn Ts (wsV own index C y ws)) (hw : ws = Cond.codeWith y bytes maxL ret hh :: ws') (hrc : rm.cells = mc) (hrs : rm.slots = ms)
    (hd : y.cls = C ∧ y.cls ≠ "java/lang/invoke/MethodHandle" ∧ y.cls ≠ "java/lang/invoke/VarHandle" ∧ (parseMethodDescriptor y.desc).map (fun d => d.parameters.length) = some n) (hR : rm.frames + 1 ≤ R.frames ∧ 8 + (maxL + 11) + rm.locals ≤ R.locals) :
    vx_CVW R s args own C index y bytes maxL ret hh ws rm mc ms n := by
  obtain ⟨hC, hd⟩ := hd
  subst hC
  have ok : ∀ w ∈ wsV own index y.cls y ws, w.before args s = true := fun w h => ht w (hT w h).1
  have hG : GoodIn Ts ws := fun w h => hT w (by unfold wsV; exact List.mem_append_right _ h)
  have hc : Cond.codeWith y bytes maxL ret hh ∈ ws := by rw [hw]; exact List.mem_cons_self
  refine ⟨⟨hrc, hrs, hR.1, hR.2, pay_in ht hG, hc⟩, ht _ (hG _ hc).1, ok _ (by simp [wsV]), ⟨hd.1, hd.2.1⟩, fun sig h => ?_, ok _ (by simp [wsV]), ok _ (by simp [wsV]), ok _ (by simp [wsV])⟩
  have h2 := hd.2.2
  rw [h] at h2
  exact (Option.some.inj h2).symm
theorem vx_runVW {y : MethodName} {bytes cc : ByteArray} {maxL nL mc ms n index : Nat} {ret : Option FieldType} {hh : List (Nat × Nat × Nat × Nat)} {ws : List Cond} {rm : Room} {Pc : Array Value → State → Prop} {Qc : Array Value → State → Outcome → State → Prop} {free : Addr → Prop} {Ts : List Cond} {own C : String} {b : Addr} {As rest : List Value} {g : JFrame}
    (S : CallFix p m c cc nL s args Ts own) (hM : Met l y ws rm Pc Qc mc ms free) (cw : vx_CVW R s args own C index y bytes maxL ret hh ws rm mc ms n) (hp : PreV s H C b Pc As)
    (hg : g.method = m) (hn : As.length = n) (hsize : g.locals.size = nL) (hstack : g.stack = As.reverse ++ .ref b :: rest) (hW : 2 * g.monitorRoom + (rest.map fun v => v.category).sum ≤ 8) (hdg : decode cc g.pc = .ok (.invokevirtual index, 3)) (hf : cells + mc ≤ R.cells ∧ slots + ms ≤ R.slots) :
    va_Run p l e R s m args below meth c H locs cells slots mc ms g rest (Qc (Value.ref b :: As).toArray) free := by
  obtain ⟨⟨hrc, hrs, hfr, hlo, hws, hcw⟩, hcode, hini, hy, hlen, hl, hin, hse⟩ := cw
  have hK : Back l R p e below s args y 3 8 (PreOf R mc ms Pc) (PostOf Qc mc ms free) := va_backW (hh := hh) (bytes := bytes) (maxL := maxL) (ret := ret) hM hp.1 hrc hrs hfr hlo hws hcw (fun a' U hW => word_at hW (Or.inl (by first | rfl | simp [Cond.onTables, Cond.keeps, Cond.steady])) hini)
  obtain ⟨hx, hb, hml, ho, -⟩ := S
  obtain ⟨-, ⟨cellB, hcB, hoB, hclB⟩, hPc⟩ := hp
  intro T hT X
  obtain ⟨v, vm₁, ⟨U', l2, c2, s2⟩, hW₁, X', ⟨g', mk, t, L, e1, e2, hq, h1, hL, h2, h3⟩, st⟩ := vx_callVW X hx (C := C) (hh := hh) (bytes := bytes) (maxL := maxL) (ret := ret) ho hl hin hse hcode hy hK (by rw [hT]; exact hcB) hoB hclB hg (hsize.trans hml.symm) (argsL := As) (rest := rest) (fun sig h => hn.trans (hlen sig h)) hstack hW (by rw [hb]; exact hdg)
    (fun vm₁ hW₁ => ⟨hf.1, hf.2, hPc (T.setVm vm₁) hT hW₁⟩)
  dsimp only [Pt.U, Pt.locs, Pt.cells, Pt.slots] at X' e1 e2 h1 h2 h3 st
  subst h1; subst h2; subst h3
  exact ⟨v, (T.setVm vm₁).calling g' mk (Value.ref b :: As).toArray, t, U', L, hT, X', hL, e1, e2, hq, st⟩
section
variable {y : MethodName} {bytes cc : ByteArray} {maxL nL mc ms n index : Nat} {ret : Option FieldType} {ws : List Cond} {rm : Room} {Pc : Array Value → State → Prop} {Qc : Array Value → State → Outcome → State → Prop} {XC : String → State → State → Prop} {free : Addr → Prop} {Ts : List Cond} {own C : String} {b : Addr} {As rest : List Value} {g : JFrame}
theorem vx_runVX {hh : List (Nat × Nat × Nat × Nat)} (S : CallFix p m c cc nL s args Ts own) (hM : vx_Met l y ws rm Pc Qc XC mc ms free) (cw : vx_CVW R s args own C index y bytes maxL ret hh ws rm mc ms n) (hp : PreV s H C b Pc As)
    (hg : g.method = m) (hn : As.length = n) (hsize : g.locals.size = nL) (hstack : g.stack = As.reverse ++ .ref b :: rest) (hW : 2 * g.monitorRoom + (rest.map fun v => v.category).sum ≤ 8) (hdg : decode cc g.pc = .ok (.invokevirtual index, 3)) (hf : cells + mc ≤ R.cells ∧ slots + ms ≤ R.slots) :
    vx_Run p l e R s m args below meth c H locs cells slots mc ms g rest (Qc (Value.ref b :: As).toArray) XC free := by
  obtain ⟨⟨hrc, hrs, hfr, hlo, hws, hcw⟩, hcode, hini, hy, hlen, hl, hin, hse⟩ := cw
  have hK : vx_Back l R p e below s args y 3 8 (PreOf R mc ms Pc) (PostOf Qc mc ms free) (vx_Post XC mc ms free) := vx_backW (hh := hh) (bytes := bytes) (maxL := maxL) (ret := ret) hM hp.1 hrc hrs hfr hlo hws hcw (fun a' U hW => word_at hW (Or.inl (by first | rfl | simp [Cond.onTables, Cond.keeps, Cond.steady])) hini)
  obtain ⟨hx, hb, hml, ho, -⟩ := S
  obtain ⟨-, ⟨cellB, hcB, hoB, hclB⟩, hPc⟩ := hp
  intro T hT X
  rcases vx_callVX X hx (C := C) (hh := hh) (bytes := bytes) (maxL := maxL) (ret := ret) ho hl hin hse hcode hy hK (by rw [hT]; exact hcB) hoB hclB hg (hsize.trans hml.symm) (argsL := As) (rest := rest) (fun sig h => hn.trans (hlen sig h)) hstack hW (by rw [hb]; exact hdg)
    (fun vm₁ hW₁ => ⟨hf.1, hf.2, hPc (T.setVm vm₁) hT hW₁⟩) with ⟨v, vm₁, ⟨U', l2, c2, s2⟩, hW₁, X', ⟨g', mk, t, L, e1, e2, hq, h1, hL, h2, h3⟩, st⟩ | ⟨q, vm₁, ⟨U', l2, c2, s2⟩, hW₁, X', ⟨g', mk, t, L, E, ce, e1, e2, hq, hce, hcv, hcl, h1, hL, h2, h3⟩, st⟩
  · dsimp only [Pt.U, Pt.locs, Pt.cells, Pt.slots] at X' e1 e2 h1 h2 h3 st
    subst h1; subst h2; subst h3
    exact Or.inl ⟨v, (T.setVm vm₁).calling g' mk (Value.ref b :: As).toArray, t, U', L, hT, X', hL, e1, e2, hq, st⟩
  · dsimp only [Pt.U, Pt.locs, Pt.cells, Pt.slots] at X' e1 e2 h1 h2 h3 st hcl
    subst h1; subst h2; subst h3
    exact Or.inr ⟨q, (T.setVm vm₁).calling g' mk (Value.ref b :: As).toArray, t, U', L, E, ce, hT, X', hL, e1, e2, hq, hce, hcv, vx_cls hW₁ hcl, st⟩
theorem vx_runSX {hh : List (Nat × Nat × Nat × Nat)} (S : CallFix p m c cc nL s args Ts own) (hM : vx_Met l y ws rm Pc Qc XC mc ms free) (cw : vx_CSW R s args own index y bytes maxL ret hh ws rm mc ms n) (hp : PreS s H Pc As)
    (hg : g.method = m) (hn : As.length = n) (hsize : g.locals.size = nL) (hstack : g.stack = As.reverse ++ rest) (hW : 2 * g.monitorRoom + (rest.map fun v => v.category).sum ≤ 8) (hdg : decode cc g.pc = .ok (.invokestatic index, 3)) (hf : cells + mc ≤ R.cells ∧ slots + ms ≤ R.slots) :
    vx_Run p l e R s m args below meth c H locs cells slots mc ms g rest (Qc As.toArray) XC free := by
  obtain ⟨⟨hrc, hrs, hfr, hlo, hws, hcw⟩, hcode, hini, hy, hlen, hl, hstt⟩ := cw
  have hK : vx_Back l R p e below s args y 3 8 (PreOf R mc ms Pc) (PostOf Qc mc ms free) (vx_Post XC mc ms free) := vx_backW (hh := hh) (bytes := bytes) (maxL := maxL) (ret := ret) hM hp.1 hrc hrs hfr hlo hws hcw (fun a' U hW => word_at hW (Or.inl (by first | rfl | simp [Cond.onTables, Cond.keeps, Cond.steady])) hini)
  obtain ⟨hx, hb, hml, ho, -⟩ := S
  intro T hT X
  rcases vx_callSX X hx (hh := hh) (bytes := bytes) (maxL := maxL) (ret := ret) ho hl hstt hini hcode hy hK hg (hsize.trans hml.symm) (argsL := As) (rest := rest) (fun sig h => hn.trans (hlen sig h)) hstack hW (by rw [hb]; exact hdg)
    (fun vm₁ hW₁ => ⟨hf.1, hf.2, hp.2 (T.setVm vm₁) hT hW₁⟩) with ⟨v, vm₁, ⟨U', l2, c2, s2⟩, hW₁, X', ⟨g', mk, t, L, e1, e2, hq, h1, hL, h2, h3⟩, st⟩ | ⟨q, vm₁, ⟨U', l2, c2, s2⟩, hW₁, X', ⟨g', mk, t, L, E, ce, e1, e2, hq, hce, hcv, hcl, h1, hL, h2, h3⟩, st⟩
  · dsimp only [Pt.U, Pt.locs, Pt.cells, Pt.slots] at X' e1 e2 h1 h2 h3 st
    subst h1; subst h2; subst h3
    exact Or.inl ⟨v, (T.setVm vm₁).calling g' mk As.toArray, t, U', L, hT, X', hL, e1, e2, hq, st⟩
  · dsimp only [Pt.U, Pt.locs, Pt.cells, Pt.slots] at X' e1 e2 h1 h2 h3 st hcl
    subst h1; subst h2; subst h3
    exact Or.inr ⟨q, (T.setVm vm₁).calling g' mk As.toArray, t, U', L, E, ce, hT, X', hL, e1, e2, hq, hce, hcv, vx_cls hW₁ hcl, st⟩
end
end VXH
theorem vx_ofWH {l : Launch} {y : MethodName} {ws ws' : List Cond} {rm : Room} {Pc : Array Value → State → Prop} {Qc : Array Value → State → Outcome → State → Prop} {XC : String → State → State → Prop} {mc ms : Nat} {free : Addr → Prop} {cc : ByteArray} {maxL : Nat} {ret : Option FieldType} {hh : List (Nat × Nat × Nat × Nat)}
    (hy : plainName y.cls = true) (hw : ws = Cond.codeWith y cc maxL ret hh :: ws')
    (body : ∀ p e s m args below meth c s₁, BodyLoose p l y (headSpec ws rm) cc maxL ret e s m args below meth c s₁ → c.maxLocals = maxL → Pc args s →
      W p l e (headSpec ws rm).room s m args below meth c s.heap [] 0 0 (vx_MQ below Qc XC args s mc ms free) (entryFrame m args maxL)) : vx_Met l y ws rm Pc Qc XC mc ms free := by
  refine MetFree.of_bodyS (code := cc) (maxLocals := maxL) (ret := ret) hy ?_ ?_
  · intro args s m h hn
    obtain ⟨m9, meth, c, hn9, h1, h2, h3, h4, -, h5, h6, -⟩ := Cond.codeWith_spec (atoms_spec (ws := ws) h _ (by rw [hw]; exact List.mem_cons_self))
    cases hn.symm.trans hn9
    exact ⟨meth, c, h1, h2, h3, h4, h5, h6⟩
  · intro p e s m args below meth c s₁ B hml hP _
    have hh0 : s₁.heap = s.heap := by rw [B.state]; rfl
    obtain ⟨t, a1, o, b1, b2, b3⟩ := body p e s m args below meth c s₁ B hml hP s₁ hh0 (Stand.of_body B)
    exact ⟨t, o, a1, b1, b2, b3⟩
/-! ===== END ===== -/
end
section
/-! ===== BEGIN printed: names, fields, word lists, decode rows ===== -/
def RX0 : String := "TypecheckStation$Books"
def TX0 : u_T := fun k => match k with
  | 0 => ("TypecheckStation$Books", "calls", "[[I", true)
  | 1 => ("TypecheckStation$Books", "blames", "[I", true)
  | 2 => ("TypecheckStation$Books", "latest", "[I", true)
  | 3 => ("TypecheckStation$Books", "runs", "I", false)
  | 4 => ("TypecheckStation$Books", "failures", "I", false)
  | _ => ("TypecheckStation$Books", "costs", "I", false)
def tyX0 : Nat → FieldType := fun k => match k with
  | 0 => .array (.array .int)
  | 1 => .array .int
  | 2 => .array .int
  | 3 => .int
  | 4 => .int
  | _ => .int
abbrev wsX00 : List Cond := u_ws RX0 TX0 6
theorem nmX0 : ∀ a, a < 6 → ∀ b, b < 6 → a ≠ b → (TX0 a).2.1 ≠ (TX0 b).2.1 := by decide +kernel
theorem tyX0_ok : ∀ k, k < 6 → parseFieldDescriptor (TX0 k).2.2.1 = some (tyX0 k) := by decide +kernel
abbrev cX0_init : ByteArray := prog_2_method_1_code
def yX0_init : MethodName := ⟨RX0, "<init>", "()V"⟩
abbrev cX0_enter : ByteArray := prog_2_method_2_code
def yX0_enter : MethodName := ⟨RX0, "enter", "(LTypecheckStation$Trial;)V"⟩
abbrev cX0_addCalls : ByteArray := prog_2_method_3_code
def yX0_addCalls : MethodName := ⟨RX0, "addCalls", "(LTypecheckStation$Trial;)V"⟩
abbrev cX0_keepLatest : ByteArray := prog_2_method_4_code
def yX0_keepLatest : MethodName := ⟨RX0, "keepLatest", "(LTypecheckStation$Trial;)V"⟩
abbrev cX0_timesCalled : ByteArray := prog_2_method_5_code
def yX0_timesCalled : MethodName := ⟨RX0, "timesCalled", "(I)I"⟩
def RX1 : String := "TypecheckStation$Findings"
def TX1 : u_T := fun k => match k with
  | 0 => ("TypecheckStation$Findings", "faults", "I", false)
  | 1 => ("TypecheckStation$Findings", "firstFault", "I", false)
  | _ => ("TypecheckStation$Findings", "loose", "I", false)
def tyX1 : Nat → FieldType := fun k => match k with
  | 0 => .int
  | 1 => .int
  | _ => .int
abbrev wsX10 : List Cond := u_ws RX1 TX1 3
theorem nmX1 : ∀ a, a < 3 → ∀ b, b < 3 → a ≠ b → (TX1 a).2.1 ≠ (TX1 b).2.1 := by decide +kernel
theorem tyX1_ok : ∀ k, k < 3 → parseFieldDescriptor (TX1 k).2.2.1 = some (tyX1 k) := by decide +kernel
abbrev cX1_init : ByteArray := prog_3_method_1_code
def yX1_init : MethodName := ⟨RX1, "<init>", "()V"⟩
abbrev cX1_clear : ByteArray := prog_3_method_2_code
def yX1_clear : MethodName := ⟨RX1, "clear", "()V"⟩
abbrev cX1_need : ByteArray := prog_3_method_3_code
def yX1_need : MethodName := ⟨RX1, "need", "(III)V"⟩
abbrev cX1_areNone : ByteArray := prog_3_method_4_code
def yX1_areNone : MethodName := ⟨RX1, "areNone", "()Z"⟩
def RX2 : String := "TypecheckStation$Function"
def TX2 : u_T := fun k => match k with
  | 0 => ("TypecheckStation$Function", "steps", "[I", true)
  | 1 => ("TypecheckStation$Function", "size", "I", false)
  | 2 => ("TypecheckStation$Function", "in", "I", false)
  | _ => ("TypecheckStation$Function", "out", "I", false)
def tyX2 : Nat → FieldType := fun k => match k with
  | 0 => .array .int
  | 1 => .int
  | 2 => .int
  | _ => .int
abbrev wsX20 : List Cond := u_ws RX2 TX2 4
theorem nmX2 : ∀ a, a < 4 → ∀ b, b < 4 → a ≠ b → (TX2 a).2.1 ≠ (TX2 b).2.1 := by decide +kernel
theorem tyX2_ok : ∀ k, k < 4 → parseFieldDescriptor (TX2 k).2.2.1 = some (tyX2 k) := by decide +kernel
abbrev cX2_init : ByteArray := prog_4_method_1_code
def yX2_init : MethodName := ⟨RX2, "<init>", "()V"⟩
abbrev cX2_mentions : ByteArray := prog_4_method_2_code
def yX2_mentions : MethodName := ⟨RX2, "mentions", "(I)Z"⟩
def RX3 : String := "TypecheckStation$Program"
def TX3 : u_T := fun k => match k with
  | 0 => ("TypecheckStation$Program", "functions", "[LTypecheckStation$Function;", true)
  | 1 => ("TypecheckStation$Program", "findings", "LTypecheckStation$Findings;", true)
  | 2 => ("TypecheckStation$Program", "size", "I", false)
  | 3 => ("TypecheckStation$Program", "typed", "I", false)
  | _ => ("TypecheckStation$Program", "checks", "I", false)
def tyX3 : Nat → FieldType := fun k => match k with
  | 0 => .array (.object "TypecheckStation$Function")
  | 1 => .object "TypecheckStation$Findings"
  | 2 => .int
  | 3 => .int
  | _ => .int
abbrev wsX30 : List Cond := u_ws RX3 TX3 5
theorem nmX3 : ∀ a, a < 5 → ∀ b, b < 5 → a ≠ b → (TX3 a).2.1 ≠ (TX3 b).2.1 := by decide +kernel
theorem tyX3_ok : ∀ k, k < 5 → parseFieldDescriptor (TX3 k).2.2.1 = some (tyX3 k) := by decide +kernel
abbrev cX3_init : ByteArray := prog_5_method_1_code
def yX3_init : MethodName := ⟨RX3, "<init>", "()V"⟩
abbrev cX3_isStep : ByteArray := prog_5_method_2_code
def yX3_isStep : MethodName := ⟨RX3, "isStep", "(I)Z"⟩
abbrev cX3_needOf : ByteArray := prog_5_method_3_code
def yX3_needOf : MethodName := ⟨RX3, "needOf", "(I)I"⟩
abbrev cX3_giftOf : ByteArray := prog_5_method_4_code
def yX3_giftOf : MethodName := ⟨RX3, "giftOf", "(I)I"⟩
abbrev cX3_guessIn : ByteArray := prog_5_method_5_code
def yX3_guessIn : MethodName := ⟨RX3, "guessIn", "(LTypecheckStation$Function;)I"⟩
abbrev cX3_guessOut : ByteArray := prog_5_method_6_code
def yX3_guessOut : MethodName := ⟨RX3, "guessOut", "(LTypecheckStation$Function;)I"⟩
abbrev cX3_checked : ByteArray := prog_5_method_7_code
def yX3_checked : MethodName := ⟨RX3, "checked", "(I)LTypecheckStation$Findings;"⟩
abbrev cX3_typable : ByteArray := prog_5_method_8_code
def yX3_typable : MethodName := ⟨RX3, "typable", "()I"⟩
abbrev cX3_allFaults : ByteArray := prog_5_method_9_code
def yX3_allFaults : MethodName := ⟨RX3, "allFaults", "()I"⟩
abbrev cX3_callersOf : ByteArray := prog_5_method_10_code
def yX3_callersOf : MethodName := ⟨RX3, "callersOf", "(I)I"⟩
abbrev cX3_afterStepsChanged : ByteArray := prog_5_method_11_code
def yX3_afterStepsChanged : MethodName := ⟨RX3, "afterStepsChanged", "()V"⟩
abbrev cX3_changeHints : ByteArray := prog_5_method_12_code
def yX3_changeHints : MethodName := ⟨RX3, "changeHints", "(III)I"⟩
abbrev cX3_untypable : ByteArray := prog_5_method_13_code
def yX3_untypable : MethodName := ⟨RX3, "untypable", "()I"⟩
abbrev cX3_dropUntypable : ByteArray := prog_5_method_14_code
def yX3_dropUntypable : MethodName := ⟨RX3, "dropUntypable", "()I"⟩
abbrev cX3_untypableWith : ByteArray := prog_5_method_15_code
def yX3_untypableWith : MethodName := ⟨RX3, "untypableWith", "(III)I"⟩
abbrev cX3_guardsCall : ByteArray := prog_5_method_16_code
def yX3_guardsCall : MethodName := ⟨RX3, "guardsCall", "(III)Z"⟩
abbrev cX3_guardsGive : ByteArray := prog_5_method_17_code
def yX3_guardsGive : MethodName := ⟨RX3, "guardsGive", "(III)Z"⟩
def RX4 : String := "TypecheckStation$Trial"
def TX4 : u_T := fun k => match k with
  | 0 => ("TypecheckStation$Trial", "program", "LTypecheckStation$Program;", true)
  | 1 => ("TypecheckStation$Trial", "calls", "[[I", true)
  | 2 => ("TypecheckStation$Trial", "budget", "I", false)
  | 3 => ("TypecheckStation$Trial", "type", "I", false)
  | 4 => ("TypecheckStation$Trial", "number", "I", false)
  | 5 => ("TypecheckStation$Trial", "begun", "I", false)
  | 6 => ("TypecheckStation$Trial", "looked", "I", false)
  | 7 => ("TypecheckStation$Trial", "skipped", "I", false)
  | 8 => ("TypecheckStation$Trial", "deepest", "I", false)
  | 9 => ("TypecheckStation$Trial", "failure", "I", false)
  | 10 => ("TypecheckStation$Trial", "blame", "I", false)
  | 11 => ("TypecheckStation$Trial", "hasSuspect", "Z", false)
  | _ => ("TypecheckStation$Trial", "suspect", "I", false)
def tyX4 : Nat → FieldType := fun k => match k with
  | 0 => .object "TypecheckStation$Program"
  | 1 => .array (.array .int)
  | 2 => .int
  | 3 => .int
  | 4 => .int
  | 5 => .int
  | 6 => .int
  | 7 => .int
  | 8 => .int
  | 9 => .int
  | 10 => .int
  | 11 => .boolean
  | _ => .int
abbrev wsX40 : List Cond := u_ws RX4 TX4 13
theorem nmX4 : ∀ a, a < 13 → ∀ b, b < 13 → a ≠ b → (TX4 a).2.1 ≠ (TX4 b).2.1 := by decide +kernel
theorem tyX4_ok : ∀ k, k < 13 → parseFieldDescriptor (TX4 k).2.2.1 = some (tyX4 k) := by decide +kernel
abbrev cX4_init : ByteArray := prog_6_method_1_code
def yX4_init : MethodName := ⟨RX4, "<init>", "(LTypecheckStation$Program;)V"⟩
abbrev cX4_tryOut : ByteArray := prog_6_method_2_code
def yX4_tryOut : MethodName := ⟨RX4, "tryOut", "(IIII)V"⟩
abbrev cX4_clear : ByteArray := prog_6_method_3_code
def yX4_clear : MethodName := ⟨RX4, "clear", "()V"⟩
abbrev cX4_cost : ByteArray := prog_6_method_4_code
def yX4_cost : MethodName := ⟨RX4, "cost", "()I"⟩
abbrev cX4_enter : ByteArray := prog_6_method_5_code
def yX4_enter : MethodName := ⟨RX4, "enter", "(III)V"⟩
abbrev cX4_goThrough : ByteArray := prog_6_method_6_code
def yX4_goThrough : MethodName := ⟨RX4, "goThrough", "(II)V"⟩
abbrev cX4_begin : ByteArray := prog_6_method_7_code
def yX4_begin : MethodName := ⟨RX4, "begin", "(III)V"⟩
abbrev cX4_guard : ByteArray := prog_6_method_8_code
def yX4_guard : MethodName := ⟨RX4, "guard", "(III)V"⟩
abbrev cX4_fail : ByteArray := prog_6_method_9_code
def yX4_fail : MethodName := ⟨RX4, "fail", "(II)V"⟩
abbrev cX4_made : ByteArray := prog_6_method_10_code
def yX4_made : MethodName := ⟨RX4, "made", "(I)I"⟩
abbrev cX4_shownLength : ByteArray := prog_6_method_11_code
def yX4_shownLength : MethodName := ⟨RX4, "shownLength", "()I"⟩
def RX5 : String := "TypecheckStation"
def TX5 : u_T := fun k => match k with
  | 0 => ("TypecheckStation", "program", "LTypecheckStation$Program;", true)
  | 1 => ("TypecheckStation", "trial", "LTypecheckStation$Trial;", true)
  | 2 => ("TypecheckStation", "books", "LTypecheckStation$Books;", true)
  | _ => ("TypecheckStation", "budget", "I", false)
def tyX5 : Nat → FieldType := fun k => match k with
  | 0 => .object "TypecheckStation$Program"
  | 1 => .object "TypecheckStation$Trial"
  | 2 => .object "TypecheckStation$Books"
  | _ => .int
abbrev wsX50 : List Cond := u_ws RX5 TX5 4
theorem nmX5 : ∀ a, a < 4 → ∀ b, b < 4 → a ≠ b → (TX5 a).2.1 ≠ (TX5 b).2.1 := by decide +kernel
theorem tyX5_ok : ∀ k, k < 4 → parseFieldDescriptor (TX5 k).2.2.1 = some (tyX5 k) := by decide +kernel
abbrev cX5_init : ByteArray := prog_1_method_1_code
def yX5_init : MethodName := ⟨RX5, "<init>", "()V"⟩
abbrev cX5_function : ByteArray := prog_1_method_2_code
def yX5_function : MethodName := ⟨RX5, "function", "()I"⟩
abbrev cX5_step : ByteArray := prog_1_method_3_code
def yX5_step : MethodName := ⟨RX5, "step", "(II)I"⟩
abbrev cX5_unstep : ByteArray := prog_1_method_4_code
def yX5_unstep : MethodName := ⟨RX5, "unstep", "(I)I"⟩
abbrev cX5_hint : ByteArray := prog_1_method_5_code
def yX5_hint : MethodName := ⟨RX5, "hint", "(III)I"⟩
abbrev cX5_adopt : ByteArray := prog_1_method_6_code
def yX5_adopt : MethodName := ⟨RX5, "adopt", "(I)I"⟩
abbrev cX5_type : ByteArray := prog_1_method_7_code
def yX5_type : MethodName := ⟨RX5, "type", "(IZ)Z"⟩
abbrev cX5_stepAt : ByteArray := prog_1_method_8_code
def yX5_stepAt : MethodName := ⟨RX5, "stepAt", "(II)I"⟩
abbrev cX5_ofFunction : ByteArray := prog_1_method_9_code
def yX5_ofFunction : MethodName := ⟨RX5, "ofFunction", "(II)I"⟩
abbrev cX5_many : ByteArray := prog_1_method_10_code
def yX5_many : MethodName := ⟨RX5, "many", "(I)I"⟩
abbrev cX5_budget : ByteArray := prog_1_method_11_code
def yX5_budget : MethodName := ⟨RX5, "budget", "(I)I"⟩
abbrev cX5_run : ByteArray := prog_1_method_12_code
def yX5_run : MethodName := ⟨RX5, "run", "(III)I"⟩
abbrev cX5_latest : ByteArray := prog_1_method_13_code
def yX5_latest : MethodName := ⟨RX5, "latest", "(I)I"⟩
abbrev cX5_counted : ByteArray := prog_1_method_14_code
def yX5_counted : MethodName := ⟨RX5, "counted", "(II)I"⟩
abbrev cX5_blamed : ByteArray := prog_1_method_15_code
def yX5_blamed : MethodName := ⟨RX5, "blamed", "(I)I"⟩
abbrev cX5_gain : ByteArray := prog_1_method_17_code
def yX5_gain : MethodName := ⟨RX5, "gain", "(I)I"⟩
abbrev cX5_next : ByteArray := prog_1_method_18_code
def yX5_next : MethodName := ⟨RX5, "next", "()I"⟩
abbrev cX5_migrate : ByteArray := prog_1_method_19_code
def yX5_migrate : MethodName := ⟨RX5, "migrate", "(I)I"⟩
abbrev cX5_wouldBlame : ByteArray := prog_1_method_20_code
def yX5_wouldBlame : MethodName := ⟨RX5, "wouldBlame", "(III)I"⟩
abbrev cX5_untyped : ByteArray := prog_1_method_22_code
def yX5_untyped : MethodName := ⟨RX5, "untyped", "(III)I"⟩
abbrev cX5_tollAtBest : ByteArray := prog_1_method_23_code
def yX5_tollAtBest : MethodName := ⟨RX5, "tollAtBest", "()I"⟩
abbrev cX5_digest : ByteArray := prog_1_method_24_code
def yX5_digest : MethodName := ⟨RX5, "digest", "()J"⟩
abbrev cX5_mixedFunction : ByteArray := prog_1_method_25_code
def yX5_mixedFunction : MethodName := ⟨RX5, "mixedFunction", "(JI)J"⟩
abbrev cX5_mixed : ByteArray := prog_1_method_26_code
def yX5_mixed : MethodName := ⟨RX5, "mixed", "(JI)J"⟩
abbrev cX5_tollWith : ByteArray := prog_1_method_27_code
def yX5_tollWith : MethodName := ⟨RX5, "tollWith", "(I)I"⟩
abbrev cX5_gainOf : ByteArray := prog_1_method_28_code
def yX5_gainOf : MethodName := ⟨RX5, "gainOf", "(I)I"⟩
abbrev cX5_nextToType : ByteArray := prog_1_method_29_code
def yX5_nextToType : MethodName := ⟨RX5, "nextToType", "()I"⟩
abbrev cX5_requireFunction : ByteArray := prog_1_method_30_code
def yX5_requireFunction : MethodName := ⟨RX5, "requireFunction", "(I)V"⟩
abbrev cX5_requireHints : ByteArray := prog_1_method_31_code
def yX5_requireHints : MethodName := ⟨RX5, "requireHints", "(II)V"⟩
abbrev cX5_requireWhat : ByteArray := prog_1_method_32_code
def yX5_requireWhat : MethodName := ⟨RX5, "requireWhat", "(II)V"⟩
abbrev cX5_requireBudget : ByteArray := prog_1_method_33_code
def yX5_requireBudget : MethodName := ⟨RX5, "requireBudget", "(I)V"⟩
abbrev cX5_requireValue : ByteArray := prog_1_method_34_code
def yX5_requireValue : MethodName := ⟨RX5, "requireValue", "(II)V"⟩
abbrev cX5_isValue : ByteArray := prog_1_method_35_code
def yX5_isValue : MethodName := ⟨RX5, "isValue", "(II)Z"⟩
abbrev cX5_has : ByteArray := prog_1_method_36_code
def yX5_has : MethodName := ⟨RX5, "has", "(II)Z"⟩
abbrev cX5_with : ByteArray := prog_1_method_37_code
def yX5_with : MethodName := ⟨RX5, "with", "(II)I"⟩
abbrev cX5_without : ByteArray := prog_1_method_38_code
def yX5_without : MethodName := ⟨RX5, "without", "(II)I"⟩
abbrev cX5_rowOf : ByteArray := prog_1_method_39_code
def yX5_rowOf : MethodName := ⟨RX5, "rowOf", "(I)I"⟩
abbrev cX5_newCallTable : ByteArray := prog_1_method_40_code
def yX5_newCallTable : MethodName := ⟨RX5, "newCallTable", "()[[I"⟩
abbrev cX5_isCall : ByteArray := prog_1_method_41_code
def yX5_isCall : MethodName := ⟨RX5, "isCall", "(I)Z"⟩
abbrev cX5_plainNeed : ByteArray := prog_1_method_42_code
def yX5_plainNeed : MethodName := ⟨RX5, "plainNeed", "(I)I"⟩
abbrev cX5_plainGift : ByteArray := prog_1_method_43_code
def yX5_plainGift : MethodName := ⟨RX5, "plainGift", "(I)I"⟩
def RX6 : String := "TypecheckStationLaw$Own"
def TX6 : u_T := fun k => match k with
  | 0 => ("TypecheckStationLaw$Own", "steps", "[[I", true)
  | 1 => ("TypecheckStationLaw$Own", "size", "[I", true)
  | 2 => ("TypecheckStationLaw$Own", "in", "[I", true)
  | 3 => ("TypecheckStationLaw$Own", "out", "[I", true)
  | 4 => ("TypecheckStationLaw$Own", "isTyped", "[Z", true)
  | 5 => ("TypecheckStationLaw$Own", "there", "I", false)
  | 6 => ("TypecheckStationLaw$Own", "at", "[I", true)
  | 7 => ("TypecheckStationLaw$Own", "who", "[I", true)
  | 8 => ("TypecheckStationLaw$Own", "told", "[I", true)
  | 9 => ("TypecheckStationLaw$Own", "type", "I", false)
  | 10 => ("TypecheckStationLaw$Own", "number", "I", false)
  | 11 => ("TypecheckStationLaw$Own", "hidden", "I", false)
  | _ => ("TypecheckStationLaw$Own", "budget", "I", false)
def tyX6 : Nat → FieldType := fun k => match k with
  | 0 => .array (.array .int)
  | 1 => .array .int
  | 2 => .array .int
  | 3 => .array .int
  | 4 => .array .boolean
  | 5 => .int
  | 6 => .array .int
  | 7 => .array .int
  | 8 => .array .int
  | 9 => .int
  | 10 => .int
  | 11 => .int
  | _ => .int
abbrev wsX60 : List Cond := u_ws RX6 TX6 13
theorem nmX6 : ∀ a, a < 13 → ∀ b, b < 13 → a ≠ b → (TX6 a).2.1 ≠ (TX6 b).2.1 := by decide +kernel
theorem tyX6_ok : ∀ k, k < 13 → parseFieldDescriptor (TX6 k).2.2.1 = some (tyX6 k) := by decide +kernel
abbrev cX6_init : ByteArray := prog_8_method_1_code
def yX6_init : MethodName := ⟨RX6, "<init>", "()V"⟩
abbrev cX6_gives : ByteArray := prog_8_method_3_code
def yX6_gives : MethodName := ⟨RX6, "gives", "(I)I"⟩
abbrev cX6_isTold : ByteArray := prog_8_method_18_code
def yX6_isTold : MethodName := ⟨RX6, "isTold", "(LTypecheckStation;[II)Z"⟩
abbrev cX6_step : ByteArray := prog_8_method_19_code
def yX6_step : MethodName := ⟨RX6, "step", "(III)I"⟩
def RX7 : String := "TypecheckStationModel$Function"
def TX7 : u_T := fun k => match k with
  | _ => ("", "", "", false)
def tyX7 : Nat → FieldType := fun k => match k with
  | _ => .int
abbrev wsX70 : List Cond := u_ws RX7 TX7 0
theorem nmX7 : ∀ a, a < 0 → ∀ b, b < 0 → a ≠ b → (TX7 a).2.1 ≠ (TX7 b).2.1 := by decide +kernel
theorem tyX7_ok : ∀ k, k < 0 → parseFieldDescriptor (TX7 k).2.2.1 = some (tyX7 k) := by decide +kernel
def RX8 : String := "TypecheckStationModel$Run"
def TX8 : u_T := fun k => match k with
  | _ => ("", "", "", false)
def tyX8 : Nat → FieldType := fun k => match k with
  | _ => .int
abbrev wsX80 : List Cond := u_ws RX8 TX8 0
theorem nmX8 : ∀ a, a < 0 → ∀ b, b < 0 → a ≠ b → (TX8 a).2.1 ≠ (TX8 b).2.1 := by decide +kernel
theorem tyX8_ok : ∀ k, k < 0 → parseFieldDescriptor (TX8 k).2.2.1 = some (tyX8 k) := by decide +kernel
def RX9 : String := "TypecheckStationModel"
def TX9 : u_T := fun k => match k with
  | _ => ("", "", "", false)
def tyX9 : Nat → FieldType := fun k => match k with
  | _ => .int
abbrev wsX90 : List Cond := u_ws RX9 TX9 0
theorem nmX9 : ∀ a, a < 0 → ∀ b, b < 0 → a ≠ b → (TX9 a).2.1 ≠ (TX9 b).2.1 := by decide +kernel
theorem tyX9_ok : ∀ k, k < 0 → parseFieldDescriptor (TX9 k).2.2.1 = some (tyX9 k) := by decide +kernel
def RJx145de : String := "java/io/Serializable"
def TJx145de : u_T := fun k => match k with
  | _ => ("", "", "", false)
def tyJx145de : Nat → FieldType := fun k => match k with
  | _ => .int
abbrev wsJx145de0 : List Cond := u_ws RJx145de TJx145de 0
theorem nmJx145de : ∀ a, a < 0 → ∀ b, b < 0 → a ≠ b → (TJx145de a).2.1 ≠ (TJx145de b).2.1 := by decide +kernel
theorem tyJx145de_ok : ∀ k, k < 0 → parseFieldDescriptor (TJx145de k).2.2.1 = some (tyJx145de k) := by decide +kernel
def RJ6 : String := "java/lang/Integer"
def TJ6 : u_T := fun k => match k with
  | _ => ("", "", "", false)
def tyJ6 : Nat → FieldType := fun k => match k with
  | _ => .int
abbrev wsJ60 : List Cond := u_ws RJ6 TJ6 0
theorem nmJ6 : ∀ a, a < 0 → ∀ b, b < 0 → a ≠ b → (TJ6 a).2.1 ≠ (TJ6 b).2.1 := by decide +kernel
theorem tyJ6_ok : ∀ k, k < 0 → parseFieldDescriptor (TJ6 k).2.2.1 = some (tyJ6 k) := by decide +kernel
abbrev cJ6_bitCount_0f7a4 : ByteArray := prog_16_method_49_code
def yJ6_bitCount_0f7a4 : MethodName := ⟨RJ6, "bitCount", "(I)I"⟩
def RJ9 : String := "java/lang/Math"
def TJ9 : u_T := fun k => match k with
  | _ => ("", "", "", false)
def tyJ9 : Nat → FieldType := fun k => match k with
  | _ => .int
abbrev wsJ90 : List Cond := u_ws RJ9 TJ9 0
theorem nmJ9 : ∀ a, a < 0 → ∀ b, b < 0 → a ≠ b → (TJ9 a).2.1 ≠ (TJ9 b).2.1 := by decide +kernel
theorem tyJ9_ok : ∀ k, k < 0 → parseFieldDescriptor (TJ9 k).2.2.1 = some (tyJ9 k) := by decide +kernel
abbrev cJ9_abs_0f7a4 : ByteArray := prog_17_method_59_code
def yJ9_abs_0f7a4 : MethodName := ⟨RJ9, "abs", "(I)I"⟩
abbrev cJ9_max_7cf53 : ByteArray := prog_17_method_65_code
def yJ9_max_7cf53 : MethodName := ⟨RJ9, "max", "(II)I"⟩
abbrev cJ9_min_7cf53 : ByteArray := prog_17_method_69_code
def yJ9_min_7cf53 : MethodName := ⟨RJ9, "min", "(II)I"⟩
def RJ0 : String := "java/lang/String"
def TJ0 : u_T := fun k => match k with
  | _ => ("", "", "", false)
def tyJ0 : Nat → FieldType := fun k => match k with
  | _ => .int
abbrev wsJ00 : List Cond := u_ws RJ0 TJ0 0
theorem nmJ0 : ∀ a, a < 0 → ∀ b, b < 0 → a ≠ b → (TJ0 a).2.1 ≠ (TJ0 b).2.1 := by decide +kernel
theorem tyJ0_ok : ∀ k, k < 0 → parseFieldDescriptor (TJ0 k).2.2.1 = some (tyJ0 k) := by decide +kernel
def RL : String := "TypecheckStationLaw"
abbrev cL_below : ByteArray := method_2_code
def yL_below : MethodName := ⟨RL, "below", "(II)I"⟩
abbrev cL_cell : ByteArray := method_3_code
def yL_cell : MethodName := ⟨RL, "cell", "([II)I"⟩
abbrev cL_law : ByteArray := code
def yL_law : MethodName := ⟨RL, "law", "([I)Z"⟩
abbrev cL_act : ByteArray := method_5_code
def yL_act : MethodName := ⟨RL, "act", "(LTypecheckStation;II[I)Z"⟩
abbrev cL_isRunRight : ByteArray := method_6_code
def yL_isRunRight : MethodName := ⟨RL, "isRunRight", "(LTypecheckStation;II[I)Z"⟩
abbrev cL_areFunctionsRight : ByteArray := method_7_code
def yL_areFunctionsRight : MethodName := ⟨RL, "areFunctionsRight", "(LTypecheckStation;[I)Z"⟩
abbrev cL_areTollsRight : ByteArray := method_8_code
def yL_areTollsRight : MethodName := ⟨RL, "areTollsRight", "(LTypecheckStation;)Z"⟩
def wsX5_newCallTable : List Cond := .code yX5_newCallTable cX5_newCallTable 0 (some (.array (.array .int))) :: ([.classLink RX5 282 "[[I", .arrayClass .int])
def wsX0_init : List Cond := .code yX0_init cX0_init 1 none :: ([.methodLink RX0 3 objectInit, .instanceMethod objectInit, .code objectInit ⟨#[0xb1]⟩ 1 none, .fieldLink RX0 13 "TypecheckStation$Books" "calls" "[[I", .arrayClass .int, .fieldLink RX0 19 "TypecheckStation$Books" "blames" "[I", .fieldLink RX0 23 "TypecheckStation$Books" "latest" "[I", .static yX5_newCallTable, .initialized RX5, .code yX5_newCallTable cX5_newCallTable 0 (some (.array (.array .int))), .classLink RX5 282 "[[I"] ++ wsX00)
def wsX4_cost : List Cond := .code yX4_cost cX4_cost 1 (some .int) :: ([.fieldLink RX4 40 "TypecheckStation$Trial" "begun" "I", .fieldLink RX4 43 "TypecheckStation$Trial" "looked" "I"] ++ wsX40)
def wsX0_addCalls : List Cond := .code yX0_addCalls cX0_addCalls 4 none :: ([.fieldLink RX0 13 "TypecheckStation$Books" "calls" "[[I", .fieldLink RX0 55 "TypecheckStation$Trial" "calls" "[[I"] ++ wsX00 ++ wsX40)
def wsX0_keepLatest : List Cond := .code yX0_keepLatest cX0_keepLatest 3 none :: ([.fieldLink RX0 30 "TypecheckStation$Trial" "failure" "I", .fieldLink RX0 23 "TypecheckStation$Books" "latest" "[I", .fieldLink RX0 38 "TypecheckStation$Trial" "blame" "I", .fieldLink RX0 56 "TypecheckStation$Trial" "looked" "I", .fieldLink RX0 59 "TypecheckStation$Trial" "skipped" "I", .fieldLink RX0 62 "TypecheckStation$Trial" "type" "I", .fieldLink RX0 65 "TypecheckStation$Trial" "number" "I", .fieldLink RX0 68 "TypecheckStation$Trial" "deepest" "I", .methodLink RX0 44 yX4_cost, .instanceMethod yX4_cost, .selects RX4 yX4_cost yX4_cost, .initialized RX4, .code yX4_cost cX4_cost 1 (some .int), .fieldLink RX4 40 "TypecheckStation$Trial" "begun" "I", .fieldLink RX4 43 "TypecheckStation$Trial" "looked" "I"] ++ wsX40 ++ wsX00)
def wsX0_enter_r1 : List Cond := [Cond.fieldLink RX0 26 "TypecheckStation$Books" "runs" "I", Cond.fieldLink RX0 30 "TypecheckStation$Trial" "failure" "I", Cond.fieldLink RX0 35 "TypecheckStation$Books" "failures" "I", Cond.fieldLink RX0 38 "TypecheckStation$Trial" "blame" "I", Cond.fieldLink RX0 19 "TypecheckStation$Books" "blames" "[I", Cond.fieldLink RX0 41 "TypecheckStation$Books" "costs" "I", Cond.methodLink RX0 44 yX4_cost, Cond.instanceMethod yX4_cost, Cond.selects RX4 yX4_cost yX4_cost, Cond.initialized RX4, Cond.code yX4_cost cX4_cost 1 (some .int), Cond.fieldLink RX4 40 "TypecheckStation$Trial" "begun" "I", Cond.fieldLink RX4 43 "TypecheckStation$Trial" "looked" "I", Cond.methodLink RX0 48 yX0_addCalls, Cond.instanceMethod yX0_addCalls, Cond.selects RX0 yX0_addCalls yX0_addCalls, Cond.initialized RX0, Cond.code yX0_addCalls cX0_addCalls 4 none, Cond.fieldLink RX0 13 "TypecheckStation$Books" "calls" "[[I", Cond.fieldLink RX0 55 "TypecheckStation$Trial" "calls" "[[I", Cond.methodLink RX0 52 yX0_keepLatest, Cond.instanceMethod yX0_keepLatest, Cond.selects RX0 yX0_keepLatest yX0_keepLatest, Cond.code yX0_keepLatest cX0_keepLatest 3 none]
def wsX0_enter_r2 : List Cond := [Cond.fieldLink RX0 23 "TypecheckStation$Books" "latest" "[I", Cond.fieldLink RX0 56 "TypecheckStation$Trial" "looked" "I", Cond.fieldLink RX0 59 "TypecheckStation$Trial" "skipped" "I", Cond.fieldLink RX0 62 "TypecheckStation$Trial" "type" "I", Cond.fieldLink RX0 65 "TypecheckStation$Trial" "number" "I", Cond.fieldLink RX0 68 "TypecheckStation$Trial" "deepest" "I"]
def wsX0_enter : List Cond := .code yX0_enter cX0_enter 2 none :: ((wsX0_enter_r1 ++ wsX0_enter_r2) ++ wsX00 ++ wsX40)
def wsX0_timesCalled : List Cond := .code yX0_timesCalled cX0_timesCalled 4 (some .int) :: ([.fieldLink RX0 13 "TypecheckStation$Books" "calls" "[[I"] ++ wsX00)
def wsX1_init : List Cond := .code yX1_init cX1_init 1 none :: ([.methodLink RX1 3 objectInit, .instanceMethod objectInit, .code objectInit ⟨#[0xb1]⟩ 1 none])
def wsX1_clear : List Cond := .code yX1_clear cX1_clear 1 none :: ([.fieldLink RX1 9 "TypecheckStation$Findings" "faults" "I", .fieldLink RX1 15 "TypecheckStation$Findings" "firstFault" "I", .fieldLink RX1 18 "TypecheckStation$Findings" "loose" "I"] ++ wsX10)
def wsX1_need : List Cond := .code yX1_need cX1_need 4 none :: ([.fieldLink RX1 18 "TypecheckStation$Findings" "loose" "I", .fieldLink RX1 9 "TypecheckStation$Findings" "faults" "I", .fieldLink RX1 15 "TypecheckStation$Findings" "firstFault" "I"] ++ wsX10)
def wsX1_areNone : List Cond := .code yX1_areNone cX1_areNone 1 (some .boolean) :: ([.fieldLink RX1 9 "TypecheckStation$Findings" "faults" "I", .fieldLink RX1 18 "TypecheckStation$Findings" "loose" "I"] ++ wsX10)
def wsX2_init : List Cond := .code yX2_init cX2_init 1 none :: ([.methodLink RX2 3 objectInit, .instanceMethod objectInit, .code objectInit ⟨#[0xb1]⟩ 1 none, .arrayClass .int, .fieldLink RX2 9 "TypecheckStation$Function" "steps" "[I", .fieldLink RX2 15 "TypecheckStation$Function" "in" "I", .fieldLink RX2 19 "TypecheckStation$Function" "out" "I"] ++ wsX20)
def wsX2_mentions : List Cond := .code yX2_mentions cX2_mentions 3 (some .boolean) :: ([.fieldLink RX2 22 "TypecheckStation$Function" "size" "I", .fieldLink RX2 9 "TypecheckStation$Function" "steps" "[I"] ++ wsX20)
def wsX3_init : List Cond := .code yX3_init cX3_init 2 none :: ([.methodLink RX3 3 objectInit, .instanceMethod objectInit, .code objectInit ⟨#[0xb1]⟩ 1 none, .classLink RX3 9 RX2, .fieldLink RX3 11 "TypecheckStation$Program" "functions" "[LTypecheckStation$Function;", .instantiable RX2 4, .initialized RX2, .classLink RX3 18 RX1, .instantiable RX1 3, .initialized RX1, .fieldLink RX3 21 "TypecheckStation$Program" "findings" "LTypecheckStation$Findings;", .methodLink RX3 17 yX2_init, .instanceMethod yX2_init, .code yX2_init cX2_init 1 none, .methodLink RX2 3 objectInit, .arrayClass .int, .fieldLink RX2 9 "TypecheckStation$Function" "steps" "[I", .fieldLink RX2 15 "TypecheckStation$Function" "in" "I", .fieldLink RX2 19 "TypecheckStation$Function" "out" "I", .instanceMethod yX1_init, .code yX1_init cX1_init 1 none, .methodLink RX1 3 objectInit] ++ wsX30 ++ wsX20 ++ wsX10)
def wsX3_isStep : List Cond := .code yX3_isStep cX3_isStep 2 (some .boolean) :: ([.fieldLink RX3 25 "TypecheckStation$Program" "size" "I"] ++ wsX30)
def wsX5_isCall : List Cond := .code yX5_isCall cX5_isCall 1 (some .boolean) :: ([])
def wsX5_plainNeed : List Cond := .code yX5_plainNeed cX5_plainNeed 1 (some .int) :: ([])
def wsX3_needOf : List Cond := .code yX3_needOf cX3_needOf 2 (some .int) :: ([.fieldLink RX3 11 "TypecheckStation$Program" "functions" "[LTypecheckStation$Function;", .fieldLink RX3 33 "TypecheckStation$Function" "in" "I", .static yX5_isCall, .initialized RX5, .code yX5_isCall cX5_isCall 1 (some .boolean), .static yX5_plainNeed, .code yX5_plainNeed cX5_plainNeed 1 (some .int)] ++ wsX30 ++ wsX20)
def wsX5_plainGift : List Cond := .code yX5_plainGift cX5_plainGift 1 (some .int) :: ([])
def wsX3_giftOf : List Cond := .code yX3_giftOf cX3_giftOf 2 (some .int) :: ([.fieldLink RX3 11 "TypecheckStation$Program" "functions" "[LTypecheckStation$Function;", .fieldLink RX3 40 "TypecheckStation$Function" "out" "I", .static yX5_isCall, .initialized RX5, .code yX5_isCall cX5_isCall 1 (some .boolean), .static yX5_plainGift, .code yX5_plainGift cX5_plainGift 1 (some .int)] ++ wsX30 ++ wsX20)
def wsX3_guessIn : List Cond := .code yX3_guessIn cX3_guessIn 2 (some .int) :: ([.fieldLink RX3 46 "TypecheckStation$Function" "size" "I", .fieldLink RX3 47 "TypecheckStation$Function" "steps" "[I", .methodLink RX3 51 yX3_needOf, .instanceMethod yX3_needOf, .selects RX3 yX3_needOf yX3_needOf, .initialized RX3, .code yX3_needOf cX3_needOf 2 (some .int), .fieldLink RX3 11 "TypecheckStation$Program" "functions" "[LTypecheckStation$Function;", .fieldLink RX3 33 "TypecheckStation$Function" "in" "I", .static yX5_isCall, .initialized RX5, .code yX5_isCall cX5_isCall 1 (some .boolean), .static yX5_plainNeed, .code yX5_plainNeed cX5_plainNeed 1 (some .int)] ++ wsX20 ++ wsX30)
def wsX3_guessOut : List Cond := .code yX3_guessOut cX3_guessOut 2 (some .int) :: ([.fieldLink RX3 46 "TypecheckStation$Function" "size" "I", .fieldLink RX3 47 "TypecheckStation$Function" "steps" "[I", .methodLink RX3 54 yX3_giftOf, .instanceMethod yX3_giftOf, .selects RX3 yX3_giftOf yX3_giftOf, .initialized RX3, .code yX3_giftOf cX3_giftOf 2 (some .int), .fieldLink RX3 11 "TypecheckStation$Program" "functions" "[LTypecheckStation$Function;", .fieldLink RX3 40 "TypecheckStation$Function" "out" "I", .static yX5_isCall, .initialized RX5, .code yX5_isCall cX5_isCall 1 (some .boolean), .static yX5_plainGift, .code yX5_plainGift cX5_plainGift 1 (some .int)] ++ wsX20 ++ wsX30)
def wsX3_checked_r1 : List Cond := [Cond.fieldLink RX3 11 "TypecheckStation$Program" "functions" "[LTypecheckStation$Function;", Cond.fieldLink RX3 21 "TypecheckStation$Program" "findings" "LTypecheckStation$Findings;", Cond.fieldLink RX3 33 "TypecheckStation$Function" "in" "I", Cond.fieldLink RX3 46 "TypecheckStation$Function" "size" "I", Cond.fieldLink RX3 47 "TypecheckStation$Function" "steps" "[I", Cond.fieldLink RX3 40 "TypecheckStation$Function" "out" "I", Cond.methodLink RX3 57 yX1_clear, Cond.instanceMethod yX1_clear, Cond.selects RX1 yX1_clear yX1_clear, Cond.initialized RX1, Cond.code yX1_clear cX1_clear 1 none, Cond.fieldLink RX1 9 "TypecheckStation$Findings" "faults" "I", Cond.fieldLink RX1 15 "TypecheckStation$Findings" "firstFault" "I", Cond.fieldLink RX1 18 "TypecheckStation$Findings" "loose" "I", Cond.methodLink RX3 51 yX3_needOf, Cond.instanceMethod yX3_needOf, Cond.selects RX3 yX3_needOf yX3_needOf, Cond.initialized RX3, Cond.code yX3_needOf cX3_needOf 2 (some .int), Cond.static yX5_isCall, Cond.initialized RX5, Cond.code yX5_isCall cX5_isCall 1 (some .boolean), Cond.static yX5_plainNeed, Cond.code yX5_plainNeed cX5_plainNeed 1 (some .int)]
def wsX3_checked_r2 : List Cond := [Cond.methodLink RX3 60 yX1_need, Cond.instanceMethod yX1_need, Cond.selects RX1 yX1_need yX1_need, Cond.code yX1_need cX1_need 4 none, Cond.methodLink RX3 54 yX3_giftOf, Cond.instanceMethod yX3_giftOf, Cond.selects RX3 yX3_giftOf yX3_giftOf, Cond.code yX3_giftOf cX3_giftOf 2 (some .int), Cond.static yX5_plainGift, Cond.code yX5_plainGift cX5_plainGift 1 (some .int)]
def wsX3_checked : List Cond := .code yX3_checked cX3_checked 6 (some (.object "TypecheckStation$Findings")) :: ((wsX3_checked_r1 ++ wsX3_checked_r2) ++ wsX30 ++ wsX20 ++ wsX10)
def wsX5_with : List Cond := .code yX5_with cX5_with 2 (some .int) :: ([])
def wsX3_typable_r1 : List Cond := [Cond.fieldLink RX3 25 "TypecheckStation$Program" "size" "I", Cond.methodLink RX3 64 yX3_checked, Cond.instanceMethod yX3_checked, Cond.selects RX3 yX3_checked yX3_checked, Cond.initialized RX3, Cond.code yX3_checked cX3_checked 6 (some (.object "TypecheckStation$Findings")), Cond.fieldLink RX3 11 "TypecheckStation$Program" "functions" "[LTypecheckStation$Function;", Cond.fieldLink RX3 21 "TypecheckStation$Program" "findings" "LTypecheckStation$Findings;", Cond.fieldLink RX3 33 "TypecheckStation$Function" "in" "I", Cond.fieldLink RX3 46 "TypecheckStation$Function" "size" "I", Cond.fieldLink RX3 47 "TypecheckStation$Function" "steps" "[I", Cond.fieldLink RX3 40 "TypecheckStation$Function" "out" "I", Cond.methodLink RX3 57 yX1_clear, Cond.instanceMethod yX1_clear, Cond.selects RX1 yX1_clear yX1_clear, Cond.initialized RX1, Cond.code yX1_clear cX1_clear 1 none, Cond.fieldLink RX1 9 "TypecheckStation$Findings" "faults" "I", Cond.fieldLink RX1 15 "TypecheckStation$Findings" "firstFault" "I", Cond.fieldLink RX1 18 "TypecheckStation$Findings" "loose" "I", Cond.methodLink RX3 51 yX3_needOf, Cond.instanceMethod yX3_needOf, Cond.selects RX3 yX3_needOf yX3_needOf, Cond.code yX3_needOf cX3_needOf 2 (some .int)]
def wsX3_typable_r2 : List Cond := [Cond.static yX5_isCall, Cond.initialized RX5, Cond.code yX5_isCall cX5_isCall 1 (some .boolean), Cond.static yX5_plainNeed, Cond.code yX5_plainNeed cX5_plainNeed 1 (some .int), Cond.methodLink RX3 60 yX1_need, Cond.instanceMethod yX1_need, Cond.selects RX1 yX1_need yX1_need, Cond.code yX1_need cX1_need 4 none, Cond.methodLink RX3 54 yX3_giftOf, Cond.instanceMethod yX3_giftOf, Cond.selects RX3 yX3_giftOf yX3_giftOf, Cond.code yX3_giftOf cX3_giftOf 2 (some .int), Cond.static yX5_plainGift, Cond.code yX5_plainGift cX5_plainGift 1 (some .int), Cond.methodLink RX3 68 yX1_areNone, Cond.instanceMethod yX1_areNone, Cond.selects RX1 yX1_areNone yX1_areNone, Cond.code yX1_areNone cX1_areNone 1 (some .boolean), Cond.static yX5_with, Cond.code yX5_with cX5_with 2 (some .int)]
def wsX3_typable : List Cond := .code yX3_typable cX3_typable 3 (some .int) :: ((wsX3_typable_r1 ++ wsX3_typable_r2) ++ wsX30 ++ wsX20 ++ wsX10)
def wsX3_allFaults_r1 : List Cond := [Cond.fieldLink RX3 25 "TypecheckStation$Program" "size" "I", Cond.fieldLink RX3 76 "TypecheckStation$Findings" "faults" "I", Cond.methodLink RX3 64 yX3_checked, Cond.instanceMethod yX3_checked, Cond.selects RX3 yX3_checked yX3_checked, Cond.initialized RX3, Cond.code yX3_checked cX3_checked 6 (some (.object "TypecheckStation$Findings")), Cond.fieldLink RX3 11 "TypecheckStation$Program" "functions" "[LTypecheckStation$Function;", Cond.fieldLink RX3 21 "TypecheckStation$Program" "findings" "LTypecheckStation$Findings;", Cond.fieldLink RX3 33 "TypecheckStation$Function" "in" "I", Cond.fieldLink RX3 46 "TypecheckStation$Function" "size" "I", Cond.fieldLink RX3 47 "TypecheckStation$Function" "steps" "[I", Cond.fieldLink RX3 40 "TypecheckStation$Function" "out" "I", Cond.methodLink RX3 57 yX1_clear, Cond.instanceMethod yX1_clear, Cond.selects RX1 yX1_clear yX1_clear, Cond.initialized RX1, Cond.code yX1_clear cX1_clear 1 none, Cond.fieldLink RX1 9 "TypecheckStation$Findings" "faults" "I", Cond.fieldLink RX1 15 "TypecheckStation$Findings" "firstFault" "I", Cond.fieldLink RX1 18 "TypecheckStation$Findings" "loose" "I", Cond.methodLink RX3 51 yX3_needOf, Cond.instanceMethod yX3_needOf, Cond.selects RX3 yX3_needOf yX3_needOf]
def wsX3_allFaults_r2 : List Cond := [Cond.code yX3_needOf cX3_needOf 2 (some .int), Cond.static yX5_isCall, Cond.initialized RX5, Cond.code yX5_isCall cX5_isCall 1 (some .boolean), Cond.static yX5_plainNeed, Cond.code yX5_plainNeed cX5_plainNeed 1 (some .int), Cond.methodLink RX3 60 yX1_need, Cond.instanceMethod yX1_need, Cond.selects RX1 yX1_need yX1_need, Cond.code yX1_need cX1_need 4 none, Cond.methodLink RX3 54 yX3_giftOf, Cond.instanceMethod yX3_giftOf, Cond.selects RX3 yX3_giftOf yX3_giftOf, Cond.code yX3_giftOf cX3_giftOf 2 (some .int), Cond.static yX5_plainGift, Cond.code yX5_plainGift cX5_plainGift 1 (some .int)]
def wsX3_allFaults : List Cond := .code yX3_allFaults cX3_allFaults 3 (some .int) :: ((wsX3_allFaults_r1 ++ wsX3_allFaults_r2) ++ wsX30 ++ wsX10 ++ wsX20)
def wsX3_callersOf : List Cond := .code yX3_callersOf cX3_callersOf 4 (some .int) :: ([.fieldLink RX3 25 "TypecheckStation$Program" "size" "I", .fieldLink RX3 11 "TypecheckStation$Program" "functions" "[LTypecheckStation$Function;", .methodLink RX3 79 yX2_mentions, .instanceMethod yX2_mentions, .selects RX2 yX2_mentions yX2_mentions, .initialized RX2, .code yX2_mentions cX2_mentions 3 (some .boolean), .fieldLink RX2 22 "TypecheckStation$Function" "size" "I", .fieldLink RX2 9 "TypecheckStation$Function" "steps" "[I"] ++ wsX30 ++ wsX20)
def wsX3_untypable_r1 : List Cond := [Cond.fieldLink RX3 92 "TypecheckStation$Program" "typed" "I", Cond.methodLink RX3 95 yX3_typable, Cond.instanceMethod yX3_typable, Cond.selects RX3 yX3_typable yX3_typable, Cond.initialized RX3, Cond.code yX3_typable cX3_typable 3 (some .int), Cond.fieldLink RX3 25 "TypecheckStation$Program" "size" "I", Cond.methodLink RX3 64 yX3_checked, Cond.instanceMethod yX3_checked, Cond.selects RX3 yX3_checked yX3_checked, Cond.code yX3_checked cX3_checked 6 (some (.object "TypecheckStation$Findings")), Cond.fieldLink RX3 11 "TypecheckStation$Program" "functions" "[LTypecheckStation$Function;", Cond.fieldLink RX3 21 "TypecheckStation$Program" "findings" "LTypecheckStation$Findings;", Cond.fieldLink RX3 33 "TypecheckStation$Function" "in" "I", Cond.fieldLink RX3 46 "TypecheckStation$Function" "size" "I", Cond.fieldLink RX3 47 "TypecheckStation$Function" "steps" "[I", Cond.fieldLink RX3 40 "TypecheckStation$Function" "out" "I", Cond.methodLink RX3 57 yX1_clear, Cond.instanceMethod yX1_clear, Cond.selects RX1 yX1_clear yX1_clear, Cond.initialized RX1, Cond.code yX1_clear cX1_clear 1 none, Cond.fieldLink RX1 9 "TypecheckStation$Findings" "faults" "I", Cond.fieldLink RX1 15 "TypecheckStation$Findings" "firstFault" "I"]
def wsX3_untypable_r2 : List Cond := [Cond.fieldLink RX1 18 "TypecheckStation$Findings" "loose" "I", Cond.methodLink RX3 51 yX3_needOf, Cond.instanceMethod yX3_needOf, Cond.selects RX3 yX3_needOf yX3_needOf, Cond.code yX3_needOf cX3_needOf 2 (some .int), Cond.static yX5_isCall, Cond.initialized RX5, Cond.code yX5_isCall cX5_isCall 1 (some .boolean), Cond.static yX5_plainNeed, Cond.code yX5_plainNeed cX5_plainNeed 1 (some .int), Cond.methodLink RX3 60 yX1_need, Cond.instanceMethod yX1_need, Cond.selects RX1 yX1_need yX1_need, Cond.code yX1_need cX1_need 4 none, Cond.methodLink RX3 54 yX3_giftOf, Cond.instanceMethod yX3_giftOf, Cond.selects RX3 yX3_giftOf yX3_giftOf, Cond.code yX3_giftOf cX3_giftOf 2 (some .int), Cond.static yX5_plainGift, Cond.code yX5_plainGift cX5_plainGift 1 (some .int), Cond.methodLink RX3 68 yX1_areNone, Cond.instanceMethod yX1_areNone, Cond.selects RX1 yX1_areNone yX1_areNone, Cond.code yX1_areNone cX1_areNone 1 (some .boolean)]
def wsX3_untypable_r3 : List Cond := [Cond.static yX5_with, Cond.code yX5_with cX5_with 2 (some .int)]
def wsX3_untypable : List Cond := .code yX3_untypable cX3_untypable 1 (some .int) :: ((wsX3_untypable_r1 ++ (wsX3_untypable_r2 ++ wsX3_untypable_r3)) ++ wsX30 ++ wsX20 ++ wsX10)
def wsJ6_bitCount_0f7a4 : List Cond := .code yJ6_bitCount_0f7a4 cJ6_bitCount_0f7a4 1 (some .int) :: ([.constant RJ6 265 (1431655765), .constant RJ6 266 (858993459), .constant RJ6 267 (252645135)])
def wsX3_dropUntypable_r1 : List Cond := [Cond.fieldLink RX3 92 "TypecheckStation$Program" "typed" "I", Cond.methodLink RX3 98 yX3_untypable, Cond.instanceMethod yX3_untypable, Cond.selects RX3 yX3_untypable yX3_untypable, Cond.initialized RX3, Cond.code yX3_untypable cX3_untypable 1 (some .int), Cond.methodLink RX3 95 yX3_typable, Cond.instanceMethod yX3_typable, Cond.selects RX3 yX3_typable yX3_typable, Cond.code yX3_typable cX3_typable 3 (some .int), Cond.fieldLink RX3 25 "TypecheckStation$Program" "size" "I", Cond.methodLink RX3 64 yX3_checked, Cond.instanceMethod yX3_checked, Cond.selects RX3 yX3_checked yX3_checked, Cond.code yX3_checked cX3_checked 6 (some (.object "TypecheckStation$Findings")), Cond.fieldLink RX3 11 "TypecheckStation$Program" "functions" "[LTypecheckStation$Function;", Cond.fieldLink RX3 21 "TypecheckStation$Program" "findings" "LTypecheckStation$Findings;", Cond.fieldLink RX3 33 "TypecheckStation$Function" "in" "I", Cond.fieldLink RX3 46 "TypecheckStation$Function" "size" "I", Cond.fieldLink RX3 47 "TypecheckStation$Function" "steps" "[I", Cond.fieldLink RX3 40 "TypecheckStation$Function" "out" "I", Cond.methodLink RX3 57 yX1_clear, Cond.instanceMethod yX1_clear, Cond.selects RX1 yX1_clear yX1_clear]
def wsX3_dropUntypable_r2 : List Cond := [Cond.initialized RX1, Cond.code yX1_clear cX1_clear 1 none, Cond.fieldLink RX1 9 "TypecheckStation$Findings" "faults" "I", Cond.fieldLink RX1 15 "TypecheckStation$Findings" "firstFault" "I", Cond.fieldLink RX1 18 "TypecheckStation$Findings" "loose" "I", Cond.methodLink RX3 51 yX3_needOf, Cond.instanceMethod yX3_needOf, Cond.selects RX3 yX3_needOf yX3_needOf, Cond.code yX3_needOf cX3_needOf 2 (some .int), Cond.static yX5_isCall, Cond.initialized RX5, Cond.code yX5_isCall cX5_isCall 1 (some .boolean), Cond.static yX5_plainNeed, Cond.code yX5_plainNeed cX5_plainNeed 1 (some .int), Cond.methodLink RX3 60 yX1_need, Cond.instanceMethod yX1_need, Cond.selects RX1 yX1_need yX1_need, Cond.code yX1_need cX1_need 4 none, Cond.methodLink RX3 54 yX3_giftOf, Cond.instanceMethod yX3_giftOf, Cond.selects RX3 yX3_giftOf yX3_giftOf, Cond.code yX3_giftOf cX3_giftOf 2 (some .int), Cond.static yX5_plainGift, Cond.code yX5_plainGift cX5_plainGift 1 (some .int)]
def wsX3_dropUntypable_r3 : List Cond := [Cond.methodLink RX3 68 yX1_areNone, Cond.instanceMethod yX1_areNone, Cond.selects RX1 yX1_areNone yX1_areNone, Cond.code yX1_areNone cX1_areNone 1 (some .boolean), Cond.static yX5_with, Cond.code yX5_with cX5_with 2 (some .int), Cond.methodLink RX3 101 yJ6_bitCount_0f7a4, Cond.static yJ6_bitCount_0f7a4, Cond.initialized RJ6, Cond.code yJ6_bitCount_0f7a4 cJ6_bitCount_0f7a4 1 (some .int), Cond.constant RJ6 265 (1431655765), Cond.constant RJ6 266 (858993459), Cond.constant RJ6 267 (252645135)]
def wsX3_dropUntypable : List Cond := .code yX3_dropUntypable cX3_dropUntypable 2 (some .int) :: ((wsX3_dropUntypable_r1 ++ (wsX3_dropUntypable_r2 ++ wsX3_dropUntypable_r3)) ++ wsX30 ++ wsX20 ++ wsX10)
def wsX3_afterStepsChanged_r1 : List Cond := [Cond.fieldLink RX3 82 "TypecheckStation$Program" "checks" "I", Cond.methodLink RX3 85 yX3_dropUntypable, Cond.instanceMethod yX3_dropUntypable, Cond.selects RX3 yX3_dropUntypable yX3_dropUntypable, Cond.initialized RX3, Cond.code yX3_dropUntypable cX3_dropUntypable 2 (some .int), Cond.fieldLink RX3 92 "TypecheckStation$Program" "typed" "I", Cond.methodLink RX3 98 yX3_untypable, Cond.instanceMethod yX3_untypable, Cond.selects RX3 yX3_untypable yX3_untypable, Cond.code yX3_untypable cX3_untypable 1 (some .int), Cond.methodLink RX3 95 yX3_typable, Cond.instanceMethod yX3_typable, Cond.selects RX3 yX3_typable yX3_typable, Cond.code yX3_typable cX3_typable 3 (some .int), Cond.fieldLink RX3 25 "TypecheckStation$Program" "size" "I", Cond.methodLink RX3 64 yX3_checked, Cond.instanceMethod yX3_checked, Cond.selects RX3 yX3_checked yX3_checked, Cond.code yX3_checked cX3_checked 6 (some (.object "TypecheckStation$Findings")), Cond.fieldLink RX3 11 "TypecheckStation$Program" "functions" "[LTypecheckStation$Function;", Cond.fieldLink RX3 21 "TypecheckStation$Program" "findings" "LTypecheckStation$Findings;", Cond.fieldLink RX3 33 "TypecheckStation$Function" "in" "I", Cond.fieldLink RX3 46 "TypecheckStation$Function" "size" "I"]
def wsX3_afterStepsChanged_r2 : List Cond := [Cond.fieldLink RX3 47 "TypecheckStation$Function" "steps" "[I", Cond.fieldLink RX3 40 "TypecheckStation$Function" "out" "I", Cond.methodLink RX3 57 yX1_clear, Cond.instanceMethod yX1_clear, Cond.selects RX1 yX1_clear yX1_clear, Cond.initialized RX1, Cond.code yX1_clear cX1_clear 1 none, Cond.fieldLink RX1 9 "TypecheckStation$Findings" "faults" "I", Cond.fieldLink RX1 15 "TypecheckStation$Findings" "firstFault" "I", Cond.fieldLink RX1 18 "TypecheckStation$Findings" "loose" "I", Cond.methodLink RX3 51 yX3_needOf, Cond.instanceMethod yX3_needOf, Cond.selects RX3 yX3_needOf yX3_needOf, Cond.code yX3_needOf cX3_needOf 2 (some .int), Cond.static yX5_isCall, Cond.initialized RX5, Cond.code yX5_isCall cX5_isCall 1 (some .boolean), Cond.static yX5_plainNeed, Cond.code yX5_plainNeed cX5_plainNeed 1 (some .int), Cond.methodLink RX3 60 yX1_need, Cond.instanceMethod yX1_need, Cond.selects RX1 yX1_need yX1_need, Cond.code yX1_need cX1_need 4 none, Cond.methodLink RX3 54 yX3_giftOf]
def wsX3_afterStepsChanged_r3 : List Cond := [Cond.instanceMethod yX3_giftOf, Cond.selects RX3 yX3_giftOf yX3_giftOf, Cond.code yX3_giftOf cX3_giftOf 2 (some .int), Cond.static yX5_plainGift, Cond.code yX5_plainGift cX5_plainGift 1 (some .int), Cond.methodLink RX3 68 yX1_areNone, Cond.instanceMethod yX1_areNone, Cond.selects RX1 yX1_areNone yX1_areNone, Cond.code yX1_areNone cX1_areNone 1 (some .boolean), Cond.static yX5_with, Cond.code yX5_with cX5_with 2 (some .int), Cond.methodLink RX3 101 yJ6_bitCount_0f7a4, Cond.static yJ6_bitCount_0f7a4, Cond.initialized RJ6, Cond.code yJ6_bitCount_0f7a4 cJ6_bitCount_0f7a4 1 (some .int), Cond.constant RJ6 265 (1431655765), Cond.constant RJ6 266 (858993459), Cond.constant RJ6 267 (252645135)]
def wsX3_afterStepsChanged : List Cond := .code yX3_afterStepsChanged cX3_afterStepsChanged 1 none :: ((wsX3_afterStepsChanged_r1 ++ (wsX3_afterStepsChanged_r2 ++ wsX3_afterStepsChanged_r3)) ++ wsX30 ++ wsX20 ++ wsX10)
def wsX3_changeHints : List Cond := .code yX3_changeHints cX3_changeHints 6 (some .int) :: ([.fieldLink RX3 11 "TypecheckStation$Program" "functions" "[LTypecheckStation$Function;", .fieldLink RX3 33 "TypecheckStation$Function" "in" "I", .fieldLink RX3 40 "TypecheckStation$Function" "out" "I", .fieldLink RX3 82 "TypecheckStation$Program" "checks" "I", .methodLink RX3 89 yX3_callersOf, .instanceMethod yX3_callersOf, .selects RX3 yX3_callersOf yX3_callersOf, .initialized RX3, .code yX3_callersOf cX3_callersOf 4 (some .int), .fieldLink RX3 25 "TypecheckStation$Program" "size" "I", .methodLink RX3 79 yX2_mentions, .instanceMethod yX2_mentions, .selects RX2 yX2_mentions yX2_mentions, .initialized RX2, .code yX2_mentions cX2_mentions 3 (some .boolean), .fieldLink RX2 22 "TypecheckStation$Function" "size" "I", .fieldLink RX2 9 "TypecheckStation$Function" "steps" "[I"] ++ wsX30 ++ wsX20)
def wsX3_untypableWith_r1 : List Cond := [Cond.fieldLink RX3 11 "TypecheckStation$Program" "functions" "[LTypecheckStation$Function;", Cond.fieldLink RX3 33 "TypecheckStation$Function" "in" "I", Cond.fieldLink RX3 40 "TypecheckStation$Function" "out" "I", Cond.methodLink RX3 98 yX3_untypable, Cond.instanceMethod yX3_untypable, Cond.selects RX3 yX3_untypable yX3_untypable, Cond.initialized RX3, Cond.code yX3_untypable cX3_untypable 1 (some .int), Cond.fieldLink RX3 92 "TypecheckStation$Program" "typed" "I", Cond.methodLink RX3 95 yX3_typable, Cond.instanceMethod yX3_typable, Cond.selects RX3 yX3_typable yX3_typable, Cond.code yX3_typable cX3_typable 3 (some .int), Cond.fieldLink RX3 25 "TypecheckStation$Program" "size" "I", Cond.methodLink RX3 64 yX3_checked, Cond.instanceMethod yX3_checked, Cond.selects RX3 yX3_checked yX3_checked, Cond.code yX3_checked cX3_checked 6 (some (.object "TypecheckStation$Findings")), Cond.fieldLink RX3 21 "TypecheckStation$Program" "findings" "LTypecheckStation$Findings;", Cond.fieldLink RX3 46 "TypecheckStation$Function" "size" "I", Cond.fieldLink RX3 47 "TypecheckStation$Function" "steps" "[I", Cond.methodLink RX3 57 yX1_clear, Cond.instanceMethod yX1_clear, Cond.selects RX1 yX1_clear yX1_clear]
def wsX3_untypableWith_r2 : List Cond := [Cond.initialized RX1, Cond.code yX1_clear cX1_clear 1 none, Cond.fieldLink RX1 9 "TypecheckStation$Findings" "faults" "I", Cond.fieldLink RX1 15 "TypecheckStation$Findings" "firstFault" "I", Cond.fieldLink RX1 18 "TypecheckStation$Findings" "loose" "I", Cond.methodLink RX3 51 yX3_needOf, Cond.instanceMethod yX3_needOf, Cond.selects RX3 yX3_needOf yX3_needOf, Cond.code yX3_needOf cX3_needOf 2 (some .int), Cond.static yX5_isCall, Cond.initialized RX5, Cond.code yX5_isCall cX5_isCall 1 (some .boolean), Cond.static yX5_plainNeed, Cond.code yX5_plainNeed cX5_plainNeed 1 (some .int), Cond.methodLink RX3 60 yX1_need, Cond.instanceMethod yX1_need, Cond.selects RX1 yX1_need yX1_need, Cond.code yX1_need cX1_need 4 none, Cond.methodLink RX3 54 yX3_giftOf, Cond.instanceMethod yX3_giftOf, Cond.selects RX3 yX3_giftOf yX3_giftOf, Cond.code yX3_giftOf cX3_giftOf 2 (some .int), Cond.static yX5_plainGift, Cond.code yX5_plainGift cX5_plainGift 1 (some .int)]
def wsX3_untypableWith_r3 : List Cond := [Cond.methodLink RX3 68 yX1_areNone, Cond.instanceMethod yX1_areNone, Cond.selects RX1 yX1_areNone yX1_areNone, Cond.code yX1_areNone cX1_areNone 1 (some .boolean), Cond.static yX5_with, Cond.code yX5_with cX5_with 2 (some .int)]
def wsX3_untypableWith : List Cond := .code yX3_untypableWith cX3_untypableWith 8 (some .int) :: ((wsX3_untypableWith_r1 ++ (wsX3_untypableWith_r2 ++ wsX3_untypableWith_r3)) ++ wsX30 ++ wsX20 ++ wsX10)
def wsX5_has : List Cond := .code yX5_has cX5_has 2 (some .boolean) :: ([])
def wsX3_guardsCall : List Cond := .code yX3_guardsCall cX3_guardsCall 4 (some .boolean) :: ([.fieldLink RX3 11 "TypecheckStation$Program" "functions" "[LTypecheckStation$Function;", .fieldLink RX3 33 "TypecheckStation$Function" "in" "I", .static yX5_has, .initialized RX5, .code yX5_has cX5_has 2 (some .boolean)] ++ wsX30 ++ wsX20)
def wsX3_guardsGive : List Cond := .code yX3_guardsGive cX3_guardsGive 4 (some .boolean) :: ([.fieldLink RX3 11 "TypecheckStation$Program" "functions" "[LTypecheckStation$Function;", .fieldLink RX3 40 "TypecheckStation$Function" "out" "I", .static yX5_has, .initialized RX5, .code yX5_has cX5_has 2 (some .boolean)] ++ wsX30 ++ wsX20)
def wsX4_init : List Cond := .code yX4_init cX4_init 2 none :: ([.methodLink RX4 3 objectInit, .instanceMethod objectInit, .code objectInit ⟨#[0xb1]⟩ 1 none, .fieldLink RX4 9 "TypecheckStation$Trial" "program" "LTypecheckStation$Program;", .fieldLink RX4 19 "TypecheckStation$Trial" "calls" "[[I", .static yX5_newCallTable, .initialized RX5, .code yX5_newCallTable cX5_newCallTable 0 (some (.array (.array .int))), .classLink RX5 282 "[[I", .arrayClass .int] ++ wsX40)
def wsX4_clear : List Cond := .code yX4_clear cX4_clear 3 none :: ([.fieldLink RX4 19 "TypecheckStation$Trial" "calls" "[[I", .fieldLink RX4 40 "TypecheckStation$Trial" "begun" "I", .fieldLink RX4 43 "TypecheckStation$Trial" "looked" "I", .fieldLink RX4 46 "TypecheckStation$Trial" "skipped" "I", .fieldLink RX4 49 "TypecheckStation$Trial" "deepest" "I", .fieldLink RX4 52 "TypecheckStation$Trial" "failure" "I", .fieldLink RX4 55 "TypecheckStation$Trial" "blame" "I", .fieldLink RX4 58 "TypecheckStation$Trial" "hasSuspect" "Z", .fieldLink RX4 62 "TypecheckStation$Trial" "suspect" "I"] ++ wsX40)
def wsX4_fail : List Cond := .code yX4_fail cX4_fail 3 none :: ([.fieldLink RX4 52 "TypecheckStation$Trial" "failure" "I", .fieldLink RX4 55 "TypecheckStation$Trial" "blame" "I"] ++ wsX40)
def wsX4_shownLength : List Cond := .code yX4_shownLength cX4_shownLength 2 (some .int) :: ([.fieldLink RX4 30 "TypecheckStation$Trial" "type" "I", .fieldLink RX4 33 "TypecheckStation$Trial" "number" "I", .methodLink RX4 143 Lib.Math.abs.name, .static Lib.Math.abs.name, .initialized "java/lang/Math", .code Lib.Math.abs.name Lib.Math.abs.code 1 (some .int)] ++ wsX40)
def wsX4_made : List Cond := .code yX4_made cX4_made 2 (some .int) :: ([.fieldLink RX4 33 "TypecheckStation$Trial" "number" "I", .methodLink RX4 69 Lib.Math.max.name, .static Lib.Math.max.name, .initialized "java/lang/Math", .code Lib.Math.max.name Lib.Math.max.code 2 (some .int), .methodLink RX4 140 Lib.Math.min.name, .static Lib.Math.min.name, .code Lib.Math.min.name Lib.Math.min.code 2 (some .int), .methodLink RX4 136 yX4_shownLength, .instanceMethod yX4_shownLength, .selects RX4 yX4_shownLength yX4_shownLength, .initialized RX4, .code yX4_shownLength cX4_shownLength 2 (some .int), .fieldLink RX4 30 "TypecheckStation$Trial" "type" "I", .methodLink RX4 143 Lib.Math.abs.name, .static Lib.Math.abs.name, .code Lib.Math.abs.name Lib.Math.abs.code 1 (some .int)] ++ wsX40)
def wsX5_rowOf : List Cond := .code yX5_rowOf cX5_rowOf 1 (some .int) :: ([])
def wsX4_guard : List Cond := .code yX4_guard cX4_guard 5 none :: ([.fieldLink RX4 30 "TypecheckStation$Trial" "type" "I", .fieldLink RX4 43 "TypecheckStation$Trial" "looked" "I", .fieldLink RX4 26 "TypecheckStation$Trial" "budget" "I", .fieldLink RX4 46 "TypecheckStation$Trial" "skipped" "I", .fieldLink RX4 58 "TypecheckStation$Trial" "hasSuspect" "Z", .fieldLink RX4 62 "TypecheckStation$Trial" "suspect" "I", .methodLink RX4 65 yX4_fail, .instanceMethod yX4_fail, .selects RX4 yX4_fail yX4_fail, .initialized RX4, .code yX4_fail cX4_fail 3 none, .fieldLink RX4 52 "TypecheckStation$Trial" "failure" "I", .fieldLink RX4 55 "TypecheckStation$Trial" "blame" "I"] ++ wsX40)
def wsX4_begin_r1 : List Cond := [Cond.fieldLink RX4 40 "TypecheckStation$Trial" "begun" "I", Cond.fieldLink RX4 30 "TypecheckStation$Trial" "type" "I", Cond.fieldLink RX4 9 "TypecheckStation$Trial" "program" "LTypecheckStation$Program;", Cond.fieldLink RX4 79 "TypecheckStation$Program" "typed" "I", Cond.fieldLink RX4 62 "TypecheckStation$Trial" "suspect" "I", Cond.fieldLink RX4 33 "TypecheckStation$Trial" "number" "I", Cond.methodLink RX4 65 yX4_fail, Cond.instanceMethod yX4_fail, Cond.selects RX4 yX4_fail yX4_fail, Cond.initialized RX4, Cond.code yX4_fail cX4_fail 3 none, Cond.fieldLink RX4 52 "TypecheckStation$Trial" "failure" "I", Cond.fieldLink RX4 55 "TypecheckStation$Trial" "blame" "I", Cond.static yX5_isCall, Cond.initialized RX5, Cond.code yX5_isCall cX5_isCall 1 (some .boolean), Cond.methodLink RX4 36 yX4_enter, Cond.instanceMethod yX4_enter, Cond.selects RX4 yX4_enter yX4_enter, Cond.static yX5_plainNeed, Cond.code yX5_plainNeed cX5_plainNeed 1 (some .int), Cond.static yX5_has, Cond.code yX5_has cX5_has 2 (some .boolean), Cond.methodLink RX4 130 yX4_made]
def wsX4_begin_r2 : List Cond := [Cond.instanceMethod yX4_made, Cond.selects RX4 yX4_made yX4_made, Cond.code yX4_made cX4_made 2 (some .int), Cond.methodLink RX4 69 Lib.Math.max.name, Cond.static Lib.Math.max.name, Cond.initialized "java/lang/Math", Cond.code Lib.Math.max.name Lib.Math.max.code 2 (some .int), Cond.methodLink RX4 140 Lib.Math.min.name, Cond.static Lib.Math.min.name, Cond.code Lib.Math.min.name Lib.Math.min.code 2 (some .int), Cond.methodLink RX4 136 yX4_shownLength, Cond.instanceMethod yX4_shownLength, Cond.selects RX4 yX4_shownLength yX4_shownLength, Cond.code yX4_shownLength cX4_shownLength 2 (some .int), Cond.methodLink RX4 143 Lib.Math.abs.name, Cond.static Lib.Math.abs.name, Cond.code Lib.Math.abs.name Lib.Math.abs.code 1 (some .int), Cond.static yX5_plainGift, Cond.code yX5_plainGift cX5_plainGift 1 (some .int), Cond.code yX4_enter cX4_enter 4 none, Cond.fieldLink RX4 49 "TypecheckStation$Trial" "deepest" "I", Cond.fieldLink RX4 19 "TypecheckStation$Trial" "calls" "[[I", Cond.fieldLink RX4 88 "TypecheckStation$Program" "functions" "[LTypecheckStation$Function;", Cond.fieldLink RX4 92 "TypecheckStation$Function" "in" "I"]
def wsX4_begin_r3 : List Cond := [Cond.fieldLink RX4 106 "TypecheckStation$Function" "out" "I", Cond.static yX5_rowOf, Cond.code yX5_rowOf cX5_rowOf 1 (some .int), Cond.methodLink RX4 84 yX3_guardsCall, Cond.instanceMethod yX3_guardsCall, Cond.selects RX3 yX3_guardsCall yX3_guardsCall, Cond.initialized RX3, Cond.code yX3_guardsCall cX3_guardsCall 4 (some .boolean), Cond.fieldLink RX3 11 "TypecheckStation$Program" "functions" "[LTypecheckStation$Function;", Cond.fieldLink RX3 33 "TypecheckStation$Function" "in" "I", Cond.methodLink RX4 97 yX4_guard, Cond.instanceMethod yX4_guard, Cond.selects RX4 yX4_guard yX4_guard, Cond.code yX4_guard cX4_guard 5 none, Cond.fieldLink RX4 43 "TypecheckStation$Trial" "looked" "I", Cond.fieldLink RX4 26 "TypecheckStation$Trial" "budget" "I", Cond.fieldLink RX4 46 "TypecheckStation$Trial" "skipped" "I", Cond.fieldLink RX4 58 "TypecheckStation$Trial" "hasSuspect" "Z", Cond.methodLink RX4 100 yX4_goThrough, Cond.instanceMethod yX4_goThrough, Cond.selects RX4 yX4_goThrough yX4_goThrough, Cond.methodLink RX4 103 yX3_guardsGive, Cond.instanceMethod yX3_guardsGive, Cond.selects RX3 yX3_guardsGive yX3_guardsGive]
def wsX4_begin_r4 : List Cond := [Cond.code yX3_guardsGive cX3_guardsGive 4 (some .boolean), Cond.fieldLink RX3 40 "TypecheckStation$Function" "out" "I", Cond.code yX4_goThrough cX4_goThrough 5 none, Cond.fieldLink RX4 109 "TypecheckStation$Function" "size" "I", Cond.fieldLink RX4 112 "TypecheckStation$Function" "steps" "[I", Cond.methodLink RX4 116 yX4_begin, Cond.instanceMethod yX4_begin, Cond.selects RX4 yX4_begin yX4_begin]
def wsX4_begin : List Cond := .code yX4_begin cX4_begin 5 none :: ((wsX4_begin_r1 ++ (wsX4_begin_r2 ++ (wsX4_begin_r3 ++ wsX4_begin_r4))) ++ wsX40 ++ wsX30 ++ wsX20)
def wsX4_enter_r1 : List Cond := [Cond.fieldLink RX4 49 "TypecheckStation$Trial" "deepest" "I", Cond.methodLink RX4 69 Lib.Math.max.name, Cond.static Lib.Math.max.name, Cond.initialized "java/lang/Math", Cond.code Lib.Math.max.name Lib.Math.max.code 2 (some .int), Cond.fieldLink RX4 19 "TypecheckStation$Trial" "calls" "[[I", Cond.fieldLink RX4 9 "TypecheckStation$Trial" "program" "LTypecheckStation$Program;", Cond.fieldLink RX4 79 "TypecheckStation$Program" "typed" "I", Cond.fieldLink RX4 88 "TypecheckStation$Program" "functions" "[LTypecheckStation$Function;", Cond.fieldLink RX4 92 "TypecheckStation$Function" "in" "I", Cond.fieldLink RX4 52 "TypecheckStation$Trial" "failure" "I", Cond.fieldLink RX4 106 "TypecheckStation$Function" "out" "I", Cond.methodLink RX4 65 yX4_fail, Cond.instanceMethod yX4_fail, Cond.selects RX4 yX4_fail yX4_fail, Cond.initialized RX4, Cond.code yX4_fail cX4_fail 3 none, Cond.fieldLink RX4 55 "TypecheckStation$Trial" "blame" "I", Cond.static yX5_rowOf, Cond.initialized RX5, Cond.code yX5_rowOf cX5_rowOf 1 (some .int), Cond.methodLink RX4 84 yX3_guardsCall, Cond.instanceMethod yX3_guardsCall, Cond.selects RX3 yX3_guardsCall yX3_guardsCall]
def wsX4_enter_r2 : List Cond := [Cond.initialized RX3, Cond.code yX3_guardsCall cX3_guardsCall 4 (some .boolean), Cond.fieldLink RX3 11 "TypecheckStation$Program" "functions" "[LTypecheckStation$Function;", Cond.fieldLink RX3 33 "TypecheckStation$Function" "in" "I", Cond.static yX5_has, Cond.code yX5_has cX5_has 2 (some .boolean), Cond.methodLink RX4 97 yX4_guard, Cond.instanceMethod yX4_guard, Cond.selects RX4 yX4_guard yX4_guard, Cond.code yX4_guard cX4_guard 5 none, Cond.fieldLink RX4 30 "TypecheckStation$Trial" "type" "I", Cond.fieldLink RX4 43 "TypecheckStation$Trial" "looked" "I", Cond.fieldLink RX4 26 "TypecheckStation$Trial" "budget" "I", Cond.fieldLink RX4 46 "TypecheckStation$Trial" "skipped" "I", Cond.fieldLink RX4 58 "TypecheckStation$Trial" "hasSuspect" "Z", Cond.fieldLink RX4 62 "TypecheckStation$Trial" "suspect" "I", Cond.methodLink RX4 100 yX4_goThrough, Cond.instanceMethod yX4_goThrough, Cond.selects RX4 yX4_goThrough yX4_goThrough, Cond.methodLink RX4 103 yX3_guardsGive, Cond.instanceMethod yX3_guardsGive, Cond.selects RX3 yX3_guardsGive yX3_guardsGive, Cond.code yX3_guardsGive cX3_guardsGive 4 (some .boolean), Cond.fieldLink RX3 40 "TypecheckStation$Function" "out" "I"]
def wsX4_enter_r3 : List Cond := [Cond.code yX4_begin cX4_begin 5 none, Cond.fieldLink RX4 40 "TypecheckStation$Trial" "begun" "I", Cond.fieldLink RX4 33 "TypecheckStation$Trial" "number" "I", Cond.static yX5_isCall, Cond.code yX5_isCall cX5_isCall 1 (some .boolean), Cond.methodLink RX4 36 yX4_enter, Cond.instanceMethod yX4_enter, Cond.selects RX4 yX4_enter yX4_enter, Cond.static yX5_plainNeed, Cond.code yX5_plainNeed cX5_plainNeed 1 (some .int), Cond.methodLink RX4 130 yX4_made, Cond.instanceMethod yX4_made, Cond.selects RX4 yX4_made yX4_made, Cond.code yX4_made cX4_made 2 (some .int), Cond.methodLink RX4 140 Lib.Math.min.name, Cond.static Lib.Math.min.name, Cond.code Lib.Math.min.name Lib.Math.min.code 2 (some .int), Cond.methodLink RX4 136 yX4_shownLength, Cond.instanceMethod yX4_shownLength, Cond.selects RX4 yX4_shownLength yX4_shownLength, Cond.code yX4_shownLength cX4_shownLength 2 (some .int), Cond.methodLink RX4 143 Lib.Math.abs.name, Cond.static Lib.Math.abs.name, Cond.code Lib.Math.abs.name Lib.Math.abs.code 1 (some .int)]
def wsX4_enter_r4 : List Cond := [Cond.static yX5_plainGift, Cond.code yX5_plainGift cX5_plainGift 1 (some .int), Cond.code yX4_goThrough cX4_goThrough 5 none, Cond.fieldLink RX4 109 "TypecheckStation$Function" "size" "I", Cond.fieldLink RX4 112 "TypecheckStation$Function" "steps" "[I", Cond.methodLink RX4 116 yX4_begin, Cond.instanceMethod yX4_begin, Cond.selects RX4 yX4_begin yX4_begin]
def wsX4_enter : List Cond := .code yX4_enter cX4_enter 4 none :: ((wsX4_enter_r1 ++ (wsX4_enter_r2 ++ (wsX4_enter_r3 ++ wsX4_enter_r4))) ++ wsX40 ++ wsX30 ++ wsX20)
def wsX4_goThrough_r1 : List Cond := [Cond.fieldLink RX4 9 "TypecheckStation$Trial" "program" "LTypecheckStation$Program;", Cond.fieldLink RX4 88 "TypecheckStation$Program" "functions" "[LTypecheckStation$Function;", Cond.fieldLink RX4 109 "TypecheckStation$Function" "size" "I", Cond.fieldLink RX4 52 "TypecheckStation$Trial" "failure" "I", Cond.fieldLink RX4 112 "TypecheckStation$Function" "steps" "[I", Cond.methodLink RX4 116 yX4_begin, Cond.instanceMethod yX4_begin, Cond.selects RX4 yX4_begin yX4_begin, Cond.initialized RX4, Cond.code yX4_begin cX4_begin 5 none, Cond.fieldLink RX4 40 "TypecheckStation$Trial" "begun" "I", Cond.fieldLink RX4 30 "TypecheckStation$Trial" "type" "I", Cond.fieldLink RX4 79 "TypecheckStation$Program" "typed" "I", Cond.fieldLink RX4 62 "TypecheckStation$Trial" "suspect" "I", Cond.fieldLink RX4 33 "TypecheckStation$Trial" "number" "I", Cond.methodLink RX4 65 yX4_fail, Cond.instanceMethod yX4_fail, Cond.selects RX4 yX4_fail yX4_fail, Cond.code yX4_fail cX4_fail 3 none, Cond.fieldLink RX4 55 "TypecheckStation$Trial" "blame" "I", Cond.static yX5_isCall, Cond.initialized RX5, Cond.code yX5_isCall cX5_isCall 1 (some .boolean), Cond.methodLink RX4 36 yX4_enter]
def wsX4_goThrough_r2 : List Cond := [Cond.instanceMethod yX4_enter, Cond.selects RX4 yX4_enter yX4_enter, Cond.static yX5_plainNeed, Cond.code yX5_plainNeed cX5_plainNeed 1 (some .int), Cond.static yX5_has, Cond.code yX5_has cX5_has 2 (some .boolean), Cond.methodLink RX4 130 yX4_made, Cond.instanceMethod yX4_made, Cond.selects RX4 yX4_made yX4_made, Cond.code yX4_made cX4_made 2 (some .int), Cond.methodLink RX4 69 Lib.Math.max.name, Cond.static Lib.Math.max.name, Cond.initialized "java/lang/Math", Cond.code Lib.Math.max.name Lib.Math.max.code 2 (some .int), Cond.methodLink RX4 140 Lib.Math.min.name, Cond.static Lib.Math.min.name, Cond.code Lib.Math.min.name Lib.Math.min.code 2 (some .int), Cond.methodLink RX4 136 yX4_shownLength, Cond.instanceMethod yX4_shownLength, Cond.selects RX4 yX4_shownLength yX4_shownLength, Cond.code yX4_shownLength cX4_shownLength 2 (some .int), Cond.methodLink RX4 143 Lib.Math.abs.name, Cond.static Lib.Math.abs.name, Cond.code Lib.Math.abs.name Lib.Math.abs.code 1 (some .int)]
def wsX4_goThrough_r3 : List Cond := [Cond.static yX5_plainGift, Cond.code yX5_plainGift cX5_plainGift 1 (some .int), Cond.code yX4_enter cX4_enter 4 none, Cond.fieldLink RX4 49 "TypecheckStation$Trial" "deepest" "I", Cond.fieldLink RX4 19 "TypecheckStation$Trial" "calls" "[[I", Cond.fieldLink RX4 92 "TypecheckStation$Function" "in" "I", Cond.fieldLink RX4 106 "TypecheckStation$Function" "out" "I", Cond.static yX5_rowOf, Cond.code yX5_rowOf cX5_rowOf 1 (some .int), Cond.methodLink RX4 84 yX3_guardsCall, Cond.instanceMethod yX3_guardsCall, Cond.selects RX3 yX3_guardsCall yX3_guardsCall, Cond.initialized RX3, Cond.code yX3_guardsCall cX3_guardsCall 4 (some .boolean), Cond.fieldLink RX3 11 "TypecheckStation$Program" "functions" "[LTypecheckStation$Function;", Cond.fieldLink RX3 33 "TypecheckStation$Function" "in" "I", Cond.methodLink RX4 97 yX4_guard, Cond.instanceMethod yX4_guard, Cond.selects RX4 yX4_guard yX4_guard, Cond.code yX4_guard cX4_guard 5 none, Cond.fieldLink RX4 43 "TypecheckStation$Trial" "looked" "I", Cond.fieldLink RX4 26 "TypecheckStation$Trial" "budget" "I", Cond.fieldLink RX4 46 "TypecheckStation$Trial" "skipped" "I", Cond.fieldLink RX4 58 "TypecheckStation$Trial" "hasSuspect" "Z"]
def wsX4_goThrough_r4 : List Cond := [Cond.methodLink RX4 100 yX4_goThrough, Cond.instanceMethod yX4_goThrough, Cond.selects RX4 yX4_goThrough yX4_goThrough, Cond.methodLink RX4 103 yX3_guardsGive, Cond.instanceMethod yX3_guardsGive, Cond.selects RX3 yX3_guardsGive yX3_guardsGive, Cond.code yX3_guardsGive cX3_guardsGive 4 (some .boolean), Cond.fieldLink RX3 40 "TypecheckStation$Function" "out" "I"]
def wsX4_goThrough : List Cond := .code yX4_goThrough cX4_goThrough 5 none :: ((wsX4_goThrough_r1 ++ (wsX4_goThrough_r2 ++ (wsX4_goThrough_r3 ++ wsX4_goThrough_r4))) ++ wsX40 ++ wsX30 ++ wsX20)
def wsX4_tryOut_r1 : List Cond := [Cond.fieldLink RX4 26 "TypecheckStation$Trial" "budget" "I", Cond.fieldLink RX4 30 "TypecheckStation$Trial" "type" "I", Cond.fieldLink RX4 33 "TypecheckStation$Trial" "number" "I", Cond.methodLink RX4 23 yX4_clear, Cond.instanceMethod yX4_clear, Cond.selects RX4 yX4_clear yX4_clear, Cond.initialized RX4, Cond.code yX4_clear cX4_clear 3 none, Cond.fieldLink RX4 19 "TypecheckStation$Trial" "calls" "[[I", Cond.fieldLink RX4 40 "TypecheckStation$Trial" "begun" "I", Cond.fieldLink RX4 43 "TypecheckStation$Trial" "looked" "I", Cond.fieldLink RX4 46 "TypecheckStation$Trial" "skipped" "I", Cond.fieldLink RX4 49 "TypecheckStation$Trial" "deepest" "I", Cond.fieldLink RX4 52 "TypecheckStation$Trial" "failure" "I", Cond.fieldLink RX4 55 "TypecheckStation$Trial" "blame" "I", Cond.fieldLink RX4 58 "TypecheckStation$Trial" "hasSuspect" "Z", Cond.fieldLink RX4 62 "TypecheckStation$Trial" "suspect" "I", Cond.methodLink RX4 36 yX4_enter, Cond.instanceMethod yX4_enter, Cond.selects RX4 yX4_enter yX4_enter, Cond.code yX4_enter cX4_enter 4 none, Cond.methodLink RX4 69 Lib.Math.max.name, Cond.static Lib.Math.max.name, Cond.initialized "java/lang/Math"]
def wsX4_tryOut_r2 : List Cond := [Cond.code Lib.Math.max.name Lib.Math.max.code 2 (some .int), Cond.fieldLink RX4 9 "TypecheckStation$Trial" "program" "LTypecheckStation$Program;", Cond.fieldLink RX4 79 "TypecheckStation$Program" "typed" "I", Cond.fieldLink RX4 88 "TypecheckStation$Program" "functions" "[LTypecheckStation$Function;", Cond.fieldLink RX4 92 "TypecheckStation$Function" "in" "I", Cond.fieldLink RX4 106 "TypecheckStation$Function" "out" "I", Cond.methodLink RX4 65 yX4_fail, Cond.instanceMethod yX4_fail, Cond.selects RX4 yX4_fail yX4_fail, Cond.code yX4_fail cX4_fail 3 none, Cond.static yX5_rowOf, Cond.initialized RX5, Cond.code yX5_rowOf cX5_rowOf 1 (some .int), Cond.methodLink RX4 84 yX3_guardsCall, Cond.instanceMethod yX3_guardsCall, Cond.selects RX3 yX3_guardsCall yX3_guardsCall, Cond.initialized RX3, Cond.code yX3_guardsCall cX3_guardsCall 4 (some .boolean), Cond.fieldLink RX3 11 "TypecheckStation$Program" "functions" "[LTypecheckStation$Function;", Cond.fieldLink RX3 33 "TypecheckStation$Function" "in" "I", Cond.static yX5_has, Cond.code yX5_has cX5_has 2 (some .boolean), Cond.methodLink RX4 97 yX4_guard, Cond.instanceMethod yX4_guard]
def wsX4_tryOut_r3 : List Cond := [Cond.selects RX4 yX4_guard yX4_guard, Cond.code yX4_guard cX4_guard 5 none, Cond.methodLink RX4 100 yX4_goThrough, Cond.instanceMethod yX4_goThrough, Cond.selects RX4 yX4_goThrough yX4_goThrough, Cond.methodLink RX4 103 yX3_guardsGive, Cond.instanceMethod yX3_guardsGive, Cond.selects RX3 yX3_guardsGive yX3_guardsGive, Cond.code yX3_guardsGive cX3_guardsGive 4 (some .boolean), Cond.fieldLink RX3 40 "TypecheckStation$Function" "out" "I", Cond.code yX4_begin cX4_begin 5 none, Cond.static yX5_isCall, Cond.code yX5_isCall cX5_isCall 1 (some .boolean), Cond.static yX5_plainNeed, Cond.code yX5_plainNeed cX5_plainNeed 1 (some .int), Cond.methodLink RX4 130 yX4_made, Cond.instanceMethod yX4_made, Cond.selects RX4 yX4_made yX4_made, Cond.code yX4_made cX4_made 2 (some .int), Cond.methodLink RX4 140 Lib.Math.min.name, Cond.static Lib.Math.min.name, Cond.code Lib.Math.min.name Lib.Math.min.code 2 (some .int), Cond.methodLink RX4 136 yX4_shownLength, Cond.instanceMethod yX4_shownLength]
def wsX4_tryOut_r4 : List Cond := [Cond.selects RX4 yX4_shownLength yX4_shownLength, Cond.code yX4_shownLength cX4_shownLength 2 (some .int), Cond.methodLink RX4 143 Lib.Math.abs.name, Cond.static Lib.Math.abs.name, Cond.code Lib.Math.abs.name Lib.Math.abs.code 1 (some .int), Cond.static yX5_plainGift, Cond.code yX5_plainGift cX5_plainGift 1 (some .int), Cond.code yX4_goThrough cX4_goThrough 5 none, Cond.fieldLink RX4 109 "TypecheckStation$Function" "size" "I", Cond.fieldLink RX4 112 "TypecheckStation$Function" "steps" "[I", Cond.methodLink RX4 116 yX4_begin, Cond.instanceMethod yX4_begin, Cond.selects RX4 yX4_begin yX4_begin]
def wsX4_tryOut : List Cond := .code yX4_tryOut cX4_tryOut 5 none :: ((wsX4_tryOut_r1 ++ (wsX4_tryOut_r2 ++ (wsX4_tryOut_r3 ++ wsX4_tryOut_r4))) ++ wsX40 ++ wsX30 ++ wsX20)
def wsX5_init_r1 : List Cond := [Cond.methodLink RX5 1 objectInit, Cond.instanceMethod objectInit, Cond.code objectInit ⟨#[0xb1]⟩ 1 none, Cond.classLink RX5 7 RX3, Cond.instantiable RX3 5, Cond.initialized RX3, Cond.fieldLink RX5 10 "TypecheckStation" "program" "LTypecheckStation$Program;", Cond.classLink RX5 16 RX4, Cond.instantiable RX4 13, Cond.initialized RX4, Cond.fieldLink RX5 21 "TypecheckStation" "trial" "LTypecheckStation$Trial;", Cond.classLink RX5 25 RX0, Cond.instantiable RX0 6, Cond.initialized RX0, Cond.fieldLink RX5 28 "TypecheckStation" "books" "LTypecheckStation$Books;", Cond.fieldLink RX5 32 "TypecheckStation" "budget" "I", Cond.methodLink RX5 9 yX3_init, Cond.instanceMethod yX3_init, Cond.code yX3_init cX3_init 2 none, Cond.methodLink RX3 3 objectInit, Cond.classLink RX3 9 RX2, Cond.fieldLink RX3 11 "TypecheckStation$Program" "functions" "[LTypecheckStation$Function;", Cond.instantiable RX2 4, Cond.initialized RX2]
def wsX5_init_r2 : List Cond := [Cond.classLink RX3 18 RX1, Cond.instantiable RX1 3, Cond.initialized RX1, Cond.fieldLink RX3 21 "TypecheckStation$Program" "findings" "LTypecheckStation$Findings;", Cond.methodLink RX3 17 yX2_init, Cond.instanceMethod yX2_init, Cond.code yX2_init cX2_init 1 none, Cond.methodLink RX2 3 objectInit, Cond.arrayClass .int, Cond.fieldLink RX2 9 "TypecheckStation$Function" "steps" "[I", Cond.fieldLink RX2 15 "TypecheckStation$Function" "in" "I", Cond.fieldLink RX2 19 "TypecheckStation$Function" "out" "I", Cond.instanceMethod yX1_init, Cond.code yX1_init cX1_init 1 none, Cond.methodLink RX1 3 objectInit, Cond.methodLink RX5 18 yX4_init, Cond.instanceMethod yX4_init, Cond.code yX4_init cX4_init 2 none, Cond.methodLink RX4 3 objectInit, Cond.fieldLink RX4 9 "TypecheckStation$Trial" "program" "LTypecheckStation$Program;", Cond.fieldLink RX4 19 "TypecheckStation$Trial" "calls" "[[I", Cond.static yX5_newCallTable, Cond.initialized RX5, Cond.code yX5_newCallTable cX5_newCallTable 0 (some (.array (.array .int)))]
def wsX5_init_r3 : List Cond := [Cond.classLink RX5 282 "[[I", Cond.methodLink RX5 27 yX0_init, Cond.instanceMethod yX0_init, Cond.code yX0_init cX0_init 1 none, Cond.methodLink RX0 3 objectInit, Cond.fieldLink RX0 13 "TypecheckStation$Books" "calls" "[[I", Cond.fieldLink RX0 19 "TypecheckStation$Books" "blames" "[I", Cond.fieldLink RX0 23 "TypecheckStation$Books" "latest" "[I"]
def wsX5_init : List Cond := .code yX5_init cX5_init 1 none :: ((wsX5_init_r1 ++ (wsX5_init_r2 ++ wsX5_init_r3)) ++ wsX30 ++ wsX50 ++ wsX40 ++ wsX00 ++ wsX20 ++ wsX10)
def wsX5_function : List Cond := .code yX5_function cX5_function 1 (some .int) :: ([.classLink RX5 39 "java/lang/IllegalStateException", .initialized "java/lang/IllegalStateException", .fieldLink RX5 10 "TypecheckStation" "program" "LTypecheckStation$Program;", .fieldLink RX5 36 "TypecheckStation$Program" "size" "I"] ++ wsX50 ++ wsX30 ++ (vx_atS RX5 43 "java/lang/IllegalStateException" ["java/lang/RuntimeException", "java/lang/Exception"]).filter goodWord)
def wsX5_requireFunction : List Cond := .code yX5_requireFunction cX5_requireFunction 2 none :: ([.classLink RX5 128 "java/lang/IndexOutOfBoundsException", .initialized "java/lang/IndexOutOfBoundsException", .fieldLink RX5 10 "TypecheckStation" "program" "LTypecheckStation$Program;", .fieldLink RX5 36 "TypecheckStation$Program" "size" "I"] ++ wsX50 ++ wsX30 ++ (vx_atS RX5 132 "java/lang/IndexOutOfBoundsException" ["java/lang/RuntimeException", "java/lang/Exception"]).filter goodWord)
def wsX5_step_r1 : List Cond := [Cond.classLink RX5 54 "java/lang/IllegalArgumentException", Cond.initialized "java/lang/IllegalArgumentException", Cond.classLink RX5 39 "java/lang/IllegalStateException", Cond.initialized "java/lang/IllegalStateException", Cond.fieldLink RX5 10 "TypecheckStation" "program" "LTypecheckStation$Program;", Cond.fieldLink RX5 59 "TypecheckStation$Program" "functions" "[LTypecheckStation$Function;", Cond.fieldLink RX5 63 "TypecheckStation$Function" "size" "I", Cond.fieldLink RX5 68 "TypecheckStation$Function" "steps" "[I", Cond.methodLink RX5 46 yX5_requireFunction, Cond.instanceMethod yX5_requireFunction, Cond.selects RX5 yX5_requireFunction yX5_requireFunction, Cond.initialized RX5, Cond.code yX5_requireFunction cX5_requireFunction 2 none, Cond.classLink RX5 128 "java/lang/IndexOutOfBoundsException", Cond.initialized "java/lang/IndexOutOfBoundsException", Cond.fieldLink RX5 36 "TypecheckStation$Program" "size" "I", Cond.methodLink RX5 50 yX3_isStep, Cond.instanceMethod yX3_isStep, Cond.selects RX3 yX3_isStep yX3_isStep, Cond.initialized RX3, Cond.code yX3_isStep cX3_isStep 2 (some .boolean), Cond.fieldLink RX3 25 "TypecheckStation$Program" "size" "I", Cond.methodLink RX5 72 yX3_afterStepsChanged, Cond.instanceMethod yX3_afterStepsChanged]
def wsX5_step_r2 : List Cond := [Cond.selects RX3 yX3_afterStepsChanged yX3_afterStepsChanged, Cond.code yX3_afterStepsChanged cX3_afterStepsChanged 1 none, Cond.fieldLink RX3 82 "TypecheckStation$Program" "checks" "I", Cond.methodLink RX3 85 yX3_dropUntypable, Cond.instanceMethod yX3_dropUntypable, Cond.selects RX3 yX3_dropUntypable yX3_dropUntypable, Cond.code yX3_dropUntypable cX3_dropUntypable 2 (some .int), Cond.fieldLink RX3 92 "TypecheckStation$Program" "typed" "I", Cond.methodLink RX3 98 yX3_untypable, Cond.instanceMethod yX3_untypable, Cond.selects RX3 yX3_untypable yX3_untypable, Cond.code yX3_untypable cX3_untypable 1 (some .int), Cond.methodLink RX3 95 yX3_typable, Cond.instanceMethod yX3_typable, Cond.selects RX3 yX3_typable yX3_typable, Cond.code yX3_typable cX3_typable 3 (some .int), Cond.methodLink RX3 64 yX3_checked, Cond.instanceMethod yX3_checked, Cond.selects RX3 yX3_checked yX3_checked, Cond.code yX3_checked cX3_checked 6 (some (.object "TypecheckStation$Findings")), Cond.fieldLink RX3 11 "TypecheckStation$Program" "functions" "[LTypecheckStation$Function;", Cond.fieldLink RX3 21 "TypecheckStation$Program" "findings" "LTypecheckStation$Findings;", Cond.fieldLink RX3 33 "TypecheckStation$Function" "in" "I", Cond.fieldLink RX3 46 "TypecheckStation$Function" "size" "I"]
def wsX5_step_r3 : List Cond := [Cond.fieldLink RX3 47 "TypecheckStation$Function" "steps" "[I", Cond.fieldLink RX3 40 "TypecheckStation$Function" "out" "I", Cond.methodLink RX3 57 yX1_clear, Cond.instanceMethod yX1_clear, Cond.selects RX1 yX1_clear yX1_clear, Cond.initialized RX1, Cond.code yX1_clear cX1_clear 1 none, Cond.fieldLink RX1 9 "TypecheckStation$Findings" "faults" "I", Cond.fieldLink RX1 15 "TypecheckStation$Findings" "firstFault" "I", Cond.fieldLink RX1 18 "TypecheckStation$Findings" "loose" "I", Cond.methodLink RX3 51 yX3_needOf, Cond.instanceMethod yX3_needOf, Cond.selects RX3 yX3_needOf yX3_needOf, Cond.code yX3_needOf cX3_needOf 2 (some .int), Cond.static yX5_isCall, Cond.code yX5_isCall cX5_isCall 1 (some .boolean), Cond.static yX5_plainNeed, Cond.code yX5_plainNeed cX5_plainNeed 1 (some .int), Cond.methodLink RX3 60 yX1_need, Cond.instanceMethod yX1_need, Cond.selects RX1 yX1_need yX1_need, Cond.code yX1_need cX1_need 4 none, Cond.methodLink RX3 54 yX3_giftOf, Cond.instanceMethod yX3_giftOf]
def wsX5_step_r4 : List Cond := [Cond.selects RX3 yX3_giftOf yX3_giftOf, Cond.code yX3_giftOf cX3_giftOf 2 (some .int), Cond.static yX5_plainGift, Cond.code yX5_plainGift cX5_plainGift 1 (some .int), Cond.methodLink RX3 68 yX1_areNone, Cond.instanceMethod yX1_areNone, Cond.selects RX1 yX1_areNone yX1_areNone, Cond.code yX1_areNone cX1_areNone 1 (some .boolean), Cond.static yX5_with, Cond.code yX5_with cX5_with 2 (some .int), Cond.methodLink RX3 101 yJ6_bitCount_0f7a4, Cond.static yJ6_bitCount_0f7a4, Cond.initialized RJ6, Cond.code yJ6_bitCount_0f7a4 cJ6_bitCount_0f7a4 1 (some .int), Cond.constant RJ6 265 (1431655765), Cond.constant RJ6 266 (858993459), Cond.constant RJ6 267 (252645135)]
def wsX5_step : List Cond := .code yX5_step cX5_step 4 (some .int) :: ((wsX5_step_r1 ++ (wsX5_step_r2 ++ (wsX5_step_r3 ++ wsX5_step_r4))) ++ wsX50 ++ wsX30 ++ wsX20 ++ wsX10 ++ (vx_atS RX5 58 "java/lang/IllegalArgumentException" ["java/lang/RuntimeException", "java/lang/Exception"]).filter goodWord ++ (vx_atS RX5 43 "java/lang/IllegalStateException" ["java/lang/RuntimeException", "java/lang/Exception"]).filter goodWord ++ (vx_atS RX5 132 "java/lang/IndexOutOfBoundsException" ["java/lang/RuntimeException", "java/lang/Exception"]).filter goodWord)
def wsX5_unstep_r1 : List Cond := [Cond.classLink RX5 39 "java/lang/IllegalStateException", Cond.initialized "java/lang/IllegalStateException", Cond.fieldLink RX5 10 "TypecheckStation" "program" "LTypecheckStation$Program;", Cond.fieldLink RX5 59 "TypecheckStation$Program" "functions" "[LTypecheckStation$Function;", Cond.fieldLink RX5 63 "TypecheckStation$Function" "size" "I", Cond.fieldLink RX5 68 "TypecheckStation$Function" "steps" "[I", Cond.methodLink RX5 46 yX5_requireFunction, Cond.instanceMethod yX5_requireFunction, Cond.selects RX5 yX5_requireFunction yX5_requireFunction, Cond.initialized RX5, Cond.code yX5_requireFunction cX5_requireFunction 2 none, Cond.classLink RX5 128 "java/lang/IndexOutOfBoundsException", Cond.initialized "java/lang/IndexOutOfBoundsException", Cond.fieldLink RX5 36 "TypecheckStation$Program" "size" "I", Cond.methodLink RX5 72 yX3_afterStepsChanged, Cond.instanceMethod yX3_afterStepsChanged, Cond.selects RX3 yX3_afterStepsChanged yX3_afterStepsChanged, Cond.initialized RX3, Cond.code yX3_afterStepsChanged cX3_afterStepsChanged 1 none, Cond.fieldLink RX3 82 "TypecheckStation$Program" "checks" "I", Cond.methodLink RX3 85 yX3_dropUntypable, Cond.instanceMethod yX3_dropUntypable, Cond.selects RX3 yX3_dropUntypable yX3_dropUntypable, Cond.code yX3_dropUntypable cX3_dropUntypable 2 (some .int)]
def wsX5_unstep_r2 : List Cond := [Cond.fieldLink RX3 92 "TypecheckStation$Program" "typed" "I", Cond.methodLink RX3 98 yX3_untypable, Cond.instanceMethod yX3_untypable, Cond.selects RX3 yX3_untypable yX3_untypable, Cond.code yX3_untypable cX3_untypable 1 (some .int), Cond.methodLink RX3 95 yX3_typable, Cond.instanceMethod yX3_typable, Cond.selects RX3 yX3_typable yX3_typable, Cond.code yX3_typable cX3_typable 3 (some .int), Cond.fieldLink RX3 25 "TypecheckStation$Program" "size" "I", Cond.methodLink RX3 64 yX3_checked, Cond.instanceMethod yX3_checked, Cond.selects RX3 yX3_checked yX3_checked, Cond.code yX3_checked cX3_checked 6 (some (.object "TypecheckStation$Findings")), Cond.fieldLink RX3 11 "TypecheckStation$Program" "functions" "[LTypecheckStation$Function;", Cond.fieldLink RX3 21 "TypecheckStation$Program" "findings" "LTypecheckStation$Findings;", Cond.fieldLink RX3 33 "TypecheckStation$Function" "in" "I", Cond.fieldLink RX3 46 "TypecheckStation$Function" "size" "I", Cond.fieldLink RX3 47 "TypecheckStation$Function" "steps" "[I", Cond.fieldLink RX3 40 "TypecheckStation$Function" "out" "I", Cond.methodLink RX3 57 yX1_clear, Cond.instanceMethod yX1_clear, Cond.selects RX1 yX1_clear yX1_clear, Cond.initialized RX1]
def wsX5_unstep_r3 : List Cond := [Cond.code yX1_clear cX1_clear 1 none, Cond.fieldLink RX1 9 "TypecheckStation$Findings" "faults" "I", Cond.fieldLink RX1 15 "TypecheckStation$Findings" "firstFault" "I", Cond.fieldLink RX1 18 "TypecheckStation$Findings" "loose" "I", Cond.methodLink RX3 51 yX3_needOf, Cond.instanceMethod yX3_needOf, Cond.selects RX3 yX3_needOf yX3_needOf, Cond.code yX3_needOf cX3_needOf 2 (some .int), Cond.static yX5_isCall, Cond.code yX5_isCall cX5_isCall 1 (some .boolean), Cond.static yX5_plainNeed, Cond.code yX5_plainNeed cX5_plainNeed 1 (some .int), Cond.methodLink RX3 60 yX1_need, Cond.instanceMethod yX1_need, Cond.selects RX1 yX1_need yX1_need, Cond.code yX1_need cX1_need 4 none, Cond.methodLink RX3 54 yX3_giftOf, Cond.instanceMethod yX3_giftOf, Cond.selects RX3 yX3_giftOf yX3_giftOf, Cond.code yX3_giftOf cX3_giftOf 2 (some .int), Cond.static yX5_plainGift, Cond.code yX5_plainGift cX5_plainGift 1 (some .int), Cond.methodLink RX3 68 yX1_areNone, Cond.instanceMethod yX1_areNone]
def wsX5_unstep_r4 : List Cond := [Cond.selects RX1 yX1_areNone yX1_areNone, Cond.code yX1_areNone cX1_areNone 1 (some .boolean), Cond.static yX5_with, Cond.code yX5_with cX5_with 2 (some .int), Cond.methodLink RX3 101 yJ6_bitCount_0f7a4, Cond.static yJ6_bitCount_0f7a4, Cond.initialized RJ6, Cond.code yJ6_bitCount_0f7a4 cJ6_bitCount_0f7a4 1 (some .int), Cond.constant RJ6 265 (1431655765), Cond.constant RJ6 266 (858993459), Cond.constant RJ6 267 (252645135)]
def wsX5_unstep : List Cond := .code yX5_unstep cX5_unstep 3 (some .int) :: ((wsX5_unstep_r1 ++ (wsX5_unstep_r2 ++ (wsX5_unstep_r3 ++ wsX5_unstep_r4))) ++ wsX50 ++ wsX30 ++ wsX20 ++ wsX10 ++ (vx_atS RX5 43 "java/lang/IllegalStateException" ["java/lang/RuntimeException", "java/lang/Exception"]).filter goodWord ++ (vx_atS RX5 132 "java/lang/IndexOutOfBoundsException" ["java/lang/RuntimeException", "java/lang/Exception"]).filter goodWord)
def wsX5_requireHints : List Cond := .code yX5_requireHints cX5_requireHints 2 none :: ([.classLink RX5 54 "java/lang/IllegalArgumentException", .initialized "java/lang/IllegalArgumentException"] ++ (vx_atS RX5 58 "java/lang/IllegalArgumentException" ["java/lang/RuntimeException", "java/lang/Exception"]).filter goodWord)
def wsX5_hint_r1 : List Cond := [Cond.fieldLink RX5 10 "TypecheckStation" "program" "LTypecheckStation$Program;", Cond.methodLink RX5 46 yX5_requireFunction, Cond.instanceMethod yX5_requireFunction, Cond.selects RX5 yX5_requireFunction yX5_requireFunction, Cond.initialized RX5, Cond.code yX5_requireFunction cX5_requireFunction 2 none, Cond.classLink RX5 128 "java/lang/IndexOutOfBoundsException", Cond.initialized "java/lang/IndexOutOfBoundsException", Cond.fieldLink RX5 36 "TypecheckStation$Program" "size" "I", Cond.methodLink RX5 77 yX5_requireHints, Cond.static yX5_requireHints, Cond.code yX5_requireHints cX5_requireHints 2 none, Cond.classLink RX5 54 "java/lang/IllegalArgumentException", Cond.initialized "java/lang/IllegalArgumentException", Cond.methodLink RX5 81 yX3_changeHints, Cond.instanceMethod yX3_changeHints, Cond.selects RX3 yX3_changeHints yX3_changeHints, Cond.initialized RX3, Cond.code yX3_changeHints cX3_changeHints 6 (some .int), Cond.fieldLink RX3 11 "TypecheckStation$Program" "functions" "[LTypecheckStation$Function;", Cond.fieldLink RX3 33 "TypecheckStation$Function" "in" "I", Cond.fieldLink RX3 40 "TypecheckStation$Function" "out" "I", Cond.fieldLink RX3 82 "TypecheckStation$Program" "checks" "I", Cond.methodLink RX3 89 yX3_callersOf]
def wsX5_hint_r2 : List Cond := [Cond.instanceMethod yX3_callersOf, Cond.selects RX3 yX3_callersOf yX3_callersOf, Cond.code yX3_callersOf cX3_callersOf 4 (some .int), Cond.fieldLink RX3 25 "TypecheckStation$Program" "size" "I", Cond.methodLink RX3 79 yX2_mentions, Cond.instanceMethod yX2_mentions, Cond.selects RX2 yX2_mentions yX2_mentions, Cond.initialized RX2, Cond.code yX2_mentions cX2_mentions 3 (some .boolean), Cond.fieldLink RX2 22 "TypecheckStation$Function" "size" "I", Cond.fieldLink RX2 9 "TypecheckStation$Function" "steps" "[I", Cond.methodLink RX5 85 yX3_dropUntypable, Cond.instanceMethod yX3_dropUntypable, Cond.selects RX3 yX3_dropUntypable yX3_dropUntypable, Cond.code yX3_dropUntypable cX3_dropUntypable 2 (some .int), Cond.fieldLink RX3 92 "TypecheckStation$Program" "typed" "I", Cond.methodLink RX3 98 yX3_untypable, Cond.instanceMethod yX3_untypable, Cond.selects RX3 yX3_untypable yX3_untypable, Cond.code yX3_untypable cX3_untypable 1 (some .int), Cond.methodLink RX3 95 yX3_typable, Cond.instanceMethod yX3_typable, Cond.selects RX3 yX3_typable yX3_typable, Cond.code yX3_typable cX3_typable 3 (some .int)]
def wsX5_hint_r3 : List Cond := [Cond.methodLink RX3 64 yX3_checked, Cond.instanceMethod yX3_checked, Cond.selects RX3 yX3_checked yX3_checked, Cond.code yX3_checked cX3_checked 6 (some (.object "TypecheckStation$Findings")), Cond.fieldLink RX3 21 "TypecheckStation$Program" "findings" "LTypecheckStation$Findings;", Cond.fieldLink RX3 46 "TypecheckStation$Function" "size" "I", Cond.fieldLink RX3 47 "TypecheckStation$Function" "steps" "[I", Cond.methodLink RX3 57 yX1_clear, Cond.instanceMethod yX1_clear, Cond.selects RX1 yX1_clear yX1_clear, Cond.initialized RX1, Cond.code yX1_clear cX1_clear 1 none, Cond.fieldLink RX1 9 "TypecheckStation$Findings" "faults" "I", Cond.fieldLink RX1 15 "TypecheckStation$Findings" "firstFault" "I", Cond.fieldLink RX1 18 "TypecheckStation$Findings" "loose" "I", Cond.methodLink RX3 51 yX3_needOf, Cond.instanceMethod yX3_needOf, Cond.selects RX3 yX3_needOf yX3_needOf, Cond.code yX3_needOf cX3_needOf 2 (some .int), Cond.static yX5_isCall, Cond.code yX5_isCall cX5_isCall 1 (some .boolean), Cond.static yX5_plainNeed, Cond.code yX5_plainNeed cX5_plainNeed 1 (some .int), Cond.methodLink RX3 60 yX1_need]
def wsX5_hint_r4 : List Cond := [Cond.instanceMethod yX1_need, Cond.selects RX1 yX1_need yX1_need, Cond.code yX1_need cX1_need 4 none, Cond.methodLink RX3 54 yX3_giftOf, Cond.instanceMethod yX3_giftOf, Cond.selects RX3 yX3_giftOf yX3_giftOf, Cond.code yX3_giftOf cX3_giftOf 2 (some .int), Cond.static yX5_plainGift, Cond.code yX5_plainGift cX5_plainGift 1 (some .int), Cond.methodLink RX3 68 yX1_areNone, Cond.instanceMethod yX1_areNone, Cond.selects RX1 yX1_areNone yX1_areNone, Cond.code yX1_areNone cX1_areNone 1 (some .boolean), Cond.static yX5_with, Cond.code yX5_with cX5_with 2 (some .int), Cond.methodLink RX3 101 yJ6_bitCount_0f7a4, Cond.static yJ6_bitCount_0f7a4, Cond.initialized RJ6, Cond.code yJ6_bitCount_0f7a4 cJ6_bitCount_0f7a4 1 (some .int), Cond.constant RJ6 265 (1431655765), Cond.constant RJ6 266 (858993459), Cond.constant RJ6 267 (252645135)]
def wsX5_hint : List Cond := .code yX5_hint cX5_hint 4 (some .int) :: ((wsX5_hint_r1 ++ (wsX5_hint_r2 ++ (wsX5_hint_r3 ++ wsX5_hint_r4))) ++ wsX50 ++ wsX30 ++ wsX20 ++ wsX10 ++ (vx_atS RX5 132 "java/lang/IndexOutOfBoundsException" ["java/lang/RuntimeException", "java/lang/Exception"]).filter goodWord ++ (vx_atS RX5 58 "java/lang/IllegalArgumentException" ["java/lang/RuntimeException", "java/lang/Exception"]).filter goodWord)
def wsX5_adopt_r1 : List Cond := [Cond.fieldLink RX5 10 "TypecheckStation" "program" "LTypecheckStation$Program;", Cond.fieldLink RX5 59 "TypecheckStation$Program" "functions" "[LTypecheckStation$Function;", Cond.fieldLink RX5 89 "TypecheckStation$Function" "in" "I", Cond.fieldLink RX5 96 "TypecheckStation$Function" "out" "I", Cond.methodLink RX5 46 yX5_requireFunction, Cond.instanceMethod yX5_requireFunction, Cond.selects RX5 yX5_requireFunction yX5_requireFunction, Cond.initialized RX5, Cond.code yX5_requireFunction cX5_requireFunction 2 none, Cond.classLink RX5 128 "java/lang/IndexOutOfBoundsException", Cond.initialized "java/lang/IndexOutOfBoundsException", Cond.fieldLink RX5 36 "TypecheckStation$Program" "size" "I", Cond.methodLink RX5 92 yX3_guessIn, Cond.instanceMethod yX3_guessIn, Cond.selects RX3 yX3_guessIn yX3_guessIn, Cond.initialized RX3, Cond.code yX3_guessIn cX3_guessIn 2 (some .int), Cond.fieldLink RX3 46 "TypecheckStation$Function" "size" "I", Cond.fieldLink RX3 47 "TypecheckStation$Function" "steps" "[I", Cond.methodLink RX3 51 yX3_needOf, Cond.instanceMethod yX3_needOf, Cond.selects RX3 yX3_needOf yX3_needOf, Cond.code yX3_needOf cX3_needOf 2 (some .int), Cond.fieldLink RX3 11 "TypecheckStation$Program" "functions" "[LTypecheckStation$Function;"]
def wsX5_adopt_r2 : List Cond := [Cond.fieldLink RX3 33 "TypecheckStation$Function" "in" "I", Cond.static yX5_isCall, Cond.code yX5_isCall cX5_isCall 1 (some .boolean), Cond.static yX5_plainNeed, Cond.code yX5_plainNeed cX5_plainNeed 1 (some .int), Cond.methodLink RX5 99 yX3_guessOut, Cond.instanceMethod yX3_guessOut, Cond.selects RX3 yX3_guessOut yX3_guessOut, Cond.code yX3_guessOut cX3_guessOut 2 (some .int), Cond.methodLink RX3 54 yX3_giftOf, Cond.instanceMethod yX3_giftOf, Cond.selects RX3 yX3_giftOf yX3_giftOf, Cond.code yX3_giftOf cX3_giftOf 2 (some .int), Cond.fieldLink RX3 40 "TypecheckStation$Function" "out" "I", Cond.static yX5_plainGift, Cond.code yX5_plainGift cX5_plainGift 1 (some .int), Cond.methodLink RX5 81 yX3_changeHints, Cond.instanceMethod yX3_changeHints, Cond.selects RX3 yX3_changeHints yX3_changeHints, Cond.code yX3_changeHints cX3_changeHints 6 (some .int), Cond.fieldLink RX3 82 "TypecheckStation$Program" "checks" "I", Cond.methodLink RX3 89 yX3_callersOf, Cond.instanceMethod yX3_callersOf, Cond.selects RX3 yX3_callersOf yX3_callersOf]
def wsX5_adopt_r3 : List Cond := [Cond.code yX3_callersOf cX3_callersOf 4 (some .int), Cond.fieldLink RX3 25 "TypecheckStation$Program" "size" "I", Cond.methodLink RX3 79 yX2_mentions, Cond.instanceMethod yX2_mentions, Cond.selects RX2 yX2_mentions yX2_mentions, Cond.initialized RX2, Cond.code yX2_mentions cX2_mentions 3 (some .boolean), Cond.fieldLink RX2 22 "TypecheckStation$Function" "size" "I", Cond.fieldLink RX2 9 "TypecheckStation$Function" "steps" "[I", Cond.methodLink RX5 85 yX3_dropUntypable, Cond.instanceMethod yX3_dropUntypable, Cond.selects RX3 yX3_dropUntypable yX3_dropUntypable, Cond.code yX3_dropUntypable cX3_dropUntypable 2 (some .int), Cond.fieldLink RX3 92 "TypecheckStation$Program" "typed" "I", Cond.methodLink RX3 98 yX3_untypable, Cond.instanceMethod yX3_untypable, Cond.selects RX3 yX3_untypable yX3_untypable, Cond.code yX3_untypable cX3_untypable 1 (some .int), Cond.methodLink RX3 95 yX3_typable, Cond.instanceMethod yX3_typable, Cond.selects RX3 yX3_typable yX3_typable, Cond.code yX3_typable cX3_typable 3 (some .int), Cond.methodLink RX3 64 yX3_checked, Cond.instanceMethod yX3_checked]
def wsX5_adopt_r4 : List Cond := [Cond.selects RX3 yX3_checked yX3_checked, Cond.code yX3_checked cX3_checked 6 (some (.object "TypecheckStation$Findings")), Cond.fieldLink RX3 21 "TypecheckStation$Program" "findings" "LTypecheckStation$Findings;", Cond.methodLink RX3 57 yX1_clear, Cond.instanceMethod yX1_clear, Cond.selects RX1 yX1_clear yX1_clear, Cond.initialized RX1, Cond.code yX1_clear cX1_clear 1 none, Cond.fieldLink RX1 9 "TypecheckStation$Findings" "faults" "I", Cond.fieldLink RX1 15 "TypecheckStation$Findings" "firstFault" "I", Cond.fieldLink RX1 18 "TypecheckStation$Findings" "loose" "I", Cond.methodLink RX3 60 yX1_need, Cond.instanceMethod yX1_need, Cond.selects RX1 yX1_need yX1_need, Cond.code yX1_need cX1_need 4 none, Cond.methodLink RX3 68 yX1_areNone, Cond.instanceMethod yX1_areNone, Cond.selects RX1 yX1_areNone yX1_areNone, Cond.code yX1_areNone cX1_areNone 1 (some .boolean), Cond.static yX5_with, Cond.code yX5_with cX5_with 2 (some .int), Cond.methodLink RX3 101 yJ6_bitCount_0f7a4, Cond.static yJ6_bitCount_0f7a4, Cond.initialized RJ6]
def wsX5_adopt_r5 : List Cond := [Cond.code yJ6_bitCount_0f7a4 cJ6_bitCount_0f7a4 1 (some .int), Cond.constant RJ6 265 (1431655765), Cond.constant RJ6 266 (858993459), Cond.constant RJ6 267 (252645135)]
def wsX5_adopt : List Cond := .code yX5_adopt cX5_adopt 6 (some .int) :: ((wsX5_adopt_r1 ++ (wsX5_adopt_r2 ++ (wsX5_adopt_r3 ++ (wsX5_adopt_r4 ++ wsX5_adopt_r5)))) ++ wsX50 ++ wsX30 ++ wsX20 ++ wsX10 ++ (vx_atS RX5 132 "java/lang/IndexOutOfBoundsException" ["java/lang/RuntimeException", "java/lang/Exception"]).filter goodWord)
def wsX5_without : List Cond := .code yX5_without cX5_without 2 (some .int) :: ([])
def wsX5_type_r1 : List Cond := [Cond.classLink RX5 39 "java/lang/IllegalStateException", Cond.initialized "java/lang/IllegalStateException", Cond.fieldLink RX5 10 "TypecheckStation" "program" "LTypecheckStation$Program;", Cond.fieldLink RX5 114 "TypecheckStation$Program" "typed" "I", Cond.methodLink RX5 46 yX5_requireFunction, Cond.instanceMethod yX5_requireFunction, Cond.selects RX5 yX5_requireFunction yX5_requireFunction, Cond.initialized RX5, Cond.code yX5_requireFunction cX5_requireFunction 2 none, Cond.classLink RX5 128 "java/lang/IndexOutOfBoundsException", Cond.initialized "java/lang/IndexOutOfBoundsException", Cond.fieldLink RX5 36 "TypecheckStation$Program" "size" "I", Cond.methodLink RX5 102 yX3_checked, Cond.instanceMethod yX3_checked, Cond.selects RX3 yX3_checked yX3_checked, Cond.initialized RX3, Cond.code yX3_checked cX3_checked 6 (some (.object "TypecheckStation$Findings")), Cond.fieldLink RX3 11 "TypecheckStation$Program" "functions" "[LTypecheckStation$Function;", Cond.fieldLink RX3 21 "TypecheckStation$Program" "findings" "LTypecheckStation$Findings;", Cond.fieldLink RX3 33 "TypecheckStation$Function" "in" "I", Cond.fieldLink RX3 46 "TypecheckStation$Function" "size" "I", Cond.fieldLink RX3 47 "TypecheckStation$Function" "steps" "[I", Cond.fieldLink RX3 40 "TypecheckStation$Function" "out" "I", Cond.methodLink RX3 57 yX1_clear]
def wsX5_type_r2 : List Cond := [Cond.instanceMethod yX1_clear, Cond.selects RX1 yX1_clear yX1_clear, Cond.initialized RX1, Cond.code yX1_clear cX1_clear 1 none, Cond.fieldLink RX1 9 "TypecheckStation$Findings" "faults" "I", Cond.fieldLink RX1 15 "TypecheckStation$Findings" "firstFault" "I", Cond.fieldLink RX1 18 "TypecheckStation$Findings" "loose" "I", Cond.methodLink RX3 51 yX3_needOf, Cond.instanceMethod yX3_needOf, Cond.selects RX3 yX3_needOf yX3_needOf, Cond.code yX3_needOf cX3_needOf 2 (some .int), Cond.static yX5_isCall, Cond.code yX5_isCall cX5_isCall 1 (some .boolean), Cond.static yX5_plainNeed, Cond.code yX5_plainNeed cX5_plainNeed 1 (some .int), Cond.methodLink RX3 60 yX1_need, Cond.instanceMethod yX1_need, Cond.selects RX1 yX1_need yX1_need, Cond.code yX1_need cX1_need 4 none, Cond.methodLink RX3 54 yX3_giftOf, Cond.instanceMethod yX3_giftOf, Cond.selects RX3 yX3_giftOf yX3_giftOf, Cond.code yX3_giftOf cX3_giftOf 2 (some .int), Cond.static yX5_plainGift]
def wsX5_type_r3 : List Cond := [Cond.code yX5_plainGift cX5_plainGift 1 (some .int), Cond.methodLink RX5 106 yX1_areNone, Cond.instanceMethod yX1_areNone, Cond.selects RX1 yX1_areNone yX1_areNone, Cond.code yX1_areNone cX1_areNone 1 (some .boolean), Cond.methodLink RX5 117 yX5_has, Cond.static yX5_has, Cond.code yX5_has cX5_has 2 (some .boolean), Cond.methodLink RX5 121 yX5_with, Cond.static yX5_with, Cond.code yX5_with cX5_with 2 (some .int), Cond.methodLink RX5 125 yX5_without, Cond.static yX5_without, Cond.code yX5_without cX5_without 2 (some .int)]
def wsX5_type : List Cond := .code yX5_type cX5_type 4 (some .boolean) :: ((wsX5_type_r1 ++ (wsX5_type_r2 ++ wsX5_type_r3)) ++ wsX50 ++ wsX30 ++ wsX20 ++ wsX10 ++ (vx_atS RX5 43 "java/lang/IllegalStateException" ["java/lang/RuntimeException", "java/lang/Exception"]).filter goodWord ++ (vx_atS RX5 132 "java/lang/IndexOutOfBoundsException" ["java/lang/RuntimeException", "java/lang/Exception"]).filter goodWord)
def wsX5_stepAt : List Cond := .code yX5_stepAt cX5_stepAt 4 (some .int) :: ([.classLink RX5 128 "java/lang/IndexOutOfBoundsException", .initialized "java/lang/IndexOutOfBoundsException", .fieldLink RX5 10 "TypecheckStation" "program" "LTypecheckStation$Program;", .fieldLink RX5 59 "TypecheckStation$Program" "functions" "[LTypecheckStation$Function;", .fieldLink RX5 63 "TypecheckStation$Function" "size" "I", .fieldLink RX5 68 "TypecheckStation$Function" "steps" "[I", .methodLink RX5 46 yX5_requireFunction, .instanceMethod yX5_requireFunction, .selects RX5 yX5_requireFunction yX5_requireFunction, .initialized RX5, .code yX5_requireFunction cX5_requireFunction 2 none, .fieldLink RX5 36 "TypecheckStation$Program" "size" "I"] ++ wsX50 ++ wsX30 ++ wsX20 ++ (vx_atS RX5 132 "java/lang/IndexOutOfBoundsException" ["java/lang/RuntimeException", "java/lang/Exception"]).filter goodWord)
def wsX5_requireWhat : List Cond := .code yX5_requireWhat cX5_requireWhat 2 none :: ([.classLink RX5 54 "java/lang/IllegalArgumentException", .initialized "java/lang/IllegalArgumentException"] ++ (vx_atS RX5 58 "java/lang/IllegalArgumentException" ["java/lang/RuntimeException", "java/lang/Exception"]).filter goodWord)
def wsX5_ofFunction_r1 : List Cond := [Cond.fieldLink RX5 10 "TypecheckStation" "program" "LTypecheckStation$Program;", Cond.fieldLink RX5 59 "TypecheckStation$Program" "functions" "[LTypecheckStation$Function;", Cond.fieldLink RX5 63 "TypecheckStation$Function" "size" "I", Cond.fieldLink RX5 89 "TypecheckStation$Function" "in" "I", Cond.fieldLink RX5 96 "TypecheckStation$Function" "out" "I", Cond.fieldLink RX5 114 "TypecheckStation$Program" "typed" "I", Cond.fieldLink RX5 136 "TypecheckStation$Findings" "faults" "I", Cond.fieldLink RX5 139 "TypecheckStation$Findings" "firstFault" "I", Cond.fieldLink RX5 142 "TypecheckStation$Findings" "loose" "I", Cond.fieldLink RX5 28 "TypecheckStation" "books" "LTypecheckStation$Books;", Cond.methodLink RX5 46 yX5_requireFunction, Cond.instanceMethod yX5_requireFunction, Cond.selects RX5 yX5_requireFunction yX5_requireFunction, Cond.initialized RX5, Cond.code yX5_requireFunction cX5_requireFunction 2 none, Cond.classLink RX5 128 "java/lang/IndexOutOfBoundsException", Cond.initialized "java/lang/IndexOutOfBoundsException", Cond.fieldLink RX5 36 "TypecheckStation$Program" "size" "I", Cond.methodLink RX5 133 yX5_requireWhat, Cond.static yX5_requireWhat, Cond.code yX5_requireWhat cX5_requireWhat 2 none, Cond.classLink RX5 54 "java/lang/IllegalArgumentException", Cond.initialized "java/lang/IllegalArgumentException", Cond.methodLink RX5 117 yX5_has]
def wsX5_ofFunction_r2 : List Cond := [Cond.static yX5_has, Cond.code yX5_has cX5_has 2 (some .boolean), Cond.methodLink RX5 102 yX3_checked, Cond.instanceMethod yX3_checked, Cond.selects RX3 yX3_checked yX3_checked, Cond.initialized RX3, Cond.code yX3_checked cX3_checked 6 (some (.object "TypecheckStation$Findings")), Cond.fieldLink RX3 11 "TypecheckStation$Program" "functions" "[LTypecheckStation$Function;", Cond.fieldLink RX3 21 "TypecheckStation$Program" "findings" "LTypecheckStation$Findings;", Cond.fieldLink RX3 33 "TypecheckStation$Function" "in" "I", Cond.fieldLink RX3 46 "TypecheckStation$Function" "size" "I", Cond.fieldLink RX3 47 "TypecheckStation$Function" "steps" "[I", Cond.fieldLink RX3 40 "TypecheckStation$Function" "out" "I", Cond.methodLink RX3 57 yX1_clear, Cond.instanceMethod yX1_clear, Cond.selects RX1 yX1_clear yX1_clear, Cond.initialized RX1, Cond.code yX1_clear cX1_clear 1 none, Cond.fieldLink RX1 9 "TypecheckStation$Findings" "faults" "I", Cond.fieldLink RX1 15 "TypecheckStation$Findings" "firstFault" "I", Cond.fieldLink RX1 18 "TypecheckStation$Findings" "loose" "I", Cond.methodLink RX3 51 yX3_needOf, Cond.instanceMethod yX3_needOf, Cond.selects RX3 yX3_needOf yX3_needOf]
def wsX5_ofFunction_r3 : List Cond := [Cond.code yX3_needOf cX3_needOf 2 (some .int), Cond.static yX5_isCall, Cond.code yX5_isCall cX5_isCall 1 (some .boolean), Cond.static yX5_plainNeed, Cond.code yX5_plainNeed cX5_plainNeed 1 (some .int), Cond.methodLink RX3 60 yX1_need, Cond.instanceMethod yX1_need, Cond.selects RX1 yX1_need yX1_need, Cond.code yX1_need cX1_need 4 none, Cond.methodLink RX3 54 yX3_giftOf, Cond.instanceMethod yX3_giftOf, Cond.selects RX3 yX3_giftOf yX3_giftOf, Cond.code yX3_giftOf cX3_giftOf 2 (some .int), Cond.static yX5_plainGift, Cond.code yX5_plainGift cX5_plainGift 1 (some .int), Cond.methodLink RX5 92 yX3_guessIn, Cond.instanceMethod yX3_guessIn, Cond.selects RX3 yX3_guessIn yX3_guessIn, Cond.code yX3_guessIn cX3_guessIn 2 (some .int), Cond.methodLink RX5 99 yX3_guessOut, Cond.instanceMethod yX3_guessOut, Cond.selects RX3 yX3_guessOut yX3_guessOut, Cond.code yX3_guessOut cX3_guessOut 2 (some .int), Cond.methodLink RX5 145 yX3_callersOf]
def wsX5_ofFunction_r4 : List Cond := [Cond.instanceMethod yX3_callersOf, Cond.selects RX3 yX3_callersOf yX3_callersOf, Cond.code yX3_callersOf cX3_callersOf 4 (some .int), Cond.fieldLink RX3 25 "TypecheckStation$Program" "size" "I", Cond.methodLink RX3 79 yX2_mentions, Cond.instanceMethod yX2_mentions, Cond.selects RX2 yX2_mentions yX2_mentions, Cond.initialized RX2, Cond.code yX2_mentions cX2_mentions 3 (some .boolean), Cond.fieldLink RX2 22 "TypecheckStation$Function" "size" "I", Cond.fieldLink RX2 9 "TypecheckStation$Function" "steps" "[I", Cond.methodLink RX5 149 yX0_timesCalled, Cond.instanceMethod yX0_timesCalled, Cond.selects RX0 yX0_timesCalled yX0_timesCalled, Cond.initialized RX0, Cond.code yX0_timesCalled cX0_timesCalled 4 (some .int), Cond.fieldLink RX0 13 "TypecheckStation$Books" "calls" "[[I"]
def wsX5_ofFunction : List Cond := .code yX5_ofFunction cX5_ofFunction 4 (some .int) :: ((wsX5_ofFunction_r1 ++ (wsX5_ofFunction_r2 ++ (wsX5_ofFunction_r3 ++ wsX5_ofFunction_r4))) ++ wsX50 ++ wsX30 ++ wsX20 ++ wsX10 ++ wsX00 ++ (vx_atS RX5 132 "java/lang/IndexOutOfBoundsException" ["java/lang/RuntimeException", "java/lang/Exception"]).filter goodWord ++ (vx_atS RX5 58 "java/lang/IllegalArgumentException" ["java/lang/RuntimeException", "java/lang/Exception"]).filter goodWord)
def wsX5_tollWith : List Cond := .code yX5_tollWith cX5_tollWith 5 (some .int) :: ([.fieldLink RX5 10 "TypecheckStation" "program" "LTypecheckStation$Program;", .fieldLink RX5 36 "TypecheckStation$Program" "size" "I", .fieldLink RX5 28 "TypecheckStation" "books" "LTypecheckStation$Books;", .fieldLink RX5 198 "TypecheckStation$Books" "calls" "[[I", .methodLink RX5 262 yX3_guardsCall, .instanceMethod yX3_guardsCall, .selects RX3 yX3_guardsCall yX3_guardsCall, .initialized RX3, .code yX3_guardsCall cX3_guardsCall 4 (some .boolean), .fieldLink RX3 11 "TypecheckStation$Program" "functions" "[LTypecheckStation$Function;", .fieldLink RX3 33 "TypecheckStation$Function" "in" "I", .static yX5_has, .initialized RX5, .code yX5_has cX5_has 2 (some .boolean), .methodLink RX5 266 yX3_guardsGive, .instanceMethod yX3_guardsGive, .selects RX3 yX3_guardsGive yX3_guardsGive, .code yX3_guardsGive cX3_guardsGive 4 (some .boolean), .fieldLink RX3 40 "TypecheckStation$Function" "out" "I", .methodLink RX5 202 yX5_rowOf, .static yX5_rowOf, .code yX5_rowOf cX5_rowOf 1 (some .int)] ++ wsX50 ++ wsX30 ++ wsX00 ++ wsX20)
def wsX5_many_r1 : List Cond := [Cond.fieldLink RX5 10 "TypecheckStation" "program" "LTypecheckStation$Program;", Cond.fieldLink RX5 36 "TypecheckStation$Program" "size" "I", Cond.fieldLink RX5 114 "TypecheckStation$Program" "typed" "I", Cond.fieldLink RX5 163 "TypecheckStation$Program" "checks" "I", Cond.fieldLink RX5 28 "TypecheckStation" "books" "LTypecheckStation$Books;", Cond.fieldLink RX5 166 "TypecheckStation$Books" "runs" "I", Cond.fieldLink RX5 169 "TypecheckStation$Books" "failures" "I", Cond.fieldLink RX5 172 "TypecheckStation$Books" "costs" "I", Cond.methodLink RX5 133 yX5_requireWhat, Cond.static yX5_requireWhat, Cond.initialized RX5, Cond.code yX5_requireWhat cX5_requireWhat 2 none, Cond.classLink RX5 54 "java/lang/IllegalArgumentException", Cond.initialized "java/lang/IllegalArgumentException", Cond.methodLink RX5 152 yJ6_bitCount_0f7a4, Cond.static yJ6_bitCount_0f7a4, Cond.initialized RJ6, Cond.code yJ6_bitCount_0f7a4 cJ6_bitCount_0f7a4 1 (some .int), Cond.constant RJ6 265 (1431655765), Cond.constant RJ6 266 (858993459), Cond.constant RJ6 267 (252645135), Cond.methodLink RX5 157 yX3_typable, Cond.instanceMethod yX3_typable, Cond.selects RX3 yX3_typable yX3_typable]
def wsX5_many_r2 : List Cond := [Cond.initialized RX3, Cond.code yX3_typable cX3_typable 3 (some .int), Cond.fieldLink RX3 25 "TypecheckStation$Program" "size" "I", Cond.methodLink RX3 64 yX3_checked, Cond.instanceMethod yX3_checked, Cond.selects RX3 yX3_checked yX3_checked, Cond.code yX3_checked cX3_checked 6 (some (.object "TypecheckStation$Findings")), Cond.fieldLink RX3 11 "TypecheckStation$Program" "functions" "[LTypecheckStation$Function;", Cond.fieldLink RX3 21 "TypecheckStation$Program" "findings" "LTypecheckStation$Findings;", Cond.fieldLink RX3 33 "TypecheckStation$Function" "in" "I", Cond.fieldLink RX3 46 "TypecheckStation$Function" "size" "I", Cond.fieldLink RX3 47 "TypecheckStation$Function" "steps" "[I", Cond.fieldLink RX3 40 "TypecheckStation$Function" "out" "I", Cond.methodLink RX3 57 yX1_clear, Cond.instanceMethod yX1_clear, Cond.selects RX1 yX1_clear yX1_clear, Cond.initialized RX1, Cond.code yX1_clear cX1_clear 1 none, Cond.fieldLink RX1 9 "TypecheckStation$Findings" "faults" "I", Cond.fieldLink RX1 15 "TypecheckStation$Findings" "firstFault" "I", Cond.fieldLink RX1 18 "TypecheckStation$Findings" "loose" "I", Cond.methodLink RX3 51 yX3_needOf, Cond.instanceMethod yX3_needOf, Cond.selects RX3 yX3_needOf yX3_needOf]
def wsX5_many_r3 : List Cond := [Cond.code yX3_needOf cX3_needOf 2 (some .int), Cond.static yX5_isCall, Cond.code yX5_isCall cX5_isCall 1 (some .boolean), Cond.static yX5_plainNeed, Cond.code yX5_plainNeed cX5_plainNeed 1 (some .int), Cond.methodLink RX3 60 yX1_need, Cond.instanceMethod yX1_need, Cond.selects RX1 yX1_need yX1_need, Cond.code yX1_need cX1_need 4 none, Cond.methodLink RX3 54 yX3_giftOf, Cond.instanceMethod yX3_giftOf, Cond.selects RX3 yX3_giftOf yX3_giftOf, Cond.code yX3_giftOf cX3_giftOf 2 (some .int), Cond.static yX5_plainGift, Cond.code yX5_plainGift cX5_plainGift 1 (some .int), Cond.methodLink RX3 68 yX1_areNone, Cond.instanceMethod yX1_areNone, Cond.selects RX1 yX1_areNone yX1_areNone, Cond.code yX1_areNone cX1_areNone 1 (some .boolean), Cond.static yX5_with, Cond.code yX5_with cX5_with 2 (some .int), Cond.methodLink RX5 160 yX3_allFaults, Cond.instanceMethod yX3_allFaults, Cond.selects RX3 yX3_allFaults yX3_allFaults]
def wsX5_many_r4 : List Cond := [Cond.code yX3_allFaults cX3_allFaults 3 (some .int), Cond.fieldLink RX3 76 "TypecheckStation$Findings" "faults" "I", Cond.methodLink RX5 175 yX5_tollWith, Cond.instanceMethod yX5_tollWith, Cond.selects RX5 yX5_tollWith yX5_tollWith, Cond.code yX5_tollWith cX5_tollWith 5 (some .int), Cond.fieldLink RX5 198 "TypecheckStation$Books" "calls" "[[I", Cond.methodLink RX5 262 yX3_guardsCall, Cond.instanceMethod yX3_guardsCall, Cond.selects RX3 yX3_guardsCall yX3_guardsCall, Cond.code yX3_guardsCall cX3_guardsCall 4 (some .boolean), Cond.static yX5_has, Cond.code yX5_has cX5_has 2 (some .boolean), Cond.methodLink RX5 266 yX3_guardsGive, Cond.instanceMethod yX3_guardsGive, Cond.selects RX3 yX3_guardsGive yX3_guardsGive, Cond.code yX3_guardsGive cX3_guardsGive 4 (some .boolean), Cond.methodLink RX5 202 yX5_rowOf, Cond.static yX5_rowOf, Cond.code yX5_rowOf cX5_rowOf 1 (some .int)]
def wsX5_many : List Cond := .code yX5_many cX5_many 2 (some .int) :: ((wsX5_many_r1 ++ (wsX5_many_r2 ++ (wsX5_many_r3 ++ wsX5_many_r4))) ++ wsX50 ++ wsX30 ++ wsX00 ++ wsX20 ++ wsX10 ++ (vx_atS RX5 58 "java/lang/IllegalArgumentException" ["java/lang/RuntimeException", "java/lang/Exception"]).filter goodWord)
def wsX5_requireBudget : List Cond := .code yX5_requireBudget cX5_requireBudget 1 none :: ([.classLink RX5 54 "java/lang/IllegalArgumentException", .initialized "java/lang/IllegalArgumentException"] ++ (vx_atS RX5 58 "java/lang/IllegalArgumentException" ["java/lang/RuntimeException", "java/lang/Exception"]).filter goodWord)
def wsX5_budget : List Cond := .code yX5_budget cX5_budget 3 (some .int) :: ([.fieldLink RX5 32 "TypecheckStation" "budget" "I", .methodLink RX5 178 yX5_requireBudget, .static yX5_requireBudget, .initialized RX5, .code yX5_requireBudget cX5_requireBudget 1 none, .classLink RX5 54 "java/lang/IllegalArgumentException", .initialized "java/lang/IllegalArgumentException"] ++ wsX50 ++ (vx_atS RX5 58 "java/lang/IllegalArgumentException" ["java/lang/RuntimeException", "java/lang/Exception"]).filter goodWord)
def wsX5_isValue : List Cond := .code yX5_isValue cX5_isValue 2 (some .boolean) :: ([])
def wsX5_requireValue : List Cond := .code yX5_requireValue cX5_requireValue 2 none :: ([.classLink RX5 54 "java/lang/IllegalArgumentException", .initialized "java/lang/IllegalArgumentException", .methodLink RX5 277 yX5_isValue, .static yX5_isValue, .initialized RX5, .code yX5_isValue cX5_isValue 2 (some .boolean)] ++ (vx_atS RX5 58 "java/lang/IllegalArgumentException" ["java/lang/RuntimeException", "java/lang/Exception"]).filter goodWord)
def wsX5_run_r1 : List Cond := [Cond.fieldLink RX5 21 "TypecheckStation" "trial" "LTypecheckStation$Trial;", Cond.fieldLink RX5 32 "TypecheckStation" "budget" "I", Cond.fieldLink RX5 28 "TypecheckStation" "books" "LTypecheckStation$Books;", Cond.fieldLink RX5 192 "TypecheckStation$Trial" "failure" "I", Cond.methodLink RX5 46 yX5_requireFunction, Cond.instanceMethod yX5_requireFunction, Cond.selects RX5 yX5_requireFunction yX5_requireFunction, Cond.initialized RX5, Cond.code yX5_requireFunction cX5_requireFunction 2 none, Cond.classLink RX5 128 "java/lang/IndexOutOfBoundsException", Cond.initialized "java/lang/IndexOutOfBoundsException", Cond.fieldLink RX5 10 "TypecheckStation" "program" "LTypecheckStation$Program;", Cond.fieldLink RX5 36 "TypecheckStation$Program" "size" "I", Cond.methodLink RX5 181 yX5_requireValue, Cond.static yX5_requireValue, Cond.code yX5_requireValue cX5_requireValue 2 none, Cond.classLink RX5 54 "java/lang/IllegalArgumentException", Cond.initialized "java/lang/IllegalArgumentException", Cond.methodLink RX5 277 yX5_isValue, Cond.static yX5_isValue, Cond.code yX5_isValue cX5_isValue 2 (some .boolean), Cond.methodLink RX5 184 yX4_tryOut, Cond.instanceMethod yX4_tryOut, Cond.selects RX4 yX4_tryOut yX4_tryOut]
def wsX5_run_r2 : List Cond := [Cond.initialized RX4, Cond.code yX4_tryOut cX4_tryOut 5 none, Cond.fieldLink RX4 26 "TypecheckStation$Trial" "budget" "I", Cond.fieldLink RX4 30 "TypecheckStation$Trial" "type" "I", Cond.fieldLink RX4 33 "TypecheckStation$Trial" "number" "I", Cond.methodLink RX4 23 yX4_clear, Cond.instanceMethod yX4_clear, Cond.selects RX4 yX4_clear yX4_clear, Cond.code yX4_clear cX4_clear 3 none, Cond.fieldLink RX4 19 "TypecheckStation$Trial" "calls" "[[I", Cond.fieldLink RX4 40 "TypecheckStation$Trial" "begun" "I", Cond.fieldLink RX4 43 "TypecheckStation$Trial" "looked" "I", Cond.fieldLink RX4 46 "TypecheckStation$Trial" "skipped" "I", Cond.fieldLink RX4 49 "TypecheckStation$Trial" "deepest" "I", Cond.fieldLink RX4 52 "TypecheckStation$Trial" "failure" "I", Cond.fieldLink RX4 55 "TypecheckStation$Trial" "blame" "I", Cond.fieldLink RX4 58 "TypecheckStation$Trial" "hasSuspect" "Z", Cond.fieldLink RX4 62 "TypecheckStation$Trial" "suspect" "I", Cond.methodLink RX4 36 yX4_enter, Cond.instanceMethod yX4_enter, Cond.selects RX4 yX4_enter yX4_enter, Cond.code yX4_enter cX4_enter 4 none, Cond.methodLink RX4 69 Lib.Math.max.name, Cond.static Lib.Math.max.name]
def wsX5_run_r3 : List Cond := [Cond.initialized "java/lang/Math", Cond.code Lib.Math.max.name Lib.Math.max.code 2 (some .int), Cond.fieldLink RX4 9 "TypecheckStation$Trial" "program" "LTypecheckStation$Program;", Cond.fieldLink RX4 79 "TypecheckStation$Program" "typed" "I", Cond.fieldLink RX4 88 "TypecheckStation$Program" "functions" "[LTypecheckStation$Function;", Cond.fieldLink RX4 92 "TypecheckStation$Function" "in" "I", Cond.fieldLink RX4 106 "TypecheckStation$Function" "out" "I", Cond.methodLink RX4 65 yX4_fail, Cond.instanceMethod yX4_fail, Cond.selects RX4 yX4_fail yX4_fail, Cond.code yX4_fail cX4_fail 3 none, Cond.static yX5_rowOf, Cond.code yX5_rowOf cX5_rowOf 1 (some .int), Cond.methodLink RX4 84 yX3_guardsCall, Cond.instanceMethod yX3_guardsCall, Cond.selects RX3 yX3_guardsCall yX3_guardsCall, Cond.initialized RX3, Cond.code yX3_guardsCall cX3_guardsCall 4 (some .boolean), Cond.fieldLink RX3 11 "TypecheckStation$Program" "functions" "[LTypecheckStation$Function;", Cond.fieldLink RX3 33 "TypecheckStation$Function" "in" "I", Cond.static yX5_has, Cond.code yX5_has cX5_has 2 (some .boolean), Cond.methodLink RX4 97 yX4_guard, Cond.instanceMethod yX4_guard]
def wsX5_run_r4 : List Cond := [Cond.selects RX4 yX4_guard yX4_guard, Cond.code yX4_guard cX4_guard 5 none, Cond.methodLink RX4 100 yX4_goThrough, Cond.instanceMethod yX4_goThrough, Cond.selects RX4 yX4_goThrough yX4_goThrough, Cond.methodLink RX4 103 yX3_guardsGive, Cond.instanceMethod yX3_guardsGive, Cond.selects RX3 yX3_guardsGive yX3_guardsGive, Cond.code yX3_guardsGive cX3_guardsGive 4 (some .boolean), Cond.fieldLink RX3 40 "TypecheckStation$Function" "out" "I", Cond.code yX4_begin cX4_begin 5 none, Cond.static yX5_isCall, Cond.code yX5_isCall cX5_isCall 1 (some .boolean), Cond.static yX5_plainNeed, Cond.code yX5_plainNeed cX5_plainNeed 1 (some .int), Cond.methodLink RX4 130 yX4_made, Cond.instanceMethod yX4_made, Cond.selects RX4 yX4_made yX4_made, Cond.code yX4_made cX4_made 2 (some .int), Cond.methodLink RX4 140 Lib.Math.min.name, Cond.static Lib.Math.min.name, Cond.code Lib.Math.min.name Lib.Math.min.code 2 (some .int), Cond.methodLink RX4 136 yX4_shownLength, Cond.instanceMethod yX4_shownLength]
def wsX5_run_r5 : List Cond := [Cond.selects RX4 yX4_shownLength yX4_shownLength, Cond.code yX4_shownLength cX4_shownLength 2 (some .int), Cond.methodLink RX4 143 Lib.Math.abs.name, Cond.static Lib.Math.abs.name, Cond.code Lib.Math.abs.name Lib.Math.abs.code 1 (some .int), Cond.static yX5_plainGift, Cond.code yX5_plainGift cX5_plainGift 1 (some .int), Cond.code yX4_goThrough cX4_goThrough 5 none, Cond.fieldLink RX4 109 "TypecheckStation$Function" "size" "I", Cond.fieldLink RX4 112 "TypecheckStation$Function" "steps" "[I", Cond.methodLink RX4 116 yX4_begin, Cond.instanceMethod yX4_begin, Cond.selects RX4 yX4_begin yX4_begin, Cond.methodLink RX5 188 yX0_enter, Cond.instanceMethod yX0_enter, Cond.selects RX0 yX0_enter yX0_enter, Cond.initialized RX0, Cond.code yX0_enter cX0_enter 2 none, Cond.fieldLink RX0 26 "TypecheckStation$Books" "runs" "I", Cond.fieldLink RX0 30 "TypecheckStation$Trial" "failure" "I", Cond.fieldLink RX0 35 "TypecheckStation$Books" "failures" "I", Cond.fieldLink RX0 38 "TypecheckStation$Trial" "blame" "I", Cond.fieldLink RX0 19 "TypecheckStation$Books" "blames" "[I", Cond.fieldLink RX0 41 "TypecheckStation$Books" "costs" "I"]
def wsX5_run_r6 : List Cond := [Cond.methodLink RX0 44 yX4_cost, Cond.instanceMethod yX4_cost, Cond.selects RX4 yX4_cost yX4_cost, Cond.code yX4_cost cX4_cost 1 (some .int), Cond.methodLink RX0 48 yX0_addCalls, Cond.instanceMethod yX0_addCalls, Cond.selects RX0 yX0_addCalls yX0_addCalls, Cond.code yX0_addCalls cX0_addCalls 4 none, Cond.fieldLink RX0 13 "TypecheckStation$Books" "calls" "[[I", Cond.fieldLink RX0 55 "TypecheckStation$Trial" "calls" "[[I", Cond.methodLink RX0 52 yX0_keepLatest, Cond.instanceMethod yX0_keepLatest, Cond.selects RX0 yX0_keepLatest yX0_keepLatest, Cond.code yX0_keepLatest cX0_keepLatest 3 none, Cond.fieldLink RX0 23 "TypecheckStation$Books" "latest" "[I", Cond.fieldLink RX0 56 "TypecheckStation$Trial" "looked" "I", Cond.fieldLink RX0 59 "TypecheckStation$Trial" "skipped" "I", Cond.fieldLink RX0 62 "TypecheckStation$Trial" "type" "I", Cond.fieldLink RX0 65 "TypecheckStation$Trial" "number" "I", Cond.fieldLink RX0 68 "TypecheckStation$Trial" "deepest" "I"]
def wsX5_run : List Cond := .code yX5_run cX5_run 4 (some .int) :: ((wsX5_run_r1 ++ (wsX5_run_r2 ++ (wsX5_run_r3 ++ (wsX5_run_r4 ++ (wsX5_run_r5 ++ wsX5_run_r6))))) ++ wsX50 ++ wsX40 ++ wsX30 ++ wsX20 ++ wsX00 ++ (vx_atS RX5 132 "java/lang/IndexOutOfBoundsException" ["java/lang/RuntimeException", "java/lang/Exception"]).filter goodWord ++ (vx_atS RX5 58 "java/lang/IllegalArgumentException" ["java/lang/RuntimeException", "java/lang/Exception"]).filter goodWord)
def wsX5_latest : List Cond := .code yX5_latest cX5_latest 2 (some .int) :: ([.fieldLink RX5 28 "TypecheckStation" "books" "LTypecheckStation$Books;", .fieldLink RX5 195 "TypecheckStation$Books" "latest" "[I", .methodLink RX5 133 yX5_requireWhat, .static yX5_requireWhat, .initialized RX5, .code yX5_requireWhat cX5_requireWhat 2 none, .classLink RX5 54 "java/lang/IllegalArgumentException", .initialized "java/lang/IllegalArgumentException"] ++ wsX50 ++ wsX00 ++ (vx_atS RX5 58 "java/lang/IllegalArgumentException" ["java/lang/RuntimeException", "java/lang/Exception"]).filter goodWord)
def wsX5_counted : List Cond := .code yX5_counted cX5_counted 3 (some .int) :: ([.fieldLink RX5 28 "TypecheckStation" "books" "LTypecheckStation$Books;", .fieldLink RX5 198 "TypecheckStation$Books" "calls" "[[I", .methodLink RX5 46 yX5_requireFunction, .instanceMethod yX5_requireFunction, .selects RX5 yX5_requireFunction yX5_requireFunction, .initialized RX5, .code yX5_requireFunction cX5_requireFunction 2 none, .classLink RX5 128 "java/lang/IndexOutOfBoundsException", .initialized "java/lang/IndexOutOfBoundsException", .fieldLink RX5 10 "TypecheckStation" "program" "LTypecheckStation$Program;", .fieldLink RX5 36 "TypecheckStation$Program" "size" "I", .methodLink RX5 202 yX5_rowOf, .static yX5_rowOf, .code yX5_rowOf cX5_rowOf 1 (some .int)] ++ wsX50 ++ wsX00 ++ wsX30 ++ (vx_atS RX5 132 "java/lang/IndexOutOfBoundsException" ["java/lang/RuntimeException", "java/lang/Exception"]).filter goodWord)
def wsX5_blamed : List Cond := .code yX5_blamed cX5_blamed 2 (some .int) :: ([.fieldLink RX5 28 "TypecheckStation" "books" "LTypecheckStation$Books;", .fieldLink RX5 205 "TypecheckStation$Books" "blames" "[I", .methodLink RX5 46 yX5_requireFunction, .instanceMethod yX5_requireFunction, .selects RX5 yX5_requireFunction yX5_requireFunction, .initialized RX5, .code yX5_requireFunction cX5_requireFunction 2 none, .classLink RX5 128 "java/lang/IndexOutOfBoundsException", .initialized "java/lang/IndexOutOfBoundsException", .fieldLink RX5 10 "TypecheckStation" "program" "LTypecheckStation$Program;", .fieldLink RX5 36 "TypecheckStation$Program" "size" "I"] ++ wsX50 ++ wsX00 ++ wsX30 ++ (vx_atS RX5 132 "java/lang/IndexOutOfBoundsException" ["java/lang/RuntimeException", "java/lang/Exception"]).filter goodWord)
def wsX5_gainOf_r1 : List Cond := [Cond.fieldLink RX5 10 "TypecheckStation" "program" "LTypecheckStation$Program;", Cond.fieldLink RX5 114 "TypecheckStation$Program" "typed" "I", Cond.methodLink RX5 175 yX5_tollWith, Cond.instanceMethod yX5_tollWith, Cond.selects RX5 yX5_tollWith yX5_tollWith, Cond.initialized RX5, Cond.code yX5_tollWith cX5_tollWith 5 (some .int), Cond.fieldLink RX5 36 "TypecheckStation$Program" "size" "I", Cond.fieldLink RX5 28 "TypecheckStation" "books" "LTypecheckStation$Books;", Cond.fieldLink RX5 198 "TypecheckStation$Books" "calls" "[[I", Cond.methodLink RX5 262 yX3_guardsCall, Cond.instanceMethod yX3_guardsCall, Cond.selects RX3 yX3_guardsCall yX3_guardsCall, Cond.initialized RX3, Cond.code yX3_guardsCall cX3_guardsCall 4 (some .boolean), Cond.fieldLink RX3 11 "TypecheckStation$Program" "functions" "[LTypecheckStation$Function;", Cond.fieldLink RX3 33 "TypecheckStation$Function" "in" "I", Cond.static yX5_has, Cond.code yX5_has cX5_has 2 (some .boolean), Cond.methodLink RX5 266 yX3_guardsGive, Cond.instanceMethod yX3_guardsGive, Cond.selects RX3 yX3_guardsGive yX3_guardsGive, Cond.code yX3_guardsGive cX3_guardsGive 4 (some .boolean), Cond.fieldLink RX3 40 "TypecheckStation$Function" "out" "I"]
def wsX5_gainOf_r2 : List Cond := [Cond.methodLink RX5 202 yX5_rowOf, Cond.static yX5_rowOf, Cond.code yX5_rowOf cX5_rowOf 1 (some .int), Cond.methodLink RX5 121 yX5_with, Cond.static yX5_with, Cond.code yX5_with cX5_with 2 (some .int)]
def wsX5_gainOf : List Cond := .code yX5_gainOf cX5_gainOf 2 (some .int) :: ((wsX5_gainOf_r1 ++ wsX5_gainOf_r2) ++ wsX50 ++ wsX30 ++ wsX00 ++ wsX20)
def wsX5_gain_r1 : List Cond := [Cond.methodLink RX5 46 yX5_requireFunction, Cond.instanceMethod yX5_requireFunction, Cond.selects RX5 yX5_requireFunction yX5_requireFunction, Cond.initialized RX5, Cond.code yX5_requireFunction cX5_requireFunction 2 none, Cond.classLink RX5 128 "java/lang/IndexOutOfBoundsException", Cond.initialized "java/lang/IndexOutOfBoundsException", Cond.fieldLink RX5 10 "TypecheckStation" "program" "LTypecheckStation$Program;", Cond.fieldLink RX5 36 "TypecheckStation$Program" "size" "I", Cond.methodLink RX5 208 yX5_gainOf, Cond.instanceMethod yX5_gainOf, Cond.selects RX5 yX5_gainOf yX5_gainOf, Cond.code yX5_gainOf cX5_gainOf 2 (some .int), Cond.fieldLink RX5 114 "TypecheckStation$Program" "typed" "I", Cond.methodLink RX5 175 yX5_tollWith, Cond.instanceMethod yX5_tollWith, Cond.selects RX5 yX5_tollWith yX5_tollWith, Cond.code yX5_tollWith cX5_tollWith 5 (some .int), Cond.fieldLink RX5 28 "TypecheckStation" "books" "LTypecheckStation$Books;", Cond.fieldLink RX5 198 "TypecheckStation$Books" "calls" "[[I", Cond.methodLink RX5 262 yX3_guardsCall, Cond.instanceMethod yX3_guardsCall, Cond.selects RX3 yX3_guardsCall yX3_guardsCall, Cond.initialized RX3]
def wsX5_gain_r2 : List Cond := [Cond.code yX3_guardsCall cX3_guardsCall 4 (some .boolean), Cond.fieldLink RX3 11 "TypecheckStation$Program" "functions" "[LTypecheckStation$Function;", Cond.fieldLink RX3 33 "TypecheckStation$Function" "in" "I", Cond.static yX5_has, Cond.code yX5_has cX5_has 2 (some .boolean), Cond.methodLink RX5 266 yX3_guardsGive, Cond.instanceMethod yX3_guardsGive, Cond.selects RX3 yX3_guardsGive yX3_guardsGive, Cond.code yX3_guardsGive cX3_guardsGive 4 (some .boolean), Cond.fieldLink RX3 40 "TypecheckStation$Function" "out" "I", Cond.methodLink RX5 202 yX5_rowOf, Cond.static yX5_rowOf, Cond.code yX5_rowOf cX5_rowOf 1 (some .int), Cond.methodLink RX5 121 yX5_with, Cond.static yX5_with, Cond.code yX5_with cX5_with 2 (some .int)]
def wsX5_gain : List Cond := .code yX5_gain cX5_gain 2 (some .int) :: ((wsX5_gain_r1 ++ wsX5_gain_r2) ++ wsX50 ++ wsX30 ++ wsX00 ++ wsX20 ++ (vx_atS RX5 132 "java/lang/IndexOutOfBoundsException" ["java/lang/RuntimeException", "java/lang/Exception"]).filter goodWord)
def wsX5_nextToType_r1 : List Cond := [Cond.fieldLink RX5 10 "TypecheckStation" "program" "LTypecheckStation$Program;", Cond.fieldLink RX5 114 "TypecheckStation$Program" "typed" "I", Cond.fieldLink RX5 36 "TypecheckStation$Program" "size" "I", Cond.methodLink RX5 157 yX3_typable, Cond.instanceMethod yX3_typable, Cond.selects RX3 yX3_typable yX3_typable, Cond.initialized RX3, Cond.code yX3_typable cX3_typable 3 (some .int), Cond.fieldLink RX3 25 "TypecheckStation$Program" "size" "I", Cond.methodLink RX3 64 yX3_checked, Cond.instanceMethod yX3_checked, Cond.selects RX3 yX3_checked yX3_checked, Cond.code yX3_checked cX3_checked 6 (some (.object "TypecheckStation$Findings")), Cond.fieldLink RX3 11 "TypecheckStation$Program" "functions" "[LTypecheckStation$Function;", Cond.fieldLink RX3 21 "TypecheckStation$Program" "findings" "LTypecheckStation$Findings;", Cond.fieldLink RX3 33 "TypecheckStation$Function" "in" "I", Cond.fieldLink RX3 46 "TypecheckStation$Function" "size" "I", Cond.fieldLink RX3 47 "TypecheckStation$Function" "steps" "[I", Cond.fieldLink RX3 40 "TypecheckStation$Function" "out" "I", Cond.methodLink RX3 57 yX1_clear, Cond.instanceMethod yX1_clear, Cond.selects RX1 yX1_clear yX1_clear, Cond.initialized RX1, Cond.code yX1_clear cX1_clear 1 none]
def wsX5_nextToType_r2 : List Cond := [Cond.fieldLink RX1 9 "TypecheckStation$Findings" "faults" "I", Cond.fieldLink RX1 15 "TypecheckStation$Findings" "firstFault" "I", Cond.fieldLink RX1 18 "TypecheckStation$Findings" "loose" "I", Cond.methodLink RX3 51 yX3_needOf, Cond.instanceMethod yX3_needOf, Cond.selects RX3 yX3_needOf yX3_needOf, Cond.code yX3_needOf cX3_needOf 2 (some .int), Cond.static yX5_isCall, Cond.initialized RX5, Cond.code yX5_isCall cX5_isCall 1 (some .boolean), Cond.static yX5_plainNeed, Cond.code yX5_plainNeed cX5_plainNeed 1 (some .int), Cond.methodLink RX3 60 yX1_need, Cond.instanceMethod yX1_need, Cond.selects RX1 yX1_need yX1_need, Cond.code yX1_need cX1_need 4 none, Cond.methodLink RX3 54 yX3_giftOf, Cond.instanceMethod yX3_giftOf, Cond.selects RX3 yX3_giftOf yX3_giftOf, Cond.code yX3_giftOf cX3_giftOf 2 (some .int), Cond.static yX5_plainGift, Cond.code yX5_plainGift cX5_plainGift 1 (some .int), Cond.methodLink RX3 68 yX1_areNone, Cond.instanceMethod yX1_areNone]
def wsX5_nextToType_r3 : List Cond := [Cond.selects RX1 yX1_areNone yX1_areNone, Cond.code yX1_areNone cX1_areNone 1 (some .boolean), Cond.static yX5_with, Cond.code yX5_with cX5_with 2 (some .int), Cond.methodLink RX5 117 yX5_has, Cond.static yX5_has, Cond.code yX5_has cX5_has 2 (some .boolean), Cond.methodLink RX5 208 yX5_gainOf, Cond.instanceMethod yX5_gainOf, Cond.selects RX5 yX5_gainOf yX5_gainOf, Cond.code yX5_gainOf cX5_gainOf 2 (some .int), Cond.methodLink RX5 175 yX5_tollWith, Cond.instanceMethod yX5_tollWith, Cond.selects RX5 yX5_tollWith yX5_tollWith, Cond.code yX5_tollWith cX5_tollWith 5 (some .int), Cond.fieldLink RX5 28 "TypecheckStation" "books" "LTypecheckStation$Books;", Cond.fieldLink RX5 198 "TypecheckStation$Books" "calls" "[[I", Cond.methodLink RX5 262 yX3_guardsCall, Cond.instanceMethod yX3_guardsCall, Cond.selects RX3 yX3_guardsCall yX3_guardsCall, Cond.code yX3_guardsCall cX3_guardsCall 4 (some .boolean), Cond.methodLink RX5 266 yX3_guardsGive, Cond.instanceMethod yX3_guardsGive, Cond.selects RX3 yX3_guardsGive yX3_guardsGive]
def wsX5_nextToType_r4 : List Cond := [Cond.code yX3_guardsGive cX3_guardsGive 4 (some .boolean), Cond.methodLink RX5 202 yX5_rowOf, Cond.static yX5_rowOf, Cond.code yX5_rowOf cX5_rowOf 1 (some .int), Cond.methodLink RX5 121 yX5_with]
def wsX5_nextToType : List Cond := .code yX5_nextToType cX5_nextToType 6 (some .int) :: ((wsX5_nextToType_r1 ++ (wsX5_nextToType_r2 ++ (wsX5_nextToType_r3 ++ wsX5_nextToType_r4))) ++ wsX50 ++ wsX30 ++ wsX20 ++ wsX10 ++ wsX00)
def wsX5_next_r1 : List Cond := [Cond.methodLink RX5 211 yX5_nextToType, Cond.instanceMethod yX5_nextToType, Cond.selects RX5 yX5_nextToType yX5_nextToType, Cond.initialized RX5, Cond.code yX5_nextToType cX5_nextToType 6 (some .int), Cond.fieldLink RX5 10 "TypecheckStation" "program" "LTypecheckStation$Program;", Cond.fieldLink RX5 114 "TypecheckStation$Program" "typed" "I", Cond.fieldLink RX5 36 "TypecheckStation$Program" "size" "I", Cond.methodLink RX5 157 yX3_typable, Cond.instanceMethod yX3_typable, Cond.selects RX3 yX3_typable yX3_typable, Cond.initialized RX3, Cond.code yX3_typable cX3_typable 3 (some .int), Cond.fieldLink RX3 25 "TypecheckStation$Program" "size" "I", Cond.methodLink RX3 64 yX3_checked, Cond.instanceMethod yX3_checked, Cond.selects RX3 yX3_checked yX3_checked, Cond.code yX3_checked cX3_checked 6 (some (.object "TypecheckStation$Findings")), Cond.fieldLink RX3 11 "TypecheckStation$Program" "functions" "[LTypecheckStation$Function;", Cond.fieldLink RX3 21 "TypecheckStation$Program" "findings" "LTypecheckStation$Findings;", Cond.fieldLink RX3 33 "TypecheckStation$Function" "in" "I", Cond.fieldLink RX3 46 "TypecheckStation$Function" "size" "I", Cond.fieldLink RX3 47 "TypecheckStation$Function" "steps" "[I", Cond.fieldLink RX3 40 "TypecheckStation$Function" "out" "I"]
def wsX5_next_r2 : List Cond := [Cond.methodLink RX3 57 yX1_clear, Cond.instanceMethod yX1_clear, Cond.selects RX1 yX1_clear yX1_clear, Cond.initialized RX1, Cond.code yX1_clear cX1_clear 1 none, Cond.fieldLink RX1 9 "TypecheckStation$Findings" "faults" "I", Cond.fieldLink RX1 15 "TypecheckStation$Findings" "firstFault" "I", Cond.fieldLink RX1 18 "TypecheckStation$Findings" "loose" "I", Cond.methodLink RX3 51 yX3_needOf, Cond.instanceMethod yX3_needOf, Cond.selects RX3 yX3_needOf yX3_needOf, Cond.code yX3_needOf cX3_needOf 2 (some .int), Cond.static yX5_isCall, Cond.code yX5_isCall cX5_isCall 1 (some .boolean), Cond.static yX5_plainNeed, Cond.code yX5_plainNeed cX5_plainNeed 1 (some .int), Cond.methodLink RX3 60 yX1_need, Cond.instanceMethod yX1_need, Cond.selects RX1 yX1_need yX1_need, Cond.code yX1_need cX1_need 4 none, Cond.methodLink RX3 54 yX3_giftOf, Cond.instanceMethod yX3_giftOf, Cond.selects RX3 yX3_giftOf yX3_giftOf, Cond.code yX3_giftOf cX3_giftOf 2 (some .int)]
def wsX5_next_r3 : List Cond := [Cond.static yX5_plainGift, Cond.code yX5_plainGift cX5_plainGift 1 (some .int), Cond.methodLink RX3 68 yX1_areNone, Cond.instanceMethod yX1_areNone, Cond.selects RX1 yX1_areNone yX1_areNone, Cond.code yX1_areNone cX1_areNone 1 (some .boolean), Cond.static yX5_with, Cond.code yX5_with cX5_with 2 (some .int), Cond.methodLink RX5 117 yX5_has, Cond.static yX5_has, Cond.code yX5_has cX5_has 2 (some .boolean), Cond.methodLink RX5 208 yX5_gainOf, Cond.instanceMethod yX5_gainOf, Cond.selects RX5 yX5_gainOf yX5_gainOf, Cond.code yX5_gainOf cX5_gainOf 2 (some .int), Cond.methodLink RX5 175 yX5_tollWith, Cond.instanceMethod yX5_tollWith, Cond.selects RX5 yX5_tollWith yX5_tollWith, Cond.code yX5_tollWith cX5_tollWith 5 (some .int), Cond.fieldLink RX5 28 "TypecheckStation" "books" "LTypecheckStation$Books;", Cond.fieldLink RX5 198 "TypecheckStation$Books" "calls" "[[I", Cond.methodLink RX5 262 yX3_guardsCall, Cond.instanceMethod yX3_guardsCall, Cond.selects RX3 yX3_guardsCall yX3_guardsCall]
def wsX5_next_r4 : List Cond := [Cond.code yX3_guardsCall cX3_guardsCall 4 (some .boolean), Cond.methodLink RX5 266 yX3_guardsGive, Cond.instanceMethod yX3_guardsGive, Cond.selects RX3 yX3_guardsGive yX3_guardsGive, Cond.code yX3_guardsGive cX3_guardsGive 4 (some .boolean), Cond.methodLink RX5 202 yX5_rowOf, Cond.static yX5_rowOf, Cond.code yX5_rowOf cX5_rowOf 1 (some .int), Cond.methodLink RX5 121 yX5_with]
def wsX5_next : List Cond := .code yX5_next cX5_next 1 (some .int) :: ((wsX5_next_r1 ++ (wsX5_next_r2 ++ (wsX5_next_r3 ++ wsX5_next_r4))) ++ wsX50 ++ wsX30 ++ wsX20 ++ wsX10 ++ wsX00)
def wsX5_migrate_r1 : List Cond := [Cond.classLink RX5 54 "java/lang/IllegalArgumentException", Cond.initialized "java/lang/IllegalArgumentException", Cond.fieldLink RX5 10 "TypecheckStation" "program" "LTypecheckStation$Program;", Cond.fieldLink RX5 114 "TypecheckStation$Program" "typed" "I", Cond.methodLink RX5 211 yX5_nextToType, Cond.instanceMethod yX5_nextToType, Cond.selects RX5 yX5_nextToType yX5_nextToType, Cond.initialized RX5, Cond.code yX5_nextToType cX5_nextToType 6 (some .int), Cond.fieldLink RX5 36 "TypecheckStation$Program" "size" "I", Cond.methodLink RX5 157 yX3_typable, Cond.instanceMethod yX3_typable, Cond.selects RX3 yX3_typable yX3_typable, Cond.initialized RX3, Cond.code yX3_typable cX3_typable 3 (some .int), Cond.fieldLink RX3 25 "TypecheckStation$Program" "size" "I", Cond.methodLink RX3 64 yX3_checked, Cond.instanceMethod yX3_checked, Cond.selects RX3 yX3_checked yX3_checked, Cond.code yX3_checked cX3_checked 6 (some (.object "TypecheckStation$Findings")), Cond.fieldLink RX3 11 "TypecheckStation$Program" "functions" "[LTypecheckStation$Function;", Cond.fieldLink RX3 21 "TypecheckStation$Program" "findings" "LTypecheckStation$Findings;", Cond.fieldLink RX3 33 "TypecheckStation$Function" "in" "I", Cond.fieldLink RX3 46 "TypecheckStation$Function" "size" "I"]
def wsX5_migrate_r2 : List Cond := [Cond.fieldLink RX3 47 "TypecheckStation$Function" "steps" "[I", Cond.fieldLink RX3 40 "TypecheckStation$Function" "out" "I", Cond.methodLink RX3 57 yX1_clear, Cond.instanceMethod yX1_clear, Cond.selects RX1 yX1_clear yX1_clear, Cond.initialized RX1, Cond.code yX1_clear cX1_clear 1 none, Cond.fieldLink RX1 9 "TypecheckStation$Findings" "faults" "I", Cond.fieldLink RX1 15 "TypecheckStation$Findings" "firstFault" "I", Cond.fieldLink RX1 18 "TypecheckStation$Findings" "loose" "I", Cond.methodLink RX3 51 yX3_needOf, Cond.instanceMethod yX3_needOf, Cond.selects RX3 yX3_needOf yX3_needOf, Cond.code yX3_needOf cX3_needOf 2 (some .int), Cond.static yX5_isCall, Cond.code yX5_isCall cX5_isCall 1 (some .boolean), Cond.static yX5_plainNeed, Cond.code yX5_plainNeed cX5_plainNeed 1 (some .int), Cond.methodLink RX3 60 yX1_need, Cond.instanceMethod yX1_need, Cond.selects RX1 yX1_need yX1_need, Cond.code yX1_need cX1_need 4 none, Cond.methodLink RX3 54 yX3_giftOf, Cond.instanceMethod yX3_giftOf]
def wsX5_migrate_r3 : List Cond := [Cond.selects RX3 yX3_giftOf yX3_giftOf, Cond.code yX3_giftOf cX3_giftOf 2 (some .int), Cond.static yX5_plainGift, Cond.code yX5_plainGift cX5_plainGift 1 (some .int), Cond.methodLink RX3 68 yX1_areNone, Cond.instanceMethod yX1_areNone, Cond.selects RX1 yX1_areNone yX1_areNone, Cond.code yX1_areNone cX1_areNone 1 (some .boolean), Cond.static yX5_with, Cond.code yX5_with cX5_with 2 (some .int), Cond.methodLink RX5 117 yX5_has, Cond.static yX5_has, Cond.code yX5_has cX5_has 2 (some .boolean), Cond.methodLink RX5 208 yX5_gainOf, Cond.instanceMethod yX5_gainOf, Cond.selects RX5 yX5_gainOf yX5_gainOf, Cond.code yX5_gainOf cX5_gainOf 2 (some .int), Cond.methodLink RX5 175 yX5_tollWith, Cond.instanceMethod yX5_tollWith, Cond.selects RX5 yX5_tollWith yX5_tollWith, Cond.code yX5_tollWith cX5_tollWith 5 (some .int), Cond.fieldLink RX5 28 "TypecheckStation" "books" "LTypecheckStation$Books;", Cond.fieldLink RX5 198 "TypecheckStation$Books" "calls" "[[I", Cond.methodLink RX5 262 yX3_guardsCall]
def wsX5_migrate_r4 : List Cond := [Cond.instanceMethod yX3_guardsCall, Cond.selects RX3 yX3_guardsCall yX3_guardsCall, Cond.code yX3_guardsCall cX3_guardsCall 4 (some .boolean), Cond.methodLink RX5 266 yX3_guardsGive, Cond.instanceMethod yX3_guardsGive, Cond.selects RX3 yX3_guardsGive yX3_guardsGive, Cond.code yX3_guardsGive cX3_guardsGive 4 (some .boolean), Cond.methodLink RX5 202 yX5_rowOf, Cond.static yX5_rowOf, Cond.code yX5_rowOf cX5_rowOf 1 (some .int), Cond.methodLink RX5 121 yX5_with]
def wsX5_migrate : List Cond := .code yX5_migrate cX5_migrate 4 (some .int) :: ((wsX5_migrate_r1 ++ (wsX5_migrate_r2 ++ (wsX5_migrate_r3 ++ wsX5_migrate_r4))) ++ wsX50 ++ wsX30 ++ wsX20 ++ wsX10 ++ wsX00 ++ (vx_atS RX5 58 "java/lang/IllegalArgumentException" ["java/lang/RuntimeException", "java/lang/Exception"]).filter goodWord)
def wsX5_wouldBlame_r1 : List Cond := [Cond.fieldLink RX5 21 "TypecheckStation" "trial" "LTypecheckStation$Trial;", Cond.fieldLink RX5 32 "TypecheckStation" "budget" "I", Cond.fieldLink RX5 216 "TypecheckStation$Trial" "blame" "I", Cond.methodLink RX5 46 yX5_requireFunction, Cond.instanceMethod yX5_requireFunction, Cond.selects RX5 yX5_requireFunction yX5_requireFunction, Cond.initialized RX5, Cond.code yX5_requireFunction cX5_requireFunction 2 none, Cond.classLink RX5 128 "java/lang/IndexOutOfBoundsException", Cond.initialized "java/lang/IndexOutOfBoundsException", Cond.fieldLink RX5 10 "TypecheckStation" "program" "LTypecheckStation$Program;", Cond.fieldLink RX5 36 "TypecheckStation$Program" "size" "I", Cond.methodLink RX5 181 yX5_requireValue, Cond.static yX5_requireValue, Cond.code yX5_requireValue cX5_requireValue 2 none, Cond.classLink RX5 54 "java/lang/IllegalArgumentException", Cond.initialized "java/lang/IllegalArgumentException", Cond.methodLink RX5 277 yX5_isValue, Cond.static yX5_isValue, Cond.code yX5_isValue cX5_isValue 2 (some .boolean), Cond.methodLink RX5 184 yX4_tryOut, Cond.instanceMethod yX4_tryOut, Cond.selects RX4 yX4_tryOut yX4_tryOut, Cond.initialized RX4]
def wsX5_wouldBlame_r2 : List Cond := [Cond.code yX4_tryOut cX4_tryOut 5 none, Cond.fieldLink RX4 26 "TypecheckStation$Trial" "budget" "I", Cond.fieldLink RX4 30 "TypecheckStation$Trial" "type" "I", Cond.fieldLink RX4 33 "TypecheckStation$Trial" "number" "I", Cond.methodLink RX4 23 yX4_clear, Cond.instanceMethod yX4_clear, Cond.selects RX4 yX4_clear yX4_clear, Cond.code yX4_clear cX4_clear 3 none, Cond.fieldLink RX4 19 "TypecheckStation$Trial" "calls" "[[I", Cond.fieldLink RX4 40 "TypecheckStation$Trial" "begun" "I", Cond.fieldLink RX4 43 "TypecheckStation$Trial" "looked" "I", Cond.fieldLink RX4 46 "TypecheckStation$Trial" "skipped" "I", Cond.fieldLink RX4 49 "TypecheckStation$Trial" "deepest" "I", Cond.fieldLink RX4 52 "TypecheckStation$Trial" "failure" "I", Cond.fieldLink RX4 55 "TypecheckStation$Trial" "blame" "I", Cond.fieldLink RX4 58 "TypecheckStation$Trial" "hasSuspect" "Z", Cond.fieldLink RX4 62 "TypecheckStation$Trial" "suspect" "I", Cond.methodLink RX4 36 yX4_enter, Cond.instanceMethod yX4_enter, Cond.selects RX4 yX4_enter yX4_enter, Cond.code yX4_enter cX4_enter 4 none, Cond.methodLink RX4 69 Lib.Math.max.name, Cond.static Lib.Math.max.name, Cond.initialized "java/lang/Math"]
def wsX5_wouldBlame_r3 : List Cond := [Cond.code Lib.Math.max.name Lib.Math.max.code 2 (some .int), Cond.fieldLink RX4 9 "TypecheckStation$Trial" "program" "LTypecheckStation$Program;", Cond.fieldLink RX4 79 "TypecheckStation$Program" "typed" "I", Cond.fieldLink RX4 88 "TypecheckStation$Program" "functions" "[LTypecheckStation$Function;", Cond.fieldLink RX4 92 "TypecheckStation$Function" "in" "I", Cond.fieldLink RX4 106 "TypecheckStation$Function" "out" "I", Cond.methodLink RX4 65 yX4_fail, Cond.instanceMethod yX4_fail, Cond.selects RX4 yX4_fail yX4_fail, Cond.code yX4_fail cX4_fail 3 none, Cond.static yX5_rowOf, Cond.code yX5_rowOf cX5_rowOf 1 (some .int), Cond.methodLink RX4 84 yX3_guardsCall, Cond.instanceMethod yX3_guardsCall, Cond.selects RX3 yX3_guardsCall yX3_guardsCall, Cond.initialized RX3, Cond.code yX3_guardsCall cX3_guardsCall 4 (some .boolean), Cond.fieldLink RX3 11 "TypecheckStation$Program" "functions" "[LTypecheckStation$Function;", Cond.fieldLink RX3 33 "TypecheckStation$Function" "in" "I", Cond.static yX5_has, Cond.code yX5_has cX5_has 2 (some .boolean), Cond.methodLink RX4 97 yX4_guard, Cond.instanceMethod yX4_guard, Cond.selects RX4 yX4_guard yX4_guard]
def wsX5_wouldBlame_r4 : List Cond := [Cond.code yX4_guard cX4_guard 5 none, Cond.methodLink RX4 100 yX4_goThrough, Cond.instanceMethod yX4_goThrough, Cond.selects RX4 yX4_goThrough yX4_goThrough, Cond.methodLink RX4 103 yX3_guardsGive, Cond.instanceMethod yX3_guardsGive, Cond.selects RX3 yX3_guardsGive yX3_guardsGive, Cond.code yX3_guardsGive cX3_guardsGive 4 (some .boolean), Cond.fieldLink RX3 40 "TypecheckStation$Function" "out" "I", Cond.code yX4_begin cX4_begin 5 none, Cond.static yX5_isCall, Cond.code yX5_isCall cX5_isCall 1 (some .boolean), Cond.static yX5_plainNeed, Cond.code yX5_plainNeed cX5_plainNeed 1 (some .int), Cond.methodLink RX4 130 yX4_made, Cond.instanceMethod yX4_made, Cond.selects RX4 yX4_made yX4_made, Cond.code yX4_made cX4_made 2 (some .int), Cond.methodLink RX4 140 Lib.Math.min.name, Cond.static Lib.Math.min.name, Cond.code Lib.Math.min.name Lib.Math.min.code 2 (some .int), Cond.methodLink RX4 136 yX4_shownLength, Cond.instanceMethod yX4_shownLength, Cond.selects RX4 yX4_shownLength yX4_shownLength]
def wsX5_wouldBlame_r5 : List Cond := [Cond.code yX4_shownLength cX4_shownLength 2 (some .int), Cond.methodLink RX4 143 Lib.Math.abs.name, Cond.static Lib.Math.abs.name, Cond.code Lib.Math.abs.name Lib.Math.abs.code 1 (some .int), Cond.static yX5_plainGift, Cond.code yX5_plainGift cX5_plainGift 1 (some .int), Cond.code yX4_goThrough cX4_goThrough 5 none, Cond.fieldLink RX4 109 "TypecheckStation$Function" "size" "I", Cond.fieldLink RX4 112 "TypecheckStation$Function" "steps" "[I", Cond.methodLink RX4 116 yX4_begin, Cond.instanceMethod yX4_begin, Cond.selects RX4 yX4_begin yX4_begin]
def wsX5_wouldBlame : List Cond := .code yX5_wouldBlame cX5_wouldBlame 4 (some .int) :: ((wsX5_wouldBlame_r1 ++ (wsX5_wouldBlame_r2 ++ (wsX5_wouldBlame_r3 ++ (wsX5_wouldBlame_r4 ++ wsX5_wouldBlame_r5)))) ++ wsX50 ++ wsX40 ++ wsX30 ++ wsX20 ++ (vx_atS RX5 132 "java/lang/IndexOutOfBoundsException" ["java/lang/RuntimeException", "java/lang/Exception"]).filter goodWord ++ (vx_atS RX5 58 "java/lang/IllegalArgumentException" ["java/lang/RuntimeException", "java/lang/Exception"]).filter goodWord)
def wsX5_untyped_r1 : List Cond := [Cond.fieldLink RX5 10 "TypecheckStation" "program" "LTypecheckStation$Program;", Cond.methodLink RX5 46 yX5_requireFunction, Cond.instanceMethod yX5_requireFunction, Cond.selects RX5 yX5_requireFunction yX5_requireFunction, Cond.initialized RX5, Cond.code yX5_requireFunction cX5_requireFunction 2 none, Cond.classLink RX5 128 "java/lang/IndexOutOfBoundsException", Cond.initialized "java/lang/IndexOutOfBoundsException", Cond.fieldLink RX5 36 "TypecheckStation$Program" "size" "I", Cond.methodLink RX5 77 yX5_requireHints, Cond.static yX5_requireHints, Cond.code yX5_requireHints cX5_requireHints 2 none, Cond.classLink RX5 54 "java/lang/IllegalArgumentException", Cond.initialized "java/lang/IllegalArgumentException", Cond.methodLink RX5 222 yX3_untypableWith, Cond.instanceMethod yX3_untypableWith, Cond.selects RX3 yX3_untypableWith yX3_untypableWith, Cond.initialized RX3, Cond.code yX3_untypableWith cX3_untypableWith 8 (some .int), Cond.fieldLink RX3 11 "TypecheckStation$Program" "functions" "[LTypecheckStation$Function;", Cond.fieldLink RX3 33 "TypecheckStation$Function" "in" "I", Cond.fieldLink RX3 40 "TypecheckStation$Function" "out" "I", Cond.methodLink RX3 98 yX3_untypable, Cond.instanceMethod yX3_untypable]
def wsX5_untyped_r2 : List Cond := [Cond.selects RX3 yX3_untypable yX3_untypable, Cond.code yX3_untypable cX3_untypable 1 (some .int), Cond.fieldLink RX3 92 "TypecheckStation$Program" "typed" "I", Cond.methodLink RX3 95 yX3_typable, Cond.instanceMethod yX3_typable, Cond.selects RX3 yX3_typable yX3_typable, Cond.code yX3_typable cX3_typable 3 (some .int), Cond.fieldLink RX3 25 "TypecheckStation$Program" "size" "I", Cond.methodLink RX3 64 yX3_checked, Cond.instanceMethod yX3_checked, Cond.selects RX3 yX3_checked yX3_checked, Cond.code yX3_checked cX3_checked 6 (some (.object "TypecheckStation$Findings")), Cond.fieldLink RX3 21 "TypecheckStation$Program" "findings" "LTypecheckStation$Findings;", Cond.fieldLink RX3 46 "TypecheckStation$Function" "size" "I", Cond.fieldLink RX3 47 "TypecheckStation$Function" "steps" "[I", Cond.methodLink RX3 57 yX1_clear, Cond.instanceMethod yX1_clear, Cond.selects RX1 yX1_clear yX1_clear, Cond.initialized RX1, Cond.code yX1_clear cX1_clear 1 none, Cond.fieldLink RX1 9 "TypecheckStation$Findings" "faults" "I", Cond.fieldLink RX1 15 "TypecheckStation$Findings" "firstFault" "I", Cond.fieldLink RX1 18 "TypecheckStation$Findings" "loose" "I", Cond.methodLink RX3 51 yX3_needOf]
def wsX5_untyped_r3 : List Cond := [Cond.instanceMethod yX3_needOf, Cond.selects RX3 yX3_needOf yX3_needOf, Cond.code yX3_needOf cX3_needOf 2 (some .int), Cond.static yX5_isCall, Cond.code yX5_isCall cX5_isCall 1 (some .boolean), Cond.static yX5_plainNeed, Cond.code yX5_plainNeed cX5_plainNeed 1 (some .int), Cond.methodLink RX3 60 yX1_need, Cond.instanceMethod yX1_need, Cond.selects RX1 yX1_need yX1_need, Cond.code yX1_need cX1_need 4 none, Cond.methodLink RX3 54 yX3_giftOf, Cond.instanceMethod yX3_giftOf, Cond.selects RX3 yX3_giftOf yX3_giftOf, Cond.code yX3_giftOf cX3_giftOf 2 (some .int), Cond.static yX5_plainGift, Cond.code yX5_plainGift cX5_plainGift 1 (some .int), Cond.methodLink RX3 68 yX1_areNone, Cond.instanceMethod yX1_areNone, Cond.selects RX1 yX1_areNone yX1_areNone, Cond.code yX1_areNone cX1_areNone 1 (some .boolean), Cond.static yX5_with, Cond.code yX5_with cX5_with 2 (some .int), Cond.methodLink RX5 152 yJ6_bitCount_0f7a4]
def wsX5_untyped_r4 : List Cond := [Cond.static yJ6_bitCount_0f7a4, Cond.initialized RJ6, Cond.code yJ6_bitCount_0f7a4 cJ6_bitCount_0f7a4 1 (some .int), Cond.constant RJ6 265 (1431655765), Cond.constant RJ6 266 (858993459), Cond.constant RJ6 267 (252645135)]
def wsX5_untyped : List Cond := .code yX5_untyped cX5_untyped 4 (some .int) :: ((wsX5_untyped_r1 ++ (wsX5_untyped_r2 ++ (wsX5_untyped_r3 ++ wsX5_untyped_r4))) ++ wsX50 ++ wsX30 ++ wsX20 ++ wsX10 ++ (vx_atS RX5 132 "java/lang/IndexOutOfBoundsException" ["java/lang/RuntimeException", "java/lang/Exception"]).filter goodWord ++ (vx_atS RX5 58 "java/lang/IllegalArgumentException" ["java/lang/RuntimeException", "java/lang/Exception"]).filter goodWord)
def wsX5_tollAtBest_r1 : List Cond := [Cond.fieldLink RX5 10 "TypecheckStation" "program" "LTypecheckStation$Program;", Cond.methodLink RX5 157 yX3_typable, Cond.instanceMethod yX3_typable, Cond.selects RX3 yX3_typable yX3_typable, Cond.initialized RX3, Cond.code yX3_typable cX3_typable 3 (some .int), Cond.fieldLink RX3 25 "TypecheckStation$Program" "size" "I", Cond.methodLink RX3 64 yX3_checked, Cond.instanceMethod yX3_checked, Cond.selects RX3 yX3_checked yX3_checked, Cond.code yX3_checked cX3_checked 6 (some (.object "TypecheckStation$Findings")), Cond.fieldLink RX3 11 "TypecheckStation$Program" "functions" "[LTypecheckStation$Function;", Cond.fieldLink RX3 21 "TypecheckStation$Program" "findings" "LTypecheckStation$Findings;", Cond.fieldLink RX3 33 "TypecheckStation$Function" "in" "I", Cond.fieldLink RX3 46 "TypecheckStation$Function" "size" "I", Cond.fieldLink RX3 47 "TypecheckStation$Function" "steps" "[I", Cond.fieldLink RX3 40 "TypecheckStation$Function" "out" "I", Cond.methodLink RX3 57 yX1_clear, Cond.instanceMethod yX1_clear, Cond.selects RX1 yX1_clear yX1_clear, Cond.initialized RX1, Cond.code yX1_clear cX1_clear 1 none, Cond.fieldLink RX1 9 "TypecheckStation$Findings" "faults" "I", Cond.fieldLink RX1 15 "TypecheckStation$Findings" "firstFault" "I"]
def wsX5_tollAtBest_r2 : List Cond := [Cond.fieldLink RX1 18 "TypecheckStation$Findings" "loose" "I", Cond.methodLink RX3 51 yX3_needOf, Cond.instanceMethod yX3_needOf, Cond.selects RX3 yX3_needOf yX3_needOf, Cond.code yX3_needOf cX3_needOf 2 (some .int), Cond.static yX5_isCall, Cond.initialized RX5, Cond.code yX5_isCall cX5_isCall 1 (some .boolean), Cond.static yX5_plainNeed, Cond.code yX5_plainNeed cX5_plainNeed 1 (some .int), Cond.methodLink RX3 60 yX1_need, Cond.instanceMethod yX1_need, Cond.selects RX1 yX1_need yX1_need, Cond.code yX1_need cX1_need 4 none, Cond.methodLink RX3 54 yX3_giftOf, Cond.instanceMethod yX3_giftOf, Cond.selects RX3 yX3_giftOf yX3_giftOf, Cond.code yX3_giftOf cX3_giftOf 2 (some .int), Cond.static yX5_plainGift, Cond.code yX5_plainGift cX5_plainGift 1 (some .int), Cond.methodLink RX3 68 yX1_areNone, Cond.instanceMethod yX1_areNone, Cond.selects RX1 yX1_areNone yX1_areNone, Cond.code yX1_areNone cX1_areNone 1 (some .boolean)]
def wsX5_tollAtBest_r3 : List Cond := [Cond.static yX5_with, Cond.code yX5_with cX5_with 2 (some .int), Cond.methodLink RX5 175 yX5_tollWith, Cond.instanceMethod yX5_tollWith, Cond.selects RX5 yX5_tollWith yX5_tollWith, Cond.code yX5_tollWith cX5_tollWith 5 (some .int), Cond.fieldLink RX5 36 "TypecheckStation$Program" "size" "I", Cond.fieldLink RX5 28 "TypecheckStation" "books" "LTypecheckStation$Books;", Cond.fieldLink RX5 198 "TypecheckStation$Books" "calls" "[[I", Cond.methodLink RX5 262 yX3_guardsCall, Cond.instanceMethod yX3_guardsCall, Cond.selects RX3 yX3_guardsCall yX3_guardsCall, Cond.code yX3_guardsCall cX3_guardsCall 4 (some .boolean), Cond.static yX5_has, Cond.code yX5_has cX5_has 2 (some .boolean), Cond.methodLink RX5 266 yX3_guardsGive, Cond.instanceMethod yX3_guardsGive, Cond.selects RX3 yX3_guardsGive yX3_guardsGive, Cond.code yX3_guardsGive cX3_guardsGive 4 (some .boolean), Cond.methodLink RX5 202 yX5_rowOf, Cond.static yX5_rowOf, Cond.code yX5_rowOf cX5_rowOf 1 (some .int)]
def wsX5_tollAtBest : List Cond := .code yX5_tollAtBest cX5_tollAtBest 1 (some .int) :: ((wsX5_tollAtBest_r1 ++ (wsX5_tollAtBest_r2 ++ wsX5_tollAtBest_r3)) ++ wsX50 ++ wsX30 ++ wsX20 ++ wsX10 ++ wsX00)
def wsX5_mixed : List Cond := .code yX5_mixed cX5_mixed 3 (some .long) :: ([.constantLong RX5 260 (31)])
def wsX5_mixedFunction_r1 : List Cond := [Cond.fieldLink RX5 10 "TypecheckStation" "program" "LTypecheckStation$Program;", Cond.fieldLink RX5 59 "TypecheckStation$Program" "functions" "[LTypecheckStation$Function;", Cond.fieldLink RX5 63 "TypecheckStation$Function" "size" "I", Cond.methodLink RX5 245 yX5_ofFunction, Cond.instanceMethod yX5_ofFunction, Cond.selects RX5 yX5_ofFunction yX5_ofFunction, Cond.initialized RX5, Cond.code yX5_ofFunction cX5_ofFunction 4 (some .int), Cond.fieldLink RX5 89 "TypecheckStation$Function" "in" "I", Cond.fieldLink RX5 96 "TypecheckStation$Function" "out" "I", Cond.fieldLink RX5 114 "TypecheckStation$Program" "typed" "I", Cond.fieldLink RX5 136 "TypecheckStation$Findings" "faults" "I", Cond.fieldLink RX5 139 "TypecheckStation$Findings" "firstFault" "I", Cond.fieldLink RX5 142 "TypecheckStation$Findings" "loose" "I", Cond.fieldLink RX5 28 "TypecheckStation" "books" "LTypecheckStation$Books;", Cond.methodLink RX5 46 yX5_requireFunction, Cond.instanceMethod yX5_requireFunction, Cond.selects RX5 yX5_requireFunction yX5_requireFunction, Cond.code yX5_requireFunction cX5_requireFunction 2 none, Cond.classLink RX5 128 "java/lang/IndexOutOfBoundsException", Cond.initialized "java/lang/IndexOutOfBoundsException", Cond.fieldLink RX5 36 "TypecheckStation$Program" "size" "I", Cond.methodLink RX5 133 yX5_requireWhat, Cond.static yX5_requireWhat]
def wsX5_mixedFunction_r2 : List Cond := [Cond.code yX5_requireWhat cX5_requireWhat 2 none, Cond.classLink RX5 54 "java/lang/IllegalArgumentException", Cond.initialized "java/lang/IllegalArgumentException", Cond.methodLink RX5 117 yX5_has, Cond.static yX5_has, Cond.code yX5_has cX5_has 2 (some .boolean), Cond.methodLink RX5 102 yX3_checked, Cond.instanceMethod yX3_checked, Cond.selects RX3 yX3_checked yX3_checked, Cond.initialized RX3, Cond.code yX3_checked cX3_checked 6 (some (.object "TypecheckStation$Findings")), Cond.fieldLink RX3 11 "TypecheckStation$Program" "functions" "[LTypecheckStation$Function;", Cond.fieldLink RX3 21 "TypecheckStation$Program" "findings" "LTypecheckStation$Findings;", Cond.fieldLink RX3 33 "TypecheckStation$Function" "in" "I", Cond.fieldLink RX3 46 "TypecheckStation$Function" "size" "I", Cond.fieldLink RX3 47 "TypecheckStation$Function" "steps" "[I", Cond.fieldLink RX3 40 "TypecheckStation$Function" "out" "I", Cond.methodLink RX3 57 yX1_clear, Cond.instanceMethod yX1_clear, Cond.selects RX1 yX1_clear yX1_clear, Cond.initialized RX1, Cond.code yX1_clear cX1_clear 1 none, Cond.fieldLink RX1 9 "TypecheckStation$Findings" "faults" "I", Cond.fieldLink RX1 15 "TypecheckStation$Findings" "firstFault" "I"]
def wsX5_mixedFunction_r3 : List Cond := [Cond.fieldLink RX1 18 "TypecheckStation$Findings" "loose" "I", Cond.methodLink RX3 51 yX3_needOf, Cond.instanceMethod yX3_needOf, Cond.selects RX3 yX3_needOf yX3_needOf, Cond.code yX3_needOf cX3_needOf 2 (some .int), Cond.static yX5_isCall, Cond.code yX5_isCall cX5_isCall 1 (some .boolean), Cond.static yX5_plainNeed, Cond.code yX5_plainNeed cX5_plainNeed 1 (some .int), Cond.methodLink RX3 60 yX1_need, Cond.instanceMethod yX1_need, Cond.selects RX1 yX1_need yX1_need, Cond.code yX1_need cX1_need 4 none, Cond.methodLink RX3 54 yX3_giftOf, Cond.instanceMethod yX3_giftOf, Cond.selects RX3 yX3_giftOf yX3_giftOf, Cond.code yX3_giftOf cX3_giftOf 2 (some .int), Cond.static yX5_plainGift, Cond.code yX5_plainGift cX5_plainGift 1 (some .int), Cond.methodLink RX5 92 yX3_guessIn, Cond.instanceMethod yX3_guessIn, Cond.selects RX3 yX3_guessIn yX3_guessIn, Cond.code yX3_guessIn cX3_guessIn 2 (some .int), Cond.methodLink RX5 99 yX3_guessOut]
def wsX5_mixedFunction_r4 : List Cond := [Cond.instanceMethod yX3_guessOut, Cond.selects RX3 yX3_guessOut yX3_guessOut, Cond.code yX3_guessOut cX3_guessOut 2 (some .int), Cond.methodLink RX5 145 yX3_callersOf, Cond.instanceMethod yX3_callersOf, Cond.selects RX3 yX3_callersOf yX3_callersOf, Cond.code yX3_callersOf cX3_callersOf 4 (some .int), Cond.fieldLink RX3 25 "TypecheckStation$Program" "size" "I", Cond.methodLink RX3 79 yX2_mentions, Cond.instanceMethod yX2_mentions, Cond.selects RX2 yX2_mentions yX2_mentions, Cond.initialized RX2, Cond.code yX2_mentions cX2_mentions 3 (some .boolean), Cond.fieldLink RX2 22 "TypecheckStation$Function" "size" "I", Cond.fieldLink RX2 9 "TypecheckStation$Function" "steps" "[I", Cond.methodLink RX5 149 yX0_timesCalled, Cond.instanceMethod yX0_timesCalled, Cond.selects RX0 yX0_timesCalled yX0_timesCalled, Cond.initialized RX0, Cond.code yX0_timesCalled cX0_timesCalled 4 (some .int), Cond.fieldLink RX0 13 "TypecheckStation$Books" "calls" "[[I", Cond.methodLink RX5 230 yX5_mixed, Cond.static yX5_mixed, Cond.code yX5_mixed cX5_mixed 3 (some .long)]
def wsX5_mixedFunction_r5 : List Cond := [Cond.constantLong RX5 260 (31), Cond.methodLink RX5 248 yX5_stepAt, Cond.instanceMethod yX5_stepAt, Cond.selects RX5 yX5_stepAt yX5_stepAt, Cond.code yX5_stepAt cX5_stepAt 4 (some .int), Cond.fieldLink RX5 68 "TypecheckStation$Function" "steps" "[I", Cond.methodLink RX5 251 yX5_blamed, Cond.instanceMethod yX5_blamed, Cond.selects RX5 yX5_blamed yX5_blamed, Cond.code yX5_blamed cX5_blamed 2 (some .int), Cond.fieldLink RX5 205 "TypecheckStation$Books" "blames" "[I", Cond.methodLink RX5 254 yX5_gain, Cond.instanceMethod yX5_gain, Cond.selects RX5 yX5_gain yX5_gain, Cond.code yX5_gain cX5_gain 2 (some .int), Cond.methodLink RX5 208 yX5_gainOf, Cond.instanceMethod yX5_gainOf, Cond.selects RX5 yX5_gainOf yX5_gainOf, Cond.code yX5_gainOf cX5_gainOf 2 (some .int), Cond.methodLink RX5 175 yX5_tollWith, Cond.instanceMethod yX5_tollWith, Cond.selects RX5 yX5_tollWith yX5_tollWith, Cond.code yX5_tollWith cX5_tollWith 5 (some .int), Cond.fieldLink RX5 198 "TypecheckStation$Books" "calls" "[[I"]
def wsX5_mixedFunction_r6 : List Cond := [Cond.methodLink RX5 262 yX3_guardsCall, Cond.instanceMethod yX3_guardsCall, Cond.selects RX3 yX3_guardsCall yX3_guardsCall, Cond.code yX3_guardsCall cX3_guardsCall 4 (some .boolean), Cond.methodLink RX5 266 yX3_guardsGive, Cond.instanceMethod yX3_guardsGive, Cond.selects RX3 yX3_guardsGive yX3_guardsGive, Cond.code yX3_guardsGive cX3_guardsGive 4 (some .boolean), Cond.methodLink RX5 202 yX5_rowOf, Cond.static yX5_rowOf, Cond.code yX5_rowOf cX5_rowOf 1 (some .int), Cond.methodLink RX5 121 yX5_with, Cond.static yX5_with, Cond.code yX5_with cX5_with 2 (some .int), Cond.methodLink RX5 257 yX5_wouldBlame, Cond.instanceMethod yX5_wouldBlame, Cond.selects RX5 yX5_wouldBlame yX5_wouldBlame, Cond.code yX5_wouldBlame cX5_wouldBlame 4 (some .int), Cond.fieldLink RX5 21 "TypecheckStation" "trial" "LTypecheckStation$Trial;", Cond.fieldLink RX5 32 "TypecheckStation" "budget" "I", Cond.fieldLink RX5 216 "TypecheckStation$Trial" "blame" "I", Cond.methodLink RX5 181 yX5_requireValue, Cond.static yX5_requireValue, Cond.code yX5_requireValue cX5_requireValue 2 none]
def wsX5_mixedFunction_r7 : List Cond := [Cond.methodLink RX5 277 yX5_isValue, Cond.static yX5_isValue, Cond.code yX5_isValue cX5_isValue 2 (some .boolean), Cond.methodLink RX5 184 yX4_tryOut, Cond.instanceMethod yX4_tryOut, Cond.selects RX4 yX4_tryOut yX4_tryOut, Cond.initialized RX4, Cond.code yX4_tryOut cX4_tryOut 5 none, Cond.fieldLink RX4 26 "TypecheckStation$Trial" "budget" "I", Cond.fieldLink RX4 30 "TypecheckStation$Trial" "type" "I", Cond.fieldLink RX4 33 "TypecheckStation$Trial" "number" "I", Cond.methodLink RX4 23 yX4_clear, Cond.instanceMethod yX4_clear, Cond.selects RX4 yX4_clear yX4_clear, Cond.code yX4_clear cX4_clear 3 none, Cond.fieldLink RX4 19 "TypecheckStation$Trial" "calls" "[[I", Cond.fieldLink RX4 40 "TypecheckStation$Trial" "begun" "I", Cond.fieldLink RX4 43 "TypecheckStation$Trial" "looked" "I", Cond.fieldLink RX4 46 "TypecheckStation$Trial" "skipped" "I", Cond.fieldLink RX4 49 "TypecheckStation$Trial" "deepest" "I", Cond.fieldLink RX4 52 "TypecheckStation$Trial" "failure" "I", Cond.fieldLink RX4 55 "TypecheckStation$Trial" "blame" "I", Cond.fieldLink RX4 58 "TypecheckStation$Trial" "hasSuspect" "Z", Cond.fieldLink RX4 62 "TypecheckStation$Trial" "suspect" "I"]
def wsX5_mixedFunction_r8 : List Cond := [Cond.methodLink RX4 36 yX4_enter, Cond.instanceMethod yX4_enter, Cond.selects RX4 yX4_enter yX4_enter, Cond.code yX4_enter cX4_enter 4 none, Cond.methodLink RX4 69 Lib.Math.max.name, Cond.static Lib.Math.max.name, Cond.initialized "java/lang/Math", Cond.code Lib.Math.max.name Lib.Math.max.code 2 (some .int), Cond.fieldLink RX4 9 "TypecheckStation$Trial" "program" "LTypecheckStation$Program;", Cond.fieldLink RX4 79 "TypecheckStation$Program" "typed" "I", Cond.fieldLink RX4 88 "TypecheckStation$Program" "functions" "[LTypecheckStation$Function;", Cond.fieldLink RX4 92 "TypecheckStation$Function" "in" "I", Cond.fieldLink RX4 106 "TypecheckStation$Function" "out" "I", Cond.methodLink RX4 65 yX4_fail, Cond.instanceMethod yX4_fail, Cond.selects RX4 yX4_fail yX4_fail, Cond.code yX4_fail cX4_fail 3 none, Cond.methodLink RX4 84 yX3_guardsCall, Cond.methodLink RX4 97 yX4_guard, Cond.instanceMethod yX4_guard, Cond.selects RX4 yX4_guard yX4_guard, Cond.code yX4_guard cX4_guard 5 none, Cond.methodLink RX4 100 yX4_goThrough, Cond.instanceMethod yX4_goThrough]
def wsX5_mixedFunction_r9 : List Cond := [Cond.selects RX4 yX4_goThrough yX4_goThrough, Cond.methodLink RX4 103 yX3_guardsGive, Cond.code yX4_begin cX4_begin 5 none, Cond.methodLink RX4 130 yX4_made, Cond.instanceMethod yX4_made, Cond.selects RX4 yX4_made yX4_made, Cond.code yX4_made cX4_made 2 (some .int), Cond.methodLink RX4 140 Lib.Math.min.name, Cond.static Lib.Math.min.name, Cond.code Lib.Math.min.name Lib.Math.min.code 2 (some .int), Cond.methodLink RX4 136 yX4_shownLength, Cond.instanceMethod yX4_shownLength, Cond.selects RX4 yX4_shownLength yX4_shownLength, Cond.code yX4_shownLength cX4_shownLength 2 (some .int), Cond.methodLink RX4 143 Lib.Math.abs.name, Cond.static Lib.Math.abs.name, Cond.code Lib.Math.abs.name Lib.Math.abs.code 1 (some .int), Cond.code yX4_goThrough cX4_goThrough 5 none, Cond.fieldLink RX4 109 "TypecheckStation$Function" "size" "I", Cond.fieldLink RX4 112 "TypecheckStation$Function" "steps" "[I", Cond.methodLink RX4 116 yX4_begin, Cond.instanceMethod yX4_begin, Cond.selects RX4 yX4_begin yX4_begin]
def wsX5_mixedFunction : List Cond := .code yX5_mixedFunction cX5_mixedFunction 8 (some .long) :: ((wsX5_mixedFunction_r1 ++ (wsX5_mixedFunction_r2 ++ (wsX5_mixedFunction_r3 ++ (wsX5_mixedFunction_r4 ++ (wsX5_mixedFunction_r5 ++ (wsX5_mixedFunction_r6 ++ (wsX5_mixedFunction_r7 ++ (wsX5_mixedFunction_r8 ++ wsX5_mixedFunction_r9)))))))) ++ wsX50 ++ wsX30 ++ wsX20 ++ wsX10 ++ wsX00 ++ wsX40 ++ (vx_atS RX5 132 "java/lang/IndexOutOfBoundsException" ["java/lang/RuntimeException", "java/lang/Exception"]).filter goodWord ++ (vx_atS RX5 58 "java/lang/IllegalArgumentException" ["java/lang/RuntimeException", "java/lang/Exception"]).filter goodWord)
def wsX5_digest_r1 : List Cond := [Cond.constantLong RX5 225 (58113), Cond.fieldLink RX5 10 "TypecheckStation" "program" "LTypecheckStation$Program;", Cond.fieldLink RX5 36 "TypecheckStation$Program" "size" "I", Cond.methodLink RX5 227 yX5_many, Cond.instanceMethod yX5_many, Cond.selects RX5 yX5_many yX5_many, Cond.initialized RX5, Cond.code yX5_many cX5_many 2 (some .int), Cond.fieldLink RX5 114 "TypecheckStation$Program" "typed" "I", Cond.fieldLink RX5 163 "TypecheckStation$Program" "checks" "I", Cond.fieldLink RX5 28 "TypecheckStation" "books" "LTypecheckStation$Books;", Cond.fieldLink RX5 166 "TypecheckStation$Books" "runs" "I", Cond.fieldLink RX5 169 "TypecheckStation$Books" "failures" "I", Cond.fieldLink RX5 172 "TypecheckStation$Books" "costs" "I", Cond.methodLink RX5 133 yX5_requireWhat, Cond.static yX5_requireWhat, Cond.code yX5_requireWhat cX5_requireWhat 2 none, Cond.classLink RX5 54 "java/lang/IllegalArgumentException", Cond.initialized "java/lang/IllegalArgumentException", Cond.methodLink RX5 152 yJ6_bitCount_0f7a4, Cond.static yJ6_bitCount_0f7a4, Cond.initialized RJ6, Cond.code yJ6_bitCount_0f7a4 cJ6_bitCount_0f7a4 1 (some .int), Cond.constant RJ6 265 (1431655765)]
def wsX5_digest_r2 : List Cond := [Cond.constant RJ6 266 (858993459), Cond.constant RJ6 267 (252645135), Cond.methodLink RX5 157 yX3_typable, Cond.instanceMethod yX3_typable, Cond.selects RX3 yX3_typable yX3_typable, Cond.initialized RX3, Cond.code yX3_typable cX3_typable 3 (some .int), Cond.fieldLink RX3 25 "TypecheckStation$Program" "size" "I", Cond.methodLink RX3 64 yX3_checked, Cond.instanceMethod yX3_checked, Cond.selects RX3 yX3_checked yX3_checked, Cond.code yX3_checked cX3_checked 6 (some (.object "TypecheckStation$Findings")), Cond.fieldLink RX3 11 "TypecheckStation$Program" "functions" "[LTypecheckStation$Function;", Cond.fieldLink RX3 21 "TypecheckStation$Program" "findings" "LTypecheckStation$Findings;", Cond.fieldLink RX3 33 "TypecheckStation$Function" "in" "I", Cond.fieldLink RX3 46 "TypecheckStation$Function" "size" "I", Cond.fieldLink RX3 47 "TypecheckStation$Function" "steps" "[I", Cond.fieldLink RX3 40 "TypecheckStation$Function" "out" "I", Cond.methodLink RX3 57 yX1_clear, Cond.instanceMethod yX1_clear, Cond.selects RX1 yX1_clear yX1_clear, Cond.initialized RX1, Cond.code yX1_clear cX1_clear 1 none, Cond.fieldLink RX1 9 "TypecheckStation$Findings" "faults" "I"]
def wsX5_digest_r3 : List Cond := [Cond.fieldLink RX1 15 "TypecheckStation$Findings" "firstFault" "I", Cond.fieldLink RX1 18 "TypecheckStation$Findings" "loose" "I", Cond.methodLink RX3 51 yX3_needOf, Cond.instanceMethod yX3_needOf, Cond.selects RX3 yX3_needOf yX3_needOf, Cond.code yX3_needOf cX3_needOf 2 (some .int), Cond.static yX5_isCall, Cond.code yX5_isCall cX5_isCall 1 (some .boolean), Cond.static yX5_plainNeed, Cond.code yX5_plainNeed cX5_plainNeed 1 (some .int), Cond.methodLink RX3 60 yX1_need, Cond.instanceMethod yX1_need, Cond.selects RX1 yX1_need yX1_need, Cond.code yX1_need cX1_need 4 none, Cond.methodLink RX3 54 yX3_giftOf, Cond.instanceMethod yX3_giftOf, Cond.selects RX3 yX3_giftOf yX3_giftOf, Cond.code yX3_giftOf cX3_giftOf 2 (some .int), Cond.static yX5_plainGift, Cond.code yX5_plainGift cX5_plainGift 1 (some .int), Cond.methodLink RX3 68 yX1_areNone, Cond.instanceMethod yX1_areNone, Cond.selects RX1 yX1_areNone yX1_areNone, Cond.code yX1_areNone cX1_areNone 1 (some .boolean)]
def wsX5_digest_r4 : List Cond := [Cond.static yX5_with, Cond.code yX5_with cX5_with 2 (some .int), Cond.methodLink RX5 160 yX3_allFaults, Cond.instanceMethod yX3_allFaults, Cond.selects RX3 yX3_allFaults yX3_allFaults, Cond.code yX3_allFaults cX3_allFaults 3 (some .int), Cond.fieldLink RX3 76 "TypecheckStation$Findings" "faults" "I", Cond.methodLink RX5 175 yX5_tollWith, Cond.instanceMethod yX5_tollWith, Cond.selects RX5 yX5_tollWith yX5_tollWith, Cond.code yX5_tollWith cX5_tollWith 5 (some .int), Cond.fieldLink RX5 198 "TypecheckStation$Books" "calls" "[[I", Cond.methodLink RX5 262 yX3_guardsCall, Cond.instanceMethod yX3_guardsCall, Cond.selects RX3 yX3_guardsCall yX3_guardsCall, Cond.code yX3_guardsCall cX3_guardsCall 4 (some .boolean), Cond.static yX5_has, Cond.code yX5_has cX5_has 2 (some .boolean), Cond.methodLink RX5 266 yX3_guardsGive, Cond.instanceMethod yX3_guardsGive, Cond.selects RX3 yX3_guardsGive yX3_guardsGive, Cond.code yX3_guardsGive cX3_guardsGive 4 (some .boolean), Cond.methodLink RX5 202 yX5_rowOf, Cond.static yX5_rowOf]
def wsX5_digest_r5 : List Cond := [Cond.code yX5_rowOf cX5_rowOf 1 (some .int), Cond.methodLink RX5 230 yX5_mixed, Cond.static yX5_mixed, Cond.code yX5_mixed cX5_mixed 3 (some .long), Cond.constantLong RX5 260 (31), Cond.methodLink RX5 234 yX5_latest, Cond.instanceMethod yX5_latest, Cond.selects RX5 yX5_latest yX5_latest, Cond.code yX5_latest cX5_latest 2 (some .int), Cond.fieldLink RX5 195 "TypecheckStation$Books" "latest" "[I", Cond.methodLink RX5 236 yX5_mixedFunction, Cond.instanceMethod yX5_mixedFunction, Cond.selects RX5 yX5_mixedFunction yX5_mixedFunction, Cond.code yX5_mixedFunction cX5_mixedFunction 8 (some .long), Cond.fieldLink RX5 59 "TypecheckStation$Program" "functions" "[LTypecheckStation$Function;", Cond.fieldLink RX5 63 "TypecheckStation$Function" "size" "I", Cond.methodLink RX5 245 yX5_ofFunction, Cond.instanceMethod yX5_ofFunction, Cond.selects RX5 yX5_ofFunction yX5_ofFunction, Cond.code yX5_ofFunction cX5_ofFunction 4 (some .int), Cond.fieldLink RX5 89 "TypecheckStation$Function" "in" "I", Cond.fieldLink RX5 96 "TypecheckStation$Function" "out" "I", Cond.fieldLink RX5 136 "TypecheckStation$Findings" "faults" "I", Cond.fieldLink RX5 139 "TypecheckStation$Findings" "firstFault" "I"]
def wsX5_digest_r6 : List Cond := [Cond.fieldLink RX5 142 "TypecheckStation$Findings" "loose" "I", Cond.methodLink RX5 46 yX5_requireFunction, Cond.instanceMethod yX5_requireFunction, Cond.selects RX5 yX5_requireFunction yX5_requireFunction, Cond.code yX5_requireFunction cX5_requireFunction 2 none, Cond.classLink RX5 128 "java/lang/IndexOutOfBoundsException", Cond.initialized "java/lang/IndexOutOfBoundsException", Cond.methodLink RX5 117 yX5_has, Cond.methodLink RX5 102 yX3_checked, Cond.methodLink RX5 92 yX3_guessIn, Cond.instanceMethod yX3_guessIn, Cond.selects RX3 yX3_guessIn yX3_guessIn, Cond.code yX3_guessIn cX3_guessIn 2 (some .int), Cond.methodLink RX5 99 yX3_guessOut, Cond.instanceMethod yX3_guessOut, Cond.selects RX3 yX3_guessOut yX3_guessOut, Cond.code yX3_guessOut cX3_guessOut 2 (some .int), Cond.methodLink RX5 145 yX3_callersOf, Cond.instanceMethod yX3_callersOf, Cond.selects RX3 yX3_callersOf yX3_callersOf, Cond.code yX3_callersOf cX3_callersOf 4 (some .int), Cond.methodLink RX3 79 yX2_mentions, Cond.instanceMethod yX2_mentions, Cond.selects RX2 yX2_mentions yX2_mentions]
def wsX5_digest_r7 : List Cond := [Cond.initialized RX2, Cond.code yX2_mentions cX2_mentions 3 (some .boolean), Cond.fieldLink RX2 22 "TypecheckStation$Function" "size" "I", Cond.fieldLink RX2 9 "TypecheckStation$Function" "steps" "[I", Cond.methodLink RX5 149 yX0_timesCalled, Cond.instanceMethod yX0_timesCalled, Cond.selects RX0 yX0_timesCalled yX0_timesCalled, Cond.initialized RX0, Cond.code yX0_timesCalled cX0_timesCalled 4 (some .int), Cond.fieldLink RX0 13 "TypecheckStation$Books" "calls" "[[I", Cond.methodLink RX5 248 yX5_stepAt, Cond.instanceMethod yX5_stepAt, Cond.selects RX5 yX5_stepAt yX5_stepAt, Cond.code yX5_stepAt cX5_stepAt 4 (some .int), Cond.fieldLink RX5 68 "TypecheckStation$Function" "steps" "[I", Cond.methodLink RX5 251 yX5_blamed, Cond.instanceMethod yX5_blamed, Cond.selects RX5 yX5_blamed yX5_blamed, Cond.code yX5_blamed cX5_blamed 2 (some .int), Cond.fieldLink RX5 205 "TypecheckStation$Books" "blames" "[I", Cond.methodLink RX5 254 yX5_gain, Cond.instanceMethod yX5_gain, Cond.selects RX5 yX5_gain yX5_gain, Cond.code yX5_gain cX5_gain 2 (some .int)]
def wsX5_digest_r8 : List Cond := [Cond.methodLink RX5 208 yX5_gainOf, Cond.instanceMethod yX5_gainOf, Cond.selects RX5 yX5_gainOf yX5_gainOf, Cond.code yX5_gainOf cX5_gainOf 2 (some .int), Cond.methodLink RX5 121 yX5_with, Cond.methodLink RX5 257 yX5_wouldBlame, Cond.instanceMethod yX5_wouldBlame, Cond.selects RX5 yX5_wouldBlame yX5_wouldBlame, Cond.code yX5_wouldBlame cX5_wouldBlame 4 (some .int), Cond.fieldLink RX5 21 "TypecheckStation" "trial" "LTypecheckStation$Trial;", Cond.fieldLink RX5 32 "TypecheckStation" "budget" "I", Cond.fieldLink RX5 216 "TypecheckStation$Trial" "blame" "I", Cond.methodLink RX5 181 yX5_requireValue, Cond.static yX5_requireValue, Cond.code yX5_requireValue cX5_requireValue 2 none, Cond.methodLink RX5 277 yX5_isValue, Cond.static yX5_isValue, Cond.code yX5_isValue cX5_isValue 2 (some .boolean), Cond.methodLink RX5 184 yX4_tryOut, Cond.instanceMethod yX4_tryOut, Cond.selects RX4 yX4_tryOut yX4_tryOut, Cond.initialized RX4, Cond.code yX4_tryOut cX4_tryOut 5 none, Cond.fieldLink RX4 26 "TypecheckStation$Trial" "budget" "I"]
def wsX5_digest_r9 : List Cond := [Cond.fieldLink RX4 30 "TypecheckStation$Trial" "type" "I", Cond.fieldLink RX4 33 "TypecheckStation$Trial" "number" "I", Cond.methodLink RX4 23 yX4_clear, Cond.instanceMethod yX4_clear, Cond.selects RX4 yX4_clear yX4_clear, Cond.code yX4_clear cX4_clear 3 none, Cond.fieldLink RX4 19 "TypecheckStation$Trial" "calls" "[[I", Cond.fieldLink RX4 40 "TypecheckStation$Trial" "begun" "I", Cond.fieldLink RX4 43 "TypecheckStation$Trial" "looked" "I", Cond.fieldLink RX4 46 "TypecheckStation$Trial" "skipped" "I", Cond.fieldLink RX4 49 "TypecheckStation$Trial" "deepest" "I", Cond.fieldLink RX4 52 "TypecheckStation$Trial" "failure" "I", Cond.fieldLink RX4 55 "TypecheckStation$Trial" "blame" "I", Cond.fieldLink RX4 58 "TypecheckStation$Trial" "hasSuspect" "Z", Cond.fieldLink RX4 62 "TypecheckStation$Trial" "suspect" "I", Cond.methodLink RX4 36 yX4_enter, Cond.instanceMethod yX4_enter, Cond.selects RX4 yX4_enter yX4_enter, Cond.code yX4_enter cX4_enter 4 none, Cond.methodLink RX4 69 Lib.Math.max.name, Cond.static Lib.Math.max.name, Cond.initialized "java/lang/Math", Cond.code Lib.Math.max.name Lib.Math.max.code 2 (some .int), Cond.fieldLink RX4 9 "TypecheckStation$Trial" "program" "LTypecheckStation$Program;"]
def wsX5_digest_r10 : List Cond := [Cond.fieldLink RX4 79 "TypecheckStation$Program" "typed" "I", Cond.fieldLink RX4 88 "TypecheckStation$Program" "functions" "[LTypecheckStation$Function;", Cond.fieldLink RX4 92 "TypecheckStation$Function" "in" "I", Cond.fieldLink RX4 106 "TypecheckStation$Function" "out" "I", Cond.methodLink RX4 65 yX4_fail, Cond.instanceMethod yX4_fail, Cond.selects RX4 yX4_fail yX4_fail, Cond.code yX4_fail cX4_fail 3 none, Cond.methodLink RX4 84 yX3_guardsCall, Cond.methodLink RX4 97 yX4_guard, Cond.instanceMethod yX4_guard, Cond.selects RX4 yX4_guard yX4_guard, Cond.code yX4_guard cX4_guard 5 none, Cond.methodLink RX4 100 yX4_goThrough, Cond.instanceMethod yX4_goThrough, Cond.selects RX4 yX4_goThrough yX4_goThrough, Cond.methodLink RX4 103 yX3_guardsGive, Cond.code yX4_begin cX4_begin 5 none, Cond.methodLink RX4 130 yX4_made, Cond.instanceMethod yX4_made, Cond.selects RX4 yX4_made yX4_made, Cond.code yX4_made cX4_made 2 (some .int), Cond.methodLink RX4 140 Lib.Math.min.name, Cond.static Lib.Math.min.name]
def wsX5_digest_r11 : List Cond := [Cond.code Lib.Math.min.name Lib.Math.min.code 2 (some .int), Cond.methodLink RX4 136 yX4_shownLength, Cond.instanceMethod yX4_shownLength, Cond.selects RX4 yX4_shownLength yX4_shownLength, Cond.code yX4_shownLength cX4_shownLength 2 (some .int), Cond.methodLink RX4 143 Lib.Math.abs.name, Cond.static Lib.Math.abs.name, Cond.code Lib.Math.abs.name Lib.Math.abs.code 1 (some .int), Cond.code yX4_goThrough cX4_goThrough 5 none, Cond.fieldLink RX4 109 "TypecheckStation$Function" "size" "I", Cond.fieldLink RX4 112 "TypecheckStation$Function" "steps" "[I", Cond.methodLink RX4 116 yX4_begin, Cond.instanceMethod yX4_begin, Cond.selects RX4 yX4_begin yX4_begin, Cond.methodLink RX5 239 yX5_next, Cond.instanceMethod yX5_next, Cond.selects RX5 yX5_next yX5_next, Cond.code yX5_next cX5_next 1 (some .int), Cond.methodLink RX5 211 yX5_nextToType, Cond.instanceMethod yX5_nextToType, Cond.selects RX5 yX5_nextToType yX5_nextToType, Cond.code yX5_nextToType cX5_nextToType 6 (some .int), Cond.methodLink RX5 242 yX5_tollAtBest, Cond.instanceMethod yX5_tollAtBest]
def wsX5_digest_r12 : List Cond := [Cond.selects RX5 yX5_tollAtBest yX5_tollAtBest, Cond.code yX5_tollAtBest cX5_tollAtBest 1 (some .int)]
def wsX5_digest : List Cond := .code yX5_digest cX5_digest 4 (some .long) :: ((wsX5_digest_r1 ++ (wsX5_digest_r2 ++ (wsX5_digest_r3 ++ (wsX5_digest_r4 ++ (wsX5_digest_r5 ++ (wsX5_digest_r6 ++ (wsX5_digest_r7 ++ (wsX5_digest_r8 ++ (wsX5_digest_r9 ++ (wsX5_digest_r10 ++ (wsX5_digest_r11 ++ wsX5_digest_r12))))))))))) ++ wsX50 ++ wsX30 ++ wsX00 ++ wsX20 ++ wsX10 ++ wsX40 ++ (vx_atS RX5 58 "java/lang/IllegalArgumentException" ["java/lang/RuntimeException", "java/lang/Exception"]).filter goodWord ++ (vx_atS RX5 132 "java/lang/IndexOutOfBoundsException" ["java/lang/RuntimeException", "java/lang/Exception"]).filter goodWord)
def wsX6_init : List Cond := .code yX6_init cX6_init 1 none :: ([.methodLink RX6 1 objectInit, .instanceMethod objectInit, .code objectInit ⟨#[0xb1]⟩ 1 none, .classLink RX6 7 "[[I", .arrayClass .int, .fieldLink RX6 9 "TypecheckStationLaw$Own" "steps" "[[I", .fieldLink RX6 14 "TypecheckStationLaw$Own" "size" "[I", .fieldLink RX6 18 "TypecheckStationLaw$Own" "in" "[I", .fieldLink RX6 21 "TypecheckStationLaw$Own" "out" "[I", .arrayClass .boolean, .fieldLink RX6 24 "TypecheckStationLaw$Own" "isTyped" "[Z", .fieldLink RX6 28 "TypecheckStationLaw$Own" "at" "[I", .fieldLink RX6 31 "TypecheckStationLaw$Own" "who" "[I", .fieldLink RX6 34 "TypecheckStationLaw$Own" "told" "[I"] ++ wsX60)
def wsX6_gives : List Cond := .code yX6_gives cX6_gives 3 (some .int) :: ([.fieldLink RX6 21 "TypecheckStationLaw$Own" "out" "[I", .arrayClass .int] ++ wsX60)
def wsL_cell : List Cond := .code yL_cell cL_cell 2 (some .int) :: ([.constant RL 8 (790386105)])
def wsL_below : List Cond := .code yL_below cL_below 2 (some .int) :: ([.constant RL 7 (2147483647)])
def wsX6_step : List Cond := .code yX6_step cX6_step 4 (some .int) :: ([.static yL_below, .initialized RL, .code yL_below cL_below 2 (some .int), .constant RL 7 (2147483647)])
def wsX6_isTold_r1 : List Cond := [Cond.fieldLink RX6 18 "TypecheckStationLaw$Own" "in" "[I", Cond.fieldLink RX6 21 "TypecheckStationLaw$Own" "out" "[I", Cond.fieldLink RX6 57 "TypecheckStationLaw$Own" "there" "I", Cond.fieldLink RX6 9 "TypecheckStationLaw$Own" "steps" "[[I", Cond.fieldLink RX6 14 "TypecheckStationLaw$Own" "size" "[I", Cond.static yL_cell, Cond.initialized RL, Cond.code yL_cell cL_cell 2 (some .int), Cond.constant RL 8 (790386105), Cond.static yL_below, Cond.code yL_below cL_below 2 (some .int), Cond.constant RL 7 (2147483647), Cond.methodLink RX6 119 yX5_function, Cond.instanceMethod yX5_function, Cond.selects RX5 yX5_function yX5_function, Cond.initialized RX5, Cond.code yX5_function cX5_function 1 (some .int), Cond.classLink RX5 39 "java/lang/IllegalStateException", Cond.initialized "java/lang/IllegalStateException", Cond.fieldLink RX5 10 "TypecheckStation" "program" "LTypecheckStation$Program;", Cond.fieldLink RX5 36 "TypecheckStation$Program" "size" "I", Cond.methodLink RX6 125 yX6_step, Cond.static yX6_step, Cond.initialized RX6]
def wsX6_isTold_r2 : List Cond := [Cond.code yX6_step cX6_step 4 (some .int), Cond.methodLink RX6 129 yX5_step, Cond.instanceMethod yX5_step, Cond.selects RX5 yX5_step yX5_step, Cond.code yX5_step cX5_step 4 (some .int), Cond.classLink RX5 54 "java/lang/IllegalArgumentException", Cond.initialized "java/lang/IllegalArgumentException", Cond.fieldLink RX5 59 "TypecheckStation$Program" "functions" "[LTypecheckStation$Function;", Cond.fieldLink RX5 63 "TypecheckStation$Function" "size" "I", Cond.fieldLink RX5 68 "TypecheckStation$Function" "steps" "[I", Cond.methodLink RX5 46 yX5_requireFunction, Cond.instanceMethod yX5_requireFunction, Cond.selects RX5 yX5_requireFunction yX5_requireFunction, Cond.code yX5_requireFunction cX5_requireFunction 2 none, Cond.classLink RX5 128 "java/lang/IndexOutOfBoundsException", Cond.initialized "java/lang/IndexOutOfBoundsException", Cond.methodLink RX5 50 yX3_isStep, Cond.instanceMethod yX3_isStep, Cond.selects RX3 yX3_isStep yX3_isStep, Cond.initialized RX3, Cond.code yX3_isStep cX3_isStep 2 (some .boolean), Cond.fieldLink RX3 25 "TypecheckStation$Program" "size" "I", Cond.methodLink RX5 72 yX3_afterStepsChanged, Cond.instanceMethod yX3_afterStepsChanged]
def wsX6_isTold_r3 : List Cond := [Cond.selects RX3 yX3_afterStepsChanged yX3_afterStepsChanged, Cond.code yX3_afterStepsChanged cX3_afterStepsChanged 1 none, Cond.fieldLink RX3 82 "TypecheckStation$Program" "checks" "I", Cond.methodLink RX3 85 yX3_dropUntypable, Cond.instanceMethod yX3_dropUntypable, Cond.selects RX3 yX3_dropUntypable yX3_dropUntypable, Cond.code yX3_dropUntypable cX3_dropUntypable 2 (some .int), Cond.fieldLink RX3 92 "TypecheckStation$Program" "typed" "I", Cond.methodLink RX3 98 yX3_untypable, Cond.instanceMethod yX3_untypable, Cond.selects RX3 yX3_untypable yX3_untypable, Cond.code yX3_untypable cX3_untypable 1 (some .int), Cond.methodLink RX3 95 yX3_typable, Cond.instanceMethod yX3_typable, Cond.selects RX3 yX3_typable yX3_typable, Cond.code yX3_typable cX3_typable 3 (some .int), Cond.methodLink RX3 64 yX3_checked, Cond.instanceMethod yX3_checked, Cond.selects RX3 yX3_checked yX3_checked, Cond.code yX3_checked cX3_checked 6 (some (.object "TypecheckStation$Findings")), Cond.fieldLink RX3 11 "TypecheckStation$Program" "functions" "[LTypecheckStation$Function;", Cond.fieldLink RX3 21 "TypecheckStation$Program" "findings" "LTypecheckStation$Findings;", Cond.fieldLink RX3 33 "TypecheckStation$Function" "in" "I", Cond.fieldLink RX3 46 "TypecheckStation$Function" "size" "I"]
def wsX6_isTold_r4 : List Cond := [Cond.fieldLink RX3 47 "TypecheckStation$Function" "steps" "[I", Cond.fieldLink RX3 40 "TypecheckStation$Function" "out" "I", Cond.methodLink RX3 57 yX1_clear, Cond.instanceMethod yX1_clear, Cond.selects RX1 yX1_clear yX1_clear, Cond.initialized RX1, Cond.code yX1_clear cX1_clear 1 none, Cond.fieldLink RX1 9 "TypecheckStation$Findings" "faults" "I", Cond.fieldLink RX1 15 "TypecheckStation$Findings" "firstFault" "I", Cond.fieldLink RX1 18 "TypecheckStation$Findings" "loose" "I", Cond.methodLink RX3 51 yX3_needOf, Cond.instanceMethod yX3_needOf, Cond.selects RX3 yX3_needOf yX3_needOf, Cond.code yX3_needOf cX3_needOf 2 (some .int), Cond.static yX5_isCall, Cond.code yX5_isCall cX5_isCall 1 (some .boolean), Cond.static yX5_plainNeed, Cond.code yX5_plainNeed cX5_plainNeed 1 (some .int), Cond.methodLink RX3 60 yX1_need, Cond.instanceMethod yX1_need, Cond.selects RX1 yX1_need yX1_need, Cond.code yX1_need cX1_need 4 none, Cond.methodLink RX3 54 yX3_giftOf, Cond.instanceMethod yX3_giftOf]
def wsX6_isTold_r5 : List Cond := [Cond.selects RX3 yX3_giftOf yX3_giftOf, Cond.code yX3_giftOf cX3_giftOf 2 (some .int), Cond.static yX5_plainGift, Cond.code yX5_plainGift cX5_plainGift 1 (some .int), Cond.methodLink RX3 68 yX1_areNone, Cond.instanceMethod yX1_areNone, Cond.selects RX1 yX1_areNone yX1_areNone, Cond.code yX1_areNone cX1_areNone 1 (some .boolean), Cond.static yX5_with, Cond.code yX5_with cX5_with 2 (some .int), Cond.methodLink RX3 101 yJ6_bitCount_0f7a4, Cond.static yJ6_bitCount_0f7a4, Cond.initialized RJ6, Cond.code yJ6_bitCount_0f7a4 cJ6_bitCount_0f7a4 1 (some .int), Cond.constant RJ6 265 (1431655765), Cond.constant RJ6 266 (858993459), Cond.constant RJ6 267 (252645135), Cond.methodLink RX6 37 yX6_gives, Cond.instanceMethod yX6_gives, Cond.selects RX6 yX6_gives yX6_gives, Cond.code yX6_gives cX6_gives 3 (some .int), Cond.arrayClass .int]
def wsX6_isTold : List Cond := .code yX6_isTold cX6_isTold 10 (some .boolean) :: ((wsX6_isTold_r1 ++ (wsX6_isTold_r2 ++ (wsX6_isTold_r3 ++ (wsX6_isTold_r4 ++ wsX6_isTold_r5)))) ++ wsX60 ++ wsX50 ++ wsX30 ++ wsX20 ++ wsX10 ++ (vx_atS RX5 43 "java/lang/IllegalStateException" ["java/lang/RuntimeException", "java/lang/Exception"]).filter goodWord ++ (vx_atS RX5 58 "java/lang/IllegalArgumentException" ["java/lang/RuntimeException", "java/lang/Exception"]).filter goodWord ++ (vx_atS RX5 132 "java/lang/IndexOutOfBoundsException" ["java/lang/RuntimeException", "java/lang/Exception"]).filter goodWord)
def wsJ9_abs_0f7a4 : List Cond := .code yJ9_abs_0f7a4 cJ9_abs_0f7a4 1 (some .int) :: ([])
def wsJ9_max_7cf53 : List Cond := .code yJ9_max_7cf53 cJ9_max_7cf53 2 (some .int) :: ([])
def wsJ9_min_7cf53 : List Cond := .code yJ9_min_7cf53 cJ9_min_7cf53 2 (some .int) :: ([])
def wsL_isRunRight_r1 : List Cond := [Cond.methodLink RL 29 yL_below, Cond.static yL_below, Cond.initialized RL, Cond.code yL_below cL_below 2 (some .int), Cond.constant RL 7 (2147483647), Cond.methodLink RL 33 yX5_many, Cond.instanceMethod yX5_many, Cond.selects RX5 yX5_many yX5_many, Cond.initialized RX5, Cond.code yX5_many cX5_many 2 (some .int), Cond.fieldLink RX5 10 "TypecheckStation" "program" "LTypecheckStation$Program;", Cond.fieldLink RX5 36 "TypecheckStation$Program" "size" "I", Cond.fieldLink RX5 114 "TypecheckStation$Program" "typed" "I", Cond.fieldLink RX5 163 "TypecheckStation$Program" "checks" "I", Cond.fieldLink RX5 28 "TypecheckStation" "books" "LTypecheckStation$Books;", Cond.fieldLink RX5 166 "TypecheckStation$Books" "runs" "I", Cond.fieldLink RX5 169 "TypecheckStation$Books" "failures" "I", Cond.fieldLink RX5 172 "TypecheckStation$Books" "costs" "I", Cond.methodLink RX5 133 yX5_requireWhat, Cond.static yX5_requireWhat, Cond.code yX5_requireWhat cX5_requireWhat 2 none, Cond.classLink RX5 54 "java/lang/IllegalArgumentException", Cond.initialized "java/lang/IllegalArgumentException", Cond.methodLink RX5 152 yJ6_bitCount_0f7a4]
def wsL_isRunRight_r2 : List Cond := [Cond.static yJ6_bitCount_0f7a4, Cond.initialized RJ6, Cond.code yJ6_bitCount_0f7a4 cJ6_bitCount_0f7a4 1 (some .int), Cond.constant RJ6 265 (1431655765), Cond.constant RJ6 266 (858993459), Cond.constant RJ6 267 (252645135), Cond.methodLink RX5 157 yX3_typable, Cond.instanceMethod yX3_typable, Cond.selects RX3 yX3_typable yX3_typable, Cond.initialized RX3, Cond.code yX3_typable cX3_typable 3 (some .int), Cond.fieldLink RX3 25 "TypecheckStation$Program" "size" "I", Cond.methodLink RX3 64 yX3_checked, Cond.instanceMethod yX3_checked, Cond.selects RX3 yX3_checked yX3_checked, Cond.code yX3_checked cX3_checked 6 (some (.object "TypecheckStation$Findings")), Cond.fieldLink RX3 11 "TypecheckStation$Program" "functions" "[LTypecheckStation$Function;", Cond.fieldLink RX3 21 "TypecheckStation$Program" "findings" "LTypecheckStation$Findings;", Cond.fieldLink RX3 33 "TypecheckStation$Function" "in" "I", Cond.fieldLink RX3 46 "TypecheckStation$Function" "size" "I", Cond.fieldLink RX3 47 "TypecheckStation$Function" "steps" "[I", Cond.fieldLink RX3 40 "TypecheckStation$Function" "out" "I", Cond.methodLink RX3 57 yX1_clear, Cond.instanceMethod yX1_clear]
def wsL_isRunRight_r3 : List Cond := [Cond.selects RX1 yX1_clear yX1_clear, Cond.initialized RX1, Cond.code yX1_clear cX1_clear 1 none, Cond.fieldLink RX1 9 "TypecheckStation$Findings" "faults" "I", Cond.fieldLink RX1 15 "TypecheckStation$Findings" "firstFault" "I", Cond.fieldLink RX1 18 "TypecheckStation$Findings" "loose" "I", Cond.methodLink RX3 51 yX3_needOf, Cond.instanceMethod yX3_needOf, Cond.selects RX3 yX3_needOf yX3_needOf, Cond.code yX3_needOf cX3_needOf 2 (some .int), Cond.static yX5_isCall, Cond.code yX5_isCall cX5_isCall 1 (some .boolean), Cond.static yX5_plainNeed, Cond.code yX5_plainNeed cX5_plainNeed 1 (some .int), Cond.methodLink RX3 60 yX1_need, Cond.instanceMethod yX1_need, Cond.selects RX1 yX1_need yX1_need, Cond.code yX1_need cX1_need 4 none, Cond.methodLink RX3 54 yX3_giftOf, Cond.instanceMethod yX3_giftOf, Cond.selects RX3 yX3_giftOf yX3_giftOf, Cond.code yX3_giftOf cX3_giftOf 2 (some .int), Cond.static yX5_plainGift, Cond.code yX5_plainGift cX5_plainGift 1 (some .int)]
def wsL_isRunRight_r4 : List Cond := [Cond.methodLink RX3 68 yX1_areNone, Cond.instanceMethod yX1_areNone, Cond.selects RX1 yX1_areNone yX1_areNone, Cond.code yX1_areNone cX1_areNone 1 (some .boolean), Cond.static yX5_with, Cond.code yX5_with cX5_with 2 (some .int), Cond.methodLink RX5 160 yX3_allFaults, Cond.instanceMethod yX3_allFaults, Cond.selects RX3 yX3_allFaults yX3_allFaults, Cond.code yX3_allFaults cX3_allFaults 3 (some .int), Cond.fieldLink RX3 76 "TypecheckStation$Findings" "faults" "I", Cond.methodLink RX5 175 yX5_tollWith, Cond.instanceMethod yX5_tollWith, Cond.selects RX5 yX5_tollWith yX5_tollWith, Cond.code yX5_tollWith cX5_tollWith 5 (some .int), Cond.fieldLink RX5 198 "TypecheckStation$Books" "calls" "[[I", Cond.methodLink RX5 262 yX3_guardsCall, Cond.instanceMethod yX3_guardsCall, Cond.selects RX3 yX3_guardsCall yX3_guardsCall, Cond.code yX3_guardsCall cX3_guardsCall 4 (some .boolean), Cond.static yX5_has, Cond.code yX5_has cX5_has 2 (some .boolean), Cond.methodLink RX5 266 yX3_guardsGive, Cond.instanceMethod yX3_guardsGive]
def wsL_isRunRight_r5 : List Cond := [Cond.selects RX3 yX3_guardsGive yX3_guardsGive, Cond.code yX3_guardsGive cX3_guardsGive 4 (some .boolean), Cond.methodLink RX5 202 yX5_rowOf, Cond.static yX5_rowOf, Cond.code yX5_rowOf cX5_rowOf 1 (some .int), Cond.methodLink RL 92 yX5_counted, Cond.instanceMethod yX5_counted, Cond.selects RX5 yX5_counted yX5_counted, Cond.code yX5_counted cX5_counted 3 (some .int), Cond.methodLink RX5 46 yX5_requireFunction, Cond.instanceMethod yX5_requireFunction, Cond.selects RX5 yX5_requireFunction yX5_requireFunction, Cond.code yX5_requireFunction cX5_requireFunction 2 none, Cond.classLink RX5 128 "java/lang/IndexOutOfBoundsException", Cond.initialized "java/lang/IndexOutOfBoundsException", Cond.methodLink RL 95 yX5_wouldBlame, Cond.instanceMethod yX5_wouldBlame, Cond.selects RX5 yX5_wouldBlame yX5_wouldBlame, Cond.code yX5_wouldBlame cX5_wouldBlame 4 (some .int), Cond.fieldLink RX5 21 "TypecheckStation" "trial" "LTypecheckStation$Trial;", Cond.fieldLink RX5 32 "TypecheckStation" "budget" "I", Cond.fieldLink RX5 216 "TypecheckStation$Trial" "blame" "I", Cond.methodLink RX5 181 yX5_requireValue, Cond.static yX5_requireValue]
def wsL_isRunRight_r6 : List Cond := [Cond.code yX5_requireValue cX5_requireValue 2 none, Cond.methodLink RX5 277 yX5_isValue, Cond.static yX5_isValue, Cond.code yX5_isValue cX5_isValue 2 (some .boolean), Cond.methodLink RX5 184 yX4_tryOut, Cond.instanceMethod yX4_tryOut, Cond.selects RX4 yX4_tryOut yX4_tryOut, Cond.initialized RX4, Cond.code yX4_tryOut cX4_tryOut 5 none, Cond.fieldLink RX4 26 "TypecheckStation$Trial" "budget" "I", Cond.fieldLink RX4 30 "TypecheckStation$Trial" "type" "I", Cond.fieldLink RX4 33 "TypecheckStation$Trial" "number" "I", Cond.methodLink RX4 23 yX4_clear, Cond.instanceMethod yX4_clear, Cond.selects RX4 yX4_clear yX4_clear, Cond.code yX4_clear cX4_clear 3 none, Cond.fieldLink RX4 19 "TypecheckStation$Trial" "calls" "[[I", Cond.fieldLink RX4 40 "TypecheckStation$Trial" "begun" "I", Cond.fieldLink RX4 43 "TypecheckStation$Trial" "looked" "I", Cond.fieldLink RX4 46 "TypecheckStation$Trial" "skipped" "I", Cond.fieldLink RX4 49 "TypecheckStation$Trial" "deepest" "I", Cond.fieldLink RX4 52 "TypecheckStation$Trial" "failure" "I", Cond.fieldLink RX4 55 "TypecheckStation$Trial" "blame" "I", Cond.fieldLink RX4 58 "TypecheckStation$Trial" "hasSuspect" "Z"]
def wsL_isRunRight_r7 : List Cond := [Cond.fieldLink RX4 62 "TypecheckStation$Trial" "suspect" "I", Cond.methodLink RX4 36 yX4_enter, Cond.instanceMethod yX4_enter, Cond.selects RX4 yX4_enter yX4_enter, Cond.code yX4_enter cX4_enter 4 none, Cond.methodLink RX4 69 Lib.Math.max.name, Cond.static Lib.Math.max.name, Cond.initialized "java/lang/Math", Cond.code Lib.Math.max.name Lib.Math.max.code 2 (some .int), Cond.fieldLink RX4 9 "TypecheckStation$Trial" "program" "LTypecheckStation$Program;", Cond.fieldLink RX4 79 "TypecheckStation$Program" "typed" "I", Cond.fieldLink RX4 88 "TypecheckStation$Program" "functions" "[LTypecheckStation$Function;", Cond.fieldLink RX4 92 "TypecheckStation$Function" "in" "I", Cond.fieldLink RX4 106 "TypecheckStation$Function" "out" "I", Cond.methodLink RX4 65 yX4_fail, Cond.instanceMethod yX4_fail, Cond.selects RX4 yX4_fail yX4_fail, Cond.code yX4_fail cX4_fail 3 none, Cond.methodLink RX4 84 yX3_guardsCall, Cond.methodLink RX4 97 yX4_guard, Cond.instanceMethod yX4_guard, Cond.selects RX4 yX4_guard yX4_guard, Cond.code yX4_guard cX4_guard 5 none, Cond.methodLink RX4 100 yX4_goThrough]
def wsL_isRunRight_r8 : List Cond := [Cond.instanceMethod yX4_goThrough, Cond.selects RX4 yX4_goThrough yX4_goThrough, Cond.methodLink RX4 103 yX3_guardsGive, Cond.code yX4_begin cX4_begin 5 none, Cond.methodLink RX4 130 yX4_made, Cond.instanceMethod yX4_made, Cond.selects RX4 yX4_made yX4_made, Cond.code yX4_made cX4_made 2 (some .int), Cond.methodLink RX4 140 Lib.Math.min.name, Cond.static Lib.Math.min.name, Cond.code Lib.Math.min.name Lib.Math.min.code 2 (some .int), Cond.methodLink RX4 136 yX4_shownLength, Cond.instanceMethod yX4_shownLength, Cond.selects RX4 yX4_shownLength yX4_shownLength, Cond.code yX4_shownLength cX4_shownLength 2 (some .int), Cond.methodLink RX4 143 Lib.Math.abs.name, Cond.static Lib.Math.abs.name, Cond.code Lib.Math.abs.name Lib.Math.abs.code 1 (some .int), Cond.code yX4_goThrough cX4_goThrough 5 none, Cond.fieldLink RX4 109 "TypecheckStation$Function" "size" "I", Cond.fieldLink RX4 112 "TypecheckStation$Function" "steps" "[I", Cond.methodLink RX4 116 yX4_begin, Cond.instanceMethod yX4_begin, Cond.selects RX4 yX4_begin yX4_begin]
def wsL_isRunRight_r9 : List Cond := [Cond.methodLink RL 98 yX5_run, Cond.instanceMethod yX5_run, Cond.selects RX5 yX5_run yX5_run, Cond.code yX5_run cX5_run 4 (some .int), Cond.fieldLink RX5 192 "TypecheckStation$Trial" "failure" "I", Cond.methodLink RX5 188 yX0_enter, Cond.instanceMethod yX0_enter, Cond.selects RX0 yX0_enter yX0_enter, Cond.initialized RX0, Cond.code yX0_enter cX0_enter 2 none, Cond.fieldLink RX0 26 "TypecheckStation$Books" "runs" "I", Cond.fieldLink RX0 30 "TypecheckStation$Trial" "failure" "I", Cond.fieldLink RX0 35 "TypecheckStation$Books" "failures" "I", Cond.fieldLink RX0 38 "TypecheckStation$Trial" "blame" "I", Cond.fieldLink RX0 19 "TypecheckStation$Books" "blames" "[I", Cond.fieldLink RX0 41 "TypecheckStation$Books" "costs" "I", Cond.methodLink RX0 44 yX4_cost, Cond.instanceMethod yX4_cost, Cond.selects RX4 yX4_cost yX4_cost, Cond.code yX4_cost cX4_cost 1 (some .int), Cond.methodLink RX0 48 yX0_addCalls, Cond.instanceMethod yX0_addCalls, Cond.selects RX0 yX0_addCalls yX0_addCalls, Cond.code yX0_addCalls cX0_addCalls 4 none]
def wsL_isRunRight_r10 : List Cond := [Cond.fieldLink RX0 13 "TypecheckStation$Books" "calls" "[[I", Cond.fieldLink RX0 55 "TypecheckStation$Trial" "calls" "[[I", Cond.methodLink RX0 52 yX0_keepLatest, Cond.instanceMethod yX0_keepLatest, Cond.selects RX0 yX0_keepLatest yX0_keepLatest, Cond.code yX0_keepLatest cX0_keepLatest 3 none, Cond.fieldLink RX0 23 "TypecheckStation$Books" "latest" "[I", Cond.fieldLink RX0 56 "TypecheckStation$Trial" "looked" "I", Cond.fieldLink RX0 59 "TypecheckStation$Trial" "skipped" "I", Cond.fieldLink RX0 62 "TypecheckStation$Trial" "type" "I", Cond.fieldLink RX0 65 "TypecheckStation$Trial" "number" "I", Cond.fieldLink RX0 68 "TypecheckStation$Trial" "deepest" "I", Cond.methodLink RL 101 yX5_latest, Cond.instanceMethod yX5_latest, Cond.selects RX5 yX5_latest yX5_latest, Cond.code yX5_latest cX5_latest 2 (some .int), Cond.fieldLink RX5 195 "TypecheckStation$Books" "latest" "[I", Cond.methodLink RL 59 yX5_ofFunction, Cond.instanceMethod yX5_ofFunction, Cond.selects RX5 yX5_ofFunction yX5_ofFunction, Cond.code yX5_ofFunction cX5_ofFunction 4 (some .int), Cond.fieldLink RX5 59 "TypecheckStation$Program" "functions" "[LTypecheckStation$Function;", Cond.fieldLink RX5 63 "TypecheckStation$Function" "size" "I", Cond.fieldLink RX5 89 "TypecheckStation$Function" "in" "I"]
def wsL_isRunRight_r11 : List Cond := [Cond.fieldLink RX5 96 "TypecheckStation$Function" "out" "I", Cond.fieldLink RX5 136 "TypecheckStation$Findings" "faults" "I", Cond.fieldLink RX5 139 "TypecheckStation$Findings" "firstFault" "I", Cond.fieldLink RX5 142 "TypecheckStation$Findings" "loose" "I", Cond.methodLink RX5 117 yX5_has, Cond.methodLink RX5 102 yX3_checked, Cond.methodLink RX5 92 yX3_guessIn, Cond.instanceMethod yX3_guessIn, Cond.selects RX3 yX3_guessIn yX3_guessIn, Cond.code yX3_guessIn cX3_guessIn 2 (some .int), Cond.methodLink RX5 99 yX3_guessOut, Cond.instanceMethod yX3_guessOut, Cond.selects RX3 yX3_guessOut yX3_guessOut, Cond.code yX3_guessOut cX3_guessOut 2 (some .int), Cond.methodLink RX5 145 yX3_callersOf, Cond.instanceMethod yX3_callersOf, Cond.selects RX3 yX3_callersOf yX3_callersOf, Cond.code yX3_callersOf cX3_callersOf 4 (some .int), Cond.methodLink RX3 79 yX2_mentions, Cond.instanceMethod yX2_mentions, Cond.selects RX2 yX2_mentions yX2_mentions, Cond.initialized RX2, Cond.code yX2_mentions cX2_mentions 3 (some .boolean), Cond.fieldLink RX2 22 "TypecheckStation$Function" "size" "I"]
def wsL_isRunRight_r12 : List Cond := [Cond.fieldLink RX2 9 "TypecheckStation$Function" "steps" "[I", Cond.methodLink RX5 149 yX0_timesCalled, Cond.instanceMethod yX0_timesCalled, Cond.selects RX0 yX0_timesCalled yX0_timesCalled, Cond.code yX0_timesCalled cX0_timesCalled 4 (some .int)]
def wsL_isRunRight : List Cond := .code yL_isRunRight cL_isRunRight 11 (some .boolean) :: ((wsL_isRunRight_r1 ++ (wsL_isRunRight_r2 ++ (wsL_isRunRight_r3 ++ (wsL_isRunRight_r4 ++ (wsL_isRunRight_r5 ++ (wsL_isRunRight_r6 ++ (wsL_isRunRight_r7 ++ (wsL_isRunRight_r8 ++ (wsL_isRunRight_r9 ++ (wsL_isRunRight_r10 ++ (wsL_isRunRight_r11 ++ wsL_isRunRight_r12))))))))))) ++ wsX50 ++ wsX30 ++ wsX00 ++ wsX20 ++ wsX10 ++ wsX40 ++ (vx_atS RX5 58 "java/lang/IllegalArgumentException" ["java/lang/RuntimeException", "java/lang/Exception"]).filter goodWord ++ (vx_atS RX5 132 "java/lang/IndexOutOfBoundsException" ["java/lang/RuntimeException", "java/lang/Exception"]).filter goodWord)
def wsL_act_r1 : List Cond := [Cond.classLink RL 90 "java/lang/IllegalStateException", Cond.methodLink RL 33 yX5_many, Cond.instanceMethod yX5_many, Cond.selects RX5 yX5_many yX5_many, Cond.initialized RX5, Cond.code yX5_many cX5_many 2 (some .int), Cond.fieldLink RX5 10 "TypecheckStation" "program" "LTypecheckStation$Program;", Cond.fieldLink RX5 36 "TypecheckStation$Program" "size" "I", Cond.fieldLink RX5 114 "TypecheckStation$Program" "typed" "I", Cond.fieldLink RX5 163 "TypecheckStation$Program" "checks" "I", Cond.fieldLink RX5 28 "TypecheckStation" "books" "LTypecheckStation$Books;", Cond.fieldLink RX5 166 "TypecheckStation$Books" "runs" "I", Cond.fieldLink RX5 169 "TypecheckStation$Books" "failures" "I", Cond.fieldLink RX5 172 "TypecheckStation$Books" "costs" "I", Cond.methodLink RX5 133 yX5_requireWhat, Cond.static yX5_requireWhat, Cond.code yX5_requireWhat cX5_requireWhat 2 none, Cond.classLink RX5 54 "java/lang/IllegalArgumentException", Cond.initialized "java/lang/IllegalArgumentException", Cond.methodLink RX5 152 yJ6_bitCount_0f7a4, Cond.static yJ6_bitCount_0f7a4, Cond.initialized RJ6, Cond.code yJ6_bitCount_0f7a4 cJ6_bitCount_0f7a4 1 (some .int), Cond.constant RJ6 265 (1431655765)]
def wsL_act_r2 : List Cond := [Cond.constant RJ6 266 (858993459), Cond.constant RJ6 267 (252645135), Cond.methodLink RX5 157 yX3_typable, Cond.instanceMethod yX3_typable, Cond.selects RX3 yX3_typable yX3_typable, Cond.initialized RX3, Cond.code yX3_typable cX3_typable 3 (some .int), Cond.fieldLink RX3 25 "TypecheckStation$Program" "size" "I", Cond.methodLink RX3 64 yX3_checked, Cond.instanceMethod yX3_checked, Cond.selects RX3 yX3_checked yX3_checked, Cond.code yX3_checked cX3_checked 6 (some (.object "TypecheckStation$Findings")), Cond.fieldLink RX3 11 "TypecheckStation$Program" "functions" "[LTypecheckStation$Function;", Cond.fieldLink RX3 21 "TypecheckStation$Program" "findings" "LTypecheckStation$Findings;", Cond.fieldLink RX3 33 "TypecheckStation$Function" "in" "I", Cond.fieldLink RX3 46 "TypecheckStation$Function" "size" "I", Cond.fieldLink RX3 47 "TypecheckStation$Function" "steps" "[I", Cond.fieldLink RX3 40 "TypecheckStation$Function" "out" "I", Cond.methodLink RX3 57 yX1_clear, Cond.instanceMethod yX1_clear, Cond.selects RX1 yX1_clear yX1_clear, Cond.initialized RX1, Cond.code yX1_clear cX1_clear 1 none, Cond.fieldLink RX1 9 "TypecheckStation$Findings" "faults" "I"]
def wsL_act_r3 : List Cond := [Cond.fieldLink RX1 15 "TypecheckStation$Findings" "firstFault" "I", Cond.fieldLink RX1 18 "TypecheckStation$Findings" "loose" "I", Cond.methodLink RX3 51 yX3_needOf, Cond.instanceMethod yX3_needOf, Cond.selects RX3 yX3_needOf yX3_needOf, Cond.code yX3_needOf cX3_needOf 2 (some .int), Cond.static yX5_isCall, Cond.code yX5_isCall cX5_isCall 1 (some .boolean), Cond.static yX5_plainNeed, Cond.code yX5_plainNeed cX5_plainNeed 1 (some .int), Cond.methodLink RX3 60 yX1_need, Cond.instanceMethod yX1_need, Cond.selects RX1 yX1_need yX1_need, Cond.code yX1_need cX1_need 4 none, Cond.methodLink RX3 54 yX3_giftOf, Cond.instanceMethod yX3_giftOf, Cond.selects RX3 yX3_giftOf yX3_giftOf, Cond.code yX3_giftOf cX3_giftOf 2 (some .int), Cond.static yX5_plainGift, Cond.code yX5_plainGift cX5_plainGift 1 (some .int), Cond.methodLink RX3 68 yX1_areNone, Cond.instanceMethod yX1_areNone, Cond.selects RX1 yX1_areNone yX1_areNone, Cond.code yX1_areNone cX1_areNone 1 (some .boolean)]
def wsL_act_r4 : List Cond := [Cond.static yX5_with, Cond.code yX5_with cX5_with 2 (some .int), Cond.methodLink RX5 160 yX3_allFaults, Cond.instanceMethod yX3_allFaults, Cond.selects RX3 yX3_allFaults yX3_allFaults, Cond.code yX3_allFaults cX3_allFaults 3 (some .int), Cond.fieldLink RX3 76 "TypecheckStation$Findings" "faults" "I", Cond.methodLink RX5 175 yX5_tollWith, Cond.instanceMethod yX5_tollWith, Cond.selects RX5 yX5_tollWith yX5_tollWith, Cond.code yX5_tollWith cX5_tollWith 5 (some .int), Cond.fieldLink RX5 198 "TypecheckStation$Books" "calls" "[[I", Cond.methodLink RX5 262 yX3_guardsCall, Cond.instanceMethod yX3_guardsCall, Cond.selects RX3 yX3_guardsCall yX3_guardsCall, Cond.code yX3_guardsCall cX3_guardsCall 4 (some .boolean), Cond.static yX5_has, Cond.code yX5_has cX5_has 2 (some .boolean), Cond.methodLink RX5 266 yX3_guardsGive, Cond.instanceMethod yX3_guardsGive, Cond.selects RX3 yX3_guardsGive yX3_guardsGive, Cond.code yX3_guardsGive cX3_guardsGive 4 (some .boolean), Cond.methodLink RX5 202 yX5_rowOf, Cond.static yX5_rowOf]
def wsL_act_r5 : List Cond := [Cond.code yX5_rowOf cX5_rowOf 1 (some .int), Cond.methodLink RL 29 yL_below, Cond.static yL_below, Cond.initialized RL, Cond.code yL_below cL_below 2 (some .int), Cond.constant RL 7 (2147483647), Cond.static yX6_step, Cond.initialized RX6, Cond.code yX6_step cX6_step 4 (some .int), Cond.methodLink RL 57 yX5_step, Cond.instanceMethod yX5_step, Cond.selects RX5 yX5_step yX5_step, Cond.code yX5_step cX5_step 4 (some .int), Cond.classLink RX5 39 "java/lang/IllegalStateException", Cond.initialized "java/lang/IllegalStateException", Cond.fieldLink RX5 59 "TypecheckStation$Program" "functions" "[LTypecheckStation$Function;", Cond.fieldLink RX5 63 "TypecheckStation$Function" "size" "I", Cond.fieldLink RX5 68 "TypecheckStation$Function" "steps" "[I", Cond.methodLink RX5 46 yX5_requireFunction, Cond.instanceMethod yX5_requireFunction, Cond.selects RX5 yX5_requireFunction yX5_requireFunction, Cond.code yX5_requireFunction cX5_requireFunction 2 none, Cond.classLink RX5 128 "java/lang/IndexOutOfBoundsException", Cond.initialized "java/lang/IndexOutOfBoundsException"]
def wsL_act_r6 : List Cond := [Cond.methodLink RX5 50 yX3_isStep, Cond.instanceMethod yX3_isStep, Cond.selects RX3 yX3_isStep yX3_isStep, Cond.code yX3_isStep cX3_isStep 2 (some .boolean), Cond.methodLink RX5 72 yX3_afterStepsChanged, Cond.instanceMethod yX3_afterStepsChanged, Cond.selects RX3 yX3_afterStepsChanged yX3_afterStepsChanged, Cond.code yX3_afterStepsChanged cX3_afterStepsChanged 1 none, Cond.fieldLink RX3 82 "TypecheckStation$Program" "checks" "I", Cond.methodLink RX3 85 yX3_dropUntypable, Cond.instanceMethod yX3_dropUntypable, Cond.selects RX3 yX3_dropUntypable yX3_dropUntypable, Cond.code yX3_dropUntypable cX3_dropUntypable 2 (some .int), Cond.fieldLink RX3 92 "TypecheckStation$Program" "typed" "I", Cond.methodLink RX3 98 yX3_untypable, Cond.instanceMethod yX3_untypable, Cond.selects RX3 yX3_untypable yX3_untypable, Cond.code yX3_untypable cX3_untypable 1 (some .int), Cond.methodLink RX3 95 yX3_typable, Cond.methodLink RX3 101 yJ6_bitCount_0f7a4, Cond.methodLink RL 59 yX5_ofFunction, Cond.instanceMethod yX5_ofFunction, Cond.selects RX5 yX5_ofFunction yX5_ofFunction, Cond.code yX5_ofFunction cX5_ofFunction 4 (some .int)]
def wsL_act_r7 : List Cond := [Cond.fieldLink RX5 89 "TypecheckStation$Function" "in" "I", Cond.fieldLink RX5 96 "TypecheckStation$Function" "out" "I", Cond.fieldLink RX5 136 "TypecheckStation$Findings" "faults" "I", Cond.fieldLink RX5 139 "TypecheckStation$Findings" "firstFault" "I", Cond.fieldLink RX5 142 "TypecheckStation$Findings" "loose" "I", Cond.methodLink RX5 117 yX5_has, Cond.methodLink RX5 102 yX3_checked, Cond.methodLink RX5 92 yX3_guessIn, Cond.instanceMethod yX3_guessIn, Cond.selects RX3 yX3_guessIn yX3_guessIn, Cond.code yX3_guessIn cX3_guessIn 2 (some .int), Cond.methodLink RX5 99 yX3_guessOut, Cond.instanceMethod yX3_guessOut, Cond.selects RX3 yX3_guessOut yX3_guessOut, Cond.code yX3_guessOut cX3_guessOut 2 (some .int), Cond.methodLink RX5 145 yX3_callersOf, Cond.instanceMethod yX3_callersOf, Cond.selects RX3 yX3_callersOf yX3_callersOf, Cond.code yX3_callersOf cX3_callersOf 4 (some .int), Cond.methodLink RX3 79 yX2_mentions, Cond.instanceMethod yX2_mentions, Cond.selects RX2 yX2_mentions yX2_mentions, Cond.initialized RX2, Cond.code yX2_mentions cX2_mentions 3 (some .boolean)]
def wsL_act_r8 : List Cond := [Cond.fieldLink RX2 22 "TypecheckStation$Function" "size" "I", Cond.fieldLink RX2 9 "TypecheckStation$Function" "steps" "[I", Cond.methodLink RX5 149 yX0_timesCalled, Cond.instanceMethod yX0_timesCalled, Cond.selects RX0 yX0_timesCalled yX0_timesCalled, Cond.initialized RX0, Cond.code yX0_timesCalled cX0_timesCalled 4 (some .int), Cond.fieldLink RX0 13 "TypecheckStation$Books" "calls" "[[I", Cond.methodLink RL 62 yX5_stepAt, Cond.instanceMethod yX5_stepAt, Cond.selects RX5 yX5_stepAt yX5_stepAt, Cond.code yX5_stepAt cX5_stepAt 4 (some .int), Cond.methodLink RL 65 yX5_unstep, Cond.instanceMethod yX5_unstep, Cond.selects RX5 yX5_unstep yX5_unstep, Cond.code yX5_unstep cX5_unstep 3 (some .int), Cond.methodLink RL 68 yX5_untyped, Cond.instanceMethod yX5_untyped, Cond.selects RX5 yX5_untyped yX5_untyped, Cond.code yX5_untyped cX5_untyped 4 (some .int), Cond.methodLink RX5 77 yX5_requireHints, Cond.static yX5_requireHints, Cond.code yX5_requireHints cX5_requireHints 2 none, Cond.methodLink RX5 222 yX3_untypableWith]
def wsL_act_r9 : List Cond := [Cond.instanceMethod yX3_untypableWith, Cond.selects RX3 yX3_untypableWith yX3_untypableWith, Cond.code yX3_untypableWith cX3_untypableWith 8 (some .int), Cond.methodLink RL 71 yX5_hint, Cond.instanceMethod yX5_hint, Cond.selects RX5 yX5_hint yX5_hint, Cond.code yX5_hint cX5_hint 4 (some .int), Cond.methodLink RX5 81 yX3_changeHints, Cond.instanceMethod yX3_changeHints, Cond.selects RX3 yX3_changeHints yX3_changeHints, Cond.code yX3_changeHints cX3_changeHints 6 (some .int), Cond.methodLink RX3 89 yX3_callersOf, Cond.methodLink RX5 85 yX3_dropUntypable, Cond.methodLink RL 74 yX5_adopt, Cond.instanceMethod yX5_adopt, Cond.selects RX5 yX5_adopt yX5_adopt, Cond.code yX5_adopt cX5_adopt 6 (some .int), Cond.methodLink RL 77 yX5_type, Cond.instanceMethod yX5_type, Cond.selects RX5 yX5_type yX5_type, Cond.code yX5_type cX5_type 4 (some .boolean), Cond.methodLink RX5 106 yX1_areNone, Cond.methodLink RX5 121 yX5_with, Cond.methodLink RX5 125 yX5_without]
def wsL_act_r10 : List Cond := [Cond.static yX5_without, Cond.code yX5_without cX5_without 2 (some .int), Cond.methodLink RL 81 yX5_migrate, Cond.instanceMethod yX5_migrate, Cond.selects RX5 yX5_migrate yX5_migrate, Cond.code yX5_migrate cX5_migrate 4 (some .int), Cond.methodLink RX5 211 yX5_nextToType, Cond.instanceMethod yX5_nextToType, Cond.selects RX5 yX5_nextToType yX5_nextToType, Cond.code yX5_nextToType cX5_nextToType 6 (some .int), Cond.methodLink RX5 208 yX5_gainOf, Cond.instanceMethod yX5_gainOf, Cond.selects RX5 yX5_gainOf yX5_gainOf, Cond.code yX5_gainOf cX5_gainOf 2 (some .int), Cond.methodLink RL 84 yX5_budget, Cond.instanceMethod yX5_budget, Cond.selects RX5 yX5_budget yX5_budget, Cond.code yX5_budget cX5_budget 3 (some .int), Cond.fieldLink RX5 32 "TypecheckStation" "budget" "I", Cond.methodLink RX5 178 yX5_requireBudget, Cond.static yX5_requireBudget, Cond.code yX5_requireBudget cX5_requireBudget 1 none, Cond.methodLink RL 87 yL_isRunRight, Cond.static yL_isRunRight]
def wsL_act_r11 : List Cond := [Cond.code yL_isRunRight cL_isRunRight 11 (some .boolean), Cond.methodLink RL 92 yX5_counted, Cond.instanceMethod yX5_counted, Cond.selects RX5 yX5_counted yX5_counted, Cond.code yX5_counted cX5_counted 3 (some .int), Cond.methodLink RL 95 yX5_wouldBlame, Cond.instanceMethod yX5_wouldBlame, Cond.selects RX5 yX5_wouldBlame yX5_wouldBlame, Cond.code yX5_wouldBlame cX5_wouldBlame 4 (some .int), Cond.fieldLink RX5 21 "TypecheckStation" "trial" "LTypecheckStation$Trial;", Cond.fieldLink RX5 216 "TypecheckStation$Trial" "blame" "I", Cond.methodLink RX5 181 yX5_requireValue, Cond.static yX5_requireValue, Cond.code yX5_requireValue cX5_requireValue 2 none, Cond.methodLink RX5 277 yX5_isValue, Cond.static yX5_isValue, Cond.code yX5_isValue cX5_isValue 2 (some .boolean), Cond.methodLink RX5 184 yX4_tryOut, Cond.instanceMethod yX4_tryOut, Cond.selects RX4 yX4_tryOut yX4_tryOut, Cond.initialized RX4, Cond.code yX4_tryOut cX4_tryOut 5 none, Cond.fieldLink RX4 26 "TypecheckStation$Trial" "budget" "I", Cond.fieldLink RX4 30 "TypecheckStation$Trial" "type" "I"]
def wsL_act_r12 : List Cond := [Cond.fieldLink RX4 33 "TypecheckStation$Trial" "number" "I", Cond.methodLink RX4 23 yX4_clear, Cond.instanceMethod yX4_clear, Cond.selects RX4 yX4_clear yX4_clear, Cond.code yX4_clear cX4_clear 3 none, Cond.fieldLink RX4 19 "TypecheckStation$Trial" "calls" "[[I", Cond.fieldLink RX4 40 "TypecheckStation$Trial" "begun" "I", Cond.fieldLink RX4 43 "TypecheckStation$Trial" "looked" "I", Cond.fieldLink RX4 46 "TypecheckStation$Trial" "skipped" "I", Cond.fieldLink RX4 49 "TypecheckStation$Trial" "deepest" "I", Cond.fieldLink RX4 52 "TypecheckStation$Trial" "failure" "I", Cond.fieldLink RX4 55 "TypecheckStation$Trial" "blame" "I", Cond.fieldLink RX4 58 "TypecheckStation$Trial" "hasSuspect" "Z", Cond.fieldLink RX4 62 "TypecheckStation$Trial" "suspect" "I", Cond.methodLink RX4 36 yX4_enter, Cond.instanceMethod yX4_enter, Cond.selects RX4 yX4_enter yX4_enter, Cond.code yX4_enter cX4_enter 4 none, Cond.methodLink RX4 69 Lib.Math.max.name, Cond.static Lib.Math.max.name, Cond.initialized "java/lang/Math", Cond.code Lib.Math.max.name Lib.Math.max.code 2 (some .int), Cond.fieldLink RX4 9 "TypecheckStation$Trial" "program" "LTypecheckStation$Program;", Cond.fieldLink RX4 79 "TypecheckStation$Program" "typed" "I"]
def wsL_act_r13 : List Cond := [Cond.fieldLink RX4 88 "TypecheckStation$Program" "functions" "[LTypecheckStation$Function;", Cond.fieldLink RX4 92 "TypecheckStation$Function" "in" "I", Cond.fieldLink RX4 106 "TypecheckStation$Function" "out" "I", Cond.methodLink RX4 65 yX4_fail, Cond.instanceMethod yX4_fail, Cond.selects RX4 yX4_fail yX4_fail, Cond.code yX4_fail cX4_fail 3 none, Cond.methodLink RX4 84 yX3_guardsCall, Cond.methodLink RX4 97 yX4_guard, Cond.instanceMethod yX4_guard, Cond.selects RX4 yX4_guard yX4_guard, Cond.code yX4_guard cX4_guard 5 none, Cond.methodLink RX4 100 yX4_goThrough, Cond.instanceMethod yX4_goThrough, Cond.selects RX4 yX4_goThrough yX4_goThrough, Cond.methodLink RX4 103 yX3_guardsGive, Cond.code yX4_begin cX4_begin 5 none, Cond.methodLink RX4 130 yX4_made, Cond.instanceMethod yX4_made, Cond.selects RX4 yX4_made yX4_made, Cond.code yX4_made cX4_made 2 (some .int), Cond.methodLink RX4 140 Lib.Math.min.name, Cond.static Lib.Math.min.name, Cond.code Lib.Math.min.name Lib.Math.min.code 2 (some .int)]
def wsL_act_r14 : List Cond := [Cond.methodLink RX4 136 yX4_shownLength, Cond.instanceMethod yX4_shownLength, Cond.selects RX4 yX4_shownLength yX4_shownLength, Cond.code yX4_shownLength cX4_shownLength 2 (some .int), Cond.methodLink RX4 143 Lib.Math.abs.name, Cond.static Lib.Math.abs.name, Cond.code Lib.Math.abs.name Lib.Math.abs.code 1 (some .int), Cond.code yX4_goThrough cX4_goThrough 5 none, Cond.fieldLink RX4 109 "TypecheckStation$Function" "size" "I", Cond.fieldLink RX4 112 "TypecheckStation$Function" "steps" "[I", Cond.methodLink RX4 116 yX4_begin, Cond.instanceMethod yX4_begin, Cond.selects RX4 yX4_begin yX4_begin, Cond.methodLink RL 98 yX5_run, Cond.instanceMethod yX5_run, Cond.selects RX5 yX5_run yX5_run, Cond.code yX5_run cX5_run 4 (some .int), Cond.fieldLink RX5 192 "TypecheckStation$Trial" "failure" "I", Cond.methodLink RX5 188 yX0_enter, Cond.instanceMethod yX0_enter, Cond.selects RX0 yX0_enter yX0_enter, Cond.code yX0_enter cX0_enter 2 none, Cond.fieldLink RX0 26 "TypecheckStation$Books" "runs" "I", Cond.fieldLink RX0 30 "TypecheckStation$Trial" "failure" "I"]
def wsL_act_r15 : List Cond := [Cond.fieldLink RX0 35 "TypecheckStation$Books" "failures" "I", Cond.fieldLink RX0 38 "TypecheckStation$Trial" "blame" "I", Cond.fieldLink RX0 19 "TypecheckStation$Books" "blames" "[I", Cond.fieldLink RX0 41 "TypecheckStation$Books" "costs" "I", Cond.methodLink RX0 44 yX4_cost, Cond.instanceMethod yX4_cost, Cond.selects RX4 yX4_cost yX4_cost, Cond.code yX4_cost cX4_cost 1 (some .int), Cond.methodLink RX0 48 yX0_addCalls, Cond.instanceMethod yX0_addCalls, Cond.selects RX0 yX0_addCalls yX0_addCalls, Cond.code yX0_addCalls cX0_addCalls 4 none, Cond.fieldLink RX0 55 "TypecheckStation$Trial" "calls" "[[I", Cond.methodLink RX0 52 yX0_keepLatest, Cond.instanceMethod yX0_keepLatest, Cond.selects RX0 yX0_keepLatest yX0_keepLatest, Cond.code yX0_keepLatest cX0_keepLatest 3 none, Cond.fieldLink RX0 23 "TypecheckStation$Books" "latest" "[I", Cond.fieldLink RX0 56 "TypecheckStation$Trial" "looked" "I", Cond.fieldLink RX0 59 "TypecheckStation$Trial" "skipped" "I", Cond.fieldLink RX0 62 "TypecheckStation$Trial" "type" "I", Cond.fieldLink RX0 65 "TypecheckStation$Trial" "number" "I", Cond.fieldLink RX0 68 "TypecheckStation$Trial" "deepest" "I", Cond.methodLink RL 101 yX5_latest]
def wsL_act_r16 : List Cond := [Cond.instanceMethod yX5_latest, Cond.selects RX5 yX5_latest yX5_latest, Cond.code yX5_latest cX5_latest 2 (some .int), Cond.fieldLink RX5 195 "TypecheckStation$Books" "latest" "[I"]
def wsL_act : List Cond := .codeWith yL_act cL_act 8 (some .boolean) [(13, 102, 400, 90), (103, 159, 400, 90), (160, 264, 400, 90), (265, 286, 400, 90), (287, 332, 400, 90), (333, 368, 400, 90), (369, 391, 400, 90), (392, 399, 400, 90)] :: ((wsL_act_r1 ++ (wsL_act_r2 ++ (wsL_act_r3 ++ (wsL_act_r4 ++ (wsL_act_r5 ++ (wsL_act_r6 ++ (wsL_act_r7 ++ (wsL_act_r8 ++ (wsL_act_r9 ++ (wsL_act_r10 ++ (wsL_act_r11 ++ (wsL_act_r12 ++ (wsL_act_r13 ++ (wsL_act_r14 ++ (wsL_act_r15 ++ wsL_act_r16))))))))))))))) ++ wsX50 ++ wsX30 ++ wsX00 ++ wsX20 ++ wsX10 ++ wsX40 ++ (vx_atS RX5 58 "java/lang/IllegalArgumentException" ["java/lang/RuntimeException", "java/lang/Exception"]).filter goodWord ++ (vx_atS RX5 43 "java/lang/IllegalStateException" ["java/lang/RuntimeException", "java/lang/Exception"]).filter goodWord ++ (vx_atS RX5 132 "java/lang/IndexOutOfBoundsException" ["java/lang/RuntimeException", "java/lang/Exception"]).filter goodWord)
def wsL_areFunctionsRight_r1 : List Cond := [Cond.methodLink RL 33 yX5_many, Cond.instanceMethod yX5_many, Cond.selects RX5 yX5_many yX5_many, Cond.initialized RX5, Cond.code yX5_many cX5_many 2 (some .int), Cond.fieldLink RX5 10 "TypecheckStation" "program" "LTypecheckStation$Program;", Cond.fieldLink RX5 36 "TypecheckStation$Program" "size" "I", Cond.fieldLink RX5 114 "TypecheckStation$Program" "typed" "I", Cond.fieldLink RX5 163 "TypecheckStation$Program" "checks" "I", Cond.fieldLink RX5 28 "TypecheckStation" "books" "LTypecheckStation$Books;", Cond.fieldLink RX5 166 "TypecheckStation$Books" "runs" "I", Cond.fieldLink RX5 169 "TypecheckStation$Books" "failures" "I", Cond.fieldLink RX5 172 "TypecheckStation$Books" "costs" "I", Cond.methodLink RX5 133 yX5_requireWhat, Cond.static yX5_requireWhat, Cond.code yX5_requireWhat cX5_requireWhat 2 none, Cond.classLink RX5 54 "java/lang/IllegalArgumentException", Cond.initialized "java/lang/IllegalArgumentException", Cond.methodLink RX5 152 yJ6_bitCount_0f7a4, Cond.static yJ6_bitCount_0f7a4, Cond.initialized RJ6, Cond.code yJ6_bitCount_0f7a4 cJ6_bitCount_0f7a4 1 (some .int), Cond.constant RJ6 265 (1431655765), Cond.constant RJ6 266 (858993459)]
def wsL_areFunctionsRight_r2 : List Cond := [Cond.constant RJ6 267 (252645135), Cond.methodLink RX5 157 yX3_typable, Cond.instanceMethod yX3_typable, Cond.selects RX3 yX3_typable yX3_typable, Cond.initialized RX3, Cond.code yX3_typable cX3_typable 3 (some .int), Cond.fieldLink RX3 25 "TypecheckStation$Program" "size" "I", Cond.methodLink RX3 64 yX3_checked, Cond.instanceMethod yX3_checked, Cond.selects RX3 yX3_checked yX3_checked, Cond.code yX3_checked cX3_checked 6 (some (.object "TypecheckStation$Findings")), Cond.fieldLink RX3 11 "TypecheckStation$Program" "functions" "[LTypecheckStation$Function;", Cond.fieldLink RX3 21 "TypecheckStation$Program" "findings" "LTypecheckStation$Findings;", Cond.fieldLink RX3 33 "TypecheckStation$Function" "in" "I", Cond.fieldLink RX3 46 "TypecheckStation$Function" "size" "I", Cond.fieldLink RX3 47 "TypecheckStation$Function" "steps" "[I", Cond.fieldLink RX3 40 "TypecheckStation$Function" "out" "I", Cond.methodLink RX3 57 yX1_clear, Cond.instanceMethod yX1_clear, Cond.selects RX1 yX1_clear yX1_clear, Cond.initialized RX1, Cond.code yX1_clear cX1_clear 1 none, Cond.fieldLink RX1 9 "TypecheckStation$Findings" "faults" "I", Cond.fieldLink RX1 15 "TypecheckStation$Findings" "firstFault" "I"]
def wsL_areFunctionsRight_r3 : List Cond := [Cond.fieldLink RX1 18 "TypecheckStation$Findings" "loose" "I", Cond.methodLink RX3 51 yX3_needOf, Cond.instanceMethod yX3_needOf, Cond.selects RX3 yX3_needOf yX3_needOf, Cond.code yX3_needOf cX3_needOf 2 (some .int), Cond.static yX5_isCall, Cond.code yX5_isCall cX5_isCall 1 (some .boolean), Cond.static yX5_plainNeed, Cond.code yX5_plainNeed cX5_plainNeed 1 (some .int), Cond.methodLink RX3 60 yX1_need, Cond.instanceMethod yX1_need, Cond.selects RX1 yX1_need yX1_need, Cond.code yX1_need cX1_need 4 none, Cond.methodLink RX3 54 yX3_giftOf, Cond.instanceMethod yX3_giftOf, Cond.selects RX3 yX3_giftOf yX3_giftOf, Cond.code yX3_giftOf cX3_giftOf 2 (some .int), Cond.static yX5_plainGift, Cond.code yX5_plainGift cX5_plainGift 1 (some .int), Cond.methodLink RX3 68 yX1_areNone, Cond.instanceMethod yX1_areNone, Cond.selects RX1 yX1_areNone yX1_areNone, Cond.code yX1_areNone cX1_areNone 1 (some .boolean), Cond.static yX5_with]
def wsL_areFunctionsRight_r4 : List Cond := [Cond.code yX5_with cX5_with 2 (some .int), Cond.methodLink RX5 160 yX3_allFaults, Cond.instanceMethod yX3_allFaults, Cond.selects RX3 yX3_allFaults yX3_allFaults, Cond.code yX3_allFaults cX3_allFaults 3 (some .int), Cond.fieldLink RX3 76 "TypecheckStation$Findings" "faults" "I", Cond.methodLink RX5 175 yX5_tollWith, Cond.instanceMethod yX5_tollWith, Cond.selects RX5 yX5_tollWith yX5_tollWith, Cond.code yX5_tollWith cX5_tollWith 5 (some .int), Cond.fieldLink RX5 198 "TypecheckStation$Books" "calls" "[[I", Cond.methodLink RX5 262 yX3_guardsCall, Cond.instanceMethod yX3_guardsCall, Cond.selects RX3 yX3_guardsCall yX3_guardsCall, Cond.code yX3_guardsCall cX3_guardsCall 4 (some .boolean), Cond.static yX5_has, Cond.code yX5_has cX5_has 2 (some .boolean), Cond.methodLink RX5 266 yX3_guardsGive, Cond.instanceMethod yX3_guardsGive, Cond.selects RX3 yX3_guardsGive yX3_guardsGive, Cond.code yX3_guardsGive cX3_guardsGive 4 (some .boolean), Cond.methodLink RX5 202 yX5_rowOf, Cond.static yX5_rowOf, Cond.code yX5_rowOf cX5_rowOf 1 (some .int)]
def wsL_areFunctionsRight_r5 : List Cond := [Cond.methodLink RL 59 yX5_ofFunction, Cond.instanceMethod yX5_ofFunction, Cond.selects RX5 yX5_ofFunction yX5_ofFunction, Cond.code yX5_ofFunction cX5_ofFunction 4 (some .int), Cond.fieldLink RX5 59 "TypecheckStation$Program" "functions" "[LTypecheckStation$Function;", Cond.fieldLink RX5 63 "TypecheckStation$Function" "size" "I", Cond.fieldLink RX5 89 "TypecheckStation$Function" "in" "I", Cond.fieldLink RX5 96 "TypecheckStation$Function" "out" "I", Cond.fieldLink RX5 136 "TypecheckStation$Findings" "faults" "I", Cond.fieldLink RX5 139 "TypecheckStation$Findings" "firstFault" "I", Cond.fieldLink RX5 142 "TypecheckStation$Findings" "loose" "I", Cond.methodLink RX5 46 yX5_requireFunction, Cond.instanceMethod yX5_requireFunction, Cond.selects RX5 yX5_requireFunction yX5_requireFunction, Cond.code yX5_requireFunction cX5_requireFunction 2 none, Cond.classLink RX5 128 "java/lang/IndexOutOfBoundsException", Cond.initialized "java/lang/IndexOutOfBoundsException", Cond.methodLink RX5 117 yX5_has, Cond.methodLink RX5 102 yX3_checked, Cond.methodLink RX5 92 yX3_guessIn, Cond.instanceMethod yX3_guessIn, Cond.selects RX3 yX3_guessIn yX3_guessIn, Cond.code yX3_guessIn cX3_guessIn 2 (some .int), Cond.methodLink RX5 99 yX3_guessOut]
def wsL_areFunctionsRight_r6 : List Cond := [Cond.instanceMethod yX3_guessOut, Cond.selects RX3 yX3_guessOut yX3_guessOut, Cond.code yX3_guessOut cX3_guessOut 2 (some .int), Cond.methodLink RX5 145 yX3_callersOf, Cond.instanceMethod yX3_callersOf, Cond.selects RX3 yX3_callersOf yX3_callersOf, Cond.code yX3_callersOf cX3_callersOf 4 (some .int), Cond.methodLink RX3 79 yX2_mentions, Cond.instanceMethod yX2_mentions, Cond.selects RX2 yX2_mentions yX2_mentions, Cond.initialized RX2, Cond.code yX2_mentions cX2_mentions 3 (some .boolean), Cond.fieldLink RX2 22 "TypecheckStation$Function" "size" "I", Cond.fieldLink RX2 9 "TypecheckStation$Function" "steps" "[I", Cond.methodLink RX5 149 yX0_timesCalled, Cond.instanceMethod yX0_timesCalled, Cond.selects RX0 yX0_timesCalled yX0_timesCalled, Cond.initialized RX0, Cond.code yX0_timesCalled cX0_timesCalled 4 (some .int), Cond.fieldLink RX0 13 "TypecheckStation$Books" "calls" "[[I", Cond.methodLink RL 92 yX5_counted, Cond.instanceMethod yX5_counted, Cond.selects RX5 yX5_counted yX5_counted, Cond.code yX5_counted cX5_counted 3 (some .int)]
def wsL_areFunctionsRight_r7 : List Cond := [Cond.methodLink RL 62 yX5_stepAt, Cond.instanceMethod yX5_stepAt, Cond.selects RX5 yX5_stepAt yX5_stepAt, Cond.code yX5_stepAt cX5_stepAt 4 (some .int), Cond.fieldLink RX5 68 "TypecheckStation$Function" "steps" "[I", Cond.methodLink RL 104 yX5_blamed, Cond.instanceMethod yX5_blamed, Cond.selects RX5 yX5_blamed yX5_blamed, Cond.code yX5_blamed cX5_blamed 2 (some .int), Cond.fieldLink RX5 205 "TypecheckStation$Books" "blames" "[I"]
def wsL_areFunctionsRight : List Cond := .code yL_areFunctionsRight cL_areFunctionsRight 13 (some .boolean) :: ((wsL_areFunctionsRight_r1 ++ (wsL_areFunctionsRight_r2 ++ (wsL_areFunctionsRight_r3 ++ (wsL_areFunctionsRight_r4 ++ (wsL_areFunctionsRight_r5 ++ (wsL_areFunctionsRight_r6 ++ wsL_areFunctionsRight_r7)))))) ++ wsX50 ++ wsX30 ++ wsX00 ++ wsX20 ++ wsX10 ++ (vx_atS RX5 58 "java/lang/IllegalArgumentException" ["java/lang/RuntimeException", "java/lang/Exception"]).filter goodWord ++ (vx_atS RX5 132 "java/lang/IndexOutOfBoundsException" ["java/lang/RuntimeException", "java/lang/Exception"]).filter goodWord)
def wsL_areTollsRight_r1 : List Cond := [Cond.constant RL 111 (-1000000), Cond.methodLink RL 115 Lib.Math.max.name, Cond.static Lib.Math.max.name, Cond.initialized "java/lang/Math", Cond.code Lib.Math.max.name Lib.Math.max.code 2 (some .int), Cond.methodLink RL 107 yX5_next, Cond.instanceMethod yX5_next, Cond.selects RX5 yX5_next yX5_next, Cond.initialized RX5, Cond.code yX5_next cX5_next 1 (some .int), Cond.methodLink RX5 211 yX5_nextToType, Cond.instanceMethod yX5_nextToType, Cond.selects RX5 yX5_nextToType yX5_nextToType, Cond.code yX5_nextToType cX5_nextToType 6 (some .int), Cond.fieldLink RX5 10 "TypecheckStation" "program" "LTypecheckStation$Program;", Cond.fieldLink RX5 114 "TypecheckStation$Program" "typed" "I", Cond.fieldLink RX5 36 "TypecheckStation$Program" "size" "I", Cond.methodLink RX5 157 yX3_typable, Cond.instanceMethod yX3_typable, Cond.selects RX3 yX3_typable yX3_typable, Cond.initialized RX3, Cond.code yX3_typable cX3_typable 3 (some .int), Cond.fieldLink RX3 25 "TypecheckStation$Program" "size" "I", Cond.methodLink RX3 64 yX3_checked]
def wsL_areTollsRight_r2 : List Cond := [Cond.instanceMethod yX3_checked, Cond.selects RX3 yX3_checked yX3_checked, Cond.code yX3_checked cX3_checked 6 (some (.object "TypecheckStation$Findings")), Cond.fieldLink RX3 11 "TypecheckStation$Program" "functions" "[LTypecheckStation$Function;", Cond.fieldLink RX3 21 "TypecheckStation$Program" "findings" "LTypecheckStation$Findings;", Cond.fieldLink RX3 33 "TypecheckStation$Function" "in" "I", Cond.fieldLink RX3 46 "TypecheckStation$Function" "size" "I", Cond.fieldLink RX3 47 "TypecheckStation$Function" "steps" "[I", Cond.fieldLink RX3 40 "TypecheckStation$Function" "out" "I", Cond.methodLink RX3 57 yX1_clear, Cond.instanceMethod yX1_clear, Cond.selects RX1 yX1_clear yX1_clear, Cond.initialized RX1, Cond.code yX1_clear cX1_clear 1 none, Cond.fieldLink RX1 9 "TypecheckStation$Findings" "faults" "I", Cond.fieldLink RX1 15 "TypecheckStation$Findings" "firstFault" "I", Cond.fieldLink RX1 18 "TypecheckStation$Findings" "loose" "I", Cond.methodLink RX3 51 yX3_needOf, Cond.instanceMethod yX3_needOf, Cond.selects RX3 yX3_needOf yX3_needOf, Cond.code yX3_needOf cX3_needOf 2 (some .int), Cond.static yX5_isCall, Cond.code yX5_isCall cX5_isCall 1 (some .boolean), Cond.static yX5_plainNeed]
def wsL_areTollsRight_r3 : List Cond := [Cond.code yX5_plainNeed cX5_plainNeed 1 (some .int), Cond.methodLink RX3 60 yX1_need, Cond.instanceMethod yX1_need, Cond.selects RX1 yX1_need yX1_need, Cond.code yX1_need cX1_need 4 none, Cond.methodLink RX3 54 yX3_giftOf, Cond.instanceMethod yX3_giftOf, Cond.selects RX3 yX3_giftOf yX3_giftOf, Cond.code yX3_giftOf cX3_giftOf 2 (some .int), Cond.static yX5_plainGift, Cond.code yX5_plainGift cX5_plainGift 1 (some .int), Cond.methodLink RX3 68 yX1_areNone, Cond.instanceMethod yX1_areNone, Cond.selects RX1 yX1_areNone yX1_areNone, Cond.code yX1_areNone cX1_areNone 1 (some .boolean), Cond.static yX5_with, Cond.code yX5_with cX5_with 2 (some .int), Cond.methodLink RX5 117 yX5_has, Cond.static yX5_has, Cond.code yX5_has cX5_has 2 (some .boolean), Cond.methodLink RX5 208 yX5_gainOf, Cond.instanceMethod yX5_gainOf, Cond.selects RX5 yX5_gainOf yX5_gainOf, Cond.code yX5_gainOf cX5_gainOf 2 (some .int)]
def wsL_areTollsRight_r4 : List Cond := [Cond.methodLink RX5 175 yX5_tollWith, Cond.instanceMethod yX5_tollWith, Cond.selects RX5 yX5_tollWith yX5_tollWith, Cond.code yX5_tollWith cX5_tollWith 5 (some .int), Cond.fieldLink RX5 28 "TypecheckStation" "books" "LTypecheckStation$Books;", Cond.fieldLink RX5 198 "TypecheckStation$Books" "calls" "[[I", Cond.methodLink RX5 262 yX3_guardsCall, Cond.instanceMethod yX3_guardsCall, Cond.selects RX3 yX3_guardsCall yX3_guardsCall, Cond.code yX3_guardsCall cX3_guardsCall 4 (some .boolean), Cond.methodLink RX5 266 yX3_guardsGive, Cond.instanceMethod yX3_guardsGive, Cond.selects RX3 yX3_guardsGive yX3_guardsGive, Cond.code yX3_guardsGive cX3_guardsGive 4 (some .boolean), Cond.methodLink RX5 202 yX5_rowOf, Cond.static yX5_rowOf, Cond.code yX5_rowOf cX5_rowOf 1 (some .int), Cond.methodLink RX5 121 yX5_with, Cond.methodLink RL 33 yX5_many, Cond.instanceMethod yX5_many, Cond.selects RX5 yX5_many yX5_many, Cond.code yX5_many cX5_many 2 (some .int), Cond.fieldLink RX5 163 "TypecheckStation$Program" "checks" "I", Cond.fieldLink RX5 166 "TypecheckStation$Books" "runs" "I"]
def wsL_areTollsRight_r5 : List Cond := [Cond.fieldLink RX5 169 "TypecheckStation$Books" "failures" "I", Cond.fieldLink RX5 172 "TypecheckStation$Books" "costs" "I", Cond.methodLink RX5 133 yX5_requireWhat, Cond.static yX5_requireWhat, Cond.code yX5_requireWhat cX5_requireWhat 2 none, Cond.classLink RX5 54 "java/lang/IllegalArgumentException", Cond.initialized "java/lang/IllegalArgumentException", Cond.methodLink RX5 152 yJ6_bitCount_0f7a4, Cond.static yJ6_bitCount_0f7a4, Cond.initialized RJ6, Cond.code yJ6_bitCount_0f7a4 cJ6_bitCount_0f7a4 1 (some .int), Cond.constant RJ6 265 (1431655765), Cond.constant RJ6 266 (858993459), Cond.constant RJ6 267 (252645135), Cond.methodLink RX5 160 yX3_allFaults, Cond.instanceMethod yX3_allFaults, Cond.selects RX3 yX3_allFaults yX3_allFaults, Cond.code yX3_allFaults cX3_allFaults 3 (some .int), Cond.fieldLink RX3 76 "TypecheckStation$Findings" "faults" "I", Cond.methodLink RL 59 yX5_ofFunction, Cond.instanceMethod yX5_ofFunction, Cond.selects RX5 yX5_ofFunction yX5_ofFunction, Cond.code yX5_ofFunction cX5_ofFunction 4 (some .int), Cond.fieldLink RX5 59 "TypecheckStation$Program" "functions" "[LTypecheckStation$Function;"]
def wsL_areTollsRight_r6 : List Cond := [Cond.fieldLink RX5 63 "TypecheckStation$Function" "size" "I", Cond.fieldLink RX5 89 "TypecheckStation$Function" "in" "I", Cond.fieldLink RX5 96 "TypecheckStation$Function" "out" "I", Cond.fieldLink RX5 136 "TypecheckStation$Findings" "faults" "I", Cond.fieldLink RX5 139 "TypecheckStation$Findings" "firstFault" "I", Cond.fieldLink RX5 142 "TypecheckStation$Findings" "loose" "I", Cond.methodLink RX5 46 yX5_requireFunction, Cond.instanceMethod yX5_requireFunction, Cond.selects RX5 yX5_requireFunction yX5_requireFunction, Cond.code yX5_requireFunction cX5_requireFunction 2 none, Cond.classLink RX5 128 "java/lang/IndexOutOfBoundsException", Cond.initialized "java/lang/IndexOutOfBoundsException", Cond.methodLink RX5 102 yX3_checked, Cond.methodLink RX5 92 yX3_guessIn, Cond.instanceMethod yX3_guessIn, Cond.selects RX3 yX3_guessIn yX3_guessIn, Cond.code yX3_guessIn cX3_guessIn 2 (some .int), Cond.methodLink RX5 99 yX3_guessOut, Cond.instanceMethod yX3_guessOut, Cond.selects RX3 yX3_guessOut yX3_guessOut, Cond.code yX3_guessOut cX3_guessOut 2 (some .int), Cond.methodLink RX5 145 yX3_callersOf, Cond.instanceMethod yX3_callersOf, Cond.selects RX3 yX3_callersOf yX3_callersOf]
def wsL_areTollsRight_r7 : List Cond := [Cond.code yX3_callersOf cX3_callersOf 4 (some .int), Cond.methodLink RX3 79 yX2_mentions, Cond.instanceMethod yX2_mentions, Cond.selects RX2 yX2_mentions yX2_mentions, Cond.initialized RX2, Cond.code yX2_mentions cX2_mentions 3 (some .boolean), Cond.fieldLink RX2 22 "TypecheckStation$Function" "size" "I", Cond.fieldLink RX2 9 "TypecheckStation$Function" "steps" "[I", Cond.methodLink RX5 149 yX0_timesCalled, Cond.instanceMethod yX0_timesCalled, Cond.selects RX0 yX0_timesCalled yX0_timesCalled, Cond.initialized RX0, Cond.code yX0_timesCalled cX0_timesCalled 4 (some .int), Cond.fieldLink RX0 13 "TypecheckStation$Books" "calls" "[[I", Cond.methodLink RL 112 yX5_gain, Cond.instanceMethod yX5_gain, Cond.selects RX5 yX5_gain yX5_gain, Cond.code yX5_gain cX5_gain 2 (some .int), Cond.methodLink RL 120 yX5_tollAtBest, Cond.instanceMethod yX5_tollAtBest, Cond.selects RX5 yX5_tollAtBest yX5_tollAtBest, Cond.code yX5_tollAtBest cX5_tollAtBest 1 (some .int)]
def wsL_areTollsRight : List Cond := .code yL_areTollsRight cL_areTollsRight 5 (some .boolean) :: ((wsL_areTollsRight_r1 ++ (wsL_areTollsRight_r2 ++ (wsL_areTollsRight_r3 ++ (wsL_areTollsRight_r4 ++ (wsL_areTollsRight_r5 ++ (wsL_areTollsRight_r6 ++ wsL_areTollsRight_r7)))))) ++ wsX50 ++ wsX30 ++ wsX20 ++ wsX10 ++ wsX00 ++ (vx_atS RX5 58 "java/lang/IllegalArgumentException" ["java/lang/RuntimeException", "java/lang/Exception"]).filter goodWord ++ (vx_atS RX5 132 "java/lang/IndexOutOfBoundsException" ["java/lang/RuntimeException", "java/lang/Exception"]).filter goodWord)
def wsL_law0_r1 : List Cond := [Cond.classLink RL 9 RX5, Cond.instantiable RX5 4, Cond.initialized RX5, Cond.classLink RL 12 RX6, Cond.instantiable RX6 13, Cond.initialized RX6, Cond.arrayClass .int, Cond.methodLink RL 11 yX5_init, Cond.instanceMethod yX5_init, Cond.code yX5_init cX5_init 1 none, Cond.methodLink RX5 1 objectInit, Cond.instanceMethod objectInit, Cond.code objectInit ⟨#[0xb1]⟩ 1 none, Cond.classLink RX5 7 RX3, Cond.instantiable RX3 5, Cond.initialized RX3, Cond.fieldLink RX5 10 "TypecheckStation" "program" "LTypecheckStation$Program;", Cond.classLink RX5 16 RX4, Cond.instantiable RX4 13, Cond.initialized RX4, Cond.fieldLink RX5 21 "TypecheckStation" "trial" "LTypecheckStation$Trial;", Cond.classLink RX5 25 RX0, Cond.instantiable RX0 6, Cond.initialized RX0]
def wsL_law0_r2 : List Cond := [Cond.fieldLink RX5 28 "TypecheckStation" "books" "LTypecheckStation$Books;", Cond.fieldLink RX5 32 "TypecheckStation" "budget" "I", Cond.methodLink RX5 9 yX3_init, Cond.instanceMethod yX3_init, Cond.code yX3_init cX3_init 2 none, Cond.methodLink RX3 3 objectInit, Cond.classLink RX3 9 RX2, Cond.fieldLink RX3 11 "TypecheckStation$Program" "functions" "[LTypecheckStation$Function;", Cond.instantiable RX2 4, Cond.initialized RX2, Cond.classLink RX3 18 RX1, Cond.instantiable RX1 3, Cond.initialized RX1, Cond.fieldLink RX3 21 "TypecheckStation$Program" "findings" "LTypecheckStation$Findings;", Cond.methodLink RX3 17 yX2_init, Cond.instanceMethod yX2_init, Cond.code yX2_init cX2_init 1 none, Cond.methodLink RX2 3 objectInit, Cond.fieldLink RX2 9 "TypecheckStation$Function" "steps" "[I", Cond.fieldLink RX2 15 "TypecheckStation$Function" "in" "I", Cond.fieldLink RX2 19 "TypecheckStation$Function" "out" "I", Cond.instanceMethod yX1_init, Cond.code yX1_init cX1_init 1 none, Cond.methodLink RX1 3 objectInit]
def wsL_law0_r3 : List Cond := [Cond.methodLink RX5 18 yX4_init, Cond.instanceMethod yX4_init, Cond.code yX4_init cX4_init 2 none, Cond.methodLink RX4 3 objectInit, Cond.fieldLink RX4 9 "TypecheckStation$Trial" "program" "LTypecheckStation$Program;", Cond.fieldLink RX4 19 "TypecheckStation$Trial" "calls" "[[I", Cond.static yX5_newCallTable, Cond.code yX5_newCallTable cX5_newCallTable 0 (some (.array (.array .int))), Cond.classLink RX5 282 "[[I", Cond.methodLink RX5 27 yX0_init, Cond.instanceMethod yX0_init, Cond.code yX0_init cX0_init 1 none, Cond.methodLink RX0 3 objectInit, Cond.fieldLink RX0 13 "TypecheckStation$Books" "calls" "[[I", Cond.fieldLink RX0 19 "TypecheckStation$Books" "blames" "[I", Cond.fieldLink RX0 23 "TypecheckStation$Books" "latest" "[I", Cond.instanceMethod yX6_init, Cond.code yX6_init cX6_init 1 none, Cond.methodLink RX6 1 objectInit, Cond.classLink RX6 7 "[[I", Cond.fieldLink RX6 9 "TypecheckStationLaw$Own" "steps" "[[I", Cond.fieldLink RX6 14 "TypecheckStationLaw$Own" "size" "[I", Cond.fieldLink RX6 18 "TypecheckStationLaw$Own" "in" "[I", Cond.fieldLink RX6 21 "TypecheckStationLaw$Own" "out" "[I"]
def wsL_law0_r4 : List Cond := [Cond.arrayClass .boolean, Cond.fieldLink RX6 24 "TypecheckStationLaw$Own" "isTyped" "[Z", Cond.fieldLink RX6 28 "TypecheckStationLaw$Own" "at" "[I", Cond.fieldLink RX6 31 "TypecheckStationLaw$Own" "who" "[I", Cond.fieldLink RX6 34 "TypecheckStationLaw$Own" "told" "[I", Cond.methodLink RL 15 yX6_isTold, Cond.instanceMethod yX6_isTold, Cond.selects RX6 yX6_isTold yX6_isTold, Cond.code yX6_isTold cX6_isTold 10 (some .boolean), Cond.fieldLink RX6 57 "TypecheckStationLaw$Own" "there" "I", Cond.static yL_cell, Cond.initialized RL, Cond.code yL_cell cL_cell 2 (some .int), Cond.constant RL 8 (790386105), Cond.static yL_below, Cond.code yL_below cL_below 2 (some .int), Cond.constant RL 7 (2147483647), Cond.methodLink RX6 119 yX5_function, Cond.instanceMethod yX5_function, Cond.selects RX5 yX5_function yX5_function, Cond.code yX5_function cX5_function 1 (some .int), Cond.classLink RX5 39 "java/lang/IllegalStateException", Cond.initialized "java/lang/IllegalStateException", Cond.fieldLink RX5 36 "TypecheckStation$Program" "size" "I"]
def wsL_law0_r5 : List Cond := [Cond.methodLink RX6 125 yX6_step, Cond.static yX6_step, Cond.code yX6_step cX6_step 4 (some .int), Cond.methodLink RX6 129 yX5_step, Cond.instanceMethod yX5_step, Cond.selects RX5 yX5_step yX5_step, Cond.code yX5_step cX5_step 4 (some .int), Cond.classLink RX5 54 "java/lang/IllegalArgumentException", Cond.initialized "java/lang/IllegalArgumentException", Cond.fieldLink RX5 59 "TypecheckStation$Program" "functions" "[LTypecheckStation$Function;", Cond.fieldLink RX5 63 "TypecheckStation$Function" "size" "I", Cond.fieldLink RX5 68 "TypecheckStation$Function" "steps" "[I", Cond.methodLink RX5 46 yX5_requireFunction, Cond.instanceMethod yX5_requireFunction, Cond.selects RX5 yX5_requireFunction yX5_requireFunction, Cond.code yX5_requireFunction cX5_requireFunction 2 none, Cond.classLink RX5 128 "java/lang/IndexOutOfBoundsException", Cond.initialized "java/lang/IndexOutOfBoundsException", Cond.methodLink RX5 50 yX3_isStep, Cond.instanceMethod yX3_isStep, Cond.selects RX3 yX3_isStep yX3_isStep, Cond.code yX3_isStep cX3_isStep 2 (some .boolean), Cond.fieldLink RX3 25 "TypecheckStation$Program" "size" "I", Cond.methodLink RX5 72 yX3_afterStepsChanged]
def wsL_law0_r6 : List Cond := [Cond.instanceMethod yX3_afterStepsChanged, Cond.selects RX3 yX3_afterStepsChanged yX3_afterStepsChanged, Cond.code yX3_afterStepsChanged cX3_afterStepsChanged 1 none, Cond.fieldLink RX3 82 "TypecheckStation$Program" "checks" "I", Cond.methodLink RX3 85 yX3_dropUntypable, Cond.instanceMethod yX3_dropUntypable, Cond.selects RX3 yX3_dropUntypable yX3_dropUntypable, Cond.code yX3_dropUntypable cX3_dropUntypable 2 (some .int), Cond.fieldLink RX3 92 "TypecheckStation$Program" "typed" "I", Cond.methodLink RX3 98 yX3_untypable, Cond.instanceMethod yX3_untypable, Cond.selects RX3 yX3_untypable yX3_untypable, Cond.code yX3_untypable cX3_untypable 1 (some .int), Cond.methodLink RX3 95 yX3_typable, Cond.instanceMethod yX3_typable, Cond.selects RX3 yX3_typable yX3_typable, Cond.code yX3_typable cX3_typable 3 (some .int), Cond.methodLink RX3 64 yX3_checked, Cond.instanceMethod yX3_checked, Cond.selects RX3 yX3_checked yX3_checked, Cond.code yX3_checked cX3_checked 6 (some (.object "TypecheckStation$Findings")), Cond.fieldLink RX3 33 "TypecheckStation$Function" "in" "I", Cond.fieldLink RX3 46 "TypecheckStation$Function" "size" "I", Cond.fieldLink RX3 47 "TypecheckStation$Function" "steps" "[I"]
def wsL_law0_r7 : List Cond := [Cond.fieldLink RX3 40 "TypecheckStation$Function" "out" "I", Cond.methodLink RX3 57 yX1_clear, Cond.instanceMethod yX1_clear, Cond.selects RX1 yX1_clear yX1_clear, Cond.code yX1_clear cX1_clear 1 none, Cond.fieldLink RX1 9 "TypecheckStation$Findings" "faults" "I", Cond.fieldLink RX1 15 "TypecheckStation$Findings" "firstFault" "I", Cond.fieldLink RX1 18 "TypecheckStation$Findings" "loose" "I", Cond.methodLink RX3 51 yX3_needOf, Cond.instanceMethod yX3_needOf, Cond.selects RX3 yX3_needOf yX3_needOf, Cond.code yX3_needOf cX3_needOf 2 (some .int), Cond.static yX5_isCall, Cond.code yX5_isCall cX5_isCall 1 (some .boolean), Cond.static yX5_plainNeed, Cond.code yX5_plainNeed cX5_plainNeed 1 (some .int), Cond.methodLink RX3 60 yX1_need, Cond.instanceMethod yX1_need, Cond.selects RX1 yX1_need yX1_need, Cond.code yX1_need cX1_need 4 none, Cond.methodLink RX3 54 yX3_giftOf, Cond.instanceMethod yX3_giftOf, Cond.selects RX3 yX3_giftOf yX3_giftOf, Cond.code yX3_giftOf cX3_giftOf 2 (some .int)]
def wsL_law0_r8 : List Cond := [Cond.static yX5_plainGift, Cond.code yX5_plainGift cX5_plainGift 1 (some .int), Cond.methodLink RX3 68 yX1_areNone, Cond.instanceMethod yX1_areNone, Cond.selects RX1 yX1_areNone yX1_areNone, Cond.code yX1_areNone cX1_areNone 1 (some .boolean), Cond.static yX5_with, Cond.code yX5_with cX5_with 2 (some .int), Cond.methodLink RX3 101 yJ6_bitCount_0f7a4, Cond.static yJ6_bitCount_0f7a4, Cond.initialized RJ6, Cond.code yJ6_bitCount_0f7a4 cJ6_bitCount_0f7a4 1 (some .int), Cond.constant RJ6 265 (1431655765), Cond.constant RJ6 266 (858993459), Cond.constant RJ6 267 (252645135), Cond.methodLink RX6 37 yX6_gives, Cond.instanceMethod yX6_gives, Cond.selects RX6 yX6_gives yX6_gives, Cond.code yX6_gives cX6_gives 3 (some .int), Cond.methodLink RL 19 yL_cell, Cond.methodLink RL 29 yL_below, Cond.methodLink RL 33 yX5_many, Cond.instanceMethod yX5_many, Cond.selects RX5 yX5_many yX5_many]
def wsL_law0_r9 : List Cond := [Cond.code yX5_many cX5_many 2 (some .int), Cond.fieldLink RX5 114 "TypecheckStation$Program" "typed" "I", Cond.fieldLink RX5 163 "TypecheckStation$Program" "checks" "I", Cond.fieldLink RX5 166 "TypecheckStation$Books" "runs" "I", Cond.fieldLink RX5 169 "TypecheckStation$Books" "failures" "I", Cond.fieldLink RX5 172 "TypecheckStation$Books" "costs" "I", Cond.methodLink RX5 133 yX5_requireWhat, Cond.static yX5_requireWhat, Cond.code yX5_requireWhat cX5_requireWhat 2 none, Cond.methodLink RX5 152 yJ6_bitCount_0f7a4, Cond.methodLink RX5 157 yX3_typable, Cond.methodLink RX5 160 yX3_allFaults, Cond.instanceMethod yX3_allFaults, Cond.selects RX3 yX3_allFaults yX3_allFaults, Cond.code yX3_allFaults cX3_allFaults 3 (some .int), Cond.fieldLink RX3 76 "TypecheckStation$Findings" "faults" "I", Cond.methodLink RX5 175 yX5_tollWith, Cond.instanceMethod yX5_tollWith, Cond.selects RX5 yX5_tollWith yX5_tollWith, Cond.code yX5_tollWith cX5_tollWith 5 (some .int), Cond.fieldLink RX5 198 "TypecheckStation$Books" "calls" "[[I", Cond.methodLink RX5 262 yX3_guardsCall, Cond.instanceMethod yX3_guardsCall, Cond.selects RX3 yX3_guardsCall yX3_guardsCall]
def wsL_law0_r10 : List Cond := [Cond.code yX3_guardsCall cX3_guardsCall 4 (some .boolean), Cond.static yX5_has, Cond.code yX5_has cX5_has 2 (some .boolean), Cond.methodLink RX5 266 yX3_guardsGive, Cond.instanceMethod yX3_guardsGive, Cond.selects RX3 yX3_guardsGive yX3_guardsGive, Cond.code yX3_guardsGive cX3_guardsGive 4 (some .boolean), Cond.methodLink RX5 202 yX5_rowOf, Cond.static yX5_rowOf, Cond.code yX5_rowOf cX5_rowOf 1 (some .int), Cond.methodLink RL 37 yL_act, Cond.static yL_act, Cond.codeWith yL_act cL_act 8 (some .boolean) [(13, 102, 400, 90), (103, 159, 400, 90), (160, 264, 400, 90), (265, 286, 400, 90), (287, 332, 400, 90), (333, 368, 400, 90), (369, 391, 400, 90), (392, 399, 400, 90)], Cond.classLink RL 90 "java/lang/IllegalStateException", Cond.methodLink RL 57 yX5_step, Cond.methodLink RL 59 yX5_ofFunction, Cond.instanceMethod yX5_ofFunction, Cond.selects RX5 yX5_ofFunction yX5_ofFunction, Cond.code yX5_ofFunction cX5_ofFunction 4 (some .int), Cond.fieldLink RX5 89 "TypecheckStation$Function" "in" "I", Cond.fieldLink RX5 96 "TypecheckStation$Function" "out" "I", Cond.fieldLink RX5 136 "TypecheckStation$Findings" "faults" "I", Cond.fieldLink RX5 139 "TypecheckStation$Findings" "firstFault" "I", Cond.fieldLink RX5 142 "TypecheckStation$Findings" "loose" "I"]
def wsL_law0_r11 : List Cond := [Cond.methodLink RX5 117 yX5_has, Cond.methodLink RX5 102 yX3_checked, Cond.methodLink RX5 92 yX3_guessIn, Cond.instanceMethod yX3_guessIn, Cond.selects RX3 yX3_guessIn yX3_guessIn, Cond.code yX3_guessIn cX3_guessIn 2 (some .int), Cond.methodLink RX5 99 yX3_guessOut, Cond.instanceMethod yX3_guessOut, Cond.selects RX3 yX3_guessOut yX3_guessOut, Cond.code yX3_guessOut cX3_guessOut 2 (some .int), Cond.methodLink RX5 145 yX3_callersOf, Cond.instanceMethod yX3_callersOf, Cond.selects RX3 yX3_callersOf yX3_callersOf, Cond.code yX3_callersOf cX3_callersOf 4 (some .int), Cond.methodLink RX3 79 yX2_mentions, Cond.instanceMethod yX2_mentions, Cond.selects RX2 yX2_mentions yX2_mentions, Cond.code yX2_mentions cX2_mentions 3 (some .boolean), Cond.fieldLink RX2 22 "TypecheckStation$Function" "size" "I", Cond.methodLink RX5 149 yX0_timesCalled, Cond.instanceMethod yX0_timesCalled, Cond.selects RX0 yX0_timesCalled yX0_timesCalled, Cond.code yX0_timesCalled cX0_timesCalled 4 (some .int), Cond.methodLink RL 62 yX5_stepAt]
def wsL_law0_r12 : List Cond := [Cond.instanceMethod yX5_stepAt, Cond.selects RX5 yX5_stepAt yX5_stepAt, Cond.code yX5_stepAt cX5_stepAt 4 (some .int), Cond.methodLink RL 65 yX5_unstep, Cond.instanceMethod yX5_unstep, Cond.selects RX5 yX5_unstep yX5_unstep, Cond.code yX5_unstep cX5_unstep 3 (some .int), Cond.methodLink RL 68 yX5_untyped, Cond.instanceMethod yX5_untyped, Cond.selects RX5 yX5_untyped yX5_untyped, Cond.code yX5_untyped cX5_untyped 4 (some .int), Cond.methodLink RX5 77 yX5_requireHints, Cond.static yX5_requireHints, Cond.code yX5_requireHints cX5_requireHints 2 none, Cond.methodLink RX5 222 yX3_untypableWith, Cond.instanceMethod yX3_untypableWith, Cond.selects RX3 yX3_untypableWith yX3_untypableWith, Cond.code yX3_untypableWith cX3_untypableWith 8 (some .int), Cond.methodLink RL 71 yX5_hint, Cond.instanceMethod yX5_hint, Cond.selects RX5 yX5_hint yX5_hint, Cond.code yX5_hint cX5_hint 4 (some .int), Cond.methodLink RX5 81 yX3_changeHints, Cond.instanceMethod yX3_changeHints]
def wsL_law0_r13 : List Cond := [Cond.selects RX3 yX3_changeHints yX3_changeHints, Cond.code yX3_changeHints cX3_changeHints 6 (some .int), Cond.methodLink RX3 89 yX3_callersOf, Cond.methodLink RX5 85 yX3_dropUntypable, Cond.methodLink RL 74 yX5_adopt, Cond.instanceMethod yX5_adopt, Cond.selects RX5 yX5_adopt yX5_adopt, Cond.code yX5_adopt cX5_adopt 6 (some .int), Cond.methodLink RL 77 yX5_type, Cond.instanceMethod yX5_type, Cond.selects RX5 yX5_type yX5_type, Cond.code yX5_type cX5_type 4 (some .boolean), Cond.methodLink RX5 106 yX1_areNone, Cond.methodLink RX5 121 yX5_with, Cond.methodLink RX5 125 yX5_without, Cond.static yX5_without, Cond.code yX5_without cX5_without 2 (some .int), Cond.methodLink RL 81 yX5_migrate, Cond.instanceMethod yX5_migrate, Cond.selects RX5 yX5_migrate yX5_migrate, Cond.code yX5_migrate cX5_migrate 4 (some .int), Cond.methodLink RX5 211 yX5_nextToType, Cond.instanceMethod yX5_nextToType, Cond.selects RX5 yX5_nextToType yX5_nextToType]
def wsL_law0_r14 : List Cond := [Cond.code yX5_nextToType cX5_nextToType 6 (some .int), Cond.methodLink RX5 208 yX5_gainOf, Cond.instanceMethod yX5_gainOf, Cond.selects RX5 yX5_gainOf yX5_gainOf, Cond.code yX5_gainOf cX5_gainOf 2 (some .int), Cond.methodLink RL 84 yX5_budget, Cond.instanceMethod yX5_budget, Cond.selects RX5 yX5_budget yX5_budget, Cond.code yX5_budget cX5_budget 3 (some .int), Cond.methodLink RX5 178 yX5_requireBudget, Cond.static yX5_requireBudget, Cond.code yX5_requireBudget cX5_requireBudget 1 none, Cond.methodLink RL 87 yL_isRunRight, Cond.static yL_isRunRight, Cond.code yL_isRunRight cL_isRunRight 11 (some .boolean), Cond.methodLink RL 92 yX5_counted, Cond.instanceMethod yX5_counted, Cond.selects RX5 yX5_counted yX5_counted, Cond.code yX5_counted cX5_counted 3 (some .int), Cond.methodLink RL 95 yX5_wouldBlame, Cond.instanceMethod yX5_wouldBlame, Cond.selects RX5 yX5_wouldBlame yX5_wouldBlame, Cond.code yX5_wouldBlame cX5_wouldBlame 4 (some .int), Cond.fieldLink RX5 216 "TypecheckStation$Trial" "blame" "I"]
def wsL_law0_r15 : List Cond := [Cond.methodLink RX5 181 yX5_requireValue, Cond.static yX5_requireValue, Cond.code yX5_requireValue cX5_requireValue 2 none, Cond.methodLink RX5 277 yX5_isValue, Cond.static yX5_isValue, Cond.code yX5_isValue cX5_isValue 2 (some .boolean), Cond.methodLink RX5 184 yX4_tryOut, Cond.instanceMethod yX4_tryOut, Cond.selects RX4 yX4_tryOut yX4_tryOut, Cond.code yX4_tryOut cX4_tryOut 5 none, Cond.fieldLink RX4 26 "TypecheckStation$Trial" "budget" "I", Cond.fieldLink RX4 30 "TypecheckStation$Trial" "type" "I", Cond.fieldLink RX4 33 "TypecheckStation$Trial" "number" "I", Cond.methodLink RX4 23 yX4_clear, Cond.instanceMethod yX4_clear, Cond.selects RX4 yX4_clear yX4_clear, Cond.code yX4_clear cX4_clear 3 none, Cond.fieldLink RX4 40 "TypecheckStation$Trial" "begun" "I", Cond.fieldLink RX4 43 "TypecheckStation$Trial" "looked" "I", Cond.fieldLink RX4 46 "TypecheckStation$Trial" "skipped" "I", Cond.fieldLink RX4 49 "TypecheckStation$Trial" "deepest" "I", Cond.fieldLink RX4 52 "TypecheckStation$Trial" "failure" "I", Cond.fieldLink RX4 55 "TypecheckStation$Trial" "blame" "I", Cond.fieldLink RX4 58 "TypecheckStation$Trial" "hasSuspect" "Z"]
def wsL_law0_r16 : List Cond := [Cond.fieldLink RX4 62 "TypecheckStation$Trial" "suspect" "I", Cond.methodLink RX4 36 yX4_enter, Cond.instanceMethod yX4_enter, Cond.selects RX4 yX4_enter yX4_enter, Cond.code yX4_enter cX4_enter 4 none, Cond.methodLink RX4 69 Lib.Math.max.name, Cond.static Lib.Math.max.name, Cond.initialized "java/lang/Math", Cond.code Lib.Math.max.name Lib.Math.max.code 2 (some .int), Cond.fieldLink RX4 79 "TypecheckStation$Program" "typed" "I", Cond.fieldLink RX4 88 "TypecheckStation$Program" "functions" "[LTypecheckStation$Function;", Cond.fieldLink RX4 92 "TypecheckStation$Function" "in" "I", Cond.fieldLink RX4 106 "TypecheckStation$Function" "out" "I", Cond.methodLink RX4 65 yX4_fail, Cond.instanceMethod yX4_fail, Cond.selects RX4 yX4_fail yX4_fail, Cond.code yX4_fail cX4_fail 3 none, Cond.methodLink RX4 84 yX3_guardsCall, Cond.methodLink RX4 97 yX4_guard, Cond.instanceMethod yX4_guard, Cond.selects RX4 yX4_guard yX4_guard, Cond.code yX4_guard cX4_guard 5 none, Cond.methodLink RX4 100 yX4_goThrough, Cond.instanceMethod yX4_goThrough]
def wsL_law0_r17 : List Cond := [Cond.selects RX4 yX4_goThrough yX4_goThrough, Cond.methodLink RX4 103 yX3_guardsGive, Cond.code yX4_begin cX4_begin 5 none, Cond.methodLink RX4 130 yX4_made, Cond.instanceMethod yX4_made, Cond.selects RX4 yX4_made yX4_made, Cond.code yX4_made cX4_made 2 (some .int), Cond.methodLink RX4 140 Lib.Math.min.name, Cond.static Lib.Math.min.name, Cond.code Lib.Math.min.name Lib.Math.min.code 2 (some .int), Cond.methodLink RX4 136 yX4_shownLength, Cond.instanceMethod yX4_shownLength, Cond.selects RX4 yX4_shownLength yX4_shownLength, Cond.code yX4_shownLength cX4_shownLength 2 (some .int), Cond.methodLink RX4 143 Lib.Math.abs.name, Cond.static Lib.Math.abs.name, Cond.code Lib.Math.abs.name Lib.Math.abs.code 1 (some .int), Cond.code yX4_goThrough cX4_goThrough 5 none, Cond.fieldLink RX4 109 "TypecheckStation$Function" "size" "I", Cond.fieldLink RX4 112 "TypecheckStation$Function" "steps" "[I", Cond.methodLink RX4 116 yX4_begin, Cond.instanceMethod yX4_begin, Cond.selects RX4 yX4_begin yX4_begin, Cond.methodLink RL 98 yX5_run]
def wsL_law0_r18 : List Cond := [Cond.instanceMethod yX5_run, Cond.selects RX5 yX5_run yX5_run, Cond.code yX5_run cX5_run 4 (some .int), Cond.fieldLink RX5 192 "TypecheckStation$Trial" "failure" "I", Cond.methodLink RX5 188 yX0_enter, Cond.instanceMethod yX0_enter, Cond.selects RX0 yX0_enter yX0_enter, Cond.code yX0_enter cX0_enter 2 none, Cond.fieldLink RX0 26 "TypecheckStation$Books" "runs" "I", Cond.fieldLink RX0 30 "TypecheckStation$Trial" "failure" "I", Cond.fieldLink RX0 35 "TypecheckStation$Books" "failures" "I", Cond.fieldLink RX0 38 "TypecheckStation$Trial" "blame" "I", Cond.fieldLink RX0 41 "TypecheckStation$Books" "costs" "I", Cond.methodLink RX0 44 yX4_cost, Cond.instanceMethod yX4_cost, Cond.selects RX4 yX4_cost yX4_cost, Cond.code yX4_cost cX4_cost 1 (some .int), Cond.methodLink RX0 48 yX0_addCalls, Cond.instanceMethod yX0_addCalls, Cond.selects RX0 yX0_addCalls yX0_addCalls, Cond.code yX0_addCalls cX0_addCalls 4 none, Cond.fieldLink RX0 55 "TypecheckStation$Trial" "calls" "[[I", Cond.methodLink RX0 52 yX0_keepLatest, Cond.instanceMethod yX0_keepLatest]
def wsL_law0_r19 : List Cond := [Cond.selects RX0 yX0_keepLatest yX0_keepLatest, Cond.code yX0_keepLatest cX0_keepLatest 3 none, Cond.fieldLink RX0 56 "TypecheckStation$Trial" "looked" "I", Cond.fieldLink RX0 59 "TypecheckStation$Trial" "skipped" "I", Cond.fieldLink RX0 62 "TypecheckStation$Trial" "type" "I", Cond.fieldLink RX0 65 "TypecheckStation$Trial" "number" "I", Cond.fieldLink RX0 68 "TypecheckStation$Trial" "deepest" "I", Cond.methodLink RL 101 yX5_latest, Cond.instanceMethod yX5_latest, Cond.selects RX5 yX5_latest yX5_latest, Cond.code yX5_latest cX5_latest 2 (some .int), Cond.fieldLink RX5 195 "TypecheckStation$Books" "latest" "[I", Cond.methodLink RL 41 yX5_digest, Cond.instanceMethod yX5_digest, Cond.selects RX5 yX5_digest yX5_digest, Cond.code yX5_digest cX5_digest 4 (some .long), Cond.constantLong RX5 225 (58113), Cond.methodLink RX5 227 yX5_many, Cond.methodLink RX5 230 yX5_mixed, Cond.static yX5_mixed, Cond.code yX5_mixed cX5_mixed 3 (some .long), Cond.constantLong RX5 260 (31), Cond.methodLink RX5 234 yX5_latest, Cond.methodLink RX5 236 yX5_mixedFunction]
def wsL_law0_r20 : List Cond := [Cond.instanceMethod yX5_mixedFunction, Cond.selects RX5 yX5_mixedFunction yX5_mixedFunction, Cond.code yX5_mixedFunction cX5_mixedFunction 8 (some .long), Cond.methodLink RX5 245 yX5_ofFunction, Cond.methodLink RX5 248 yX5_stepAt, Cond.methodLink RX5 251 yX5_blamed, Cond.instanceMethod yX5_blamed, Cond.selects RX5 yX5_blamed yX5_blamed, Cond.code yX5_blamed cX5_blamed 2 (some .int), Cond.fieldLink RX5 205 "TypecheckStation$Books" "blames" "[I", Cond.methodLink RX5 254 yX5_gain, Cond.instanceMethod yX5_gain, Cond.selects RX5 yX5_gain yX5_gain, Cond.code yX5_gain cX5_gain 2 (some .int), Cond.methodLink RX5 257 yX5_wouldBlame, Cond.methodLink RX5 239 yX5_next, Cond.instanceMethod yX5_next, Cond.selects RX5 yX5_next yX5_next, Cond.code yX5_next cX5_next 1 (some .int), Cond.methodLink RX5 242 yX5_tollAtBest, Cond.instanceMethod yX5_tollAtBest, Cond.selects RX5 yX5_tollAtBest yX5_tollAtBest, Cond.code yX5_tollAtBest cX5_tollAtBest 1 (some .int), Cond.methodLink RL 45 yL_areFunctionsRight]
def wsL_law0_r21 : List Cond := [Cond.static yL_areFunctionsRight, Cond.code yL_areFunctionsRight cL_areFunctionsRight 13 (some .boolean), Cond.methodLink RL 104 yX5_blamed, Cond.methodLink RL 49 yL_areTollsRight, Cond.static yL_areTollsRight, Cond.code yL_areTollsRight cL_areTollsRight 5 (some .boolean), Cond.constant RL 111 (-1000000), Cond.methodLink RL 115 Lib.Math.max.name, Cond.methodLink RL 107 yX5_next, Cond.methodLink RL 112 yX5_gain, Cond.methodLink RL 120 yX5_tollAtBest]
def wsL_law0 : List Cond := (wsL_law0_r1 ++ (wsL_law0_r2 ++ (wsL_law0_r3 ++ (wsL_law0_r4 ++ (wsL_law0_r5 ++ (wsL_law0_r6 ++ (wsL_law0_r7 ++ (wsL_law0_r8 ++ (wsL_law0_r9 ++ (wsL_law0_r10 ++ (wsL_law0_r11 ++ (wsL_law0_r12 ++ (wsL_law0_r13 ++ (wsL_law0_r14 ++ (wsL_law0_r15 ++ (wsL_law0_r16 ++ (wsL_law0_r17 ++ (wsL_law0_r18 ++ (wsL_law0_r19 ++ (wsL_law0_r20 ++ wsL_law0_r21)))))))))))))))))))) ++ wsX50 ++ wsX60 ++ wsX30 ++ wsX40 ++ wsX00 ++ wsX20 ++ wsX10 ++ ([] : List Cond)
def wsL_law : List Cond := wsL_law0 ++ (vx_atS RX5 43 "java/lang/IllegalStateException" ["java/lang/RuntimeException", "java/lang/Exception"]).filter goodWord ++ (vx_atS RX5 58 "java/lang/IllegalArgumentException" ["java/lang/RuntimeException", "java/lang/Exception"]).filter goodWord ++ (vx_atS RX5 132 "java/lang/IndexOutOfBoundsException" ["java/lang/RuntimeException", "java/lang/Exception"]).filter goodWord
theorem ws_ap {a b big : List Cond} (ha : ∀ w ∈ a, w ∈ big) (hb : ∀ w ∈ b, w ∈ big) : ∀ w ∈ a ++ b, w ∈ big := fun w h => (List.mem_append.mp h).elim (ha w) (hb w)
end
section
set_option maxRecDepth 20000 in
theorem wsL_law_p1 : ∀ w ∈ wsL_law0_r1, w ∈ lw_tbl := fun w h => (goodIn_p wsL_law0_r1 [36, 39] (by decide +kernel) (by decide +kernel) w h).1
set_option maxRecDepth 20000 in
theorem wsL_law_p2 : ∀ w ∈ wsL_law0_r2, w ∈ lw_tbl := fun w h => (goodIn_p wsL_law0_r2 [44, 51, 83] (by decide +kernel) (by decide +kernel) w h).1
set_option maxRecDepth 20000 in
theorem wsL_law_p3 : ∀ w ∈ wsL_law0_r3, w ∈ lw_tbl := fun w h => (goodIn_p wsL_law0_r3 [125, 129, 186, 531] (by decide +kernel) (by decide +kernel) w h).1
set_option maxRecDepth 20000 in
theorem wsL_law_p4 : ∀ w ∈ wsL_law0_r4, w ∈ lw_tbl := fun w h => (goodIn_p wsL_law0_r4 [575, 578, 582, 587] (by decide +kernel) (by decide +kernel) w h).1
end
section
set_option maxRecDepth 20000 in
theorem wsL_law_p5 : ∀ w ∈ wsL_law0_r5, w ∈ lw_tbl := fun w h => (goodIn_p wsL_law0_r5 [606, 610, 395, 614] (by decide +kernel) (by decide +kernel) w h).1
set_option maxRecDepth 20000 in
theorem wsL_law_p6 : ∀ w ∈ wsL_law0_r6, w ∈ lw_tbl := fun w h => (goodIn_p wsL_law0_r6 [620, 624, 628, 311, 315] (by decide +kernel) (by decide +kernel) w h).1
set_option maxRecDepth 20000 in
theorem wsL_law_p7 : ∀ w ∈ wsL_law0_r7, w ∈ lw_tbl := fun w h => (goodIn_p wsL_law0_r7 [319, 323, 326, 329, 333, 337] (by decide +kernel) (by decide +kernel) w h).1
set_option maxRecDepth 20000 in
theorem wsL_law_p8 : ∀ w ∈ wsL_law0_r8, w ∈ lw_tbl := fun w h => (goodIn_p wsL_law0_r8 [340, 344, 347, 304, 634] (by decide +kernel) (by decide +kernel) w h).1
end
section
set_option maxRecDepth 20000 in
theorem wsL_law_p9 : ∀ w ∈ wsL_law0_r9, w ∈ lw_tbl := fun w h => (goodIn_p wsL_law0_r9 [230, 233, 351, 355] (by decide +kernel) (by decide +kernel) w h).1
set_option maxRecDepth 20000 in
theorem wsL_law_p10 : ∀ w ∈ wsL_law0_r10, w ∈ lw_tbl := fun w h => (goodIn_p wsL_law0_r10 [359, 362, 366, 369, 391] (by decide +kernel) (by decide +kernel) w h).1
set_option maxRecDepth 20000 in
theorem wsL_law_p11 : ∀ w ∈ wsL_law0_r11, w ∈ lw_tbl := fun w h => (goodIn_p wsL_law0_r11 [417, 421, 425, 429, 433] (by decide +kernel) (by decide +kernel) w h).1
set_option maxRecDepth 20000 in
theorem wsL_law_p12 : ∀ w ∈ wsL_law0_r12, w ∈ lw_tbl := fun w h => (goodIn_p wsL_law0_r12 [437, 648, 653, 656, 661, 665] (by decide +kernel) (by decide +kernel) w h).1
end
section
set_option maxRecDepth 20000 in
theorem wsL_law_p13 : ∀ w ∈ wsL_law0_r13, w ∈ lw_tbl := fun w h => (goodIn_p wsL_law0_r13 [669, 675, 679, 684, 688] (by decide +kernel) (by decide +kernel) w h).1
set_option maxRecDepth 20000 in
theorem wsL_law_p14 : ∀ w ∈ wsL_law0_r14, w ∈ lw_tbl := fun w h => (goodIn_p wsL_law0_r14 [522, 450, 693, 696, 700, 704, 455] (by decide +kernel) (by decide +kernel) w h).1
set_option maxRecDepth 20000 in
theorem wsL_law_p15 : ∀ w ∈ wsL_law0_r15, w ∈ lw_tbl := fun w h => (goodIn_p wsL_law0_r15 [458, 461, 466, 470] (by decide +kernel) (by decide +kernel) w h).1
set_option maxRecDepth 20000 in
theorem wsL_law_p16 : ∀ w ∈ wsL_law0_r16, w ∈ lw_tbl := fun w h => (goodIn_p wsL_law0_r16 [474, 481, 478, 487] (by decide +kernel) (by decide +kernel) w h).1
end
section
set_option maxRecDepth 20000 in
theorem wsL_law_p17 : ∀ w ∈ wsL_law0_r17, w ∈ lw_tbl := fun w h => (goodIn_p wsL_law0_r17 [495, 502, 512, 506, 509, 491] (by decide +kernel) (by decide +kernel) w h).1
set_option maxRecDepth 20000 in
theorem wsL_law_p18 : ∀ w ∈ wsL_law0_r18, w ∈ lw_tbl := fun w h => (goodIn_p wsL_law0_r18 [709, 713, 717, 721] (by decide +kernel) (by decide +kernel) w h).1
set_option maxRecDepth 20000 in
theorem wsL_law_p19 : ∀ w ∈ wsL_law0_r19, w ∈ lw_tbl := fun w h => (goodIn_p wsL_law0_r19 [725, 383, 373, 378] (by decide +kernel) (by decide +kernel) w h).1
set_option maxRecDepth 20000 in
theorem wsL_law_p20 : ∀ w ∈ wsL_law0_r20, w ∈ lw_tbl := fun w h => (goodIn_p wsL_law0_r20 [387, 442, 446, 518, 526] (by decide +kernel) (by decide +kernel) w h).1
set_option maxRecDepth 20000 in
theorem wsL_law_p21 : ∀ w ∈ wsL_law0_r21, w ∈ lw_tbl := fun w h => (goodIn_p wsL_law0_r21 [729, 733] (by decide +kernel) (by decide +kernel) w h).1
end
section
set_option maxRecDepth 20000 in
theorem wsL_law_q0 : ∀ w ∈ wsX00, w ∈ lw_tbl := fun w h => (goodIn_p wsX00 [] (by decide +kernel) (by decide +kernel) w h).1
set_option maxRecDepth 20000 in
theorem wsL_law_q1 : ∀ w ∈ wsX10, w ∈ lw_tbl := fun w h => (goodIn_p wsX10 [] (by decide +kernel) (by decide +kernel) w h).1
set_option maxRecDepth 20000 in
theorem wsL_law_q2 : ∀ w ∈ wsX20, w ∈ lw_tbl := fun w h => (goodIn_p wsX20 [] (by decide +kernel) (by decide +kernel) w h).1
set_option maxRecDepth 20000 in
theorem wsL_law_q3 : ∀ w ∈ wsX30, w ∈ lw_tbl := fun w h => (goodIn_p wsX30 [] (by decide +kernel) (by decide +kernel) w h).1
set_option maxRecDepth 20000 in
theorem wsL_law_q4 : ∀ w ∈ wsX40, w ∈ lw_tbl := fun w h => (goodIn_p wsX40 [] (by decide +kernel) (by decide +kernel) w h).1
set_option maxRecDepth 20000 in
theorem wsL_law_q5 : ∀ w ∈ wsX50, w ∈ lw_tbl := fun w h => (goodIn_p wsX50 [] (by decide +kernel) (by decide +kernel) w h).1
set_option maxRecDepth 20000 in
theorem wsL_law_q6 : ∀ w ∈ wsX60, w ∈ lw_tbl := fun w h => (goodIn_p wsX60 [] (by decide +kernel) (by decide +kernel) w h).1
end
section
theorem wsL_law_in0 : ∀ w ∈ wsL_law0, w ∈ lw_tbl := ws_ap (ws_ap (ws_ap (ws_ap (ws_ap (ws_ap (ws_ap (ws_ap (ws_ap wsL_law_p1 (ws_ap wsL_law_p2 (ws_ap wsL_law_p3 (ws_ap wsL_law_p4 (ws_ap wsL_law_p5 (ws_ap wsL_law_p6 (ws_ap wsL_law_p7 (ws_ap wsL_law_p8 (ws_ap wsL_law_p9 (ws_ap wsL_law_p10 (ws_ap wsL_law_p11 (ws_ap wsL_law_p12 (ws_ap wsL_law_p13 (ws_ap wsL_law_p14 (ws_ap wsL_law_p15 (ws_ap wsL_law_p16 (ws_ap wsL_law_p17 (ws_ap wsL_law_p18 (ws_ap wsL_law_p19 (ws_ap wsL_law_p20 wsL_law_p21)))))))))))))))))))) wsL_law_q5) wsL_law_q6) wsL_law_q3) wsL_law_q4) wsL_law_q0) wsL_law_q2) wsL_law_q1) (fun _ h => absurd h List.not_mem_nil)
theorem wsL_law_x0 : ∀ w ∈ (vx_atS RX5 43 "java/lang/IllegalStateException" ["java/lang/RuntimeException", "java/lang/Exception"]).filter goodWord, w ∈ lw_tbl := by decide +kernel
theorem wsL_law_x1 : ∀ w ∈ (vx_atS RX5 58 "java/lang/IllegalArgumentException" ["java/lang/RuntimeException", "java/lang/Exception"]).filter goodWord, w ∈ lw_tbl := by decide +kernel
theorem wsL_law_x2 : ∀ w ∈ (vx_atS RX5 132 "java/lang/IndexOutOfBoundsException" ["java/lang/RuntimeException", "java/lang/Exception"]).filter goodWord, w ∈ lw_tbl := by decide +kernel
theorem wsL_law_in : ∀ w ∈ wsL_law, w ∈ lw_tbl := fun w h => (List.mem_append.mp h).elim (fun h => (List.mem_append.mp h).elim (fun h => (List.mem_append.mp h).elim (fun h => wsL_law_in0 w h) (fun h => wsL_law_x0 w h)) (fun h => wsL_law_x1 w h)) (fun h => wsL_law_x2 w h)
theorem inlX0 : ∀ w ∈ wsX00, w ∈ wsL_law := fun _ h => List.mem_append_left _ (List.mem_append_left _ (List.mem_append_left _ (List.mem_append_left _ (List.mem_append_left _ (List.mem_append_left _ (List.mem_append_right _ h))))))
theorem inX0 : ∀ w ∈ wsX00, w ∈ lw_tbl := fun w h => wsL_law_in w (inlX0 w h)
theorem inlX1 : ∀ w ∈ wsX10, w ∈ wsL_law := fun _ h => List.mem_append_left _ (List.mem_append_left _ (List.mem_append_left _ (List.mem_append_left _ (List.mem_append_right _ h))))
theorem inX1 : ∀ w ∈ wsX10, w ∈ lw_tbl := fun w h => wsL_law_in w (inlX1 w h)
theorem inlX2 : ∀ w ∈ wsX20, w ∈ wsL_law := fun _ h => List.mem_append_left _ (List.mem_append_left _ (List.mem_append_left _ (List.mem_append_left _ (List.mem_append_left _ (List.mem_append_right _ h)))))
theorem inX2 : ∀ w ∈ wsX20, w ∈ lw_tbl := fun w h => wsL_law_in w (inlX2 w h)
theorem inlX3 : ∀ w ∈ wsX30, w ∈ wsL_law := fun _ h => List.mem_append_left _ (List.mem_append_left _ (List.mem_append_left _ (List.mem_append_left _ (List.mem_append_left _ (List.mem_append_left _ (List.mem_append_left _ (List.mem_append_left _ (List.mem_append_right _ h))))))))
theorem inX3 : ∀ w ∈ wsX30, w ∈ lw_tbl := fun w h => wsL_law_in w (inlX3 w h)
theorem inlX4 : ∀ w ∈ wsX40, w ∈ wsL_law := fun _ h => List.mem_append_left _ (List.mem_append_left _ (List.mem_append_left _ (List.mem_append_left _ (List.mem_append_left _ (List.mem_append_left _ (List.mem_append_left _ (List.mem_append_right _ h)))))))
theorem inX4 : ∀ w ∈ wsX40, w ∈ lw_tbl := fun w h => wsL_law_in w (inlX4 w h)
theorem inlX5 : ∀ w ∈ wsX50, w ∈ wsL_law := fun _ h => List.mem_append_left _ (List.mem_append_left _ (List.mem_append_left _ (List.mem_append_left _ (List.mem_append_left _ (List.mem_append_left _ (List.mem_append_left _ (List.mem_append_left _ (List.mem_append_left _ (List.mem_append_left _ (List.mem_append_right _ h))))))))))
theorem inX5 : ∀ w ∈ wsX50, w ∈ lw_tbl := fun w h => wsL_law_in w (inlX5 w h)
theorem inlX6 : ∀ w ∈ wsX60, w ∈ wsL_law := fun _ h => List.mem_append_left _ (List.mem_append_left _ (List.mem_append_left _ (List.mem_append_left _ (List.mem_append_left _ (List.mem_append_left _ (List.mem_append_left _ (List.mem_append_left _ (List.mem_append_left _ (List.mem_append_right _ h)))))))))
theorem inX6 : ∀ w ∈ wsX60, w ∈ lw_tbl := fun w h => wsL_law_in w (inlX6 w h)
theorem inX7 : ∀ w ∈ wsX70, w ∈ lw_tbl := by decide +kernel
theorem inX8 : ∀ w ∈ wsX80, w ∈ lw_tbl := by decide +kernel
end
section
theorem inX9 : ∀ w ∈ wsX90, w ∈ lw_tbl := by decide +kernel
theorem inJx145de : ∀ w ∈ wsJx145de0, w ∈ lw_tbl := by decide +kernel
theorem inJ6 : ∀ w ∈ wsJ60, w ∈ lw_tbl := by decide +kernel
theorem inJ9 : ∀ w ∈ wsJ90, w ∈ lw_tbl := by decide +kernel
theorem inJ0 : ∀ w ∈ wsJ00, w ∈ lw_tbl := by decide +kernel
set_option maxRecDepth 20000 in
theorem ggX0_init_X5_newCallTable : GoodIn wsX0_init wsX5_newCallTable := goodIn_r _ [10, 11, 5] (by decide +kernel) (by decide +kernel)
set_option maxRecDepth 20000 in
theorem gX0_init_X5_newCallTable_n9 : GoodIn wsX0_init (wsX5_newCallTable) := ggX0_init_X5_newCallTable
theorem dX0_init_0 : decode cX0_init 0 = .ok (.aload_n 0, 1) := by decide +kernel
theorem dX0_init_1 : decode cX0_init 1 = .ok (.invokespecial 3, 3) := by decide +kernel
theorem dX0_init_4 : decode cX0_init 4 = .ok (.aload_n 0, 1) := by decide +kernel
theorem dX0_init_5 : decode cX0_init 5 = .ok (.invokestatic 9, 3) := by decide +kernel
theorem dX0_init_8 : decode cX0_init 8 = .ok (.putfield 13, 3) := by decide +kernel
theorem dX0_init_11 : decode cX0_init 11 = .ok (.aload_n 0, 1) := by decide +kernel
theorem dX0_init_12 : decode cX0_init 12 = .ok (.bipush 10, 2) := by decide +kernel
theorem dX0_init_14 : decode cX0_init 14 = .ok (.newarray .int, 2) := by decide +kernel
theorem dX0_init_16 : decode cX0_init 16 = .ok (.putfield 19, 3) := by decide +kernel
theorem dX0_init_19 : decode cX0_init 19 = .ok (.aload_n 0, 1) := by decide +kernel
theorem dX0_init_20 : decode cX0_init 20 = .ok (.bipush 8, 2) := by decide +kernel
theorem dX0_init_22 : decode cX0_init 22 = .ok (.newarray .int, 2) := by decide +kernel
theorem dX0_init_24 : decode cX0_init 24 = .ok (.putfield 23, 3) := by decide +kernel
theorem dX0_init_27 : decode cX0_init 27 = .ok (.return_, 1) := by decide +kernel
set_option maxRecDepth 20000 in
theorem ggX0_enter_X4_cost : GoodIn wsX0_enter wsX4_cost := goodIn_r _ [11, 12, 13, 37, 38, 39, 40, 41, 42, 43, 44, 45, 46, 47, 48, 49] (by decide +kernel) (by decide +kernel)
set_option maxRecDepth 20000 in
theorem gX0_enter_X4_cost : GoodIn wsX0_enter (wsV RX0 44 RX4 yX4_cost wsX4_cost) := goodIn_app (goodIn_of _ (by decide +kernel)) ggX0_enter_X4_cost
set_option maxRecDepth 20000 in
theorem ggX0_enter_X0_addCalls : GoodIn wsX0_enter wsX0_addCalls := goodIn_r _ [18, 19, 20, 31, 32, 33, 34, 35, 36, 37, 38, 39, 40, 41, 42, 43, 44, 45, 46, 47, 48, 49] (by decide +kernel) (by decide +kernel)
set_option maxRecDepth 20000 in
theorem gX0_enter_X0_addCalls : GoodIn wsX0_enter (wsV RX0 48 RX0 yX0_addCalls wsX0_addCalls) := goodIn_app (goodIn_of _ (by decide +kernel)) ggX0_enter_X0_addCalls
set_option maxRecDepth 20000 in
theorem ggX0_enter_X0_keepLatest : GoodIn wsX0_enter wsX0_keepLatest := goodIn_r _ [24, 2, 25, 4, 26, 27, 28, 29, 30, 7, 8, 9, 10, 11, 12, 13, 37, 38, 39, 40, 41, 42, 43, 44, 45, 46, 47, 48, 49, 31, 32, 33, 34, 35, 36] (by decide +kernel) (by decide +kernel)
set_option maxRecDepth 20000 in
theorem gX0_enter_X0_keepLatest : GoodIn wsX0_enter (wsV RX0 52 RX0 yX0_keepLatest wsX0_keepLatest) := goodIn_app (goodIn_of _ (by decide +kernel)) ggX0_enter_X0_keepLatest
theorem dX0_enter_0 : decode cX0_enter 0 = .ok (.aload_n 0, 1) := by decide +kernel
theorem dX0_enter_1 : decode cX0_enter 1 = .ok (.dup, 1) := by decide +kernel
theorem dX0_enter_2 : decode cX0_enter 2 = .ok (.getfield 26, 3) := by decide +kernel
theorem dX0_enter_5 : decode cX0_enter 5 = .ok (.iconst 1, 1) := by decide +kernel
theorem dX0_enter_6 : decode cX0_enter 6 = .ok (.iadd, 1) := by decide +kernel
theorem dX0_enter_7 : decode cX0_enter 7 = .ok (.putfield 26, 3) := by decide +kernel
theorem dX0_enter_10 : decode cX0_enter 10 = .ok (.aload_n 1, 1) := by decide +kernel
theorem dX0_enter_11 : decode cX0_enter 11 = .ok (.getfield 30, 3) := by decide +kernel
theorem dX0_enter_14 : decode cX0_enter 14 = .ok (.ifCond .eq 13, 3) := by decide +kernel
theorem dX0_enter_17 : decode cX0_enter 17 = .ok (.aload_n 0, 1) := by decide +kernel
theorem dX0_enter_18 : decode cX0_enter 18 = .ok (.dup, 1) := by decide +kernel
theorem dX0_enter_19 : decode cX0_enter 19 = .ok (.getfield 35, 3) := by decide +kernel
theorem dX0_enter_22 : decode cX0_enter 22 = .ok (.iconst 1, 1) := by decide +kernel
theorem dX0_enter_23 : decode cX0_enter 23 = .ok (.iadd, 1) := by decide +kernel
theorem dX0_enter_24 : decode cX0_enter 24 = .ok (.putfield 35, 3) := by decide +kernel
theorem dX0_enter_27 : decode cX0_enter 27 = .ok (.aload_n 1, 1) := by decide +kernel
theorem dX0_enter_28 : decode cX0_enter 28 = .ok (.getfield 38, 3) := by decide +kernel
theorem dX0_enter_31 : decode cX0_enter 31 = .ok (.iconst (-1), 1) := by decide +kernel
theorem dX0_enter_32 : decode cX0_enter 32 = .ok (.if_icmp .eq 16, 3) := by decide +kernel
theorem dX0_enter_35 : decode cX0_enter 35 = .ok (.aload_n 0, 1) := by decide +kernel
theorem dX0_enter_36 : decode cX0_enter 36 = .ok (.getfield 19, 3) := by decide +kernel
theorem dX0_enter_39 : decode cX0_enter 39 = .ok (.aload_n 1, 1) := by decide +kernel
theorem dX0_enter_40 : decode cX0_enter 40 = .ok (.getfield 38, 3) := by decide +kernel
theorem dX0_enter_43 : decode cX0_enter 43 = .ok (.dup2, 1) := by decide +kernel
theorem dX0_enter_44 : decode cX0_enter 44 = .ok (.iaload, 1) := by decide +kernel
theorem dX0_enter_45 : decode cX0_enter 45 = .ok (.iconst 1, 1) := by decide +kernel
theorem dX0_enter_46 : decode cX0_enter 46 = .ok (.iadd, 1) := by decide +kernel
theorem dX0_enter_47 : decode cX0_enter 47 = .ok (.iastore, 1) := by decide +kernel
theorem dX0_enter_48 : decode cX0_enter 48 = .ok (.aload_n 0, 1) := by decide +kernel
theorem dX0_enter_49 : decode cX0_enter 49 = .ok (.dup, 1) := by decide +kernel
theorem dX0_enter_50 : decode cX0_enter 50 = .ok (.getfield 41, 3) := by decide +kernel
theorem dX0_enter_53 : decode cX0_enter 53 = .ok (.aload_n 1, 1) := by decide +kernel
theorem dX0_enter_54 : decode cX0_enter 54 = .ok (.invokevirtual 44, 3) := by decide +kernel
theorem dX0_enter_57 : decode cX0_enter 57 = .ok (.iadd, 1) := by decide +kernel
theorem dX0_enter_58 : decode cX0_enter 58 = .ok (.putfield 41, 3) := by decide +kernel
theorem dX0_enter_61 : decode cX0_enter 61 = .ok (.aload_n 0, 1) := by decide +kernel
theorem dX0_enter_62 : decode cX0_enter 62 = .ok (.aload_n 1, 1) := by decide +kernel
theorem dX0_enter_63 : decode cX0_enter 63 = .ok (.invokevirtual 48, 3) := by decide +kernel
theorem dX0_enter_66 : decode cX0_enter 66 = .ok (.aload_n 0, 1) := by decide +kernel
theorem dX0_enter_67 : decode cX0_enter 67 = .ok (.aload_n 1, 1) := by decide +kernel
theorem dX0_enter_68 : decode cX0_enter 68 = .ok (.invokevirtual 52, 3) := by decide +kernel
theorem dX0_enter_71 : decode cX0_enter 71 = .ok (.return_, 1) := by decide +kernel
theorem dX0_addCalls_0 : decode cX0_addCalls 0 = .ok (.iconst 0, 1) := by decide +kernel
theorem dX0_addCalls_1 : decode cX0_addCalls 1 = .ok (.istore_n 2, 1) := by decide +kernel
theorem dX0_addCalls_2 : decode cX0_addCalls 2 = .ok (.iload_n 2, 1) := by decide +kernel
theorem dX0_addCalls_3 : decode cX0_addCalls 3 = .ok (.bipush 10, 2) := by decide +kernel
theorem dX0_addCalls_5 : decode cX0_addCalls 5 = .ok (.if_icmp .gt 42, 3) := by decide +kernel
theorem dX0_addCalls_8 : decode cX0_addCalls 8 = .ok (.iconst 0, 1) := by decide +kernel
theorem dX0_addCalls_9 : decode cX0_addCalls 9 = .ok (.istore_n 3, 1) := by decide +kernel
theorem dX0_addCalls_10 : decode cX0_addCalls 10 = .ok (.iload_n 3, 1) := by decide +kernel
theorem dX0_addCalls_11 : decode cX0_addCalls 11 = .ok (.bipush 10, 2) := by decide +kernel
theorem dX0_addCalls_13 : decode cX0_addCalls 13 = .ok (.if_icmp .ge 28, 3) := by decide +kernel
theorem dX0_addCalls_16 : decode cX0_addCalls 16 = .ok (.aload_n 0, 1) := by decide +kernel
theorem dX0_addCalls_17 : decode cX0_addCalls 17 = .ok (.getfield 13, 3) := by decide +kernel
theorem dX0_addCalls_20 : decode cX0_addCalls 20 = .ok (.iload_n 2, 1) := by decide +kernel
theorem dX0_addCalls_21 : decode cX0_addCalls 21 = .ok (.aaload, 1) := by decide +kernel
theorem dX0_addCalls_22 : decode cX0_addCalls 22 = .ok (.iload_n 3, 1) := by decide +kernel
theorem dX0_addCalls_23 : decode cX0_addCalls 23 = .ok (.dup2, 1) := by decide +kernel
theorem dX0_addCalls_24 : decode cX0_addCalls 24 = .ok (.iaload, 1) := by decide +kernel
theorem dX0_addCalls_25 : decode cX0_addCalls 25 = .ok (.aload_n 1, 1) := by decide +kernel
theorem dX0_addCalls_26 : decode cX0_addCalls 26 = .ok (.getfield 55, 3) := by decide +kernel
theorem dX0_addCalls_29 : decode cX0_addCalls 29 = .ok (.iload_n 2, 1) := by decide +kernel
theorem dX0_addCalls_30 : decode cX0_addCalls 30 = .ok (.aaload, 1) := by decide +kernel
theorem dX0_addCalls_31 : decode cX0_addCalls 31 = .ok (.iload_n 3, 1) := by decide +kernel
theorem dX0_addCalls_32 : decode cX0_addCalls 32 = .ok (.iaload, 1) := by decide +kernel
theorem dX0_addCalls_33 : decode cX0_addCalls 33 = .ok (.iadd, 1) := by decide +kernel
theorem dX0_addCalls_34 : decode cX0_addCalls 34 = .ok (.iastore, 1) := by decide +kernel
theorem dX0_addCalls_35 : decode cX0_addCalls 35 = .ok (.iinc 3 1, 3) := by decide +kernel
theorem dX0_addCalls_38 : decode cX0_addCalls 38 = .ok (.goto (-28), 3) := by decide +kernel
theorem dX0_addCalls_41 : decode cX0_addCalls 41 = .ok (.iinc 2 1, 3) := by decide +kernel
theorem dX0_addCalls_44 : decode cX0_addCalls 44 = .ok (.goto (-42), 3) := by decide +kernel
theorem dX0_addCalls_47 : decode cX0_addCalls 47 = .ok (.return_, 1) := by decide +kernel
set_option maxRecDepth 20000 in
theorem ggX0_keepLatest_X4_cost : GoodIn wsX0_keepLatest wsX4_cost := goodIn_r _ [13, 14, 15, 16, 17, 18, 19, 20, 21, 22, 23, 24, 25, 26, 27, 28] (by decide +kernel) (by decide +kernel)
set_option maxRecDepth 20000 in
theorem gX0_keepLatest_X4_cost : GoodIn wsX0_keepLatest (wsV RX0 44 RX4 yX4_cost wsX4_cost) := goodIn_app (goodIn_of _ (by decide +kernel)) ggX0_keepLatest_X4_cost
theorem dX0_keepLatest_0 : decode cX0_keepLatest 0 = .ok (.aload_n 1, 1) := by decide +kernel
theorem dX0_keepLatest_1 : decode cX0_keepLatest 1 = .ok (.getfield 30, 3) := by decide +kernel
theorem dX0_keepLatest_4 : decode cX0_keepLatest 4 = .ok (.ifCond .eq 7, 3) := by decide +kernel
theorem dX0_keepLatest_7 : decode cX0_keepLatest 7 = .ok (.iconst 1, 1) := by decide +kernel
theorem dX0_keepLatest_8 : decode cX0_keepLatest 8 = .ok (.goto 4, 3) := by decide +kernel
theorem dX0_keepLatest_11 : decode cX0_keepLatest 11 = .ok (.iconst 0, 1) := by decide +kernel
theorem dX0_keepLatest_12 : decode cX0_keepLatest 12 = .ok (.istore_n 2, 1) := by decide +kernel
theorem dX0_keepLatest_13 : decode cX0_keepLatest 13 = .ok (.aload_n 0, 1) := by decide +kernel
theorem dX0_keepLatest_14 : decode cX0_keepLatest 14 = .ok (.getfield 23, 3) := by decide +kernel
theorem dX0_keepLatest_17 : decode cX0_keepLatest 17 = .ok (.iconst 0, 1) := by decide +kernel
theorem dX0_keepLatest_18 : decode cX0_keepLatest 18 = .ok (.aload_n 1, 1) := by decide +kernel
theorem dX0_keepLatest_19 : decode cX0_keepLatest 19 = .ok (.getfield 30, 3) := by decide +kernel
theorem dX0_keepLatest_22 : decode cX0_keepLatest 22 = .ok (.iastore, 1) := by decide +kernel
theorem dX0_keepLatest_23 : decode cX0_keepLatest 23 = .ok (.aload_n 0, 1) := by decide +kernel
theorem dX0_keepLatest_24 : decode cX0_keepLatest 24 = .ok (.getfield 23, 3) := by decide +kernel
theorem dX0_keepLatest_27 : decode cX0_keepLatest 27 = .ok (.iconst 1, 1) := by decide +kernel
theorem dX0_keepLatest_28 : decode cX0_keepLatest 28 = .ok (.aload_n 1, 1) := by decide +kernel
theorem dX0_keepLatest_29 : decode cX0_keepLatest 29 = .ok (.getfield 38, 3) := by decide +kernel
theorem dX0_keepLatest_32 : decode cX0_keepLatest 32 = .ok (.iastore, 1) := by decide +kernel
theorem dX0_keepLatest_33 : decode cX0_keepLatest 33 = .ok (.aload_n 0, 1) := by decide +kernel
theorem dX0_keepLatest_34 : decode cX0_keepLatest 34 = .ok (.getfield 23, 3) := by decide +kernel
theorem dX0_keepLatest_37 : decode cX0_keepLatest 37 = .ok (.iconst 2, 1) := by decide +kernel
theorem dX0_keepLatest_38 : decode cX0_keepLatest 38 = .ok (.aload_n 1, 1) := by decide +kernel
theorem dX0_keepLatest_39 : decode cX0_keepLatest 39 = .ok (.invokevirtual 44, 3) := by decide +kernel
theorem dX0_keepLatest_42 : decode cX0_keepLatest 42 = .ok (.iastore, 1) := by decide +kernel
theorem dX0_keepLatest_43 : decode cX0_keepLatest 43 = .ok (.aload_n 0, 1) := by decide +kernel
theorem dX0_keepLatest_44 : decode cX0_keepLatest 44 = .ok (.getfield 23, 3) := by decide +kernel
theorem dX0_keepLatest_47 : decode cX0_keepLatest 47 = .ok (.iconst 3, 1) := by decide +kernel
theorem dX0_keepLatest_48 : decode cX0_keepLatest 48 = .ok (.aload_n 1, 1) := by decide +kernel
theorem dX0_keepLatest_49 : decode cX0_keepLatest 49 = .ok (.getfield 56, 3) := by decide +kernel
theorem dX0_keepLatest_52 : decode cX0_keepLatest 52 = .ok (.iastore, 1) := by decide +kernel
theorem dX0_keepLatest_53 : decode cX0_keepLatest 53 = .ok (.aload_n 0, 1) := by decide +kernel
theorem dX0_keepLatest_54 : decode cX0_keepLatest 54 = .ok (.getfield 23, 3) := by decide +kernel
theorem dX0_keepLatest_57 : decode cX0_keepLatest 57 = .ok (.iconst 4, 1) := by decide +kernel
theorem dX0_keepLatest_58 : decode cX0_keepLatest 58 = .ok (.aload_n 1, 1) := by decide +kernel
theorem dX0_keepLatest_59 : decode cX0_keepLatest 59 = .ok (.getfield 59, 3) := by decide +kernel
theorem dX0_keepLatest_62 : decode cX0_keepLatest 62 = .ok (.iastore, 1) := by decide +kernel
theorem dX0_keepLatest_63 : decode cX0_keepLatest 63 = .ok (.aload_n 0, 1) := by decide +kernel
theorem dX0_keepLatest_64 : decode cX0_keepLatest 64 = .ok (.getfield 23, 3) := by decide +kernel
theorem dX0_keepLatest_67 : decode cX0_keepLatest 67 = .ok (.iconst 5, 1) := by decide +kernel
theorem dX0_keepLatest_68 : decode cX0_keepLatest 68 = .ok (.iload_n 2, 1) := by decide +kernel
theorem dX0_keepLatest_69 : decode cX0_keepLatest 69 = .ok (.ifCond .eq 7, 3) := by decide +kernel
theorem dX0_keepLatest_72 : decode cX0_keepLatest 72 = .ok (.iconst 3, 1) := by decide +kernel
theorem dX0_keepLatest_73 : decode cX0_keepLatest 73 = .ok (.goto 7, 3) := by decide +kernel
theorem dX0_keepLatest_76 : decode cX0_keepLatest 76 = .ok (.aload_n 1, 1) := by decide +kernel
theorem dX0_keepLatest_77 : decode cX0_keepLatest 77 = .ok (.getfield 62, 3) := by decide +kernel
theorem dX0_keepLatest_80 : decode cX0_keepLatest 80 = .ok (.iastore, 1) := by decide +kernel
theorem dX0_keepLatest_81 : decode cX0_keepLatest 81 = .ok (.aload_n 0, 1) := by decide +kernel
theorem dX0_keepLatest_82 : decode cX0_keepLatest 82 = .ok (.getfield 23, 3) := by decide +kernel
theorem dX0_keepLatest_85 : decode cX0_keepLatest 85 = .ok (.bipush 6, 2) := by decide +kernel
theorem dX0_keepLatest_87 : decode cX0_keepLatest 87 = .ok (.iload_n 2, 1) := by decide +kernel
theorem dX0_keepLatest_88 : decode cX0_keepLatest 88 = .ok (.ifCond .eq 7, 3) := by decide +kernel
theorem dX0_keepLatest_91 : decode cX0_keepLatest 91 = .ok (.iconst 0, 1) := by decide +kernel
theorem dX0_keepLatest_92 : decode cX0_keepLatest 92 = .ok (.goto 7, 3) := by decide +kernel
theorem dX0_keepLatest_95 : decode cX0_keepLatest 95 = .ok (.aload_n 1, 1) := by decide +kernel
theorem dX0_keepLatest_96 : decode cX0_keepLatest 96 = .ok (.getfield 65, 3) := by decide +kernel
theorem dX0_keepLatest_99 : decode cX0_keepLatest 99 = .ok (.iastore, 1) := by decide +kernel
theorem dX0_keepLatest_100 : decode cX0_keepLatest 100 = .ok (.aload_n 0, 1) := by decide +kernel
theorem dX0_keepLatest_101 : decode cX0_keepLatest 101 = .ok (.getfield 23, 3) := by decide +kernel
theorem dX0_keepLatest_104 : decode cX0_keepLatest 104 = .ok (.bipush 7, 2) := by decide +kernel
theorem dX0_keepLatest_106 : decode cX0_keepLatest 106 = .ok (.aload_n 1, 1) := by decide +kernel
theorem dX0_keepLatest_107 : decode cX0_keepLatest 107 = .ok (.getfield 68, 3) := by decide +kernel
theorem dX0_keepLatest_110 : decode cX0_keepLatest 110 = .ok (.iastore, 1) := by decide +kernel
theorem dX0_keepLatest_111 : decode cX0_keepLatest 111 = .ok (.return_, 1) := by decide +kernel
theorem dX0_timesCalled_0 : decode cX0_timesCalled 0 = .ok (.iconst 0, 1) := by decide +kernel
theorem dX0_timesCalled_1 : decode cX0_timesCalled 1 = .ok (.istore_n 2, 1) := by decide +kernel
theorem dX0_timesCalled_2 : decode cX0_timesCalled 2 = .ok (.iconst 0, 1) := by decide +kernel
theorem dX0_timesCalled_3 : decode cX0_timesCalled 3 = .ok (.istore_n 3, 1) := by decide +kernel
theorem dX0_timesCalled_4 : decode cX0_timesCalled 4 = .ok (.iload_n 3, 1) := by decide +kernel
theorem dX0_timesCalled_5 : decode cX0_timesCalled 5 = .ok (.bipush 10, 2) := by decide +kernel
theorem dX0_timesCalled_7 : decode cX0_timesCalled 7 = .ok (.if_icmp .gt 20, 3) := by decide +kernel
theorem dX0_timesCalled_10 : decode cX0_timesCalled 10 = .ok (.iload_n 2, 1) := by decide +kernel
theorem dX0_timesCalled_11 : decode cX0_timesCalled 11 = .ok (.aload_n 0, 1) := by decide +kernel
theorem dX0_timesCalled_12 : decode cX0_timesCalled 12 = .ok (.getfield 13, 3) := by decide +kernel
theorem dX0_timesCalled_15 : decode cX0_timesCalled 15 = .ok (.iload_n 3, 1) := by decide +kernel
theorem dX0_timesCalled_16 : decode cX0_timesCalled 16 = .ok (.aaload, 1) := by decide +kernel
theorem dX0_timesCalled_17 : decode cX0_timesCalled 17 = .ok (.iload_n 1, 1) := by decide +kernel
theorem dX0_timesCalled_18 : decode cX0_timesCalled 18 = .ok (.iaload, 1) := by decide +kernel
theorem dX0_timesCalled_19 : decode cX0_timesCalled 19 = .ok (.iadd, 1) := by decide +kernel
theorem dX0_timesCalled_20 : decode cX0_timesCalled 20 = .ok (.istore_n 2, 1) := by decide +kernel
theorem dX0_timesCalled_21 : decode cX0_timesCalled 21 = .ok (.iinc 3 1, 3) := by decide +kernel
theorem dX0_timesCalled_24 : decode cX0_timesCalled 24 = .ok (.goto (-20), 3) := by decide +kernel
theorem dX0_timesCalled_27 : decode cX0_timesCalled 27 = .ok (.iload_n 2, 1) := by decide +kernel
theorem dX0_timesCalled_28 : decode cX0_timesCalled 28 = .ok (.ireturn, 1) := by decide +kernel
theorem dX1_init_0 : decode cX1_init 0 = .ok (.aload_n 0, 1) := by decide +kernel
theorem dX1_init_1 : decode cX1_init 1 = .ok (.invokespecial 3, 3) := by decide +kernel
theorem dX1_init_4 : decode cX1_init 4 = .ok (.return_, 1) := by decide +kernel
theorem dX1_clear_0 : decode cX1_clear 0 = .ok (.aload_n 0, 1) := by decide +kernel
theorem dX1_clear_1 : decode cX1_clear 1 = .ok (.iconst 0, 1) := by decide +kernel
theorem dX1_clear_2 : decode cX1_clear 2 = .ok (.putfield 9, 3) := by decide +kernel
theorem dX1_clear_5 : decode cX1_clear 5 = .ok (.aload_n 0, 1) := by decide +kernel
theorem dX1_clear_6 : decode cX1_clear 6 = .ok (.iconst (-1), 1) := by decide +kernel
theorem dX1_clear_7 : decode cX1_clear 7 = .ok (.putfield 15, 3) := by decide +kernel
theorem dX1_clear_10 : decode cX1_clear 10 = .ok (.aload_n 0, 1) := by decide +kernel
theorem dX1_clear_11 : decode cX1_clear 11 = .ok (.iconst 0, 1) := by decide +kernel
theorem dX1_clear_12 : decode cX1_clear 12 = .ok (.putfield 18, 3) := by decide +kernel
theorem dX1_clear_15 : decode cX1_clear 15 = .ok (.return_, 1) := by decide +kernel
theorem dX1_need_0 : decode cX1_need 0 = .ok (.iload_n 1, 1) := by decide +kernel
theorem dX1_need_1 : decode cX1_need 1 = .ok (.iconst 3, 1) := by decide +kernel
theorem dX1_need_2 : decode cX1_need 2 = .ok (.if_icmp .eq 8, 3) := by decide +kernel
theorem dX1_need_5 : decode cX1_need 5 = .ok (.iload_n 1, 1) := by decide +kernel
theorem dX1_need_6 : decode cX1_need 6 = .ok (.iload_n 2, 1) := by decide +kernel
theorem dX1_need_7 : decode cX1_need 7 = .ok (.if_icmp .ne 4, 3) := by decide +kernel
theorem dX1_need_10 : decode cX1_need 10 = .ok (.return_, 1) := by decide +kernel
theorem dX1_need_11 : decode cX1_need 11 = .ok (.iload_n 2, 1) := by decide +kernel
theorem dX1_need_12 : decode cX1_need 12 = .ok (.iconst 3, 1) := by decide +kernel
theorem dX1_need_13 : decode cX1_need 13 = .ok (.if_icmp .ne 14, 3) := by decide +kernel
theorem dX1_need_16 : decode cX1_need 16 = .ok (.aload_n 0, 1) := by decide +kernel
theorem dX1_need_17 : decode cX1_need 17 = .ok (.dup, 1) := by decide +kernel
theorem dX1_need_18 : decode cX1_need 18 = .ok (.getfield 18, 3) := by decide +kernel
theorem dX1_need_21 : decode cX1_need 21 = .ok (.iconst 1, 1) := by decide +kernel
theorem dX1_need_22 : decode cX1_need 22 = .ok (.iadd, 1) := by decide +kernel
theorem dX1_need_23 : decode cX1_need 23 = .ok (.putfield 18, 3) := by decide +kernel
theorem dX1_need_26 : decode cX1_need 26 = .ok (.return_, 1) := by decide +kernel
theorem dX1_need_27 : decode cX1_need 27 = .ok (.aload_n 0, 1) := by decide +kernel
theorem dX1_need_28 : decode cX1_need 28 = .ok (.getfield 9, 3) := by decide +kernel
theorem dX1_need_31 : decode cX1_need 31 = .ok (.ifCond .ne 8, 3) := by decide +kernel
theorem dX1_need_34 : decode cX1_need 34 = .ok (.aload_n 0, 1) := by decide +kernel
theorem dX1_need_35 : decode cX1_need 35 = .ok (.iload_n 3, 1) := by decide +kernel
theorem dX1_need_36 : decode cX1_need 36 = .ok (.putfield 15, 3) := by decide +kernel
theorem dX1_need_39 : decode cX1_need 39 = .ok (.aload_n 0, 1) := by decide +kernel
theorem dX1_need_40 : decode cX1_need 40 = .ok (.dup, 1) := by decide +kernel
theorem dX1_need_41 : decode cX1_need 41 = .ok (.getfield 9, 3) := by decide +kernel
theorem dX1_need_44 : decode cX1_need 44 = .ok (.iconst 1, 1) := by decide +kernel
theorem dX1_need_45 : decode cX1_need 45 = .ok (.iadd, 1) := by decide +kernel
theorem dX1_need_46 : decode cX1_need 46 = .ok (.putfield 9, 3) := by decide +kernel
theorem dX1_need_49 : decode cX1_need 49 = .ok (.return_, 1) := by decide +kernel
theorem dX1_areNone_0 : decode cX1_areNone 0 = .ok (.aload_n 0, 1) := by decide +kernel
theorem dX1_areNone_1 : decode cX1_areNone 1 = .ok (.getfield 9, 3) := by decide +kernel
theorem dX1_areNone_4 : decode cX1_areNone 4 = .ok (.ifCond .ne 14, 3) := by decide +kernel
theorem dX1_areNone_7 : decode cX1_areNone 7 = .ok (.aload_n 0, 1) := by decide +kernel
theorem dX1_areNone_8 : decode cX1_areNone 8 = .ok (.getfield 18, 3) := by decide +kernel
theorem dX1_areNone_11 : decode cX1_areNone 11 = .ok (.ifCond .ne 7, 3) := by decide +kernel
theorem dX1_areNone_14 : decode cX1_areNone 14 = .ok (.iconst 1, 1) := by decide +kernel
theorem dX1_areNone_15 : decode cX1_areNone 15 = .ok (.goto 4, 3) := by decide +kernel
theorem dX1_areNone_18 : decode cX1_areNone 18 = .ok (.iconst 0, 1) := by decide +kernel
theorem dX1_areNone_19 : decode cX1_areNone 19 = .ok (.ireturn, 1) := by decide +kernel
theorem dX2_init_0 : decode cX2_init 0 = .ok (.aload_n 0, 1) := by decide +kernel
theorem dX2_init_1 : decode cX2_init 1 = .ok (.invokespecial 3, 3) := by decide +kernel
theorem dX2_init_4 : decode cX2_init 4 = .ok (.aload_n 0, 1) := by decide +kernel
theorem dX2_init_5 : decode cX2_init 5 = .ok (.bipush 6, 2) := by decide +kernel
theorem dX2_init_7 : decode cX2_init 7 = .ok (.newarray .int, 2) := by decide +kernel
theorem dX2_init_9 : decode cX2_init 9 = .ok (.putfield 9, 3) := by decide +kernel
theorem dX2_init_12 : decode cX2_init 12 = .ok (.aload_n 0, 1) := by decide +kernel
theorem dX2_init_13 : decode cX2_init 13 = .ok (.iconst 3, 1) := by decide +kernel
theorem dX2_init_14 : decode cX2_init 14 = .ok (.putfield 15, 3) := by decide +kernel
theorem dX2_init_17 : decode cX2_init 17 = .ok (.aload_n 0, 1) := by decide +kernel
theorem dX2_init_18 : decode cX2_init 18 = .ok (.iconst 3, 1) := by decide +kernel
theorem dX2_init_19 : decode cX2_init 19 = .ok (.putfield 19, 3) := by decide +kernel
theorem dX2_init_22 : decode cX2_init 22 = .ok (.return_, 1) := by decide +kernel
theorem dX2_mentions_0 : decode cX2_mentions 0 = .ok (.iconst 0, 1) := by decide +kernel
theorem dX2_mentions_1 : decode cX2_mentions 1 = .ok (.istore_n 2, 1) := by decide +kernel
theorem dX2_mentions_2 : decode cX2_mentions 2 = .ok (.iload_n 2, 1) := by decide +kernel
theorem dX2_mentions_3 : decode cX2_mentions 3 = .ok (.aload_n 0, 1) := by decide +kernel
theorem dX2_mentions_4 : decode cX2_mentions 4 = .ok (.getfield 22, 3) := by decide +kernel
theorem dX2_mentions_7 : decode cX2_mentions 7 = .ok (.if_icmp .ge 21, 3) := by decide +kernel
theorem dX2_mentions_10 : decode cX2_mentions 10 = .ok (.aload_n 0, 1) := by decide +kernel
theorem dX2_mentions_11 : decode cX2_mentions 11 = .ok (.getfield 9, 3) := by decide +kernel
theorem dX2_mentions_14 : decode cX2_mentions 14 = .ok (.iload_n 2, 1) := by decide +kernel
theorem dX2_mentions_15 : decode cX2_mentions 15 = .ok (.iaload, 1) := by decide +kernel
theorem dX2_mentions_16 : decode cX2_mentions 16 = .ok (.iload_n 1, 1) := by decide +kernel
theorem dX2_mentions_17 : decode cX2_mentions 17 = .ok (.if_icmp .ne 5, 3) := by decide +kernel
theorem dX2_mentions_20 : decode cX2_mentions 20 = .ok (.iconst 1, 1) := by decide +kernel
theorem dX2_mentions_21 : decode cX2_mentions 21 = .ok (.ireturn, 1) := by decide +kernel
theorem dX2_mentions_22 : decode cX2_mentions 22 = .ok (.iinc 2 1, 3) := by decide +kernel
theorem dX2_mentions_25 : decode cX2_mentions 25 = .ok (.goto (-23), 3) := by decide +kernel
theorem dX2_mentions_28 : decode cX2_mentions 28 = .ok (.iconst 0, 1) := by decide +kernel
theorem dX2_mentions_29 : decode cX2_mentions 29 = .ok (.ireturn, 1) := by decide +kernel
set_option maxRecDepth 20000 in
theorem ggX3_init_X2_init : GoodIn wsX3_init wsX2_init := goodIn_r _ [14, 15, 2, 3, 16, 17, 18, 19, 28, 29, 30, 31] (by decide +kernel) (by decide +kernel)
set_option maxRecDepth 20000 in
theorem gX3_init_X2_init : GoodIn wsX3_init (wsX2_init) := ggX3_init_X2_init
set_option maxRecDepth 20000 in
theorem ggX3_init_X1_init : GoodIn wsX3_init wsX1_init := goodIn_r _ [21, 22, 2, 3] (by decide +kernel) (by decide +kernel)
set_option maxRecDepth 20000 in
theorem gX3_init_X1_init_n20 : GoodIn wsX3_init (wsX1_init) := ggX3_init_X1_init
theorem dX3_init_0 : decode cX3_init 0 = .ok (.aload_n 0, 1) := by decide +kernel
theorem dX3_init_1 : decode cX3_init 1 = .ok (.invokespecial 3, 3) := by decide +kernel
theorem dX3_init_4 : decode cX3_init 4 = .ok (.aload_n 0, 1) := by decide +kernel
theorem dX3_init_5 : decode cX3_init 5 = .ok (.bipush 10, 2) := by decide +kernel
theorem dX3_init_7 : decode cX3_init 7 = .ok (.anewarray 9, 3) := by decide +kernel
theorem dX3_init_10 : decode cX3_init 10 = .ok (.putfield 11, 3) := by decide +kernel
theorem dX3_init_13 : decode cX3_init 13 = .ok (.iconst 0, 1) := by decide +kernel
theorem dX3_init_14 : decode cX3_init 14 = .ok (.istore_n 1, 1) := by decide +kernel
theorem dX3_init_15 : decode cX3_init 15 = .ok (.iload_n 1, 1) := by decide +kernel
theorem dX3_init_16 : decode cX3_init 16 = .ok (.bipush 10, 2) := by decide +kernel
theorem dX3_init_18 : decode cX3_init 18 = .ok (.if_icmp .ge 22, 3) := by decide +kernel
theorem dX3_init_21 : decode cX3_init 21 = .ok (.aload_n 0, 1) := by decide +kernel
theorem dX3_init_22 : decode cX3_init 22 = .ok (.getfield 11, 3) := by decide +kernel
theorem dX3_init_25 : decode cX3_init 25 = .ok (.iload_n 1, 1) := by decide +kernel
theorem dX3_init_26 : decode cX3_init 26 = .ok (.new 9, 3) := by decide +kernel
theorem dX3_init_29 : decode cX3_init 29 = .ok (.dup, 1) := by decide +kernel
theorem dX3_init_30 : decode cX3_init 30 = .ok (.invokespecial 17, 3) := by decide +kernel
theorem dX3_init_33 : decode cX3_init 33 = .ok (.aastore, 1) := by decide +kernel
theorem dX3_init_34 : decode cX3_init 34 = .ok (.iinc 1 1, 3) := by decide +kernel
theorem dX3_init_37 : decode cX3_init 37 = .ok (.goto (-22), 3) := by decide +kernel
theorem dX3_init_40 : decode cX3_init 40 = .ok (.aload_n 0, 1) := by decide +kernel
theorem dX3_init_41 : decode cX3_init 41 = .ok (.new 18, 3) := by decide +kernel
theorem dX3_init_44 : decode cX3_init 44 = .ok (.dup, 1) := by decide +kernel
theorem dX3_init_45 : decode cX3_init 45 = .ok (.invokespecial 20, 3) := by decide +kernel
theorem dX3_init_48 : decode cX3_init 48 = .ok (.putfield 21, 3) := by decide +kernel
theorem dX3_init_51 : decode cX3_init 51 = .ok (.return_, 1) := by decide +kernel
theorem dX3_isStep_0 : decode cX3_isStep 0 = .ok (.iload_n 1, 1) := by decide +kernel
theorem dX3_isStep_1 : decode cX3_isStep 1 = .ok (.ifCond .lt 9, 3) := by decide +kernel
theorem dX3_isStep_4 : decode cX3_isStep 4 = .ok (.iload_n 1, 1) := by decide +kernel
theorem dX3_isStep_5 : decode cX3_isStep 5 = .ok (.bipush 9, 2) := by decide +kernel
theorem dX3_isStep_7 : decode cX3_isStep 7 = .ok (.if_icmp .le 32, 3) := by decide +kernel
theorem dX3_isStep_10 : decode cX3_isStep 10 = .ok (.iload_n 1, 1) := by decide +kernel
theorem dX3_isStep_11 : decode cX3_isStep 11 = .ok (.bipush 20, 2) := by decide +kernel
theorem dX3_isStep_13 : decode cX3_isStep 13 = .ok (.if_icmp .lt 9, 3) := by decide +kernel
theorem dX3_isStep_16 : decode cX3_isStep 16 = .ok (.iload_n 1, 1) := by decide +kernel
theorem dX3_isStep_17 : decode cX3_isStep 17 = .ok (.bipush 24, 2) := by decide +kernel
theorem dX3_isStep_19 : decode cX3_isStep 19 = .ok (.if_icmp .le 20, 3) := by decide +kernel
theorem dX3_isStep_22 : decode cX3_isStep 22 = .ok (.iload_n 1, 1) := by decide +kernel
theorem dX3_isStep_23 : decode cX3_isStep 23 = .ok (.bipush 40, 2) := by decide +kernel
theorem dX3_isStep_25 : decode cX3_isStep 25 = .ok (.if_icmp .lt 18, 3) := by decide +kernel
theorem dX3_isStep_28 : decode cX3_isStep 28 = .ok (.iload_n 1, 1) := by decide +kernel
theorem dX3_isStep_29 : decode cX3_isStep 29 = .ok (.bipush 40, 2) := by decide +kernel
theorem dX3_isStep_31 : decode cX3_isStep 31 = .ok (.isub, 1) := by decide +kernel
theorem dX3_isStep_32 : decode cX3_isStep 32 = .ok (.aload_n 0, 1) := by decide +kernel
theorem dX3_isStep_33 : decode cX3_isStep 33 = .ok (.getfield 25, 3) := by decide +kernel
theorem dX3_isStep_36 : decode cX3_isStep 36 = .ok (.if_icmp .ge 7, 3) := by decide +kernel
theorem dX3_isStep_39 : decode cX3_isStep 39 = .ok (.iconst 1, 1) := by decide +kernel
theorem dX3_isStep_40 : decode cX3_isStep 40 = .ok (.goto 4, 3) := by decide +kernel
theorem dX3_isStep_43 : decode cX3_isStep 43 = .ok (.iconst 0, 1) := by decide +kernel
theorem dX3_isStep_44 : decode cX3_isStep 44 = .ok (.ireturn, 1) := by decide +kernel
set_option maxRecDepth 20000 in
theorem ggX3_needOf_X5_isCall : GoodIn wsX3_needOf wsX5_isCall := goodIn_r _ [5] (by decide +kernel) (by decide +kernel)
set_option maxRecDepth 20000 in
theorem gX3_needOf_X5_isCall_n29 : GoodIn wsX3_needOf (wsX5_isCall) := ggX3_needOf_X5_isCall
set_option maxRecDepth 20000 in
theorem ggX3_needOf_X5_plainNeed : GoodIn wsX3_needOf wsX5_plainNeed := goodIn_r _ [7] (by decide +kernel) (by decide +kernel)
set_option maxRecDepth 20000 in
theorem gX3_needOf_X5_plainNeed_n36 : GoodIn wsX3_needOf (wsX5_plainNeed) := ggX3_needOf_X5_plainNeed
theorem dX3_needOf_0 : decode cX3_needOf 0 = .ok (.iload_n 1, 1) := by decide +kernel
theorem dX3_needOf_1 : decode cX3_needOf 1 = .ok (.invokestatic 29, 3) := by decide +kernel
theorem dX3_needOf_4 : decode cX3_needOf 4 = .ok (.ifCond .eq 18, 3) := by decide +kernel
theorem dX3_needOf_7 : decode cX3_needOf 7 = .ok (.aload_n 0, 1) := by decide +kernel
theorem dX3_needOf_8 : decode cX3_needOf 8 = .ok (.getfield 11, 3) := by decide +kernel
theorem dX3_needOf_11 : decode cX3_needOf 11 = .ok (.iload_n 1, 1) := by decide +kernel
theorem dX3_needOf_12 : decode cX3_needOf 12 = .ok (.bipush 40, 2) := by decide +kernel
theorem dX3_needOf_14 : decode cX3_needOf 14 = .ok (.isub, 1) := by decide +kernel
theorem dX3_needOf_15 : decode cX3_needOf 15 = .ok (.aaload, 1) := by decide +kernel
theorem dX3_needOf_16 : decode cX3_needOf 16 = .ok (.getfield 33, 3) := by decide +kernel
theorem dX3_needOf_19 : decode cX3_needOf 19 = .ok (.goto 7, 3) := by decide +kernel
theorem dX3_needOf_22 : decode cX3_needOf 22 = .ok (.iload_n 1, 1) := by decide +kernel
theorem dX3_needOf_23 : decode cX3_needOf 23 = .ok (.invokestatic 36, 3) := by decide +kernel
theorem dX3_needOf_26 : decode cX3_needOf 26 = .ok (.ireturn, 1) := by decide +kernel
set_option maxRecDepth 20000 in
theorem ggX3_giftOf_X5_isCall : GoodIn wsX3_giftOf wsX5_isCall := goodIn_r _ [5] (by decide +kernel) (by decide +kernel)
set_option maxRecDepth 20000 in
theorem gX3_giftOf_X5_isCall_n29 : GoodIn wsX3_giftOf (wsX5_isCall) := ggX3_giftOf_X5_isCall
set_option maxRecDepth 20000 in
theorem ggX3_giftOf_X5_plainGift : GoodIn wsX3_giftOf wsX5_plainGift := goodIn_r _ [7] (by decide +kernel) (by decide +kernel)
set_option maxRecDepth 20000 in
theorem gX3_giftOf_X5_plainGift_n43 : GoodIn wsX3_giftOf (wsX5_plainGift) := ggX3_giftOf_X5_plainGift
theorem dX3_giftOf_0 : decode cX3_giftOf 0 = .ok (.iload_n 1, 1) := by decide +kernel
theorem dX3_giftOf_1 : decode cX3_giftOf 1 = .ok (.invokestatic 29, 3) := by decide +kernel
theorem dX3_giftOf_4 : decode cX3_giftOf 4 = .ok (.ifCond .eq 18, 3) := by decide +kernel
theorem dX3_giftOf_7 : decode cX3_giftOf 7 = .ok (.aload_n 0, 1) := by decide +kernel
theorem dX3_giftOf_8 : decode cX3_giftOf 8 = .ok (.getfield 11, 3) := by decide +kernel
theorem dX3_giftOf_11 : decode cX3_giftOf 11 = .ok (.iload_n 1, 1) := by decide +kernel
theorem dX3_giftOf_12 : decode cX3_giftOf 12 = .ok (.bipush 40, 2) := by decide +kernel
theorem dX3_giftOf_14 : decode cX3_giftOf 14 = .ok (.isub, 1) := by decide +kernel
theorem dX3_giftOf_15 : decode cX3_giftOf 15 = .ok (.aaload, 1) := by decide +kernel
theorem dX3_giftOf_16 : decode cX3_giftOf 16 = .ok (.getfield 40, 3) := by decide +kernel
theorem dX3_giftOf_19 : decode cX3_giftOf 19 = .ok (.goto 7, 3) := by decide +kernel
theorem dX3_giftOf_22 : decode cX3_giftOf 22 = .ok (.iload_n 1, 1) := by decide +kernel
theorem dX3_giftOf_23 : decode cX3_giftOf 23 = .ok (.invokestatic 43, 3) := by decide +kernel
theorem dX3_giftOf_26 : decode cX3_giftOf 26 = .ok (.ireturn, 1) := by decide +kernel
set_option maxRecDepth 20000 in
theorem ggX3_guessIn_X3_needOf : GoodIn wsX3_guessIn wsX3_needOf := goodIn_r _ [7, 8, 9, 10, 11, 12, 13, 14, 19, 20, 21, 22, 23, 15, 16, 17, 18] (by decide +kernel) (by decide +kernel)
set_option maxRecDepth 20000 in
theorem gX3_guessIn_X3_needOf : GoodIn wsX3_guessIn (wsV RX3 51 RX3 yX3_needOf wsX3_needOf) := goodIn_app (goodIn_of _ (by decide +kernel)) ggX3_guessIn_X3_needOf
theorem dX3_guessIn_0 : decode cX3_guessIn 0 = .ok (.aload_n 1, 1) := by decide +kernel
theorem dX3_guessIn_1 : decode cX3_guessIn 1 = .ok (.getfield 46, 3) := by decide +kernel
theorem dX3_guessIn_4 : decode cX3_guessIn 4 = .ok (.ifCond .ne 7, 3) := by decide +kernel
theorem dX3_guessIn_7 : decode cX3_guessIn 7 = .ok (.iconst 3, 1) := by decide +kernel
theorem dX3_guessIn_8 : decode cX3_guessIn 8 = .ok (.goto 13, 3) := by decide +kernel
theorem dX3_guessIn_11 : decode cX3_guessIn 11 = .ok (.aload_n 0, 1) := by decide +kernel
theorem dX3_guessIn_12 : decode cX3_guessIn 12 = .ok (.aload_n 1, 1) := by decide +kernel
theorem dX3_guessIn_13 : decode cX3_guessIn 13 = .ok (.getfield 47, 3) := by decide +kernel
theorem dX3_guessIn_16 : decode cX3_guessIn 16 = .ok (.iconst 0, 1) := by decide +kernel
theorem dX3_guessIn_17 : decode cX3_guessIn 17 = .ok (.iaload, 1) := by decide +kernel
theorem dX3_guessIn_18 : decode cX3_guessIn 18 = .ok (.invokevirtual 51, 3) := by decide +kernel
theorem dX3_guessIn_21 : decode cX3_guessIn 21 = .ok (.ireturn, 1) := by decide +kernel
set_option maxRecDepth 20000 in
theorem ggX3_guessOut_X3_giftOf : GoodIn wsX3_guessOut wsX3_giftOf := goodIn_r _ [7, 8, 9, 10, 11, 12, 13, 14, 19, 20, 21, 22, 23, 15, 16, 17, 18] (by decide +kernel) (by decide +kernel)
set_option maxRecDepth 20000 in
theorem gX3_guessOut_X3_giftOf : GoodIn wsX3_guessOut (wsV RX3 54 RX3 yX3_giftOf wsX3_giftOf) := goodIn_app (goodIn_of _ (by decide +kernel)) ggX3_guessOut_X3_giftOf
theorem dX3_guessOut_0 : decode cX3_guessOut 0 = .ok (.aload_n 1, 1) := by decide +kernel
theorem dX3_guessOut_1 : decode cX3_guessOut 1 = .ok (.getfield 46, 3) := by decide +kernel
theorem dX3_guessOut_4 : decode cX3_guessOut 4 = .ok (.ifCond .ne 7, 3) := by decide +kernel
theorem dX3_guessOut_7 : decode cX3_guessOut 7 = .ok (.iconst 3, 1) := by decide +kernel
theorem dX3_guessOut_8 : decode cX3_guessOut 8 = .ok (.goto 18, 3) := by decide +kernel
theorem dX3_guessOut_11 : decode cX3_guessOut 11 = .ok (.aload_n 0, 1) := by decide +kernel
theorem dX3_guessOut_12 : decode cX3_guessOut 12 = .ok (.aload_n 1, 1) := by decide +kernel
theorem dX3_guessOut_13 : decode cX3_guessOut 13 = .ok (.getfield 47, 3) := by decide +kernel
theorem dX3_guessOut_16 : decode cX3_guessOut 16 = .ok (.aload_n 1, 1) := by decide +kernel
theorem dX3_guessOut_17 : decode cX3_guessOut 17 = .ok (.getfield 46, 3) := by decide +kernel
theorem dX3_guessOut_20 : decode cX3_guessOut 20 = .ok (.iconst 1, 1) := by decide +kernel
theorem dX3_guessOut_21 : decode cX3_guessOut 21 = .ok (.isub, 1) := by decide +kernel
theorem dX3_guessOut_22 : decode cX3_guessOut 22 = .ok (.iaload, 1) := by decide +kernel
theorem dX3_guessOut_23 : decode cX3_guessOut 23 = .ok (.invokevirtual 54, 3) := by decide +kernel
theorem dX3_guessOut_26 : decode cX3_guessOut 26 = .ok (.ireturn, 1) := by decide +kernel
set_option maxRecDepth 20000 in
theorem ggX3_checked_X1_clear : GoodIn wsX3_checked wsX1_clear := goodIn_r _ [11, 12, 13, 14, 44, 45, 46] (by decide +kernel) (by decide +kernel)
set_option maxRecDepth 20000 in
theorem gX3_checked_X1_clear : GoodIn wsX3_checked (wsV RX3 57 RX1 yX1_clear wsX1_clear) := goodIn_app (goodIn_of _ (by decide +kernel)) ggX3_checked_X1_clear
set_option maxRecDepth 20000 in
theorem ggX3_checked_X3_needOf : GoodIn wsX3_checked wsX3_needOf := goodIn_r _ [19, 1, 3, 20, 21, 22, 23, 24, 35, 36, 37, 38, 39, 40, 41, 42, 43] (by decide +kernel) (by decide +kernel)
set_option maxRecDepth 20000 in
theorem gX3_checked_X3_needOf : GoodIn wsX3_checked (wsV RX3 51 RX3 yX3_needOf wsX3_needOf) := goodIn_app (goodIn_of _ (by decide +kernel)) ggX3_checked_X3_needOf
set_option maxRecDepth 20000 in
theorem ggX3_checked_X1_need : GoodIn wsX3_checked wsX1_need := goodIn_r _ [28, 14, 12, 13, 44, 45, 46] (by decide +kernel) (by decide +kernel)
set_option maxRecDepth 20000 in
theorem gX3_checked_X1_need : GoodIn wsX3_checked (wsV RX3 60 RX1 yX1_need wsX1_need) := goodIn_app (goodIn_of _ (by decide +kernel)) ggX3_checked_X1_need
set_option maxRecDepth 20000 in
theorem ggX3_checked_X3_giftOf : GoodIn wsX3_checked wsX3_giftOf := goodIn_r _ [32, 1, 6, 20, 21, 22, 33, 34, 35, 36, 37, 38, 39, 40, 41, 42, 43] (by decide +kernel) (by decide +kernel)
set_option maxRecDepth 20000 in
theorem gX3_checked_X3_giftOf : GoodIn wsX3_checked (wsV RX3 54 RX3 yX3_giftOf wsX3_giftOf) := goodIn_app (goodIn_of _ (by decide +kernel)) ggX3_checked_X3_giftOf
theorem dX3_checked_0 : decode cX3_checked 0 = .ok (.aload_n 0, 1) := by decide +kernel
theorem dX3_checked_1 : decode cX3_checked 1 = .ok (.getfield 11, 3) := by decide +kernel
theorem dX3_checked_4 : decode cX3_checked 4 = .ok (.iload_n 1, 1) := by decide +kernel
theorem dX3_checked_5 : decode cX3_checked 5 = .ok (.aaload, 1) := by decide +kernel
theorem dX3_checked_6 : decode cX3_checked 6 = .ok (.astore_n 2, 1) := by decide +kernel
theorem dX3_checked_7 : decode cX3_checked 7 = .ok (.aload_n 0, 1) := by decide +kernel
theorem dX3_checked_8 : decode cX3_checked 8 = .ok (.getfield 21, 3) := by decide +kernel
theorem dX3_checked_11 : decode cX3_checked 11 = .ok (.invokevirtual 57, 3) := by decide +kernel
theorem dX3_checked_14 : decode cX3_checked 14 = .ok (.aload_n 2, 1) := by decide +kernel
theorem dX3_checked_15 : decode cX3_checked 15 = .ok (.getfield 33, 3) := by decide +kernel
theorem dX3_checked_18 : decode cX3_checked 18 = .ok (.istore_n 3, 1) := by decide +kernel
theorem dX3_checked_19 : decode cX3_checked 19 = .ok (.iconst 0, 1) := by decide +kernel
theorem dX3_checked_20 : decode cX3_checked 20 = .ok (.istore 4, 2) := by decide +kernel
theorem dX3_checked_22 : decode cX3_checked 22 = .ok (.iload 4, 2) := by decide +kernel
theorem dX3_checked_24 : decode cX3_checked 24 = .ok (.aload_n 2, 1) := by decide +kernel
theorem dX3_checked_25 : decode cX3_checked 25 = .ok (.getfield 46, 3) := by decide +kernel
theorem dX3_checked_28 : decode cX3_checked 28 = .ok (.if_icmp .ge 41, 3) := by decide +kernel
theorem dX3_checked_31 : decode cX3_checked 31 = .ok (.aload_n 2, 1) := by decide +kernel
theorem dX3_checked_32 : decode cX3_checked 32 = .ok (.getfield 47, 3) := by decide +kernel
theorem dX3_checked_35 : decode cX3_checked 35 = .ok (.iload 4, 2) := by decide +kernel
theorem dX3_checked_37 : decode cX3_checked 37 = .ok (.iaload, 1) := by decide +kernel
theorem dX3_checked_38 : decode cX3_checked 38 = .ok (.istore 5, 2) := by decide +kernel
theorem dX3_checked_40 : decode cX3_checked 40 = .ok (.aload_n 0, 1) := by decide +kernel
theorem dX3_checked_41 : decode cX3_checked 41 = .ok (.getfield 21, 3) := by decide +kernel
theorem dX3_checked_44 : decode cX3_checked 44 = .ok (.aload_n 0, 1) := by decide +kernel
theorem dX3_checked_45 : decode cX3_checked 45 = .ok (.iload 5, 2) := by decide +kernel
theorem dX3_checked_47 : decode cX3_checked 47 = .ok (.invokevirtual 51, 3) := by decide +kernel
theorem dX3_checked_50 : decode cX3_checked 50 = .ok (.iload_n 3, 1) := by decide +kernel
theorem dX3_checked_51 : decode cX3_checked 51 = .ok (.iload 4, 2) := by decide +kernel
theorem dX3_checked_53 : decode cX3_checked 53 = .ok (.invokevirtual 60, 3) := by decide +kernel
theorem dX3_checked_56 : decode cX3_checked 56 = .ok (.aload_n 0, 1) := by decide +kernel
theorem dX3_checked_57 : decode cX3_checked 57 = .ok (.iload 5, 2) := by decide +kernel
theorem dX3_checked_59 : decode cX3_checked 59 = .ok (.invokevirtual 54, 3) := by decide +kernel
theorem dX3_checked_62 : decode cX3_checked 62 = .ok (.istore_n 3, 1) := by decide +kernel
theorem dX3_checked_63 : decode cX3_checked 63 = .ok (.iinc 4 1, 3) := by decide +kernel
theorem dX3_checked_66 : decode cX3_checked 66 = .ok (.goto (-44), 3) := by decide +kernel
theorem dX3_checked_69 : decode cX3_checked 69 = .ok (.aload_n 0, 1) := by decide +kernel
theorem dX3_checked_70 : decode cX3_checked 70 = .ok (.getfield 21, 3) := by decide +kernel
theorem dX3_checked_73 : decode cX3_checked 73 = .ok (.aload_n 2, 1) := by decide +kernel
theorem dX3_checked_74 : decode cX3_checked 74 = .ok (.getfield 40, 3) := by decide +kernel
theorem dX3_checked_77 : decode cX3_checked 77 = .ok (.iload_n 3, 1) := by decide +kernel
theorem dX3_checked_78 : decode cX3_checked 78 = .ok (.aload_n 2, 1) := by decide +kernel
theorem dX3_checked_79 : decode cX3_checked 79 = .ok (.getfield 46, 3) := by decide +kernel
theorem dX3_checked_82 : decode cX3_checked 82 = .ok (.invokevirtual 60, 3) := by decide +kernel
theorem dX3_checked_85 : decode cX3_checked 85 = .ok (.aload_n 0, 1) := by decide +kernel
theorem dX3_checked_86 : decode cX3_checked 86 = .ok (.getfield 21, 3) := by decide +kernel
theorem dX3_checked_89 : decode cX3_checked 89 = .ok (.areturn, 1) := by decide +kernel
set_option maxRecDepth 20000 in
theorem ggX3_typable_X3_checked : GoodIn wsX3_typable wsX3_checked := goodIn_r _ [6, 7, 8, 9, 10, 11, 12, 13, 14, 15, 16, 17, 18, 19, 20, 21, 22, 23, 5, 24, 25, 26, 27, 28, 29, 30, 31, 32, 33, 34, 35, 36, 37, 38, 39, 46, 47, 48, 49, 50, 51, 52, 53, 54, 55, 56, 57] (by decide +kernel) (by decide +kernel)
set_option maxRecDepth 20000 in
theorem gX3_typable_X3_checked : GoodIn wsX3_typable (wsV RX3 64 RX3 yX3_checked wsX3_checked) := goodIn_app (goodIn_of _ (by decide +kernel)) ggX3_typable_X3_checked
set_option maxRecDepth 20000 in
theorem ggX3_typable_X1_areNone : GoodIn wsX3_typable wsX1_areNone := goodIn_r _ [43, 18, 20, 55, 56, 57] (by decide +kernel) (by decide +kernel)
set_option maxRecDepth 20000 in
theorem gX3_typable_X1_areNone : GoodIn wsX3_typable (wsV RX3 68 RX1 yX1_areNone wsX1_areNone) := goodIn_app (goodIn_of _ (by decide +kernel)) ggX3_typable_X1_areNone
set_option maxRecDepth 20000 in
theorem ggX3_typable_X5_with : GoodIn wsX3_typable wsX5_with := goodIn_r _ [45] (by decide +kernel) (by decide +kernel)
set_option maxRecDepth 20000 in
theorem gX3_typable_X5_with_n72 : GoodIn wsX3_typable (wsX5_with) := ggX3_typable_X5_with
theorem dX3_typable_0 : decode cX3_typable 0 = .ok (.iconst 0, 1) := by decide +kernel
theorem dX3_typable_1 : decode cX3_typable 1 = .ok (.istore_n 1, 1) := by decide +kernel
theorem dX3_typable_2 : decode cX3_typable 2 = .ok (.iconst 0, 1) := by decide +kernel
theorem dX3_typable_3 : decode cX3_typable 3 = .ok (.istore_n 2, 1) := by decide +kernel
theorem dX3_typable_4 : decode cX3_typable 4 = .ok (.iload_n 2, 1) := by decide +kernel
theorem dX3_typable_5 : decode cX3_typable 5 = .ok (.aload_n 0, 1) := by decide +kernel
theorem dX3_typable_6 : decode cX3_typable 6 = .ok (.getfield 25, 3) := by decide +kernel
theorem dX3_typable_9 : decode cX3_typable 9 = .ok (.if_icmp .ge 26, 3) := by decide +kernel
theorem dX3_typable_12 : decode cX3_typable 12 = .ok (.aload_n 0, 1) := by decide +kernel
theorem dX3_typable_13 : decode cX3_typable 13 = .ok (.iload_n 2, 1) := by decide +kernel
theorem dX3_typable_14 : decode cX3_typable 14 = .ok (.invokevirtual 64, 3) := by decide +kernel
theorem dX3_typable_17 : decode cX3_typable 17 = .ok (.invokevirtual 68, 3) := by decide +kernel
theorem dX3_typable_20 : decode cX3_typable 20 = .ok (.ifCond .eq 9, 3) := by decide +kernel
theorem dX3_typable_23 : decode cX3_typable 23 = .ok (.iload_n 1, 1) := by decide +kernel
theorem dX3_typable_24 : decode cX3_typable 24 = .ok (.iload_n 2, 1) := by decide +kernel
theorem dX3_typable_25 : decode cX3_typable 25 = .ok (.invokestatic 72, 3) := by decide +kernel
theorem dX3_typable_28 : decode cX3_typable 28 = .ok (.istore_n 1, 1) := by decide +kernel
theorem dX3_typable_29 : decode cX3_typable 29 = .ok (.iinc 2 1, 3) := by decide +kernel
theorem dX3_typable_32 : decode cX3_typable 32 = .ok (.goto (-28), 3) := by decide +kernel
theorem dX3_typable_35 : decode cX3_typable 35 = .ok (.iload_n 1, 1) := by decide +kernel
theorem dX3_typable_36 : decode cX3_typable 36 = .ok (.ireturn, 1) := by decide +kernel
set_option maxRecDepth 20000 in
theorem ggX3_allFaults_X3_checked : GoodIn wsX3_allFaults wsX3_checked := goodIn_r _ [7, 8, 9, 10, 11, 12, 13, 14, 15, 16, 17, 18, 19, 20, 21, 22, 23, 24, 6, 25, 26, 27, 28, 29, 30, 31, 32, 33, 34, 35, 36, 37, 38, 39, 40, 41, 42, 43, 44, 45, 49, 50, 51, 52, 46, 47, 48] (by decide +kernel) (by decide +kernel)
set_option maxRecDepth 20000 in
theorem gX3_allFaults_X3_checked : GoodIn wsX3_allFaults (wsV RX3 64 RX3 yX3_checked wsX3_checked) := goodIn_app (goodIn_of _ (by decide +kernel)) ggX3_allFaults_X3_checked
theorem dX3_allFaults_0 : decode cX3_allFaults 0 = .ok (.iconst 0, 1) := by decide +kernel
theorem dX3_allFaults_1 : decode cX3_allFaults 1 = .ok (.istore_n 1, 1) := by decide +kernel
theorem dX3_allFaults_2 : decode cX3_allFaults 2 = .ok (.iconst 0, 1) := by decide +kernel
theorem dX3_allFaults_3 : decode cX3_allFaults 3 = .ok (.istore_n 2, 1) := by decide +kernel
theorem dX3_allFaults_4 : decode cX3_allFaults 4 = .ok (.iload_n 2, 1) := by decide +kernel
theorem dX3_allFaults_5 : decode cX3_allFaults 5 = .ok (.aload_n 0, 1) := by decide +kernel
theorem dX3_allFaults_6 : decode cX3_allFaults 6 = .ok (.getfield 25, 3) := by decide +kernel
theorem dX3_allFaults_9 : decode cX3_allFaults 9 = .ok (.if_icmp .ge 20, 3) := by decide +kernel
theorem dX3_allFaults_12 : decode cX3_allFaults 12 = .ok (.iload_n 1, 1) := by decide +kernel
theorem dX3_allFaults_13 : decode cX3_allFaults 13 = .ok (.aload_n 0, 1) := by decide +kernel
theorem dX3_allFaults_14 : decode cX3_allFaults 14 = .ok (.iload_n 2, 1) := by decide +kernel
theorem dX3_allFaults_15 : decode cX3_allFaults 15 = .ok (.invokevirtual 64, 3) := by decide +kernel
theorem dX3_allFaults_18 : decode cX3_allFaults 18 = .ok (.getfield 76, 3) := by decide +kernel
theorem dX3_allFaults_21 : decode cX3_allFaults 21 = .ok (.iadd, 1) := by decide +kernel
theorem dX3_allFaults_22 : decode cX3_allFaults 22 = .ok (.istore_n 1, 1) := by decide +kernel
theorem dX3_allFaults_23 : decode cX3_allFaults 23 = .ok (.iinc 2 1, 3) := by decide +kernel
theorem dX3_allFaults_26 : decode cX3_allFaults 26 = .ok (.goto (-22), 3) := by decide +kernel
theorem dX3_allFaults_29 : decode cX3_allFaults 29 = .ok (.iload_n 1, 1) := by decide +kernel
theorem dX3_allFaults_30 : decode cX3_allFaults 30 = .ok (.ireturn, 1) := by decide +kernel
set_option maxRecDepth 20000 in
theorem ggX3_callersOf_X2_mentions : GoodIn wsX3_callersOf wsX2_mentions := goodIn_r _ [7, 8, 9, 15, 16, 17, 18] (by decide +kernel) (by decide +kernel)
set_option maxRecDepth 20000 in
theorem gX3_callersOf_X2_mentions : GoodIn wsX3_callersOf (wsV RX3 79 RX2 yX2_mentions wsX2_mentions) := goodIn_app (goodIn_of _ (by decide +kernel)) ggX3_callersOf_X2_mentions
theorem dX3_callersOf_0 : decode cX3_callersOf 0 = .ok (.iconst 0, 1) := by decide +kernel
theorem dX3_callersOf_1 : decode cX3_callersOf 1 = .ok (.istore_n 2, 1) := by decide +kernel
theorem dX3_callersOf_2 : decode cX3_callersOf 2 = .ok (.iconst 0, 1) := by decide +kernel
theorem dX3_callersOf_3 : decode cX3_callersOf 3 = .ok (.istore_n 3, 1) := by decide +kernel
theorem dX3_callersOf_4 : decode cX3_callersOf 4 = .ok (.iload_n 3, 1) := by decide +kernel
theorem dX3_callersOf_5 : decode cX3_callersOf 5 = .ok (.aload_n 0, 1) := by decide +kernel
theorem dX3_callersOf_6 : decode cX3_callersOf 6 = .ok (.getfield 25, 3) := by decide +kernel
theorem dX3_callersOf_9 : decode cX3_callersOf 9 = .ok (.if_icmp .ge 33, 3) := by decide +kernel
theorem dX3_callersOf_12 : decode cX3_callersOf 12 = .ok (.iload_n 3, 1) := by decide +kernel
theorem dX3_callersOf_13 : decode cX3_callersOf 13 = .ok (.iload_n 1, 1) := by decide +kernel
theorem dX3_callersOf_14 : decode cX3_callersOf 14 = .ok (.if_icmp .eq 22, 3) := by decide +kernel
theorem dX3_callersOf_17 : decode cX3_callersOf 17 = .ok (.aload_n 0, 1) := by decide +kernel
theorem dX3_callersOf_18 : decode cX3_callersOf 18 = .ok (.getfield 11, 3) := by decide +kernel
theorem dX3_callersOf_21 : decode cX3_callersOf 21 = .ok (.iload_n 3, 1) := by decide +kernel
theorem dX3_callersOf_22 : decode cX3_callersOf 22 = .ok (.aaload, 1) := by decide +kernel
theorem dX3_callersOf_23 : decode cX3_callersOf 23 = .ok (.bipush 40, 2) := by decide +kernel
theorem dX3_callersOf_25 : decode cX3_callersOf 25 = .ok (.iload_n 1, 1) := by decide +kernel
theorem dX3_callersOf_26 : decode cX3_callersOf 26 = .ok (.iadd, 1) := by decide +kernel
theorem dX3_callersOf_27 : decode cX3_callersOf 27 = .ok (.invokevirtual 79, 3) := by decide +kernel
theorem dX3_callersOf_30 : decode cX3_callersOf 30 = .ok (.ifCond .eq 6, 3) := by decide +kernel
theorem dX3_callersOf_33 : decode cX3_callersOf 33 = .ok (.iinc 2 1, 3) := by decide +kernel
theorem dX3_callersOf_36 : decode cX3_callersOf 36 = .ok (.iinc 3 1, 3) := by decide +kernel
theorem dX3_callersOf_39 : decode cX3_callersOf 39 = .ok (.goto (-35), 3) := by decide +kernel
theorem dX3_callersOf_42 : decode cX3_callersOf 42 = .ok (.iload_n 2, 1) := by decide +kernel
theorem dX3_callersOf_43 : decode cX3_callersOf 43 = .ok (.ireturn, 1) := by decide +kernel
set_option maxRecDepth 20000 in
theorem ggX3_afterStepsChanged_X3_dropUntypable : GoodIn wsX3_afterStepsChanged wsX3_dropUntypable := goodIn_r _ [6, 7, 8, 9, 10, 5, 11, 12, 13, 14, 15, 16, 17, 18, 19, 20, 21, 22, 23, 24, 25, 26, 27, 28, 29, 30, 31, 32, 33, 34, 35, 36, 37, 38, 39, 40, 41, 42, 43, 44, 45, 46, 47, 48, 49, 50, 51, 52, 53, 54, 55, 56, 57, 58, 59, 60, 61, 62, 63, 64, 65, 66, 67, 68, 69, 70, 71, 72, 73, 74, 75, 76, 77, 78] (by decide +kernel) (by decide +kernel)
set_option maxRecDepth 20000 in
theorem gX3_afterStepsChanged_X3_dropUntypable : GoodIn wsX3_afterStepsChanged (wsV RX3 85 RX3 yX3_dropUntypable wsX3_dropUntypable) := goodIn_app (goodIn_of _ (by decide +kernel)) ggX3_afterStepsChanged_X3_dropUntypable
theorem dX3_afterStepsChanged_0 : decode cX3_afterStepsChanged 0 = .ok (.aload_n 0, 1) := by decide +kernel
theorem dX3_afterStepsChanged_1 : decode cX3_afterStepsChanged 1 = .ok (.dup, 1) := by decide +kernel
theorem dX3_afterStepsChanged_2 : decode cX3_afterStepsChanged 2 = .ok (.getfield 82, 3) := by decide +kernel
theorem dX3_afterStepsChanged_5 : decode cX3_afterStepsChanged 5 = .ok (.iconst 1, 1) := by decide +kernel
theorem dX3_afterStepsChanged_6 : decode cX3_afterStepsChanged 6 = .ok (.iadd, 1) := by decide +kernel
theorem dX3_afterStepsChanged_7 : decode cX3_afterStepsChanged 7 = .ok (.putfield 82, 3) := by decide +kernel
theorem dX3_afterStepsChanged_10 : decode cX3_afterStepsChanged 10 = .ok (.aload_n 0, 1) := by decide +kernel
theorem dX3_afterStepsChanged_11 : decode cX3_afterStepsChanged 11 = .ok (.invokevirtual 85, 3) := by decide +kernel
theorem dX3_afterStepsChanged_14 : decode cX3_afterStepsChanged 14 = .ok (.pop, 1) := by decide +kernel
theorem dX3_afterStepsChanged_15 : decode cX3_afterStepsChanged 15 = .ok (.return_, 1) := by decide +kernel
set_option maxRecDepth 20000 in
theorem ggX3_changeHints_X3_callersOf : GoodIn wsX3_changeHints wsX3_callersOf := goodIn_r _ [9, 10, 1, 11, 12, 13, 14, 15, 16, 17, 18, 19, 20, 21, 22, 23, 24, 25, 26] (by decide +kernel) (by decide +kernel)
set_option maxRecDepth 20000 in
theorem gX3_changeHints_X3_callersOf : GoodIn wsX3_changeHints (wsV RX3 89 RX3 yX3_callersOf wsX3_callersOf) := goodIn_app (goodIn_of _ (by decide +kernel)) ggX3_changeHints_X3_callersOf
theorem dX3_changeHints_0 : decode cX3_changeHints 0 = .ok (.aload_n 0, 1) := by decide +kernel
theorem dX3_changeHints_1 : decode cX3_changeHints 1 = .ok (.getfield 11, 3) := by decide +kernel
theorem dX3_changeHints_4 : decode cX3_changeHints 4 = .ok (.iload_n 1, 1) := by decide +kernel
theorem dX3_changeHints_5 : decode cX3_changeHints 5 = .ok (.aaload, 1) := by decide +kernel
theorem dX3_changeHints_6 : decode cX3_changeHints 6 = .ok (.astore 4, 2) := by decide +kernel
theorem dX3_changeHints_8 : decode cX3_changeHints 8 = .ok (.aload 4, 2) := by decide +kernel
theorem dX3_changeHints_10 : decode cX3_changeHints 10 = .ok (.getfield 33, 3) := by decide +kernel
theorem dX3_changeHints_13 : decode cX3_changeHints 13 = .ok (.iload_n 2, 1) := by decide +kernel
theorem dX3_changeHints_14 : decode cX3_changeHints 14 = .ok (.if_icmp .ne 7, 3) := by decide +kernel
theorem dX3_changeHints_17 : decode cX3_changeHints 17 = .ok (.iconst 0, 1) := by decide +kernel
theorem dX3_changeHints_18 : decode cX3_changeHints 18 = .ok (.goto 4, 3) := by decide +kernel
theorem dX3_changeHints_21 : decode cX3_changeHints 21 = .ok (.iconst 1, 1) := by decide +kernel
theorem dX3_changeHints_22 : decode cX3_changeHints 22 = .ok (.aload 4, 2) := by decide +kernel
theorem dX3_changeHints_24 : decode cX3_changeHints 24 = .ok (.getfield 40, 3) := by decide +kernel
theorem dX3_changeHints_27 : decode cX3_changeHints 27 = .ok (.iload_n 3, 1) := by decide +kernel
theorem dX3_changeHints_28 : decode cX3_changeHints 28 = .ok (.if_icmp .ne 7, 3) := by decide +kernel
theorem dX3_changeHints_31 : decode cX3_changeHints 31 = .ok (.iconst 0, 1) := by decide +kernel
theorem dX3_changeHints_32 : decode cX3_changeHints 32 = .ok (.goto 4, 3) := by decide +kernel
theorem dX3_changeHints_35 : decode cX3_changeHints 35 = .ok (.iconst 1, 1) := by decide +kernel
theorem dX3_changeHints_36 : decode cX3_changeHints 36 = .ok (.iadd, 1) := by decide +kernel
theorem dX3_changeHints_37 : decode cX3_changeHints 37 = .ok (.istore 5, 2) := by decide +kernel
theorem dX3_changeHints_39 : decode cX3_changeHints 39 = .ok (.aload 4, 2) := by decide +kernel
theorem dX3_changeHints_41 : decode cX3_changeHints 41 = .ok (.iload_n 2, 1) := by decide +kernel
theorem dX3_changeHints_42 : decode cX3_changeHints 42 = .ok (.putfield 33, 3) := by decide +kernel
theorem dX3_changeHints_45 : decode cX3_changeHints 45 = .ok (.aload 4, 2) := by decide +kernel
theorem dX3_changeHints_47 : decode cX3_changeHints 47 = .ok (.iload_n 3, 1) := by decide +kernel
theorem dX3_changeHints_48 : decode cX3_changeHints 48 = .ok (.putfield 40, 3) := by decide +kernel
theorem dX3_changeHints_51 : decode cX3_changeHints 51 = .ok (.iload 5, 2) := by decide +kernel
theorem dX3_changeHints_53 : decode cX3_changeHints 53 = .ok (.ifCond .le 19, 3) := by decide +kernel
theorem dX3_changeHints_56 : decode cX3_changeHints 56 = .ok (.aload_n 0, 1) := by decide +kernel
theorem dX3_changeHints_57 : decode cX3_changeHints 57 = .ok (.dup, 1) := by decide +kernel
theorem dX3_changeHints_58 : decode cX3_changeHints 58 = .ok (.getfield 82, 3) := by decide +kernel
theorem dX3_changeHints_61 : decode cX3_changeHints 61 = .ok (.iconst 1, 1) := by decide +kernel
theorem dX3_changeHints_62 : decode cX3_changeHints 62 = .ok (.aload_n 0, 1) := by decide +kernel
theorem dX3_changeHints_63 : decode cX3_changeHints 63 = .ok (.iload_n 1, 1) := by decide +kernel
theorem dX3_changeHints_64 : decode cX3_changeHints 64 = .ok (.invokevirtual 89, 3) := by decide +kernel
theorem dX3_changeHints_67 : decode cX3_changeHints 67 = .ok (.iadd, 1) := by decide +kernel
theorem dX3_changeHints_68 : decode cX3_changeHints 68 = .ok (.iadd, 1) := by decide +kernel
theorem dX3_changeHints_69 : decode cX3_changeHints 69 = .ok (.putfield 82, 3) := by decide +kernel
theorem dX3_changeHints_72 : decode cX3_changeHints 72 = .ok (.iload 5, 2) := by decide +kernel
theorem dX3_changeHints_74 : decode cX3_changeHints 74 = .ok (.ireturn, 1) := by decide +kernel
set_option maxRecDepth 20000 in
theorem ggX3_untypable_X3_typable : GoodIn wsX3_untypable wsX3_typable := goodIn_r _ [6, 7, 8, 9, 10, 5, 11, 12, 13, 14, 15, 16, 17, 18, 19, 20, 21, 22, 23, 24, 25, 26, 27, 28, 29, 30, 31, 32, 33, 34, 35, 36, 37, 38, 39, 40, 41, 42, 43, 44, 45, 46, 47, 48, 49, 50, 51, 52, 53, 54, 55, 56, 57, 58, 59, 60, 61, 62] (by decide +kernel) (by decide +kernel)
set_option maxRecDepth 20000 in
theorem gX3_untypable_X3_typable : GoodIn wsX3_untypable (wsV RX3 95 RX3 yX3_typable wsX3_typable) := goodIn_app (goodIn_of _ (by decide +kernel)) ggX3_untypable_X3_typable
theorem dX3_untypable_0 : decode cX3_untypable 0 = .ok (.aload_n 0, 1) := by decide +kernel
theorem dX3_untypable_1 : decode cX3_untypable 1 = .ok (.getfield 92, 3) := by decide +kernel
theorem dX3_untypable_4 : decode cX3_untypable 4 = .ok (.aload_n 0, 1) := by decide +kernel
theorem dX3_untypable_5 : decode cX3_untypable 5 = .ok (.invokevirtual 95, 3) := by decide +kernel
theorem dX3_untypable_8 : decode cX3_untypable 8 = .ok (.iconst (-1), 1) := by decide +kernel
theorem dX3_untypable_9 : decode cX3_untypable 9 = .ok (.ixor, 1) := by decide +kernel
theorem dX3_untypable_10 : decode cX3_untypable 10 = .ok (.iand, 1) := by decide +kernel
theorem dX3_untypable_11 : decode cX3_untypable 11 = .ok (.ireturn, 1) := by decide +kernel
set_option maxRecDepth 20000 in
theorem ggX3_dropUntypable_X3_untypable : GoodIn wsX3_dropUntypable wsX3_untypable := goodIn_r _ [6, 1, 7, 8, 9, 5, 10, 11, 12, 13, 14, 15, 16, 17, 18, 19, 20, 21, 22, 23, 24, 25, 26, 27, 28, 29, 30, 31, 32, 33, 34, 35, 36, 37, 38, 39, 40, 41, 42, 43, 44, 45, 46, 47, 48, 49, 50, 51, 52, 53, 54, 62, 63, 64, 65, 66, 67, 68, 69, 70, 71, 72, 73] (by decide +kernel) (by decide +kernel)
set_option maxRecDepth 20000 in
theorem gX3_dropUntypable_X3_untypable : GoodIn wsX3_dropUntypable (wsV RX3 98 RX3 yX3_untypable wsX3_untypable) := goodIn_app (goodIn_of _ (by decide +kernel)) ggX3_dropUntypable_X3_untypable
set_option maxRecDepth 20000 in
theorem ggX3_dropUntypable_J6_bitCount_0f7a4 : GoodIn wsX3_dropUntypable wsJ6_bitCount_0f7a4 := goodIn_r _ [58, 59, 60, 61] (by decide +kernel) (by decide +kernel)
set_option maxRecDepth 20000 in
theorem gX3_dropUntypable_J6_bitCount_0f7a4 : GoodIn wsX3_dropUntypable (va_wsS RX3 101 yJ6_bitCount_0f7a4 wsJ6_bitCount_0f7a4) := goodIn_app (goodIn_of _ (by decide +kernel)) ggX3_dropUntypable_J6_bitCount_0f7a4
theorem dX3_dropUntypable_0 : decode cX3_dropUntypable 0 = .ok (.aload_n 0, 1) := by decide +kernel
theorem dX3_dropUntypable_1 : decode cX3_dropUntypable 1 = .ok (.invokevirtual 98, 3) := by decide +kernel
theorem dX3_dropUntypable_4 : decode cX3_dropUntypable 4 = .ok (.istore_n 1, 1) := by decide +kernel
theorem dX3_dropUntypable_5 : decode cX3_dropUntypable 5 = .ok (.aload_n 0, 1) := by decide +kernel
theorem dX3_dropUntypable_6 : decode cX3_dropUntypable 6 = .ok (.dup, 1) := by decide +kernel
theorem dX3_dropUntypable_7 : decode cX3_dropUntypable 7 = .ok (.getfield 92, 3) := by decide +kernel
theorem dX3_dropUntypable_10 : decode cX3_dropUntypable 10 = .ok (.iload_n 1, 1) := by decide +kernel
theorem dX3_dropUntypable_11 : decode cX3_dropUntypable 11 = .ok (.iconst (-1), 1) := by decide +kernel
theorem dX3_dropUntypable_12 : decode cX3_dropUntypable 12 = .ok (.ixor, 1) := by decide +kernel
theorem dX3_dropUntypable_13 : decode cX3_dropUntypable 13 = .ok (.iand, 1) := by decide +kernel
theorem dX3_dropUntypable_14 : decode cX3_dropUntypable 14 = .ok (.putfield 92, 3) := by decide +kernel
theorem dX3_dropUntypable_17 : decode cX3_dropUntypable 17 = .ok (.iload_n 1, 1) := by decide +kernel
theorem dX3_dropUntypable_18 : decode cX3_dropUntypable 18 = .ok (.invokestatic 101, 3) := by decide +kernel
theorem dX3_dropUntypable_21 : decode cX3_dropUntypable 21 = .ok (.ireturn, 1) := by decide +kernel
set_option maxRecDepth 20000 in
theorem ggX3_untypableWith_X3_untypable : GoodIn wsX3_untypableWith wsX3_untypable := goodIn_r _ [8, 9, 10, 11, 12, 7, 13, 14, 15, 16, 17, 18, 1, 19, 2, 20, 21, 3, 22, 23, 24, 25, 26, 27, 28, 29, 30, 31, 32, 33, 34, 35, 36, 37, 38, 39, 40, 41, 42, 43, 44, 45, 46, 47, 48, 49, 50, 51, 52, 53, 54, 55, 56, 57, 58, 59, 60, 61, 62, 63, 64, 65, 66] (by decide +kernel) (by decide +kernel)
set_option maxRecDepth 20000 in
theorem gX3_untypableWith_X3_untypable : GoodIn wsX3_untypableWith (wsV RX3 98 RX3 yX3_untypable wsX3_untypable) := goodIn_app (goodIn_of _ (by decide +kernel)) ggX3_untypableWith_X3_untypable
theorem dX3_untypableWith_0 : decode cX3_untypableWith 0 = .ok (.aload_n 0, 1) := by decide +kernel
theorem dX3_untypableWith_1 : decode cX3_untypableWith 1 = .ok (.getfield 11, 3) := by decide +kernel
theorem dX3_untypableWith_4 : decode cX3_untypableWith 4 = .ok (.iload_n 1, 1) := by decide +kernel
theorem dX3_untypableWith_5 : decode cX3_untypableWith 5 = .ok (.aaload, 1) := by decide +kernel
theorem dX3_untypableWith_6 : decode cX3_untypableWith 6 = .ok (.astore 4, 2) := by decide +kernel
theorem dX3_untypableWith_8 : decode cX3_untypableWith 8 = .ok (.aload 4, 2) := by decide +kernel
theorem dX3_untypableWith_10 : decode cX3_untypableWith 10 = .ok (.getfield 33, 3) := by decide +kernel
theorem dX3_untypableWith_13 : decode cX3_untypableWith 13 = .ok (.istore 5, 2) := by decide +kernel
theorem dX3_untypableWith_15 : decode cX3_untypableWith 15 = .ok (.aload 4, 2) := by decide +kernel
theorem dX3_untypableWith_17 : decode cX3_untypableWith 17 = .ok (.getfield 40, 3) := by decide +kernel
theorem dX3_untypableWith_20 : decode cX3_untypableWith 20 = .ok (.istore 6, 2) := by decide +kernel
theorem dX3_untypableWith_22 : decode cX3_untypableWith 22 = .ok (.aload 4, 2) := by decide +kernel
theorem dX3_untypableWith_24 : decode cX3_untypableWith 24 = .ok (.iload_n 2, 1) := by decide +kernel
theorem dX3_untypableWith_25 : decode cX3_untypableWith 25 = .ok (.putfield 33, 3) := by decide +kernel
theorem dX3_untypableWith_28 : decode cX3_untypableWith 28 = .ok (.aload 4, 2) := by decide +kernel
theorem dX3_untypableWith_30 : decode cX3_untypableWith 30 = .ok (.iload_n 3, 1) := by decide +kernel
theorem dX3_untypableWith_31 : decode cX3_untypableWith 31 = .ok (.putfield 40, 3) := by decide +kernel
theorem dX3_untypableWith_34 : decode cX3_untypableWith 34 = .ok (.aload_n 0, 1) := by decide +kernel
theorem dX3_untypableWith_35 : decode cX3_untypableWith 35 = .ok (.invokevirtual 98, 3) := by decide +kernel
theorem dX3_untypableWith_38 : decode cX3_untypableWith 38 = .ok (.istore 7, 2) := by decide +kernel
theorem dX3_untypableWith_40 : decode cX3_untypableWith 40 = .ok (.aload 4, 2) := by decide +kernel
theorem dX3_untypableWith_42 : decode cX3_untypableWith 42 = .ok (.iload 5, 2) := by decide +kernel
theorem dX3_untypableWith_44 : decode cX3_untypableWith 44 = .ok (.putfield 33, 3) := by decide +kernel
theorem dX3_untypableWith_47 : decode cX3_untypableWith 47 = .ok (.aload 4, 2) := by decide +kernel
theorem dX3_untypableWith_49 : decode cX3_untypableWith 49 = .ok (.iload 6, 2) := by decide +kernel
theorem dX3_untypableWith_51 : decode cX3_untypableWith 51 = .ok (.putfield 40, 3) := by decide +kernel
theorem dX3_untypableWith_54 : decode cX3_untypableWith 54 = .ok (.iload 7, 2) := by decide +kernel
theorem dX3_untypableWith_56 : decode cX3_untypableWith 56 = .ok (.ireturn, 1) := by decide +kernel
set_option maxRecDepth 20000 in
theorem ggX3_guardsCall_X5_has : GoodIn wsX3_guardsCall wsX5_has := goodIn_r _ [5] (by decide +kernel) (by decide +kernel)
set_option maxRecDepth 20000 in
theorem gX3_guardsCall_X5_has_n106 : GoodIn wsX3_guardsCall (wsX5_has) := ggX3_guardsCall_X5_has
theorem dX3_guardsCall_0 : decode cX3_guardsCall 0 = .ok (.iload_n 3, 1) := by decide +kernel
theorem dX3_guardsCall_1 : decode cX3_guardsCall 1 = .ok (.iload_n 2, 1) := by decide +kernel
theorem dX3_guardsCall_2 : decode cX3_guardsCall 2 = .ok (.invokestatic 106, 3) := by decide +kernel
theorem dX3_guardsCall_5 : decode cX3_guardsCall 5 = .ok (.ifCond .eq 28, 3) := by decide +kernel
theorem dX3_guardsCall_8 : decode cX3_guardsCall 8 = .ok (.iload_n 3, 1) := by decide +kernel
theorem dX3_guardsCall_9 : decode cX3_guardsCall 9 = .ok (.iload_n 1, 1) := by decide +kernel
theorem dX3_guardsCall_10 : decode cX3_guardsCall 10 = .ok (.invokestatic 106, 3) := by decide +kernel
theorem dX3_guardsCall_13 : decode cX3_guardsCall 13 = .ok (.ifCond .ne 20, 3) := by decide +kernel
theorem dX3_guardsCall_16 : decode cX3_guardsCall 16 = .ok (.aload_n 0, 1) := by decide +kernel
theorem dX3_guardsCall_17 : decode cX3_guardsCall 17 = .ok (.getfield 11, 3) := by decide +kernel
theorem dX3_guardsCall_20 : decode cX3_guardsCall 20 = .ok (.iload_n 2, 1) := by decide +kernel
theorem dX3_guardsCall_21 : decode cX3_guardsCall 21 = .ok (.aaload, 1) := by decide +kernel
theorem dX3_guardsCall_22 : decode cX3_guardsCall 22 = .ok (.getfield 33, 3) := by decide +kernel
theorem dX3_guardsCall_25 : decode cX3_guardsCall 25 = .ok (.iconst 3, 1) := by decide +kernel
theorem dX3_guardsCall_26 : decode cX3_guardsCall 26 = .ok (.if_icmp .eq 7, 3) := by decide +kernel
theorem dX3_guardsCall_29 : decode cX3_guardsCall 29 = .ok (.iconst 1, 1) := by decide +kernel
theorem dX3_guardsCall_30 : decode cX3_guardsCall 30 = .ok (.goto 4, 3) := by decide +kernel
theorem dX3_guardsCall_33 : decode cX3_guardsCall 33 = .ok (.iconst 0, 1) := by decide +kernel
theorem dX3_guardsCall_34 : decode cX3_guardsCall 34 = .ok (.ireturn, 1) := by decide +kernel
set_option maxRecDepth 20000 in
theorem ggX3_guardsGive_X5_has : GoodIn wsX3_guardsGive wsX5_has := goodIn_r _ [5] (by decide +kernel) (by decide +kernel)
set_option maxRecDepth 20000 in
theorem gX3_guardsGive_X5_has_n106 : GoodIn wsX3_guardsGive (wsX5_has) := ggX3_guardsGive_X5_has
theorem dX3_guardsGive_0 : decode cX3_guardsGive 0 = .ok (.iload_n 3, 1) := by decide +kernel
theorem dX3_guardsGive_1 : decode cX3_guardsGive 1 = .ok (.iload_n 1, 1) := by decide +kernel
theorem dX3_guardsGive_2 : decode cX3_guardsGive 2 = .ok (.invokestatic 106, 3) := by decide +kernel
theorem dX3_guardsGive_5 : decode cX3_guardsGive 5 = .ok (.ifCond .eq 28, 3) := by decide +kernel
theorem dX3_guardsGive_8 : decode cX3_guardsGive 8 = .ok (.iload_n 3, 1) := by decide +kernel
theorem dX3_guardsGive_9 : decode cX3_guardsGive 9 = .ok (.iload_n 2, 1) := by decide +kernel
theorem dX3_guardsGive_10 : decode cX3_guardsGive 10 = .ok (.invokestatic 106, 3) := by decide +kernel
theorem dX3_guardsGive_13 : decode cX3_guardsGive 13 = .ok (.ifCond .ne 20, 3) := by decide +kernel
theorem dX3_guardsGive_16 : decode cX3_guardsGive 16 = .ok (.aload_n 0, 1) := by decide +kernel
theorem dX3_guardsGive_17 : decode cX3_guardsGive 17 = .ok (.getfield 11, 3) := by decide +kernel
theorem dX3_guardsGive_20 : decode cX3_guardsGive 20 = .ok (.iload_n 2, 1) := by decide +kernel
theorem dX3_guardsGive_21 : decode cX3_guardsGive 21 = .ok (.aaload, 1) := by decide +kernel
theorem dX3_guardsGive_22 : decode cX3_guardsGive 22 = .ok (.getfield 40, 3) := by decide +kernel
theorem dX3_guardsGive_25 : decode cX3_guardsGive 25 = .ok (.iconst 3, 1) := by decide +kernel
theorem dX3_guardsGive_26 : decode cX3_guardsGive 26 = .ok (.if_icmp .eq 7, 3) := by decide +kernel
theorem dX3_guardsGive_29 : decode cX3_guardsGive 29 = .ok (.iconst 1, 1) := by decide +kernel
theorem dX3_guardsGive_30 : decode cX3_guardsGive 30 = .ok (.goto 4, 3) := by decide +kernel
theorem dX3_guardsGive_33 : decode cX3_guardsGive 33 = .ok (.iconst 0, 1) := by decide +kernel
theorem dX3_guardsGive_34 : decode cX3_guardsGive 34 = .ok (.ireturn, 1) := by decide +kernel
set_option maxRecDepth 20000 in
theorem ggX4_init_X5_newCallTable : GoodIn wsX4_init wsX5_newCallTable := goodIn_r _ [8, 9, 10] (by decide +kernel) (by decide +kernel)
set_option maxRecDepth 20000 in
theorem gX4_init_X5_newCallTable_n15 : GoodIn wsX4_init (wsX5_newCallTable) := ggX4_init_X5_newCallTable
theorem dX4_init_0 : decode cX4_init 0 = .ok (.aload_n 0, 1) := by decide +kernel
theorem dX4_init_1 : decode cX4_init 1 = .ok (.invokespecial 3, 3) := by decide +kernel
theorem dX4_init_4 : decode cX4_init 4 = .ok (.aload_n 0, 1) := by decide +kernel
theorem dX4_init_5 : decode cX4_init 5 = .ok (.aload_n 1, 1) := by decide +kernel
theorem dX4_init_6 : decode cX4_init 6 = .ok (.putfield 9, 3) := by decide +kernel
theorem dX4_init_9 : decode cX4_init 9 = .ok (.aload_n 0, 1) := by decide +kernel
theorem dX4_init_10 : decode cX4_init 10 = .ok (.invokestatic 15, 3) := by decide +kernel
theorem dX4_init_13 : decode cX4_init 13 = .ok (.putfield 19, 3) := by decide +kernel
theorem dX4_init_16 : decode cX4_init 16 = .ok (.return_, 1) := by decide +kernel
set_option maxRecDepth 20000 in
theorem ggX4_tryOut_X4_clear : GoodIn wsX4_tryOut wsX4_clear := goodIn_r _ [8, 9, 10, 11, 12, 13, 14, 15, 16, 17, 86, 87, 88, 89, 90, 91, 92, 93, 94, 95, 96, 97, 98] (by decide +kernel) (by decide +kernel)
set_option maxRecDepth 20000 in
theorem gX4_tryOut_X4_clear : GoodIn wsX4_tryOut (wsV RX4 23 RX4 yX4_clear wsX4_clear) := goodIn_app (goodIn_of _ (by decide +kernel)) ggX4_tryOut_X4_clear
set_option maxRecDepth 20000 in
theorem ggX4_tryOut_X4_enter : GoodIn wsX4_tryOut wsX4_enter := goodIn_r _ [21, 13, 22, 23, 24, 25, 9, 26, 27, 28, 29, 14, 30, 31, 32, 33, 7, 34, 15, 35, 36, 37, 38, 39, 40, 41, 42, 43, 44, 45, 46, 47, 48, 49, 50, 2, 11, 1, 12, 16, 17, 51, 52, 53, 54, 55, 56, 57, 58, 59, 10, 3, 60, 61, 18, 19, 20, 62, 63, 64, 65, 66, 67, 68, 69, 70, 71, 72, 73, 74, 75, 76, 77, 78, 79, 80, 81, 82, 83, 84, 85, 86, 87, 88, 89, 90, 91, 92, 93, 94, 95, 96, 97, 98, 99, 100, 101, 102, 103, 104, 105, 106, 107] (by decide +kernel) (by decide +kernel)
set_option maxRecDepth 20000 in
theorem gX4_tryOut_X4_enter : GoodIn wsX4_tryOut (wsV RX4 36 RX4 yX4_enter wsX4_enter) := goodIn_app (goodIn_of _ (by decide +kernel)) ggX4_tryOut_X4_enter
theorem dX4_tryOut_0 : decode cX4_tryOut 0 = .ok (.aload_n 0, 1) := by decide +kernel
theorem dX4_tryOut_1 : decode cX4_tryOut 1 = .ok (.invokevirtual 23, 3) := by decide +kernel
theorem dX4_tryOut_4 : decode cX4_tryOut 4 = .ok (.aload_n 0, 1) := by decide +kernel
theorem dX4_tryOut_5 : decode cX4_tryOut 5 = .ok (.iload 4, 2) := by decide +kernel
end
section
theorem dX4_tryOut_7 : decode cX4_tryOut 7 = .ok (.putfield 26, 3) := by decide +kernel
theorem dX4_tryOut_10 : decode cX4_tryOut 10 = .ok (.aload_n 0, 1) := by decide +kernel
theorem dX4_tryOut_11 : decode cX4_tryOut 11 = .ok (.iload_n 2, 1) := by decide +kernel
theorem dX4_tryOut_12 : decode cX4_tryOut 12 = .ok (.putfield 30, 3) := by decide +kernel
theorem dX4_tryOut_15 : decode cX4_tryOut 15 = .ok (.aload_n 0, 1) := by decide +kernel
theorem dX4_tryOut_16 : decode cX4_tryOut 16 = .ok (.iload_n 3, 1) := by decide +kernel
theorem dX4_tryOut_17 : decode cX4_tryOut 17 = .ok (.putfield 33, 3) := by decide +kernel
theorem dX4_tryOut_20 : decode cX4_tryOut 20 = .ok (.aload_n 0, 1) := by decide +kernel
theorem dX4_tryOut_21 : decode cX4_tryOut 21 = .ok (.iconst (-1), 1) := by decide +kernel
theorem dX4_tryOut_22 : decode cX4_tryOut 22 = .ok (.iload_n 1, 1) := by decide +kernel
theorem dX4_tryOut_23 : decode cX4_tryOut 23 = .ok (.iconst 1, 1) := by decide +kernel
theorem dX4_tryOut_24 : decode cX4_tryOut 24 = .ok (.invokevirtual 36, 3) := by decide +kernel
theorem dX4_tryOut_27 : decode cX4_tryOut 27 = .ok (.return_, 1) := by decide +kernel
theorem dX4_clear_0 : decode cX4_clear 0 = .ok (.iconst 0, 1) := by decide +kernel
theorem dX4_clear_1 : decode cX4_clear 1 = .ok (.istore_n 1, 1) := by decide +kernel
theorem dX4_clear_2 : decode cX4_clear 2 = .ok (.iload_n 1, 1) := by decide +kernel
theorem dX4_clear_3 : decode cX4_clear 3 = .ok (.bipush 10, 2) := by decide +kernel
theorem dX4_clear_5 : decode cX4_clear 5 = .ok (.if_icmp .gt 32, 3) := by decide +kernel
theorem dX4_clear_8 : decode cX4_clear 8 = .ok (.iconst 0, 1) := by decide +kernel
theorem dX4_clear_9 : decode cX4_clear 9 = .ok (.istore_n 2, 1) := by decide +kernel
theorem dX4_clear_10 : decode cX4_clear 10 = .ok (.iload_n 2, 1) := by decide +kernel
theorem dX4_clear_11 : decode cX4_clear 11 = .ok (.bipush 10, 2) := by decide +kernel
theorem dX4_clear_13 : decode cX4_clear 13 = .ok (.if_icmp .ge 18, 3) := by decide +kernel
theorem dX4_clear_16 : decode cX4_clear 16 = .ok (.aload_n 0, 1) := by decide +kernel
theorem dX4_clear_17 : decode cX4_clear 17 = .ok (.getfield 19, 3) := by decide +kernel
theorem dX4_clear_20 : decode cX4_clear 20 = .ok (.iload_n 1, 1) := by decide +kernel
theorem dX4_clear_21 : decode cX4_clear 21 = .ok (.aaload, 1) := by decide +kernel
theorem dX4_clear_22 : decode cX4_clear 22 = .ok (.iload_n 2, 1) := by decide +kernel
theorem dX4_clear_23 : decode cX4_clear 23 = .ok (.iconst 0, 1) := by decide +kernel
theorem dX4_clear_24 : decode cX4_clear 24 = .ok (.iastore, 1) := by decide +kernel
theorem dX4_clear_25 : decode cX4_clear 25 = .ok (.iinc 2 1, 3) := by decide +kernel
theorem dX4_clear_28 : decode cX4_clear 28 = .ok (.goto (-18), 3) := by decide +kernel
theorem dX4_clear_31 : decode cX4_clear 31 = .ok (.iinc 1 1, 3) := by decide +kernel
theorem dX4_clear_34 : decode cX4_clear 34 = .ok (.goto (-32), 3) := by decide +kernel
theorem dX4_clear_37 : decode cX4_clear 37 = .ok (.aload_n 0, 1) := by decide +kernel
theorem dX4_clear_38 : decode cX4_clear 38 = .ok (.iconst 0, 1) := by decide +kernel
theorem dX4_clear_39 : decode cX4_clear 39 = .ok (.putfield 40, 3) := by decide +kernel
theorem dX4_clear_42 : decode cX4_clear 42 = .ok (.aload_n 0, 1) := by decide +kernel
theorem dX4_clear_43 : decode cX4_clear 43 = .ok (.iconst 0, 1) := by decide +kernel
theorem dX4_clear_44 : decode cX4_clear 44 = .ok (.putfield 43, 3) := by decide +kernel
theorem dX4_clear_47 : decode cX4_clear 47 = .ok (.aload_n 0, 1) := by decide +kernel
theorem dX4_clear_48 : decode cX4_clear 48 = .ok (.iconst 0, 1) := by decide +kernel
theorem dX4_clear_49 : decode cX4_clear 49 = .ok (.putfield 46, 3) := by decide +kernel
theorem dX4_clear_52 : decode cX4_clear 52 = .ok (.aload_n 0, 1) := by decide +kernel
theorem dX4_clear_53 : decode cX4_clear 53 = .ok (.iconst 0, 1) := by decide +kernel
theorem dX4_clear_54 : decode cX4_clear 54 = .ok (.putfield 49, 3) := by decide +kernel
theorem dX4_clear_57 : decode cX4_clear 57 = .ok (.aload_n 0, 1) := by decide +kernel
theorem dX4_clear_58 : decode cX4_clear 58 = .ok (.iconst 0, 1) := by decide +kernel
theorem dX4_clear_59 : decode cX4_clear 59 = .ok (.putfield 52, 3) := by decide +kernel
theorem dX4_clear_62 : decode cX4_clear 62 = .ok (.aload_n 0, 1) := by decide +kernel
theorem dX4_clear_63 : decode cX4_clear 63 = .ok (.iconst (-1), 1) := by decide +kernel
theorem dX4_clear_64 : decode cX4_clear 64 = .ok (.putfield 55, 3) := by decide +kernel
theorem dX4_clear_67 : decode cX4_clear 67 = .ok (.aload_n 0, 1) := by decide +kernel
theorem dX4_clear_68 : decode cX4_clear 68 = .ok (.iconst 0, 1) := by decide +kernel
theorem dX4_clear_69 : decode cX4_clear 69 = .ok (.putfield 58, 3) := by decide +kernel
theorem dX4_clear_72 : decode cX4_clear 72 = .ok (.aload_n 0, 1) := by decide +kernel
theorem dX4_clear_73 : decode cX4_clear 73 = .ok (.iconst (-1), 1) := by decide +kernel
theorem dX4_clear_74 : decode cX4_clear 74 = .ok (.putfield 62, 3) := by decide +kernel
theorem dX4_clear_77 : decode cX4_clear 77 = .ok (.return_, 1) := by decide +kernel
theorem dX4_cost_0 : decode cX4_cost 0 = .ok (.aload_n 0, 1) := by decide +kernel
theorem dX4_cost_1 : decode cX4_cost 1 = .ok (.getfield 40, 3) := by decide +kernel
theorem dX4_cost_4 : decode cX4_cost 4 = .ok (.iconst 2, 1) := by decide +kernel
theorem dX4_cost_5 : decode cX4_cost 5 = .ok (.aload_n 0, 1) := by decide +kernel
theorem dX4_cost_6 : decode cX4_cost 6 = .ok (.getfield 43, 3) := by decide +kernel
theorem dX4_cost_9 : decode cX4_cost 9 = .ok (.imul, 1) := by decide +kernel
theorem dX4_cost_10 : decode cX4_cost 10 = .ok (.iadd, 1) := by decide +kernel
theorem dX4_cost_11 : decode cX4_cost 11 = .ok (.ireturn, 1) := by decide +kernel
set_option maxRecDepth 20000 in
theorem ggX4_enter_X4_fail : GoodIn wsX4_enter wsX4_fail := goodIn_r _ [17, 11, 18, 81, 82, 83, 84, 85, 86, 87, 88, 89, 90, 91, 92, 93] (by decide +kernel) (by decide +kernel)
set_option maxRecDepth 20000 in
theorem gX4_enter_X4_fail : GoodIn wsX4_enter (wsV RX4 65 RX4 yX4_fail wsX4_fail) := goodIn_app (goodIn_of _ (by decide +kernel)) ggX4_enter_X4_fail
set_option maxRecDepth 20000 in
theorem ggX4_enter_X5_rowOf : GoodIn wsX4_enter wsX5_rowOf := goodIn_r _ [21] (by decide +kernel) (by decide +kernel)
set_option maxRecDepth 20000 in
theorem gX4_enter_X5_rowOf_n75 : GoodIn wsX4_enter (wsX5_rowOf) := ggX4_enter_X5_rowOf
set_option maxRecDepth 20000 in
theorem ggX4_enter_X3_guardsCall : GoodIn wsX4_enter wsX3_guardsCall := goodIn_r _ [26, 27, 28, 29, 20, 30, 94, 95, 96, 97, 98, 99, 100, 101, 102] (by decide +kernel) (by decide +kernel)
set_option maxRecDepth 20000 in
theorem gX4_enter_X3_guardsCall : GoodIn wsX4_enter (wsV RX4 84 RX3 yX3_guardsCall wsX3_guardsCall) := goodIn_app (goodIn_of _ (by decide +kernel)) ggX4_enter_X3_guardsCall
set_option maxRecDepth 20000 in
theorem ggX4_enter_X4_guard : GoodIn wsX4_enter wsX4_guard := goodIn_r _ [34, 35, 36, 37, 38, 39, 40, 13, 14, 15, 16, 17, 11, 18, 81, 82, 83, 84, 85, 86, 87, 88, 89, 90, 91, 92, 93] (by decide +kernel) (by decide +kernel)
set_option maxRecDepth 20000 in
theorem gX4_enter_X4_guard : GoodIn wsX4_enter (wsV RX4 97 RX4 yX4_guard wsX4_guard) := goodIn_app (goodIn_of _ (by decide +kernel)) ggX4_enter_X4_guard
set_option maxRecDepth 20000 in
theorem ggX4_enter_X4_goThrough : GoodIn wsX4_enter wsX4_goThrough := goodIn_r _ [75, 7, 9, 76, 11, 77, 78, 79, 80, 16, 49, 50, 35, 8, 40, 51, 13, 14, 15, 17, 18, 52, 20, 53, 54, 55, 56, 57, 58, 29, 30, 59, 60, 61, 62, 2, 3, 4, 5, 63, 64, 65, 66, 67, 68, 69, 70, 71, 72, 73, 74, 0, 1, 6, 10, 12, 19, 21, 22, 23, 24, 25, 26, 27, 28, 31, 32, 33, 34, 36, 37, 38, 39, 41, 42, 43, 44, 45, 46, 47, 48, 81, 82, 83, 84, 85, 86, 87, 88, 89, 90, 91, 92, 93, 94, 95, 96, 97, 98, 99, 100, 101, 102] (by decide +kernel) (by decide +kernel)
set_option maxRecDepth 20000 in
theorem gX4_enter_X4_goThrough : GoodIn wsX4_enter (wsV RX4 100 RX4 yX4_goThrough wsX4_goThrough) := goodIn_app (goodIn_of _ (by decide +kernel)) ggX4_enter_X4_goThrough
set_option maxRecDepth 20000 in
theorem ggX4_enter_X3_guardsGive : GoodIn wsX4_enter wsX3_guardsGive := goodIn_r _ [47, 27, 48, 29, 20, 30, 94, 95, 96, 97, 98, 99, 100, 101, 102] (by decide +kernel) (by decide +kernel)
set_option maxRecDepth 20000 in
theorem gX4_enter_X3_guardsGive : GoodIn wsX4_enter (wsV RX4 103 RX3 yX3_guardsGive wsX3_guardsGive) := goodIn_app (goodIn_of _ (by decide +kernel)) ggX4_enter_X3_guardsGive
theorem dX4_enter_0 : decode cX4_enter 0 = .ok (.iload_n 3, 1) := by decide +kernel
theorem dX4_enter_1 : decode cX4_enter 1 = .ok (.bipush 12, 2) := by decide +kernel
theorem dX4_enter_3 : decode cX4_enter 3 = .ok (.if_icmp .le 10, 3) := by decide +kernel
theorem dX4_enter_6 : decode cX4_enter 6 = .ok (.aload_n 0, 1) := by decide +kernel
theorem dX4_enter_7 : decode cX4_enter 7 = .ok (.iconst 4, 1) := by decide +kernel
theorem dX4_enter_8 : decode cX4_enter 8 = .ok (.iconst (-1), 1) := by decide +kernel
theorem dX4_enter_9 : decode cX4_enter 9 = .ok (.invokevirtual 65, 3) := by decide +kernel
theorem dX4_enter_12 : decode cX4_enter 12 = .ok (.return_, 1) := by decide +kernel
theorem dX4_enter_13 : decode cX4_enter 13 = .ok (.aload_n 0, 1) := by decide +kernel
theorem dX4_enter_14 : decode cX4_enter 14 = .ok (.aload_n 0, 1) := by decide +kernel
theorem dX4_enter_15 : decode cX4_enter 15 = .ok (.getfield 49, 3) := by decide +kernel
theorem dX4_enter_18 : decode cX4_enter 18 = .ok (.iload_n 3, 1) := by decide +kernel
theorem dX4_enter_19 : decode cX4_enter 19 = .ok (.invokestatic 69, 3) := by decide +kernel
theorem dX4_enter_22 : decode cX4_enter 22 = .ok (.putfield 49, 3) := by decide +kernel
theorem dX4_enter_25 : decode cX4_enter 25 = .ok (.aload_n 0, 1) := by decide +kernel
theorem dX4_enter_26 : decode cX4_enter 26 = .ok (.getfield 19, 3) := by decide +kernel
theorem dX4_enter_29 : decode cX4_enter 29 = .ok (.iload_n 1, 1) := by decide +kernel
theorem dX4_enter_30 : decode cX4_enter 30 = .ok (.invokestatic 75, 3) := by decide +kernel
theorem dX4_enter_33 : decode cX4_enter 33 = .ok (.aaload, 1) := by decide +kernel
theorem dX4_enter_34 : decode cX4_enter 34 = .ok (.iload_n 2, 1) := by decide +kernel
theorem dX4_enter_35 : decode cX4_enter 35 = .ok (.dup2, 1) := by decide +kernel
theorem dX4_enter_36 : decode cX4_enter 36 = .ok (.iaload, 1) := by decide +kernel
theorem dX4_enter_37 : decode cX4_enter 37 = .ok (.iconst 1, 1) := by decide +kernel
theorem dX4_enter_38 : decode cX4_enter 38 = .ok (.iadd, 1) := by decide +kernel
theorem dX4_enter_39 : decode cX4_enter 39 = .ok (.iastore, 1) := by decide +kernel
theorem dX4_enter_40 : decode cX4_enter 40 = .ok (.aload_n 0, 1) := by decide +kernel
theorem dX4_enter_41 : decode cX4_enter 41 = .ok (.getfield 9, 3) := by decide +kernel
theorem dX4_enter_44 : decode cX4_enter 44 = .ok (.iload_n 1, 1) := by decide +kernel
theorem dX4_enter_45 : decode cX4_enter 45 = .ok (.iload_n 2, 1) := by decide +kernel
theorem dX4_enter_46 : decode cX4_enter 46 = .ok (.aload_n 0, 1) := by decide +kernel
theorem dX4_enter_47 : decode cX4_enter 47 = .ok (.getfield 9, 3) := by decide +kernel
theorem dX4_enter_50 : decode cX4_enter 50 = .ok (.getfield 79, 3) := by decide +kernel
theorem dX4_enter_53 : decode cX4_enter 53 = .ok (.invokevirtual 84, 3) := by decide +kernel
theorem dX4_enter_56 : decode cX4_enter 56 = .ok (.ifCond .eq 21, 3) := by decide +kernel
theorem dX4_enter_59 : decode cX4_enter 59 = .ok (.aload_n 0, 1) := by decide +kernel
theorem dX4_enter_60 : decode cX4_enter 60 = .ok (.aload_n 0, 1) := by decide +kernel
theorem dX4_enter_61 : decode cX4_enter 61 = .ok (.getfield 9, 3) := by decide +kernel
theorem dX4_enter_64 : decode cX4_enter 64 = .ok (.getfield 88, 3) := by decide +kernel
theorem dX4_enter_67 : decode cX4_enter 67 = .ok (.iload_n 2, 1) := by decide +kernel
theorem dX4_enter_68 : decode cX4_enter 68 = .ok (.aaload, 1) := by decide +kernel
theorem dX4_enter_69 : decode cX4_enter 69 = .ok (.getfield 92, 3) := by decide +kernel
theorem dX4_enter_72 : decode cX4_enter 72 = .ok (.iconst 2, 1) := by decide +kernel
theorem dX4_enter_73 : decode cX4_enter 73 = .ok (.iload_n 1, 1) := by decide +kernel
theorem dX4_enter_74 : decode cX4_enter 74 = .ok (.invokevirtual 97, 3) := by decide +kernel
theorem dX4_enter_77 : decode cX4_enter 77 = .ok (.aload_n 0, 1) := by decide +kernel
theorem dX4_enter_78 : decode cX4_enter 78 = .ok (.iload_n 2, 1) := by decide +kernel
theorem dX4_enter_79 : decode cX4_enter 79 = .ok (.iload_n 3, 1) := by decide +kernel
theorem dX4_enter_80 : decode cX4_enter 80 = .ok (.invokevirtual 100, 3) := by decide +kernel
theorem dX4_enter_83 : decode cX4_enter 83 = .ok (.aload_n 0, 1) := by decide +kernel
theorem dX4_enter_84 : decode cX4_enter 84 = .ok (.getfield 52, 3) := by decide +kernel
theorem dX4_enter_87 : decode cX4_enter 87 = .ok (.ifCond .ne 40, 3) := by decide +kernel
theorem dX4_enter_90 : decode cX4_enter 90 = .ok (.aload_n 0, 1) := by decide +kernel
theorem dX4_enter_91 : decode cX4_enter 91 = .ok (.getfield 9, 3) := by decide +kernel
theorem dX4_enter_94 : decode cX4_enter 94 = .ok (.iload_n 1, 1) := by decide +kernel
theorem dX4_enter_95 : decode cX4_enter 95 = .ok (.iload_n 2, 1) := by decide +kernel
theorem dX4_enter_96 : decode cX4_enter 96 = .ok (.aload_n 0, 1) := by decide +kernel
theorem dX4_enter_97 : decode cX4_enter 97 = .ok (.getfield 9, 3) := by decide +kernel
theorem dX4_enter_100 : decode cX4_enter 100 = .ok (.getfield 79, 3) := by decide +kernel
theorem dX4_enter_103 : decode cX4_enter 103 = .ok (.invokevirtual 103, 3) := by decide +kernel
theorem dX4_enter_106 : decode cX4_enter 106 = .ok (.ifCond .eq 21, 3) := by decide +kernel
theorem dX4_enter_109 : decode cX4_enter 109 = .ok (.aload_n 0, 1) := by decide +kernel
theorem dX4_enter_110 : decode cX4_enter 110 = .ok (.aload_n 0, 1) := by decide +kernel
theorem dX4_enter_111 : decode cX4_enter 111 = .ok (.getfield 9, 3) := by decide +kernel
theorem dX4_enter_114 : decode cX4_enter 114 = .ok (.getfield 88, 3) := by decide +kernel
theorem dX4_enter_117 : decode cX4_enter 117 = .ok (.iload_n 2, 1) := by decide +kernel
theorem dX4_enter_118 : decode cX4_enter 118 = .ok (.aaload, 1) := by decide +kernel
theorem dX4_enter_119 : decode cX4_enter 119 = .ok (.getfield 106, 3) := by decide +kernel
theorem dX4_enter_122 : decode cX4_enter 122 = .ok (.iconst 3, 1) := by decide +kernel
theorem dX4_enter_123 : decode cX4_enter 123 = .ok (.iload_n 2, 1) := by decide +kernel
theorem dX4_enter_124 : decode cX4_enter 124 = .ok (.invokevirtual 97, 3) := by decide +kernel
theorem dX4_enter_127 : decode cX4_enter 127 = .ok (.return_, 1) := by decide +kernel
set_option maxRecDepth 20000 in
theorem ggX4_goThrough_X4_begin : GoodIn wsX4_goThrough wsX4_begin := goodIn_r _ [10, 11, 12, 1, 13, 14, 15, 16, 17, 18, 9, 19, 4, 20, 21, 22, 23, 24, 25, 26, 27, 28, 29, 30, 31, 32, 33, 34, 35, 36, 37, 38, 39, 40, 41, 42, 43, 44, 45, 46, 47, 48, 49, 50, 51, 52, 53, 2, 54, 55, 56, 57, 58, 59, 60, 61, 62, 63, 64, 65, 66, 67, 68, 69, 70, 71, 72, 73, 74, 75, 76, 77, 78, 79, 80, 0, 3, 5, 6, 7, 8, 81, 82, 83, 84, 85, 86, 87, 88, 89, 90, 91, 92, 93, 94, 95, 96, 97, 98, 99, 100, 101, 102] (by decide +kernel) (by decide +kernel)
set_option maxRecDepth 20000 in
theorem gX4_goThrough_X4_begin : GoodIn wsX4_goThrough (wsV RX4 116 RX4 yX4_begin wsX4_begin) := goodIn_app (goodIn_of _ (by decide +kernel)) ggX4_goThrough_X4_begin
theorem dX4_goThrough_0 : decode cX4_goThrough 0 = .ok (.aload_n 0, 1) := by decide +kernel
theorem dX4_goThrough_1 : decode cX4_goThrough 1 = .ok (.getfield 9, 3) := by decide +kernel
theorem dX4_goThrough_4 : decode cX4_goThrough 4 = .ok (.getfield 88, 3) := by decide +kernel
theorem dX4_goThrough_7 : decode cX4_goThrough 7 = .ok (.iload_n 1, 1) := by decide +kernel
theorem dX4_goThrough_8 : decode cX4_goThrough 8 = .ok (.aaload, 1) := by decide +kernel
theorem dX4_goThrough_9 : decode cX4_goThrough 9 = .ok (.astore_n 3, 1) := by decide +kernel
theorem dX4_goThrough_10 : decode cX4_goThrough 10 = .ok (.iconst 0, 1) := by decide +kernel
theorem dX4_goThrough_11 : decode cX4_goThrough 11 = .ok (.istore 4, 2) := by decide +kernel
theorem dX4_goThrough_13 : decode cX4_goThrough 13 = .ok (.iload 4, 2) := by decide +kernel
theorem dX4_goThrough_15 : decode cX4_goThrough 15 = .ok (.aload_n 3, 1) := by decide +kernel
theorem dX4_goThrough_16 : decode cX4_goThrough 16 = .ok (.getfield 109, 3) := by decide +kernel
theorem dX4_goThrough_19 : decode cX4_goThrough 19 = .ok (.if_icmp .ge 29, 3) := by decide +kernel
theorem dX4_goThrough_22 : decode cX4_goThrough 22 = .ok (.aload_n 0, 1) := by decide +kernel
theorem dX4_goThrough_23 : decode cX4_goThrough 23 = .ok (.getfield 52, 3) := by decide +kernel
theorem dX4_goThrough_26 : decode cX4_goThrough 26 = .ok (.ifCond .ne 22, 3) := by decide +kernel
theorem dX4_goThrough_29 : decode cX4_goThrough 29 = .ok (.aload_n 0, 1) := by decide +kernel
theorem dX4_goThrough_30 : decode cX4_goThrough 30 = .ok (.iload_n 1, 1) := by decide +kernel
theorem dX4_goThrough_31 : decode cX4_goThrough 31 = .ok (.aload_n 3, 1) := by decide +kernel
theorem dX4_goThrough_32 : decode cX4_goThrough 32 = .ok (.getfield 112, 3) := by decide +kernel
theorem dX4_goThrough_35 : decode cX4_goThrough 35 = .ok (.iload 4, 2) := by decide +kernel
theorem dX4_goThrough_37 : decode cX4_goThrough 37 = .ok (.iaload, 1) := by decide +kernel
theorem dX4_goThrough_38 : decode cX4_goThrough 38 = .ok (.iload_n 2, 1) := by decide +kernel
theorem dX4_goThrough_39 : decode cX4_goThrough 39 = .ok (.invokevirtual 116, 3) := by decide +kernel
theorem dX4_goThrough_42 : decode cX4_goThrough 42 = .ok (.iinc 4 1, 3) := by decide +kernel
theorem dX4_goThrough_45 : decode cX4_goThrough 45 = .ok (.goto (-32), 3) := by decide +kernel
theorem dX4_goThrough_48 : decode cX4_goThrough 48 = .ok (.return_, 1) := by decide +kernel
set_option maxRecDepth 20000 in
theorem ggX4_begin_X4_fail : GoodIn wsX4_begin wsX4_fail := goodIn_r _ [11, 12, 13, 81, 82, 83, 84, 85, 86, 87, 88, 89, 90, 91, 92, 93] (by decide +kernel) (by decide +kernel)
set_option maxRecDepth 20000 in
theorem gX4_begin_X4_fail : GoodIn wsX4_begin (wsV RX4 65 RX4 yX4_fail wsX4_fail) := goodIn_app (goodIn_of _ (by decide +kernel)) ggX4_begin_X4_fail
set_option maxRecDepth 20000 in
theorem ggX4_begin_X5_isCall : GoodIn wsX4_begin wsX5_isCall := goodIn_r _ [16] (by decide +kernel) (by decide +kernel)
set_option maxRecDepth 20000 in
theorem gX4_begin_X5_isCall_n119 : GoodIn wsX4_begin (wsX5_isCall) := ggX4_begin_X5_isCall
set_option maxRecDepth 20000 in
theorem ggX4_begin_X4_enter : GoodIn wsX4_begin wsX4_enter := goodIn_r _ [44, 45, 28, 29, 30, 31, 46, 3, 4, 47, 48, 12, 49, 7, 8, 9, 10, 11, 13, 50, 15, 51, 52, 53, 54, 55, 56, 57, 58, 22, 23, 59, 60, 61, 62, 2, 63, 64, 65, 66, 5, 67, 68, 69, 70, 71, 72, 73, 74, 0, 1, 6, 14, 16, 17, 18, 19, 20, 21, 24, 25, 26, 27, 32, 33, 34, 35, 36, 37, 38, 39, 40, 41, 42, 43, 75, 76, 77, 78, 79, 80, 81, 82, 83, 84, 85, 86, 87, 88, 89, 90, 91, 92, 93, 94, 95, 96, 97, 98, 99, 100, 101, 102] (by decide +kernel) (by decide +kernel)
set_option maxRecDepth 20000 in
theorem gX4_begin_X4_enter : GoodIn wsX4_begin (wsV RX4 36 RX4 yX4_enter wsX4_enter) := goodIn_app (goodIn_of _ (by decide +kernel)) ggX4_begin_X4_enter
set_option maxRecDepth 20000 in
theorem ggX4_begin_X5_plainNeed : GoodIn wsX4_begin wsX5_plainNeed := goodIn_r _ [21] (by decide +kernel) (by decide +kernel)
set_option maxRecDepth 20000 in
theorem gX4_begin_X5_plainNeed_n123 : GoodIn wsX4_begin (wsX5_plainNeed) := ggX4_begin_X5_plainNeed
set_option maxRecDepth 20000 in
theorem ggX4_begin_X5_has : GoodIn wsX4_begin wsX5_has := goodIn_r _ [23] (by decide +kernel) (by decide +kernel)
set_option maxRecDepth 20000 in
theorem gX4_begin_X5_has_n126 : GoodIn wsX4_begin (wsX5_has) := ggX4_begin_X5_has
set_option maxRecDepth 20000 in
theorem ggX4_begin_X4_made : GoodIn wsX4_begin wsX4_made := goodIn_r _ [27, 6, 28, 29, 30, 31, 32, 33, 34, 35, 36, 37, 10, 38, 2, 39, 40, 41, 81, 82, 83, 84, 85, 86, 87, 88, 89, 90, 91, 92, 93] (by decide +kernel) (by decide +kernel)
set_option maxRecDepth 20000 in
theorem gX4_begin_X4_made : GoodIn wsX4_begin (wsV RX4 130 RX4 yX4_made wsX4_made) := goodIn_app (goodIn_of _ (by decide +kernel)) ggX4_begin_X4_made
set_option maxRecDepth 20000 in
theorem ggX4_begin_X5_plainGift : GoodIn wsX4_begin wsX5_plainGift := goodIn_r _ [43] (by decide +kernel) (by decide +kernel)
set_option maxRecDepth 20000 in
theorem gX4_begin_X5_plainGift_n133 : GoodIn wsX4_begin (wsX5_plainGift) := ggX4_begin_X5_plainGift
theorem dX4_begin_0 : decode cX4_begin 0 = .ok (.aload_n 0, 1) := by decide +kernel
theorem dX4_begin_1 : decode cX4_begin 1 = .ok (.getfield 40, 3) := by decide +kernel
theorem dX4_begin_4 : decode cX4_begin 4 = .ok (.sipush 200, 3) := by decide +kernel
theorem dX4_begin_7 : decode cX4_begin 7 = .ok (.if_icmp .lt 10, 3) := by decide +kernel
theorem dX4_begin_10 : decode cX4_begin 10 = .ok (.aload_n 0, 1) := by decide +kernel
theorem dX4_begin_11 : decode cX4_begin 11 = .ok (.iconst 5, 1) := by decide +kernel
theorem dX4_begin_12 : decode cX4_begin 12 = .ok (.iconst (-1), 1) := by decide +kernel
theorem dX4_begin_13 : decode cX4_begin 13 = .ok (.invokevirtual 65, 3) := by decide +kernel
theorem dX4_begin_16 : decode cX4_begin 16 = .ok (.return_, 1) := by decide +kernel
theorem dX4_begin_17 : decode cX4_begin 17 = .ok (.aload_n 0, 1) := by decide +kernel
theorem dX4_begin_18 : decode cX4_begin 18 = .ok (.dup, 1) := by decide +kernel
theorem dX4_begin_19 : decode cX4_begin 19 = .ok (.getfield 40, 3) := by decide +kernel
theorem dX4_begin_22 : decode cX4_begin 22 = .ok (.iconst 1, 1) := by decide +kernel
theorem dX4_begin_23 : decode cX4_begin 23 = .ok (.iadd, 1) := by decide +kernel
theorem dX4_begin_24 : decode cX4_begin 24 = .ok (.putfield 40, 3) := by decide +kernel
theorem dX4_begin_27 : decode cX4_begin 27 = .ok (.iload_n 2, 1) := by decide +kernel
theorem dX4_begin_28 : decode cX4_begin 28 = .ok (.invokestatic 119, 3) := by decide +kernel
theorem dX4_begin_31 : decode cX4_begin 31 = .ok (.ifCond .eq 16, 3) := by decide +kernel
theorem dX4_begin_34 : decode cX4_begin 34 = .ok (.aload_n 0, 1) := by decide +kernel
theorem dX4_begin_35 : decode cX4_begin 35 = .ok (.iload_n 1, 1) := by decide +kernel
theorem dX4_begin_36 : decode cX4_begin 36 = .ok (.iload_n 2, 1) := by decide +kernel
theorem dX4_begin_37 : decode cX4_begin 37 = .ok (.bipush 40, 2) := by decide +kernel
theorem dX4_begin_39 : decode cX4_begin 39 = .ok (.isub, 1) := by decide +kernel
theorem dX4_begin_40 : decode cX4_begin 40 = .ok (.iload_n 3, 1) := by decide +kernel
theorem dX4_begin_41 : decode cX4_begin 41 = .ok (.iconst 1, 1) := by decide +kernel
theorem dX4_begin_42 : decode cX4_begin 42 = .ok (.iadd, 1) := by decide +kernel
theorem dX4_begin_43 : decode cX4_begin 43 = .ok (.invokevirtual 36, 3) := by decide +kernel
theorem dX4_begin_46 : decode cX4_begin 46 = .ok (.return_, 1) := by decide +kernel
theorem dX4_begin_47 : decode cX4_begin 47 = .ok (.iload_n 2, 1) := by decide +kernel
theorem dX4_begin_48 : decode cX4_begin 48 = .ok (.invokestatic 123, 3) := by decide +kernel
theorem dX4_begin_51 : decode cX4_begin 51 = .ok (.istore 4, 2) := by decide +kernel
theorem dX4_begin_53 : decode cX4_begin 53 = .ok (.iload 4, 2) := by decide +kernel
theorem dX4_begin_55 : decode cX4_begin 55 = .ok (.iconst 3, 1) := by decide +kernel
theorem dX4_begin_56 : decode cX4_begin 56 = .ok (.if_icmp .eq 40, 3) := by decide +kernel
theorem dX4_begin_59 : decode cX4_begin 59 = .ok (.iload 4, 2) := by decide +kernel
theorem dX4_begin_61 : decode cX4_begin 61 = .ok (.aload_n 0, 1) := by decide +kernel
theorem dX4_begin_62 : decode cX4_begin 62 = .ok (.getfield 30, 3) := by decide +kernel
theorem dX4_begin_65 : decode cX4_begin 65 = .ok (.if_icmp .eq 31, 3) := by decide +kernel
theorem dX4_begin_68 : decode cX4_begin 68 = .ok (.aload_n 0, 1) := by decide +kernel
theorem dX4_begin_69 : decode cX4_begin 69 = .ok (.iconst 1, 1) := by decide +kernel
theorem dX4_begin_70 : decode cX4_begin 70 = .ok (.aload_n 0, 1) := by decide +kernel
theorem dX4_begin_71 : decode cX4_begin 71 = .ok (.getfield 9, 3) := by decide +kernel
theorem dX4_begin_74 : decode cX4_begin 74 = .ok (.getfield 79, 3) := by decide +kernel
theorem dX4_begin_77 : decode cX4_begin 77 = .ok (.iload_n 1, 1) := by decide +kernel
theorem dX4_begin_78 : decode cX4_begin 78 = .ok (.invokestatic 126, 3) := by decide +kernel
theorem dX4_begin_81 : decode cX4_begin 81 = .ok (.ifCond .eq 10, 3) := by decide +kernel
theorem dX4_begin_84 : decode cX4_begin 84 = .ok (.aload_n 0, 1) := by decide +kernel
theorem dX4_begin_85 : decode cX4_begin 85 = .ok (.getfield 62, 3) := by decide +kernel
theorem dX4_begin_88 : decode cX4_begin 88 = .ok (.goto 4, 3) := by decide +kernel
theorem dX4_begin_91 : decode cX4_begin 91 = .ok (.iload_n 1, 1) := by decide +kernel
theorem dX4_begin_92 : decode cX4_begin 92 = .ok (.invokevirtual 65, 3) := by decide +kernel
theorem dX4_begin_95 : decode cX4_begin 95 = .ok (.return_, 1) := by decide +kernel
theorem dX4_begin_96 : decode cX4_begin 96 = .ok (.aload_n 0, 1) := by decide +kernel
theorem dX4_begin_97 : decode cX4_begin 97 = .ok (.aload_n 0, 1) := by decide +kernel
theorem dX4_begin_98 : decode cX4_begin 98 = .ok (.iload_n 2, 1) := by decide +kernel
theorem dX4_begin_99 : decode cX4_begin 99 = .ok (.invokevirtual 130, 3) := by decide +kernel
theorem dX4_begin_102 : decode cX4_begin 102 = .ok (.putfield 33, 3) := by decide +kernel
theorem dX4_begin_105 : decode cX4_begin 105 = .ok (.aload_n 0, 1) := by decide +kernel
theorem dX4_begin_106 : decode cX4_begin 106 = .ok (.iload_n 2, 1) := by decide +kernel
theorem dX4_begin_107 : decode cX4_begin 107 = .ok (.invokestatic 133, 3) := by decide +kernel
theorem dX4_begin_110 : decode cX4_begin 110 = .ok (.putfield 30, 3) := by decide +kernel
theorem dX4_begin_113 : decode cX4_begin 113 = .ok (.return_, 1) := by decide +kernel
set_option maxRecDepth 20000 in
theorem ggX4_guard_X4_fail : GoodIn wsX4_guard wsX4_fail := goodIn_r _ [11, 12, 13, 14, 15, 16, 17, 18, 19, 20, 21, 22, 23, 24, 25, 26] (by decide +kernel) (by decide +kernel)
set_option maxRecDepth 20000 in
theorem gX4_guard_X4_fail : GoodIn wsX4_guard (wsV RX4 65 RX4 yX4_fail wsX4_fail) := goodIn_app (goodIn_of _ (by decide +kernel)) ggX4_guard_X4_fail
theorem dX4_guard_0 : decode cX4_guard 0 = .ok (.iload_n 1, 1) := by decide +kernel
theorem dX4_guard_1 : decode cX4_guard 1 = .ok (.aload_n 0, 1) := by decide +kernel
theorem dX4_guard_2 : decode cX4_guard 2 = .ok (.getfield 30, 3) := by decide +kernel
theorem dX4_guard_5 : decode cX4_guard 5 = .ok (.if_icmp .ne 7, 3) := by decide +kernel
theorem dX4_guard_8 : decode cX4_guard 8 = .ok (.iconst 1, 1) := by decide +kernel
theorem dX4_guard_9 : decode cX4_guard 9 = .ok (.goto 4, 3) := by decide +kernel
theorem dX4_guard_12 : decode cX4_guard 12 = .ok (.iconst 0, 1) := by decide +kernel
theorem dX4_guard_13 : decode cX4_guard 13 = .ok (.istore 4, 2) := by decide +kernel
theorem dX4_guard_15 : decode cX4_guard 15 = .ok (.aload_n 0, 1) := by decide +kernel
theorem dX4_guard_16 : decode cX4_guard 16 = .ok (.getfield 43, 3) := by decide +kernel
theorem dX4_guard_19 : decode cX4_guard 19 = .ok (.aload_n 0, 1) := by decide +kernel
theorem dX4_guard_20 : decode cX4_guard 20 = .ok (.getfield 26, 3) := by decide +kernel
theorem dX4_guard_23 : decode cX4_guard 23 = .ok (.if_icmp .ge 25, 3) := by decide +kernel
theorem dX4_guard_26 : decode cX4_guard 26 = .ok (.aload_n 0, 1) := by decide +kernel
theorem dX4_guard_27 : decode cX4_guard 27 = .ok (.dup, 1) := by decide +kernel
theorem dX4_guard_28 : decode cX4_guard 28 = .ok (.getfield 43, 3) := by decide +kernel
theorem dX4_guard_31 : decode cX4_guard 31 = .ok (.iconst 1, 1) := by decide +kernel
theorem dX4_guard_32 : decode cX4_guard 32 = .ok (.iadd, 1) := by decide +kernel
theorem dX4_guard_33 : decode cX4_guard 33 = .ok (.putfield 43, 3) := by decide +kernel
theorem dX4_guard_36 : decode cX4_guard 36 = .ok (.iload 4, 2) := by decide +kernel
theorem dX4_guard_38 : decode cX4_guard 38 = .ok (.ifCond .ne 9, 3) := by decide +kernel
theorem dX4_guard_41 : decode cX4_guard 41 = .ok (.aload_n 0, 1) := by decide +kernel
theorem dX4_guard_42 : decode cX4_guard 42 = .ok (.iload_n 2, 1) := by decide +kernel
theorem dX4_guard_43 : decode cX4_guard 43 = .ok (.iload_n 3, 1) := by decide +kernel
theorem dX4_guard_44 : decode cX4_guard 44 = .ok (.invokevirtual 65, 3) := by decide +kernel
theorem dX4_guard_47 : decode cX4_guard 47 = .ok (.return_, 1) := by decide +kernel
theorem dX4_guard_48 : decode cX4_guard 48 = .ok (.aload_n 0, 1) := by decide +kernel
theorem dX4_guard_49 : decode cX4_guard 49 = .ok (.dup, 1) := by decide +kernel
theorem dX4_guard_50 : decode cX4_guard 50 = .ok (.getfield 46, 3) := by decide +kernel
theorem dX4_guard_53 : decode cX4_guard 53 = .ok (.iconst 1, 1) := by decide +kernel
theorem dX4_guard_54 : decode cX4_guard 54 = .ok (.iadd, 1) := by decide +kernel
theorem dX4_guard_55 : decode cX4_guard 55 = .ok (.putfield 46, 3) := by decide +kernel
theorem dX4_guard_58 : decode cX4_guard 58 = .ok (.iload 4, 2) := by decide +kernel
theorem dX4_guard_60 : decode cX4_guard 60 = .ok (.ifCond .ne 20, 3) := by decide +kernel
theorem dX4_guard_63 : decode cX4_guard 63 = .ok (.aload_n 0, 1) := by decide +kernel
theorem dX4_guard_64 : decode cX4_guard 64 = .ok (.getfield 58, 3) := by decide +kernel
theorem dX4_guard_67 : decode cX4_guard 67 = .ok (.ifCond .ne 13, 3) := by decide +kernel
theorem dX4_guard_70 : decode cX4_guard 70 = .ok (.aload_n 0, 1) := by decide +kernel
theorem dX4_guard_71 : decode cX4_guard 71 = .ok (.iconst 1, 1) := by decide +kernel
theorem dX4_guard_72 : decode cX4_guard 72 = .ok (.putfield 58, 3) := by decide +kernel
theorem dX4_guard_75 : decode cX4_guard 75 = .ok (.aload_n 0, 1) := by decide +kernel
theorem dX4_guard_76 : decode cX4_guard 76 = .ok (.iload_n 3, 1) := by decide +kernel
theorem dX4_guard_77 : decode cX4_guard 77 = .ok (.putfield 62, 3) := by decide +kernel
theorem dX4_guard_80 : decode cX4_guard 80 = .ok (.return_, 1) := by decide +kernel
theorem dX4_fail_0 : decode cX4_fail 0 = .ok (.aload_n 0, 1) := by decide +kernel
theorem dX4_fail_1 : decode cX4_fail 1 = .ok (.iload_n 1, 1) := by decide +kernel
theorem dX4_fail_2 : decode cX4_fail 2 = .ok (.putfield 52, 3) := by decide +kernel
theorem dX4_fail_5 : decode cX4_fail 5 = .ok (.aload_n 0, 1) := by decide +kernel
theorem dX4_fail_6 : decode cX4_fail 6 = .ok (.iload_n 2, 1) := by decide +kernel
theorem dX4_fail_7 : decode cX4_fail 7 = .ok (.putfield 55, 3) := by decide +kernel
theorem dX4_fail_10 : decode cX4_fail 10 = .ok (.return_, 1) := by decide +kernel
set_option maxRecDepth 20000 in
theorem ggX4_made_X4_shownLength : GoodIn wsX4_made wsX4_shownLength := goodIn_r _ [13, 14, 1, 15, 16, 4, 17, 18, 19, 20, 21, 22, 23, 24, 25, 26, 27, 28, 29, 30] (by decide +kernel) (by decide +kernel)
set_option maxRecDepth 20000 in
theorem gX4_made_X4_shownLength : GoodIn wsX4_made (wsV RX4 136 RX4 yX4_shownLength wsX4_shownLength) := goodIn_app (goodIn_of _ (by decide +kernel)) ggX4_made_X4_shownLength
theorem dX4_made_0 : decode cX4_made 0 = .ok (.iload_n 1, 1) := by decide +kernel
theorem dX4_made_1 : decode cX4_made 1 = .ok (.tableswitch 78 20 24 #[35, 40, 45, 58, 65], 35) := by decide +kernel
theorem dX4_made_36 : decode cX4_made 36 = .ok (.aload_n 0, 1) := by decide +kernel
theorem dX4_made_37 : decode cX4_made 37 = .ok (.getfield 33, 3) := by decide +kernel
theorem dX4_made_40 : decode cX4_made 40 = .ok (.ireturn, 1) := by decide +kernel
theorem dX4_made_41 : decode cX4_made 41 = .ok (.aload_n 0, 1) := by decide +kernel
theorem dX4_made_42 : decode cX4_made 42 = .ok (.invokevirtual 136, 3) := by decide +kernel
theorem dX4_made_45 : decode cX4_made 45 = .ok (.ireturn, 1) := by decide +kernel
theorem dX4_made_46 : decode cX4_made 46 = .ok (.aload_n 0, 1) := by decide +kernel
theorem dX4_made_47 : decode cX4_made 47 = .ok (.getfield 33, 3) := by decide +kernel
theorem dX4_made_50 : decode cX4_made 50 = .ok (.ifCond .le 7, 3) := by decide +kernel
theorem dX4_made_53 : decode cX4_made 53 = .ok (.iconst 1, 1) := by decide +kernel
theorem dX4_made_54 : decode cX4_made 54 = .ok (.goto 4, 3) := by decide +kernel
theorem dX4_made_57 : decode cX4_made 57 = .ok (.iconst 0, 1) := by decide +kernel
theorem dX4_made_58 : decode cX4_made 58 = .ok (.ireturn, 1) := by decide +kernel
theorem dX4_made_59 : decode cX4_made 59 = .ok (.iconst 1, 1) := by decide +kernel
theorem dX4_made_60 : decode cX4_made 60 = .ok (.aload_n 0, 1) := by decide +kernel
theorem dX4_made_61 : decode cX4_made 61 = .ok (.getfield 33, 3) := by decide +kernel
theorem dX4_made_64 : decode cX4_made 64 = .ok (.isub, 1) := by decide +kernel
theorem dX4_made_65 : decode cX4_made 65 = .ok (.ireturn, 1) := by decide +kernel
theorem dX4_made_66 : decode cX4_made 66 = .ok (.sipush (-999), 3) := by decide +kernel
theorem dX4_made_69 : decode cX4_made 69 = .ok (.aload_n 0, 1) := by decide +kernel
theorem dX4_made_70 : decode cX4_made 70 = .ok (.getfield 33, 3) := by decide +kernel
theorem dX4_made_73 : decode cX4_made 73 = .ok (.iconst 5, 1) := by decide +kernel
theorem dX4_made_74 : decode cX4_made 74 = .ok (.isub, 1) := by decide +kernel
theorem dX4_made_75 : decode cX4_made 75 = .ok (.invokestatic 69, 3) := by decide +kernel
theorem dX4_made_78 : decode cX4_made 78 = .ok (.ireturn, 1) := by decide +kernel
theorem dX4_made_79 : decode cX4_made 79 = .ok (.sipush 999, 3) := by decide +kernel
theorem dX4_made_82 : decode cX4_made 82 = .ok (.aload_n 0, 1) := by decide +kernel
theorem dX4_made_83 : decode cX4_made 83 = .ok (.getfield 33, 3) := by decide +kernel
theorem dX4_made_86 : decode cX4_made 86 = .ok (.iload_n 1, 1) := by decide +kernel
theorem dX4_made_87 : decode cX4_made 87 = .ok (.iadd, 1) := by decide +kernel
theorem dX4_made_88 : decode cX4_made 88 = .ok (.invokestatic 140, 3) := by decide +kernel
theorem dX4_made_91 : decode cX4_made 91 = .ok (.ireturn, 1) := by decide +kernel
theorem dX4_shownLength_0 : decode cX4_shownLength 0 = .ok (.aload_n 0, 1) := by decide +kernel
theorem dX4_shownLength_1 : decode cX4_shownLength 1 = .ok (.getfield 30, 3) := by decide +kernel
theorem dX4_shownLength_4 : decode cX4_shownLength 4 = .ok (.iconst 1, 1) := by decide +kernel
theorem dX4_shownLength_5 : decode cX4_shownLength 5 = .ok (.if_icmp .ne 8, 3) := by decide +kernel
theorem dX4_shownLength_8 : decode cX4_shownLength 8 = .ok (.aload_n 0, 1) := by decide +kernel
theorem dX4_shownLength_9 : decode cX4_shownLength 9 = .ok (.getfield 33, 3) := by decide +kernel
theorem dX4_shownLength_12 : decode cX4_shownLength 12 = .ok (.ireturn, 1) := by decide +kernel
theorem dX4_shownLength_13 : decode cX4_shownLength 13 = .ok (.aload_n 0, 1) := by decide +kernel
theorem dX4_shownLength_14 : decode cX4_shownLength 14 = .ok (.getfield 30, 3) := by decide +kernel
theorem dX4_shownLength_17 : decode cX4_shownLength 17 = .ok (.iconst 2, 1) := by decide +kernel
theorem dX4_shownLength_18 : decode cX4_shownLength 18 = .ok (.if_icmp .ne 17, 3) := by decide +kernel
theorem dX4_shownLength_21 : decode cX4_shownLength 21 = .ok (.aload_n 0, 1) := by decide +kernel
theorem dX4_shownLength_22 : decode cX4_shownLength 22 = .ok (.getfield 33, 3) := by decide +kernel
theorem dX4_shownLength_25 : decode cX4_shownLength 25 = .ok (.iconst 1, 1) := by decide +kernel
theorem dX4_shownLength_26 : decode cX4_shownLength 26 = .ok (.if_icmp .ne 7, 3) := by decide +kernel
theorem dX4_shownLength_29 : decode cX4_shownLength 29 = .ok (.iconst 4, 1) := by decide +kernel
theorem dX4_shownLength_30 : decode cX4_shownLength 30 = .ok (.goto 4, 3) := by decide +kernel
theorem dX4_shownLength_33 : decode cX4_shownLength 33 = .ok (.iconst 5, 1) := by decide +kernel
theorem dX4_shownLength_34 : decode cX4_shownLength 34 = .ok (.ireturn, 1) := by decide +kernel
theorem dX4_shownLength_35 : decode cX4_shownLength 35 = .ok (.aload_n 0, 1) := by decide +kernel
theorem dX4_shownLength_36 : decode cX4_shownLength 36 = .ok (.getfield 33, 3) := by decide +kernel
theorem dX4_shownLength_39 : decode cX4_shownLength 39 = .ok (.invokestatic 143, 3) := by decide +kernel
theorem dX4_shownLength_42 : decode cX4_shownLength 42 = .ok (.bipush 10, 2) := by decide +kernel
theorem dX4_shownLength_44 : decode cX4_shownLength 44 = .ok (.if_icmp .ge 7, 3) := by decide +kernel
theorem dX4_shownLength_47 : decode cX4_shownLength 47 = .ok (.iconst 1, 1) := by decide +kernel
theorem dX4_shownLength_48 : decode cX4_shownLength 48 = .ok (.goto 20, 3) := by decide +kernel
theorem dX4_shownLength_51 : decode cX4_shownLength 51 = .ok (.aload_n 0, 1) := by decide +kernel
theorem dX4_shownLength_52 : decode cX4_shownLength 52 = .ok (.getfield 33, 3) := by decide +kernel
theorem dX4_shownLength_55 : decode cX4_shownLength 55 = .ok (.invokestatic 143, 3) := by decide +kernel
theorem dX4_shownLength_58 : decode cX4_shownLength 58 = .ok (.bipush 100, 2) := by decide +kernel
theorem dX4_shownLength_60 : decode cX4_shownLength 60 = .ok (.if_icmp .ge 7, 3) := by decide +kernel
theorem dX4_shownLength_63 : decode cX4_shownLength 63 = .ok (.iconst 2, 1) := by decide +kernel
theorem dX4_shownLength_64 : decode cX4_shownLength 64 = .ok (.goto 4, 3) := by decide +kernel
theorem dX4_shownLength_67 : decode cX4_shownLength 67 = .ok (.iconst 3, 1) := by decide +kernel
theorem dX4_shownLength_68 : decode cX4_shownLength 68 = .ok (.istore_n 1, 1) := by decide +kernel
theorem dX4_shownLength_69 : decode cX4_shownLength 69 = .ok (.aload_n 0, 1) := by decide +kernel
theorem dX4_shownLength_70 : decode cX4_shownLength 70 = .ok (.getfield 33, 3) := by decide +kernel
theorem dX4_shownLength_73 : decode cX4_shownLength 73 = .ok (.ifCond .ge 9, 3) := by decide +kernel
theorem dX4_shownLength_76 : decode cX4_shownLength 76 = .ok (.iload_n 1, 1) := by decide +kernel
theorem dX4_shownLength_77 : decode cX4_shownLength 77 = .ok (.iconst 1, 1) := by decide +kernel
theorem dX4_shownLength_78 : decode cX4_shownLength 78 = .ok (.iadd, 1) := by decide +kernel
theorem dX4_shownLength_79 : decode cX4_shownLength 79 = .ok (.goto 4, 3) := by decide +kernel
theorem dX4_shownLength_82 : decode cX4_shownLength 82 = .ok (.iload_n 1, 1) := by decide +kernel
theorem dX4_shownLength_83 : decode cX4_shownLength 83 = .ok (.ireturn, 1) := by decide +kernel
set_option maxRecDepth 20000 in
theorem ggX5_init_X3_init : GoodIn wsX5_init wsX3_init := goodIn_r _ [19, 20, 2, 3, 21, 22, 23, 24, 25, 26, 27, 28, 29, 30, 31, 32, 33, 34, 35, 36, 37, 38, 39, 57, 58, 59, 60, 61, 85, 86, 87, 88, 89, 90, 91] (by decide +kernel) (by decide +kernel)
set_option maxRecDepth 20000 in
theorem gX5_init_X3_init : GoodIn wsX5_init (wsX3_init) := ggX5_init_X3_init
set_option maxRecDepth 20000 in
theorem ggX5_init_X4_init : GoodIn wsX5_init wsX4_init := goodIn_r _ [42, 43, 2, 3, 44, 45, 46, 47, 48, 49, 33, 66, 67, 68, 69, 70, 71, 72, 73, 74, 75, 76, 77, 78] (by decide +kernel) (by decide +kernel)
set_option maxRecDepth 20000 in
theorem gX5_init_X4_init : GoodIn wsX5_init (wsX4_init) := ggX5_init_X4_init
set_option maxRecDepth 20000 in
theorem ggX5_init_X0_init : GoodIn wsX5_init wsX0_init := goodIn_r _ [52, 53, 2, 3, 54, 33, 55, 56, 46, 47, 48, 49, 79, 80, 81, 82, 83, 84] (by decide +kernel) (by decide +kernel)
set_option maxRecDepth 20000 in
theorem gX5_init_X0_init : GoodIn wsX5_init (wsX0_init) := ggX5_init_X0_init
theorem dX5_init_0 : decode cX5_init 0 = .ok (.aload_n 0, 1) := by decide +kernel
theorem dX5_init_1 : decode cX5_init 1 = .ok (.invokespecial 1, 3) := by decide +kernel
theorem dX5_init_4 : decode cX5_init 4 = .ok (.aload_n 0, 1) := by decide +kernel
theorem dX5_init_5 : decode cX5_init 5 = .ok (.new 7, 3) := by decide +kernel
theorem dX5_init_8 : decode cX5_init 8 = .ok (.dup, 1) := by decide +kernel
theorem dX5_init_9 : decode cX5_init 9 = .ok (.invokespecial 9, 3) := by decide +kernel
theorem dX5_init_12 : decode cX5_init 12 = .ok (.putfield 10, 3) := by decide +kernel
theorem dX5_init_15 : decode cX5_init 15 = .ok (.aload_n 0, 1) := by decide +kernel
theorem dX5_init_16 : decode cX5_init 16 = .ok (.new 16, 3) := by decide +kernel
theorem dX5_init_19 : decode cX5_init 19 = .ok (.dup, 1) := by decide +kernel
theorem dX5_init_20 : decode cX5_init 20 = .ok (.aload_n 0, 1) := by decide +kernel
theorem dX5_init_21 : decode cX5_init 21 = .ok (.getfield 10, 3) := by decide +kernel
theorem dX5_init_24 : decode cX5_init 24 = .ok (.invokespecial 18, 3) := by decide +kernel
theorem dX5_init_27 : decode cX5_init 27 = .ok (.putfield 21, 3) := by decide +kernel
theorem dX5_init_30 : decode cX5_init 30 = .ok (.aload_n 0, 1) := by decide +kernel
theorem dX5_init_31 : decode cX5_init 31 = .ok (.new 25, 3) := by decide +kernel
theorem dX5_init_34 : decode cX5_init 34 = .ok (.dup, 1) := by decide +kernel
theorem dX5_init_35 : decode cX5_init 35 = .ok (.invokespecial 27, 3) := by decide +kernel
theorem dX5_init_38 : decode cX5_init 38 = .ok (.putfield 28, 3) := by decide +kernel
theorem dX5_init_41 : decode cX5_init 41 = .ok (.aload_n 0, 1) := by decide +kernel
theorem dX5_init_42 : decode cX5_init 42 = .ok (.bipush 20, 2) := by decide +kernel
theorem dX5_init_44 : decode cX5_init 44 = .ok (.putfield 32, 3) := by decide +kernel
theorem dX5_init_47 : decode cX5_init 47 = .ok (.return_, 1) := by decide +kernel
theorem dX5_function_0 : decode cX5_function 0 = .ok (.aload_n 0, 1) := by decide +kernel
theorem dX5_function_1 : decode cX5_function 1 = .ok (.getfield 10, 3) := by decide +kernel
theorem dX5_function_4 : decode cX5_function 4 = .ok (.getfield 36, 3) := by decide +kernel
theorem dX5_function_7 : decode cX5_function 7 = .ok (.bipush 10, 2) := by decide +kernel
theorem dX5_function_9 : decode cX5_function 9 = .ok (.if_icmp .lt 13, 3) := by decide +kernel
theorem dX5_function_12 : decode cX5_function 12 = .ok (.new 39, 3) := by decide +kernel
theorem dX5_function_15 : decode cX5_function 15 = .ok (.dup, 1) := by decide +kernel
theorem dX5_function_16 : decode cX5_function 16 = .ok (.ldc 41, 2) := by decide +kernel
theorem dX5_function_18 : decode cX5_function 18 = .ok (.invokespecial 43, 3) := by decide +kernel
theorem dX5_function_21 : decode cX5_function 21 = .ok (.athrow, 1) := by decide +kernel
theorem dX5_function_22 : decode cX5_function 22 = .ok (.aload_n 0, 1) := by decide +kernel
theorem dX5_function_23 : decode cX5_function 23 = .ok (.getfield 10, 3) := by decide +kernel
theorem dX5_function_26 : decode cX5_function 26 = .ok (.dup, 1) := by decide +kernel
theorem dX5_function_27 : decode cX5_function 27 = .ok (.getfield 36, 3) := by decide +kernel
theorem dX5_function_30 : decode cX5_function 30 = .ok (.iconst 1, 1) := by decide +kernel
theorem dX5_function_31 : decode cX5_function 31 = .ok (.iadd, 1) := by decide +kernel
theorem dX5_function_32 : decode cX5_function 32 = .ok (.putfield 36, 3) := by decide +kernel
theorem dX5_function_35 : decode cX5_function 35 = .ok (.aload_n 0, 1) := by decide +kernel
theorem dX5_function_36 : decode cX5_function 36 = .ok (.getfield 10, 3) := by decide +kernel
theorem dX5_function_39 : decode cX5_function 39 = .ok (.getfield 36, 3) := by decide +kernel
theorem dX5_function_42 : decode cX5_function 42 = .ok (.iconst 1, 1) := by decide +kernel
theorem dX5_function_43 : decode cX5_function 43 = .ok (.isub, 1) := by decide +kernel
theorem dX5_function_44 : decode cX5_function 44 = .ok (.ireturn, 1) := by decide +kernel
set_option maxRecDepth 20000 in
theorem ggX5_step_X5_requireFunction : GoodIn wsX5_step wsX5_requireFunction := goodIn_ca (goodIn_r _ [13, 14, 15, 5, 16, 90, 91, 92, 93, 94, 95, 96, 97, 98] (by decide +kernel) (by decide +kernel)) (goodIn_sub (fun _ h => List.mem_cons_of_mem _ (List.mem_append_right _ h)) (by decide +kernel))
set_option maxRecDepth 20000 in
theorem gX5_step_X5_requireFunction : GoodIn wsX5_step (wsV RX5 46 RX5 yX5_requireFunction wsX5_requireFunction) := goodIn_app (goodIn_of _ (by decide +kernel)) ggX5_step_X5_requireFunction
set_option maxRecDepth 20000 in
theorem ggX5_step_X3_isStep : GoodIn wsX5_step wsX3_isStep := goodIn_r _ [21, 22, 94, 95, 96, 97, 98] (by decide +kernel) (by decide +kernel)
set_option maxRecDepth 20000 in
theorem gX5_step_X3_isStep : GoodIn wsX5_step (wsV RX5 50 RX3 yX3_isStep wsX3_isStep) := goodIn_app (goodIn_of _ (by decide +kernel)) ggX5_step_X3_isStep
set_option maxRecDepth 20000 in
theorem ggX5_step_X3_afterStepsChanged : GoodIn wsX5_step wsX3_afterStepsChanged := goodIn_r _ [26, 27, 28, 29, 30, 20, 31, 32, 33, 34, 35, 36, 37, 38, 39, 40, 22, 41, 42, 43, 44, 45, 46, 47, 48, 49, 50, 51, 52, 53, 54, 55, 56, 57, 58, 59, 60, 61, 62, 63, 12, 64, 65, 66, 67, 68, 69, 70, 71, 72, 73, 74, 75, 76, 77, 78, 79, 80, 81, 82, 83, 84, 85, 86, 87, 88, 89, 94, 95, 96, 97, 98, 99, 100, 101, 102, 103, 104, 105] (by decide +kernel) (by decide +kernel)
set_option maxRecDepth 20000 in
theorem gX5_step_X3_afterStepsChanged : GoodIn wsX5_step (wsV RX5 72 RX3 yX3_afterStepsChanged wsX3_afterStepsChanged) := goodIn_app (goodIn_of _ (by decide +kernel)) ggX5_step_X3_afterStepsChanged
theorem dX5_step_0 : decode cX5_step 0 = .ok (.aload_n 0, 1) := by decide +kernel
theorem dX5_step_1 : decode cX5_step 1 = .ok (.iload_n 1, 1) := by decide +kernel
theorem dX5_step_2 : decode cX5_step 2 = .ok (.invokevirtual 46, 3) := by decide +kernel
theorem dX5_step_5 : decode cX5_step 5 = .ok (.aload_n 0, 1) := by decide +kernel
theorem dX5_step_6 : decode cX5_step 6 = .ok (.getfield 10, 3) := by decide +kernel
theorem dX5_step_9 : decode cX5_step 9 = .ok (.iload_n 2, 1) := by decide +kernel
theorem dX5_step_10 : decode cX5_step 10 = .ok (.invokevirtual 50, 3) := by decide +kernel
theorem dX5_step_13 : decode cX5_step 13 = .ok (.ifCond .ne 13, 3) := by decide +kernel
theorem dX5_step_16 : decode cX5_step 16 = .ok (.new 54, 3) := by decide +kernel
theorem dX5_step_19 : decode cX5_step 19 = .ok (.dup, 1) := by decide +kernel
theorem dX5_step_20 : decode cX5_step 20 = .ok (.ldc 56, 2) := by decide +kernel
theorem dX5_step_22 : decode cX5_step 22 = .ok (.invokespecial 58, 3) := by decide +kernel
theorem dX5_step_25 : decode cX5_step 25 = .ok (.athrow, 1) := by decide +kernel
theorem dX5_step_26 : decode cX5_step 26 = .ok (.aload_n 0, 1) := by decide +kernel
theorem dX5_step_27 : decode cX5_step 27 = .ok (.getfield 10, 3) := by decide +kernel
theorem dX5_step_30 : decode cX5_step 30 = .ok (.getfield 59, 3) := by decide +kernel
theorem dX5_step_33 : decode cX5_step 33 = .ok (.iload_n 1, 1) := by decide +kernel
theorem dX5_step_34 : decode cX5_step 34 = .ok (.aaload, 1) := by decide +kernel
theorem dX5_step_35 : decode cX5_step 35 = .ok (.astore_n 3, 1) := by decide +kernel
theorem dX5_step_36 : decode cX5_step 36 = .ok (.aload_n 3, 1) := by decide +kernel
theorem dX5_step_37 : decode cX5_step 37 = .ok (.getfield 63, 3) := by decide +kernel
theorem dX5_step_40 : decode cX5_step 40 = .ok (.bipush 6, 2) := by decide +kernel
theorem dX5_step_42 : decode cX5_step 42 = .ok (.if_icmp .lt 13, 3) := by decide +kernel
theorem dX5_step_45 : decode cX5_step 45 = .ok (.new 39, 3) := by decide +kernel
theorem dX5_step_48 : decode cX5_step 48 = .ok (.dup, 1) := by decide +kernel
theorem dX5_step_49 : decode cX5_step 49 = .ok (.ldc 66, 2) := by decide +kernel
theorem dX5_step_51 : decode cX5_step 51 = .ok (.invokespecial 43, 3) := by decide +kernel
theorem dX5_step_54 : decode cX5_step 54 = .ok (.athrow, 1) := by decide +kernel
theorem dX5_step_55 : decode cX5_step 55 = .ok (.aload_n 3, 1) := by decide +kernel
theorem dX5_step_56 : decode cX5_step 56 = .ok (.getfield 68, 3) := by decide +kernel
theorem dX5_step_59 : decode cX5_step 59 = .ok (.aload_n 3, 1) := by decide +kernel
theorem dX5_step_60 : decode cX5_step 60 = .ok (.getfield 63, 3) := by decide +kernel
theorem dX5_step_63 : decode cX5_step 63 = .ok (.iload_n 2, 1) := by decide +kernel
theorem dX5_step_64 : decode cX5_step 64 = .ok (.iastore, 1) := by decide +kernel
theorem dX5_step_65 : decode cX5_step 65 = .ok (.aload_n 3, 1) := by decide +kernel
theorem dX5_step_66 : decode cX5_step 66 = .ok (.dup, 1) := by decide +kernel
theorem dX5_step_67 : decode cX5_step 67 = .ok (.getfield 63, 3) := by decide +kernel
theorem dX5_step_70 : decode cX5_step 70 = .ok (.iconst 1, 1) := by decide +kernel
theorem dX5_step_71 : decode cX5_step 71 = .ok (.iadd, 1) := by decide +kernel
theorem dX5_step_72 : decode cX5_step 72 = .ok (.putfield 63, 3) := by decide +kernel
theorem dX5_step_75 : decode cX5_step 75 = .ok (.aload_n 0, 1) := by decide +kernel
theorem dX5_step_76 : decode cX5_step 76 = .ok (.getfield 10, 3) := by decide +kernel
theorem dX5_step_79 : decode cX5_step 79 = .ok (.invokevirtual 72, 3) := by decide +kernel
theorem dX5_step_82 : decode cX5_step 82 = .ok (.aload_n 3, 1) := by decide +kernel
theorem dX5_step_83 : decode cX5_step 83 = .ok (.getfield 63, 3) := by decide +kernel
theorem dX5_step_86 : decode cX5_step 86 = .ok (.ireturn, 1) := by decide +kernel
set_option maxRecDepth 20000 in
theorem ggX5_unstep_X5_requireFunction : GoodIn wsX5_unstep wsX5_requireFunction := goodIn_ca (goodIn_r _ [11, 12, 13, 3, 14, 84, 85, 86, 87, 88, 89, 90, 91, 92] (by decide +kernel) (by decide +kernel)) (goodIn_sub (fun _ h => List.mem_cons_of_mem _ (List.mem_append_right _ h)) (by decide +kernel))
set_option maxRecDepth 20000 in
theorem gX5_unstep_X5_requireFunction : GoodIn wsX5_unstep (wsV RX5 46 RX5 yX5_requireFunction wsX5_requireFunction) := goodIn_app (goodIn_of _ (by decide +kernel)) ggX5_unstep_X5_requireFunction
set_option maxRecDepth 20000 in
theorem ggX5_unstep_X3_afterStepsChanged : GoodIn wsX5_unstep wsX3_afterStepsChanged := goodIn_r _ [19, 20, 21, 22, 23, 18, 24, 25, 26, 27, 28, 29, 30, 31, 32, 33, 34, 35, 36, 37, 38, 39, 40, 41, 42, 43, 44, 45, 46, 47, 48, 49, 50, 51, 52, 53, 54, 55, 56, 57, 10, 58, 59, 60, 61, 62, 63, 64, 65, 66, 67, 68, 69, 70, 71, 72, 73, 74, 75, 76, 77, 78, 79, 80, 81, 82, 83, 88, 89, 90, 91, 92, 93, 94, 95, 96, 97, 98, 99] (by decide +kernel) (by decide +kernel)
set_option maxRecDepth 20000 in
theorem gX5_unstep_X3_afterStepsChanged : GoodIn wsX5_unstep (wsV RX5 72 RX3 yX3_afterStepsChanged wsX3_afterStepsChanged) := goodIn_app (goodIn_of _ (by decide +kernel)) ggX5_unstep_X3_afterStepsChanged
theorem dX5_unstep_0 : decode cX5_unstep 0 = .ok (.aload_n 0, 1) := by decide +kernel
theorem dX5_unstep_1 : decode cX5_unstep 1 = .ok (.iload_n 1, 1) := by decide +kernel
theorem dX5_unstep_2 : decode cX5_unstep 2 = .ok (.invokevirtual 46, 3) := by decide +kernel
theorem dX5_unstep_5 : decode cX5_unstep 5 = .ok (.aload_n 0, 1) := by decide +kernel
theorem dX5_unstep_6 : decode cX5_unstep 6 = .ok (.getfield 10, 3) := by decide +kernel
theorem dX5_unstep_9 : decode cX5_unstep 9 = .ok (.getfield 59, 3) := by decide +kernel
theorem dX5_unstep_12 : decode cX5_unstep 12 = .ok (.iload_n 1, 1) := by decide +kernel
theorem dX5_unstep_13 : decode cX5_unstep 13 = .ok (.aaload, 1) := by decide +kernel
theorem dX5_unstep_14 : decode cX5_unstep 14 = .ok (.astore_n 2, 1) := by decide +kernel
theorem dX5_unstep_15 : decode cX5_unstep 15 = .ok (.aload_n 2, 1) := by decide +kernel
theorem dX5_unstep_16 : decode cX5_unstep 16 = .ok (.getfield 63, 3) := by decide +kernel
theorem dX5_unstep_19 : decode cX5_unstep 19 = .ok (.ifCond .gt 13, 3) := by decide +kernel
theorem dX5_unstep_22 : decode cX5_unstep 22 = .ok (.new 39, 3) := by decide +kernel
theorem dX5_unstep_25 : decode cX5_unstep 25 = .ok (.dup, 1) := by decide +kernel
theorem dX5_unstep_26 : decode cX5_unstep 26 = .ok (.ldc 75, 2) := by decide +kernel
theorem dX5_unstep_28 : decode cX5_unstep 28 = .ok (.invokespecial 43, 3) := by decide +kernel
theorem dX5_unstep_31 : decode cX5_unstep 31 = .ok (.athrow, 1) := by decide +kernel
theorem dX5_unstep_32 : decode cX5_unstep 32 = .ok (.aload_n 2, 1) := by decide +kernel
theorem dX5_unstep_33 : decode cX5_unstep 33 = .ok (.dup, 1) := by decide +kernel
theorem dX5_unstep_34 : decode cX5_unstep 34 = .ok (.getfield 63, 3) := by decide +kernel
theorem dX5_unstep_37 : decode cX5_unstep 37 = .ok (.iconst 1, 1) := by decide +kernel
theorem dX5_unstep_38 : decode cX5_unstep 38 = .ok (.isub, 1) := by decide +kernel
theorem dX5_unstep_39 : decode cX5_unstep 39 = .ok (.putfield 63, 3) := by decide +kernel
theorem dX5_unstep_42 : decode cX5_unstep 42 = .ok (.aload_n 0, 1) := by decide +kernel
theorem dX5_unstep_43 : decode cX5_unstep 43 = .ok (.getfield 10, 3) := by decide +kernel
theorem dX5_unstep_46 : decode cX5_unstep 46 = .ok (.invokevirtual 72, 3) := by decide +kernel
theorem dX5_unstep_49 : decode cX5_unstep 49 = .ok (.aload_n 2, 1) := by decide +kernel
theorem dX5_unstep_50 : decode cX5_unstep 50 = .ok (.getfield 68, 3) := by decide +kernel
theorem dX5_unstep_53 : decode cX5_unstep 53 = .ok (.aload_n 2, 1) := by decide +kernel
theorem dX5_unstep_54 : decode cX5_unstep 54 = .ok (.getfield 63, 3) := by decide +kernel
theorem dX5_unstep_57 : decode cX5_unstep 57 = .ok (.iaload, 1) := by decide +kernel
theorem dX5_unstep_58 : decode cX5_unstep 58 = .ok (.ireturn, 1) := by decide +kernel
set_option maxRecDepth 20000 in
theorem ggX5_hint_X5_requireFunction : GoodIn wsX5_hint wsX5_requireFunction := goodIn_ca (goodIn_r _ [6, 7, 8, 1, 9, 95, 96, 97, 98, 99, 100, 101, 102, 103] (by decide +kernel) (by decide +kernel)) (goodIn_sub (fun _ h => List.mem_cons_of_mem _ (List.mem_append_left _ (List.mem_append_right _ h))) (by decide +kernel))
set_option maxRecDepth 20000 in
theorem gX5_hint_X5_requireFunction : GoodIn wsX5_hint (wsV RX5 46 RX5 yX5_requireFunction wsX5_requireFunction) := goodIn_app (goodIn_of _ (by decide +kernel)) ggX5_hint_X5_requireFunction
set_option maxRecDepth 20000 in
theorem ggX5_hint_X5_requireHints : GoodIn wsX5_hint wsX5_requireHints := goodIn_ca (goodIn_r _ [12, 13, 14] (by decide +kernel) (by decide +kernel)) (goodIn_sub (fun _ h => List.mem_cons_of_mem _ (List.mem_append_right _ h)) (by decide +kernel))
set_option maxRecDepth 20000 in
theorem gX5_hint_X5_requireHints : GoodIn wsX5_hint (va_wsS RX5 77 yX5_requireHints wsX5_requireHints) := goodIn_app (goodIn_of _ (by decide +kernel)) ggX5_hint_X5_requireHints
set_option maxRecDepth 20000 in
theorem ggX5_hint_X3_changeHints : GoodIn wsX5_hint wsX3_changeHints := goodIn_r _ [19, 20, 21, 22, 23, 24, 25, 26, 18, 27, 28, 29, 30, 31, 32, 33, 34, 35, 99, 100, 101, 102, 103, 104, 105, 106, 107] (by decide +kernel) (by decide +kernel)
set_option maxRecDepth 20000 in
theorem gX5_hint_X3_changeHints : GoodIn wsX5_hint (wsV RX5 81 RX3 yX3_changeHints wsX3_changeHints) := goodIn_app (goodIn_of _ (by decide +kernel)) ggX5_hint_X3_changeHints
set_option maxRecDepth 20000 in
theorem ggX5_hint_X3_dropUntypable : GoodIn wsX5_hint wsX3_dropUntypable := goodIn_r _ [39, 40, 41, 42, 43, 18, 44, 45, 46, 47, 48, 28, 49, 50, 51, 52, 20, 53, 21, 54, 55, 22, 56, 57, 58, 59, 60, 61, 62, 63, 64, 65, 66, 67, 68, 5, 69, 70, 71, 72, 73, 74, 75, 76, 77, 78, 79, 80, 81, 82, 83, 84, 85, 86, 87, 88, 89, 90, 91, 92, 93, 94, 99, 100, 101, 102, 103, 104, 105, 106, 107, 108, 109, 110] (by decide +kernel) (by decide +kernel)
set_option maxRecDepth 20000 in
theorem gX5_hint_X3_dropUntypable : GoodIn wsX5_hint (wsV RX5 85 RX3 yX3_dropUntypable wsX3_dropUntypable) := goodIn_app (goodIn_of _ (by decide +kernel)) ggX5_hint_X3_dropUntypable
theorem dX5_hint_0 : decode cX5_hint 0 = .ok (.aload_n 0, 1) := by decide +kernel
theorem dX5_hint_1 : decode cX5_hint 1 = .ok (.iload_n 1, 1) := by decide +kernel
theorem dX5_hint_2 : decode cX5_hint 2 = .ok (.invokevirtual 46, 3) := by decide +kernel
theorem dX5_hint_5 : decode cX5_hint 5 = .ok (.iload_n 2, 1) := by decide +kernel
theorem dX5_hint_6 : decode cX5_hint 6 = .ok (.iload_n 3, 1) := by decide +kernel
theorem dX5_hint_7 : decode cX5_hint 7 = .ok (.invokestatic 77, 3) := by decide +kernel
theorem dX5_hint_10 : decode cX5_hint 10 = .ok (.aload_n 0, 1) := by decide +kernel
theorem dX5_hint_11 : decode cX5_hint 11 = .ok (.getfield 10, 3) := by decide +kernel
theorem dX5_hint_14 : decode cX5_hint 14 = .ok (.iload_n 1, 1) := by decide +kernel
theorem dX5_hint_15 : decode cX5_hint 15 = .ok (.iload_n 2, 1) := by decide +kernel
theorem dX5_hint_16 : decode cX5_hint 16 = .ok (.iload_n 3, 1) := by decide +kernel
theorem dX5_hint_17 : decode cX5_hint 17 = .ok (.invokevirtual 81, 3) := by decide +kernel
theorem dX5_hint_20 : decode cX5_hint 20 = .ok (.pop, 1) := by decide +kernel
theorem dX5_hint_21 : decode cX5_hint 21 = .ok (.aload_n 0, 1) := by decide +kernel
theorem dX5_hint_22 : decode cX5_hint 22 = .ok (.getfield 10, 3) := by decide +kernel
theorem dX5_hint_25 : decode cX5_hint 25 = .ok (.invokevirtual 85, 3) := by decide +kernel
theorem dX5_hint_28 : decode cX5_hint 28 = .ok (.ireturn, 1) := by decide +kernel
set_option maxRecDepth 20000 in
theorem ggX5_adopt_X5_requireFunction : GoodIn wsX5_adopt wsX5_requireFunction := goodIn_ca (goodIn_r _ [9, 10, 11, 1, 12, 101, 102, 103, 104, 105, 106, 107, 108, 109] (by decide +kernel) (by decide +kernel)) (goodIn_sub (fun _ h => List.mem_cons_of_mem _ (List.mem_append_right _ h)) (by decide +kernel))
set_option maxRecDepth 20000 in
theorem gX5_adopt_X5_requireFunction : GoodIn wsX5_adopt (wsV RX5 46 RX5 yX5_requireFunction wsX5_requireFunction) := goodIn_app (goodIn_of _ (by decide +kernel)) ggX5_adopt_X5_requireFunction
set_option maxRecDepth 20000 in
theorem ggX5_adopt_X3_guessIn : GoodIn wsX5_adopt wsX3_guessIn := goodIn_r _ [17, 18, 19, 20, 21, 22, 16, 23, 24, 25, 26, 8, 27, 28, 29, 110, 111, 112, 113, 105, 106, 107, 108, 109] (by decide +kernel) (by decide +kernel)
set_option maxRecDepth 20000 in
theorem gX5_adopt_X3_guessIn : GoodIn wsX5_adopt (wsV RX5 92 RX3 yX3_guessIn wsX3_guessIn) := goodIn_app (goodIn_of _ (by decide +kernel)) ggX5_adopt_X3_guessIn
set_option maxRecDepth 20000 in
theorem ggX5_adopt_X3_guessOut : GoodIn wsX5_adopt wsX3_guessOut := goodIn_r _ [33, 18, 19, 34, 35, 36, 16, 37, 24, 38, 26, 8, 27, 39, 40, 110, 111, 112, 113, 105, 106, 107, 108, 109] (by decide +kernel) (by decide +kernel)
set_option maxRecDepth 20000 in
theorem gX5_adopt_X3_guessOut : GoodIn wsX5_adopt (wsV RX5 99 RX3 yX3_guessOut wsX3_guessOut) := goodIn_app (goodIn_of _ (by decide +kernel)) ggX5_adopt_X3_guessOut
set_option maxRecDepth 20000 in
theorem ggX5_adopt_X3_changeHints : GoodIn wsX5_adopt wsX3_changeHints := goodIn_r _ [44, 24, 25, 38, 45, 46, 47, 48, 16, 49, 50, 51, 52, 53, 54, 55, 56, 57, 105, 106, 107, 108, 109, 110, 111, 112, 113] (by decide +kernel) (by decide +kernel)
set_option maxRecDepth 20000 in
theorem gX5_adopt_X3_changeHints : GoodIn wsX5_adopt (wsV RX5 81 RX3 yX3_changeHints wsX3_changeHints) := goodIn_app (goodIn_of _ (by decide +kernel)) ggX5_adopt_X3_changeHints
set_option maxRecDepth 20000 in
theorem ggX5_adopt_X3_dropUntypable : GoodIn wsX5_adopt wsX3_dropUntypable := goodIn_r _ [61, 62, 63, 64, 65, 16, 66, 67, 68, 69, 70, 50, 71, 72, 73, 74, 24, 75, 25, 18, 19, 38, 76, 77, 78, 79, 80, 81, 82, 83, 20, 21, 22, 23, 26, 8, 27, 28, 29, 84, 85, 86, 87, 34, 35, 36, 37, 39, 40, 88, 89, 90, 91, 92, 93, 94, 95, 96, 97, 98, 99, 100, 105, 106, 107, 108, 109, 110, 111, 112, 113, 114, 115, 116] (by decide +kernel) (by decide +kernel)
set_option maxRecDepth 20000 in
theorem gX5_adopt_X3_dropUntypable : GoodIn wsX5_adopt (wsV RX5 85 RX3 yX3_dropUntypable wsX3_dropUntypable) := goodIn_app (goodIn_of _ (by decide +kernel)) ggX5_adopt_X3_dropUntypable
theorem dX5_adopt_0 : decode cX5_adopt 0 = .ok (.aload_n 0, 1) := by decide +kernel
theorem dX5_adopt_1 : decode cX5_adopt 1 = .ok (.iload_n 1, 1) := by decide +kernel
theorem dX5_adopt_2 : decode cX5_adopt 2 = .ok (.invokevirtual 46, 3) := by decide +kernel
theorem dX5_adopt_5 : decode cX5_adopt 5 = .ok (.aload_n 0, 1) := by decide +kernel
theorem dX5_adopt_6 : decode cX5_adopt 6 = .ok (.getfield 10, 3) := by decide +kernel
theorem dX5_adopt_9 : decode cX5_adopt 9 = .ok (.getfield 59, 3) := by decide +kernel
theorem dX5_adopt_12 : decode cX5_adopt 12 = .ok (.iload_n 1, 1) := by decide +kernel
theorem dX5_adopt_13 : decode cX5_adopt 13 = .ok (.aaload, 1) := by decide +kernel
theorem dX5_adopt_14 : decode cX5_adopt 14 = .ok (.astore_n 2, 1) := by decide +kernel
theorem dX5_adopt_15 : decode cX5_adopt 15 = .ok (.aload_n 2, 1) := by decide +kernel
theorem dX5_adopt_16 : decode cX5_adopt 16 = .ok (.getfield 89, 3) := by decide +kernel
theorem dX5_adopt_19 : decode cX5_adopt 19 = .ok (.iconst 3, 1) := by decide +kernel
theorem dX5_adopt_20 : decode cX5_adopt 20 = .ok (.if_icmp .ne 14, 3) := by decide +kernel
theorem dX5_adopt_23 : decode cX5_adopt 23 = .ok (.aload_n 0, 1) := by decide +kernel
theorem dX5_adopt_24 : decode cX5_adopt 24 = .ok (.getfield 10, 3) := by decide +kernel
theorem dX5_adopt_27 : decode cX5_adopt 27 = .ok (.aload_n 2, 1) := by decide +kernel
theorem dX5_adopt_28 : decode cX5_adopt 28 = .ok (.invokevirtual 92, 3) := by decide +kernel
theorem dX5_adopt_31 : decode cX5_adopt 31 = .ok (.goto 7, 3) := by decide +kernel
theorem dX5_adopt_34 : decode cX5_adopt 34 = .ok (.aload_n 2, 1) := by decide +kernel
theorem dX5_adopt_35 : decode cX5_adopt 35 = .ok (.getfield 89, 3) := by decide +kernel
theorem dX5_adopt_38 : decode cX5_adopt 38 = .ok (.istore_n 3, 1) := by decide +kernel
theorem dX5_adopt_39 : decode cX5_adopt 39 = .ok (.aload_n 2, 1) := by decide +kernel
theorem dX5_adopt_40 : decode cX5_adopt 40 = .ok (.getfield 96, 3) := by decide +kernel
theorem dX5_adopt_43 : decode cX5_adopt 43 = .ok (.iconst 3, 1) := by decide +kernel
theorem dX5_adopt_44 : decode cX5_adopt 44 = .ok (.if_icmp .ne 14, 3) := by decide +kernel
theorem dX5_adopt_47 : decode cX5_adopt 47 = .ok (.aload_n 0, 1) := by decide +kernel
theorem dX5_adopt_48 : decode cX5_adopt 48 = .ok (.getfield 10, 3) := by decide +kernel
theorem dX5_adopt_51 : decode cX5_adopt 51 = .ok (.aload_n 2, 1) := by decide +kernel
theorem dX5_adopt_52 : decode cX5_adopt 52 = .ok (.invokevirtual 99, 3) := by decide +kernel
theorem dX5_adopt_55 : decode cX5_adopt 55 = .ok (.goto 7, 3) := by decide +kernel
theorem dX5_adopt_58 : decode cX5_adopt 58 = .ok (.aload_n 2, 1) := by decide +kernel
theorem dX5_adopt_59 : decode cX5_adopt 59 = .ok (.getfield 96, 3) := by decide +kernel
theorem dX5_adopt_62 : decode cX5_adopt 62 = .ok (.istore 4, 2) := by decide +kernel
theorem dX5_adopt_64 : decode cX5_adopt 64 = .ok (.aload_n 0, 1) := by decide +kernel
theorem dX5_adopt_65 : decode cX5_adopt 65 = .ok (.getfield 10, 3) := by decide +kernel
theorem dX5_adopt_68 : decode cX5_adopt 68 = .ok (.iload_n 1, 1) := by decide +kernel
theorem dX5_adopt_69 : decode cX5_adopt 69 = .ok (.iload_n 3, 1) := by decide +kernel
theorem dX5_adopt_70 : decode cX5_adopt 70 = .ok (.iload 4, 2) := by decide +kernel
theorem dX5_adopt_72 : decode cX5_adopt 72 = .ok (.invokevirtual 81, 3) := by decide +kernel
theorem dX5_adopt_75 : decode cX5_adopt 75 = .ok (.istore 5, 2) := by decide +kernel
theorem dX5_adopt_77 : decode cX5_adopt 77 = .ok (.aload_n 0, 1) := by decide +kernel
theorem dX5_adopt_78 : decode cX5_adopt 78 = .ok (.getfield 10, 3) := by decide +kernel
theorem dX5_adopt_81 : decode cX5_adopt 81 = .ok (.invokevirtual 85, 3) := by decide +kernel
theorem dX5_adopt_84 : decode cX5_adopt 84 = .ok (.pop, 1) := by decide +kernel
theorem dX5_adopt_85 : decode cX5_adopt 85 = .ok (.iload 5, 2) := by decide +kernel
theorem dX5_adopt_87 : decode cX5_adopt 87 = .ok (.ireturn, 1) := by decide +kernel
set_option maxRecDepth 20000 in
theorem ggX5_type_X5_requireFunction : GoodIn wsX5_type wsX5_requireFunction := goodIn_ca (goodIn_r _ [9, 10, 11, 3, 12, 63, 64, 65, 66, 67, 68, 69, 70, 71] (by decide +kernel) (by decide +kernel)) (goodIn_sub (fun _ h => List.mem_cons_of_mem _ (List.mem_append_right _ h)) (by decide +kernel))
set_option maxRecDepth 20000 in
theorem gX5_type_X5_requireFunction : GoodIn wsX5_type (wsV RX5 46 RX5 yX5_requireFunction wsX5_requireFunction) := goodIn_app (goodIn_of _ (by decide +kernel)) ggX5_type_X5_requireFunction
set_option maxRecDepth 20000 in
theorem ggX5_type_X3_checked : GoodIn wsX5_type wsX3_checked := goodIn_r _ [17, 18, 19, 20, 21, 22, 23, 24, 25, 26, 27, 28, 29, 30, 31, 32, 33, 34, 16, 35, 36, 8, 37, 38, 39, 40, 41, 42, 43, 44, 45, 46, 47, 48, 49, 67, 68, 69, 70, 71, 72, 73, 74, 75, 76, 77, 78] (by decide +kernel) (by decide +kernel)
set_option maxRecDepth 20000 in
theorem gX5_type_X3_checked : GoodIn wsX5_type (wsV RX5 102 RX3 yX3_checked wsX3_checked) := goodIn_app (goodIn_of _ (by decide +kernel)) ggX5_type_X3_checked
set_option maxRecDepth 20000 in
theorem ggX5_type_X1_areNone : GoodIn wsX5_type wsX1_areNone := goodIn_r _ [53, 29, 31, 76, 77, 78] (by decide +kernel) (by decide +kernel)
set_option maxRecDepth 20000 in
theorem gX5_type_X1_areNone : GoodIn wsX5_type (wsV RX5 106 RX1 yX1_areNone wsX1_areNone) := goodIn_app (goodIn_of _ (by decide +kernel)) ggX5_type_X1_areNone
set_option maxRecDepth 20000 in
theorem ggX5_type_X5_has : GoodIn wsX5_type wsX5_has := goodIn_r _ [56] (by decide +kernel) (by decide +kernel)
set_option maxRecDepth 20000 in
theorem gX5_type_X5_has : GoodIn wsX5_type (va_wsS RX5 117 yX5_has wsX5_has) := goodIn_app (goodIn_of _ (by decide +kernel)) ggX5_type_X5_has
set_option maxRecDepth 20000 in
theorem ggX5_type_X5_with : GoodIn wsX5_type wsX5_with := goodIn_r _ [59] (by decide +kernel) (by decide +kernel)
set_option maxRecDepth 20000 in
theorem gX5_type_X5_with : GoodIn wsX5_type (va_wsS RX5 121 yX5_with wsX5_with) := goodIn_app (goodIn_of _ (by decide +kernel)) ggX5_type_X5_with
set_option maxRecDepth 20000 in
theorem ggX5_type_X5_without : GoodIn wsX5_type wsX5_without := goodIn_r _ [62] (by decide +kernel) (by decide +kernel)
set_option maxRecDepth 20000 in
theorem gX5_type_X5_without : GoodIn wsX5_type (va_wsS RX5 125 yX5_without wsX5_without) := goodIn_app (goodIn_of _ (by decide +kernel)) ggX5_type_X5_without
theorem dX5_type_0 : decode cX5_type 0 = .ok (.aload_n 0, 1) := by decide +kernel
theorem dX5_type_1 : decode cX5_type 1 = .ok (.iload_n 1, 1) := by decide +kernel
theorem dX5_type_2 : decode cX5_type 2 = .ok (.invokevirtual 46, 3) := by decide +kernel
theorem dX5_type_5 : decode cX5_type 5 = .ok (.iload_n 2, 1) := by decide +kernel
theorem dX5_type_6 : decode cX5_type 6 = .ok (.ifCond .eq 27, 3) := by decide +kernel
theorem dX5_type_9 : decode cX5_type 9 = .ok (.aload_n 0, 1) := by decide +kernel
theorem dX5_type_10 : decode cX5_type 10 = .ok (.getfield 10, 3) := by decide +kernel
theorem dX5_type_13 : decode cX5_type 13 = .ok (.iload_n 1, 1) := by decide +kernel
theorem dX5_type_14 : decode cX5_type 14 = .ok (.invokevirtual 102, 3) := by decide +kernel
theorem dX5_type_17 : decode cX5_type 17 = .ok (.invokevirtual 106, 3) := by decide +kernel
theorem dX5_type_20 : decode cX5_type 20 = .ok (.ifCond .ne 13, 3) := by decide +kernel
theorem dX5_type_23 : decode cX5_type 23 = .ok (.new 39, 3) := by decide +kernel
theorem dX5_type_26 : decode cX5_type 26 = .ok (.dup, 1) := by decide +kernel
theorem dX5_type_27 : decode cX5_type 27 = .ok (.ldc 112, 2) := by decide +kernel
theorem dX5_type_29 : decode cX5_type 29 = .ok (.invokespecial 43, 3) := by decide +kernel
theorem dX5_type_32 : decode cX5_type 32 = .ok (.athrow, 1) := by decide +kernel
theorem dX5_type_33 : decode cX5_type 33 = .ok (.aload_n 0, 1) := by decide +kernel
theorem dX5_type_34 : decode cX5_type 34 = .ok (.getfield 10, 3) := by decide +kernel
theorem dX5_type_37 : decode cX5_type 37 = .ok (.getfield 114, 3) := by decide +kernel
theorem dX5_type_40 : decode cX5_type 40 = .ok (.iload_n 1, 1) := by decide +kernel
theorem dX5_type_41 : decode cX5_type 41 = .ok (.invokestatic 117, 3) := by decide +kernel
theorem dX5_type_44 : decode cX5_type 44 = .ok (.istore_n 3, 1) := by decide +kernel
theorem dX5_type_45 : decode cX5_type 45 = .ok (.aload_n 0, 1) := by decide +kernel
theorem dX5_type_46 : decode cX5_type 46 = .ok (.getfield 10, 3) := by decide +kernel
theorem dX5_type_49 : decode cX5_type 49 = .ok (.iload_n 2, 1) := by decide +kernel
theorem dX5_type_50 : decode cX5_type 50 = .ok (.ifCond .eq 17, 3) := by decide +kernel
theorem dX5_type_53 : decode cX5_type 53 = .ok (.aload_n 0, 1) := by decide +kernel
theorem dX5_type_54 : decode cX5_type 54 = .ok (.getfield 10, 3) := by decide +kernel
theorem dX5_type_57 : decode cX5_type 57 = .ok (.getfield 114, 3) := by decide +kernel
theorem dX5_type_60 : decode cX5_type 60 = .ok (.iload_n 1, 1) := by decide +kernel
theorem dX5_type_61 : decode cX5_type 61 = .ok (.invokestatic 121, 3) := by decide +kernel
theorem dX5_type_64 : decode cX5_type 64 = .ok (.goto 14, 3) := by decide +kernel
theorem dX5_type_67 : decode cX5_type 67 = .ok (.aload_n 0, 1) := by decide +kernel
theorem dX5_type_68 : decode cX5_type 68 = .ok (.getfield 10, 3) := by decide +kernel
theorem dX5_type_71 : decode cX5_type 71 = .ok (.getfield 114, 3) := by decide +kernel
theorem dX5_type_74 : decode cX5_type 74 = .ok (.iload_n 1, 1) := by decide +kernel
theorem dX5_type_75 : decode cX5_type 75 = .ok (.invokestatic 125, 3) := by decide +kernel
theorem dX5_type_78 : decode cX5_type 78 = .ok (.putfield 114, 3) := by decide +kernel
theorem dX5_type_81 : decode cX5_type 81 = .ok (.iload_n 3, 1) := by decide +kernel
theorem dX5_type_82 : decode cX5_type 82 = .ok (.ireturn, 1) := by decide +kernel
set_option maxRecDepth 20000 in
theorem ggX5_stepAt_X5_requireFunction : GoodIn wsX5_stepAt wsX5_requireFunction := goodIn_ca (goodIn_r _ [11, 1, 2, 3, 12, 13, 14, 15, 16, 17, 18, 19, 20, 21] (by decide +kernel) (by decide +kernel)) (goodIn_sub (fun _ h => List.mem_cons_of_mem _ (List.mem_append_right _ h)) (by decide +kernel))
set_option maxRecDepth 20000 in
theorem gX5_stepAt_X5_requireFunction : GoodIn wsX5_stepAt (wsV RX5 46 RX5 yX5_requireFunction wsX5_requireFunction) := goodIn_app (goodIn_of _ (by decide +kernel)) ggX5_stepAt_X5_requireFunction
theorem dX5_stepAt_0 : decode cX5_stepAt 0 = .ok (.aload_n 0, 1) := by decide +kernel
theorem dX5_stepAt_1 : decode cX5_stepAt 1 = .ok (.iload_n 1, 1) := by decide +kernel
theorem dX5_stepAt_2 : decode cX5_stepAt 2 = .ok (.invokevirtual 46, 3) := by decide +kernel
theorem dX5_stepAt_5 : decode cX5_stepAt 5 = .ok (.aload_n 0, 1) := by decide +kernel
theorem dX5_stepAt_6 : decode cX5_stepAt 6 = .ok (.getfield 10, 3) := by decide +kernel
theorem dX5_stepAt_9 : decode cX5_stepAt 9 = .ok (.getfield 59, 3) := by decide +kernel
theorem dX5_stepAt_12 : decode cX5_stepAt 12 = .ok (.iload_n 1, 1) := by decide +kernel
theorem dX5_stepAt_13 : decode cX5_stepAt 13 = .ok (.aaload, 1) := by decide +kernel
theorem dX5_stepAt_14 : decode cX5_stepAt 14 = .ok (.astore_n 3, 1) := by decide +kernel
theorem dX5_stepAt_15 : decode cX5_stepAt 15 = .ok (.iload_n 2, 1) := by decide +kernel
theorem dX5_stepAt_16 : decode cX5_stepAt 16 = .ok (.ifCond .lt 11, 3) := by decide +kernel
theorem dX5_stepAt_19 : decode cX5_stepAt 19 = .ok (.iload_n 2, 1) := by decide +kernel
theorem dX5_stepAt_20 : decode cX5_stepAt 20 = .ok (.aload_n 3, 1) := by decide +kernel
theorem dX5_stepAt_21 : decode cX5_stepAt 21 = .ok (.getfield 63, 3) := by decide +kernel
theorem dX5_stepAt_24 : decode cX5_stepAt 24 = .ok (.if_icmp .lt 13, 3) := by decide +kernel
theorem dX5_stepAt_27 : decode cX5_stepAt 27 = .ok (.new 128, 3) := by decide +kernel
theorem dX5_stepAt_30 : decode cX5_stepAt 30 = .ok (.dup, 1) := by decide +kernel
theorem dX5_stepAt_31 : decode cX5_stepAt 31 = .ok (.ldc 130, 2) := by decide +kernel
theorem dX5_stepAt_33 : decode cX5_stepAt 33 = .ok (.invokespecial 132, 3) := by decide +kernel
theorem dX5_stepAt_36 : decode cX5_stepAt 36 = .ok (.athrow, 1) := by decide +kernel
theorem dX5_stepAt_37 : decode cX5_stepAt 37 = .ok (.aload_n 3, 1) := by decide +kernel
theorem dX5_stepAt_38 : decode cX5_stepAt 38 = .ok (.getfield 68, 3) := by decide +kernel
theorem dX5_stepAt_41 : decode cX5_stepAt 41 = .ok (.iload_n 2, 1) := by decide +kernel
theorem dX5_stepAt_42 : decode cX5_stepAt 42 = .ok (.iaload, 1) := by decide +kernel
theorem dX5_stepAt_43 : decode cX5_stepAt 43 = .ok (.ireturn, 1) := by decide +kernel
set_option maxRecDepth 20000 in
theorem ggX5_ofFunction_X5_requireFunction : GoodIn wsX5_ofFunction wsX5_requireFunction := goodIn_ca (goodIn_r _ [15, 16, 17, 1, 18, 90, 91, 92, 93, 94, 95, 96, 97, 98] (by decide +kernel) (by decide +kernel)) (goodIn_sub (fun _ h => List.mem_cons_of_mem _ (List.mem_append_left _ (List.mem_append_right _ h))) (by decide +kernel))
set_option maxRecDepth 20000 in
theorem gX5_ofFunction_X5_requireFunction : GoodIn wsX5_ofFunction (wsV RX5 46 RX5 yX5_requireFunction wsX5_requireFunction) := goodIn_app (goodIn_of _ (by decide +kernel)) ggX5_ofFunction_X5_requireFunction
set_option maxRecDepth 20000 in
theorem ggX5_ofFunction_X5_requireWhat : GoodIn wsX5_ofFunction wsX5_requireWhat := goodIn_ca (goodIn_r _ [21, 22, 23] (by decide +kernel) (by decide +kernel)) (goodIn_sub (fun _ h => List.mem_cons_of_mem _ (List.mem_append_right _ h)) (by decide +kernel))
set_option maxRecDepth 20000 in
theorem gX5_ofFunction_X5_requireWhat : GoodIn wsX5_ofFunction (va_wsS RX5 133 yX5_requireWhat wsX5_requireWhat) := goodIn_app (goodIn_of _ (by decide +kernel)) ggX5_ofFunction_X5_requireWhat
set_option maxRecDepth 20000 in
theorem ggX5_ofFunction_X5_has : GoodIn wsX5_ofFunction wsX5_has := goodIn_r _ [26] (by decide +kernel) (by decide +kernel)
set_option maxRecDepth 20000 in
theorem gX5_ofFunction_X5_has : GoodIn wsX5_ofFunction (va_wsS RX5 117 yX5_has wsX5_has) := goodIn_app (goodIn_of _ (by decide +kernel)) ggX5_ofFunction_X5_has
set_option maxRecDepth 20000 in
theorem ggX5_ofFunction_X3_checked : GoodIn wsX5_ofFunction wsX3_checked := goodIn_r _ [31, 32, 33, 34, 35, 36, 37, 38, 39, 40, 41, 42, 43, 44, 45, 46, 47, 48, 30, 49, 50, 14, 51, 52, 53, 54, 55, 56, 57, 58, 59, 60, 61, 62, 63, 94, 95, 96, 97, 98, 99, 100, 101, 102, 103, 104, 105] (by decide +kernel) (by decide +kernel)
set_option maxRecDepth 20000 in
theorem gX5_ofFunction_X3_checked : GoodIn wsX5_ofFunction (wsV RX5 102 RX3 yX3_checked wsX3_checked) := goodIn_app (goodIn_of _ (by decide +kernel)) ggX5_ofFunction_X3_checked
set_option maxRecDepth 20000 in
theorem ggX5_ofFunction_X3_guessIn : GoodIn wsX5_ofFunction wsX3_guessIn := goodIn_r _ [67, 35, 36, 46, 47, 48, 30, 49, 32, 34, 50, 14, 51, 52, 53, 99, 100, 101, 102, 94, 95, 96, 97, 98] (by decide +kernel) (by decide +kernel)
set_option maxRecDepth 20000 in
theorem gX5_ofFunction_X3_guessIn : GoodIn wsX5_ofFunction (wsV RX5 92 RX3 yX3_guessIn wsX3_guessIn) := goodIn_app (goodIn_of _ (by decide +kernel)) ggX5_ofFunction_X3_guessIn
set_option maxRecDepth 20000 in
theorem ggX5_ofFunction_X3_guessOut : GoodIn wsX5_ofFunction wsX3_guessOut := goodIn_r _ [71, 35, 36, 58, 59, 60, 30, 61, 32, 37, 50, 14, 51, 62, 63, 99, 100, 101, 102, 94, 95, 96, 97, 98] (by decide +kernel) (by decide +kernel)
set_option maxRecDepth 20000 in
theorem gX5_ofFunction_X3_guessOut : GoodIn wsX5_ofFunction (wsV RX5 99 RX3 yX3_guessOut wsX3_guessOut) := goodIn_app (goodIn_of _ (by decide +kernel)) ggX5_ofFunction_X3_guessOut
set_option maxRecDepth 20000 in
theorem ggX5_ofFunction_X3_callersOf : GoodIn wsX5_ofFunction wsX3_callersOf := goodIn_r _ [75, 76, 32, 77, 78, 79, 80, 81, 82, 83, 94, 95, 96, 97, 98, 99, 100, 101, 102] (by decide +kernel) (by decide +kernel)
set_option maxRecDepth 20000 in
theorem gX5_ofFunction_X3_callersOf : GoodIn wsX5_ofFunction (wsV RX5 145 RX3 yX3_callersOf wsX3_callersOf) := goodIn_app (goodIn_of _ (by decide +kernel)) ggX5_ofFunction_X3_callersOf
set_option maxRecDepth 20000 in
theorem ggX5_ofFunction_X0_timesCalled : GoodIn wsX5_ofFunction wsX0_timesCalled := goodIn_r _ [88, 89, 106, 107, 108, 109, 110, 111] (by decide +kernel) (by decide +kernel)
set_option maxRecDepth 20000 in
theorem gX5_ofFunction_X0_timesCalled : GoodIn wsX5_ofFunction (wsV RX5 149 RX0 yX0_timesCalled wsX0_timesCalled) := goodIn_app (goodIn_of _ (by decide +kernel)) ggX5_ofFunction_X0_timesCalled
theorem dX5_ofFunction_0 : decode cX5_ofFunction 0 = .ok (.aload_n 0, 1) := by decide +kernel
end
section
theorem dX5_ofFunction_1 : decode cX5_ofFunction 1 = .ok (.iload_n 1, 1) := by decide +kernel
theorem dX5_ofFunction_2 : decode cX5_ofFunction 2 = .ok (.invokevirtual 46, 3) := by decide +kernel
theorem dX5_ofFunction_5 : decode cX5_ofFunction 5 = .ok (.iload_n 2, 1) := by decide +kernel
theorem dX5_ofFunction_6 : decode cX5_ofFunction 6 = .ok (.bipush 10, 2) := by decide +kernel
theorem dX5_ofFunction_8 : decode cX5_ofFunction 8 = .ok (.invokestatic 133, 3) := by decide +kernel
theorem dX5_ofFunction_11 : decode cX5_ofFunction 11 = .ok (.aload_n 0, 1) := by decide +kernel
theorem dX5_ofFunction_12 : decode cX5_ofFunction 12 = .ok (.getfield 10, 3) := by decide +kernel
theorem dX5_ofFunction_15 : decode cX5_ofFunction 15 = .ok (.getfield 59, 3) := by decide +kernel
theorem dX5_ofFunction_18 : decode cX5_ofFunction 18 = .ok (.iload_n 1, 1) := by decide +kernel
theorem dX5_ofFunction_19 : decode cX5_ofFunction 19 = .ok (.aaload, 1) := by decide +kernel
theorem dX5_ofFunction_20 : decode cX5_ofFunction 20 = .ok (.astore_n 3, 1) := by decide +kernel
theorem dX5_ofFunction_21 : decode cX5_ofFunction 21 = .ok (.iload_n 2, 1) := by decide +kernel
theorem dX5_ofFunction_22 : decode cX5_ofFunction 22 = .ok (.tableswitch 152 0 9 #[54, 59, 64, 69, 89, 101, 113, 125, 134, 143], 54) := by decide +kernel
theorem dX5_ofFunction_76 : decode cX5_ofFunction 76 = .ok (.aload_n 3, 1) := by decide +kernel
theorem dX5_ofFunction_77 : decode cX5_ofFunction 77 = .ok (.getfield 63, 3) := by decide +kernel
theorem dX5_ofFunction_80 : decode cX5_ofFunction 80 = .ok (.ireturn, 1) := by decide +kernel
theorem dX5_ofFunction_81 : decode cX5_ofFunction 81 = .ok (.aload_n 3, 1) := by decide +kernel
theorem dX5_ofFunction_82 : decode cX5_ofFunction 82 = .ok (.getfield 89, 3) := by decide +kernel
theorem dX5_ofFunction_85 : decode cX5_ofFunction 85 = .ok (.ireturn, 1) := by decide +kernel
theorem dX5_ofFunction_86 : decode cX5_ofFunction 86 = .ok (.aload_n 3, 1) := by decide +kernel
theorem dX5_ofFunction_87 : decode cX5_ofFunction 87 = .ok (.getfield 96, 3) := by decide +kernel
theorem dX5_ofFunction_90 : decode cX5_ofFunction 90 = .ok (.ireturn, 1) := by decide +kernel
theorem dX5_ofFunction_91 : decode cX5_ofFunction 91 = .ok (.aload_n 0, 1) := by decide +kernel
theorem dX5_ofFunction_92 : decode cX5_ofFunction 92 = .ok (.getfield 10, 3) := by decide +kernel
theorem dX5_ofFunction_95 : decode cX5_ofFunction 95 = .ok (.getfield 114, 3) := by decide +kernel
theorem dX5_ofFunction_98 : decode cX5_ofFunction 98 = .ok (.iload_n 1, 1) := by decide +kernel
theorem dX5_ofFunction_99 : decode cX5_ofFunction 99 = .ok (.invokestatic 117, 3) := by decide +kernel
theorem dX5_ofFunction_102 : decode cX5_ofFunction 102 = .ok (.ifCond .eq 7, 3) := by decide +kernel
theorem dX5_ofFunction_105 : decode cX5_ofFunction 105 = .ok (.iconst 1, 1) := by decide +kernel
theorem dX5_ofFunction_106 : decode cX5_ofFunction 106 = .ok (.goto 4, 3) := by decide +kernel
theorem dX5_ofFunction_109 : decode cX5_ofFunction 109 = .ok (.iconst 0, 1) := by decide +kernel
theorem dX5_ofFunction_110 : decode cX5_ofFunction 110 = .ok (.ireturn, 1) := by decide +kernel
theorem dX5_ofFunction_111 : decode cX5_ofFunction 111 = .ok (.aload_n 0, 1) := by decide +kernel
theorem dX5_ofFunction_112 : decode cX5_ofFunction 112 = .ok (.getfield 10, 3) := by decide +kernel
theorem dX5_ofFunction_115 : decode cX5_ofFunction 115 = .ok (.iload_n 1, 1) := by decide +kernel
theorem dX5_ofFunction_116 : decode cX5_ofFunction 116 = .ok (.invokevirtual 102, 3) := by decide +kernel
theorem dX5_ofFunction_119 : decode cX5_ofFunction 119 = .ok (.getfield 136, 3) := by decide +kernel
theorem dX5_ofFunction_122 : decode cX5_ofFunction 122 = .ok (.ireturn, 1) := by decide +kernel
theorem dX5_ofFunction_123 : decode cX5_ofFunction 123 = .ok (.aload_n 0, 1) := by decide +kernel
theorem dX5_ofFunction_124 : decode cX5_ofFunction 124 = .ok (.getfield 10, 3) := by decide +kernel
theorem dX5_ofFunction_127 : decode cX5_ofFunction 127 = .ok (.iload_n 1, 1) := by decide +kernel
theorem dX5_ofFunction_128 : decode cX5_ofFunction 128 = .ok (.invokevirtual 102, 3) := by decide +kernel
theorem dX5_ofFunction_131 : decode cX5_ofFunction 131 = .ok (.getfield 139, 3) := by decide +kernel
theorem dX5_ofFunction_134 : decode cX5_ofFunction 134 = .ok (.ireturn, 1) := by decide +kernel
theorem dX5_ofFunction_135 : decode cX5_ofFunction 135 = .ok (.aload_n 0, 1) := by decide +kernel
theorem dX5_ofFunction_136 : decode cX5_ofFunction 136 = .ok (.getfield 10, 3) := by decide +kernel
theorem dX5_ofFunction_139 : decode cX5_ofFunction 139 = .ok (.iload_n 1, 1) := by decide +kernel
theorem dX5_ofFunction_140 : decode cX5_ofFunction 140 = .ok (.invokevirtual 102, 3) := by decide +kernel
theorem dX5_ofFunction_143 : decode cX5_ofFunction 143 = .ok (.getfield 142, 3) := by decide +kernel
theorem dX5_ofFunction_146 : decode cX5_ofFunction 146 = .ok (.ireturn, 1) := by decide +kernel
theorem dX5_ofFunction_147 : decode cX5_ofFunction 147 = .ok (.aload_n 0, 1) := by decide +kernel
theorem dX5_ofFunction_148 : decode cX5_ofFunction 148 = .ok (.getfield 10, 3) := by decide +kernel
theorem dX5_ofFunction_151 : decode cX5_ofFunction 151 = .ok (.aload_n 3, 1) := by decide +kernel
theorem dX5_ofFunction_152 : decode cX5_ofFunction 152 = .ok (.invokevirtual 92, 3) := by decide +kernel
theorem dX5_ofFunction_155 : decode cX5_ofFunction 155 = .ok (.ireturn, 1) := by decide +kernel
theorem dX5_ofFunction_156 : decode cX5_ofFunction 156 = .ok (.aload_n 0, 1) := by decide +kernel
theorem dX5_ofFunction_157 : decode cX5_ofFunction 157 = .ok (.getfield 10, 3) := by decide +kernel
theorem dX5_ofFunction_160 : decode cX5_ofFunction 160 = .ok (.aload_n 3, 1) := by decide +kernel
theorem dX5_ofFunction_161 : decode cX5_ofFunction 161 = .ok (.invokevirtual 99, 3) := by decide +kernel
theorem dX5_ofFunction_164 : decode cX5_ofFunction 164 = .ok (.ireturn, 1) := by decide +kernel
theorem dX5_ofFunction_165 : decode cX5_ofFunction 165 = .ok (.aload_n 0, 1) := by decide +kernel
theorem dX5_ofFunction_166 : decode cX5_ofFunction 166 = .ok (.getfield 10, 3) := by decide +kernel
theorem dX5_ofFunction_169 : decode cX5_ofFunction 169 = .ok (.iload_n 1, 1) := by decide +kernel
theorem dX5_ofFunction_170 : decode cX5_ofFunction 170 = .ok (.invokevirtual 145, 3) := by decide +kernel
theorem dX5_ofFunction_173 : decode cX5_ofFunction 173 = .ok (.ireturn, 1) := by decide +kernel
theorem dX5_ofFunction_174 : decode cX5_ofFunction 174 = .ok (.aload_n 0, 1) := by decide +kernel
theorem dX5_ofFunction_175 : decode cX5_ofFunction 175 = .ok (.getfield 28, 3) := by decide +kernel
theorem dX5_ofFunction_178 : decode cX5_ofFunction 178 = .ok (.iload_n 1, 1) := by decide +kernel
theorem dX5_ofFunction_179 : decode cX5_ofFunction 179 = .ok (.invokevirtual 149, 3) := by decide +kernel
theorem dX5_ofFunction_182 : decode cX5_ofFunction 182 = .ok (.ireturn, 1) := by decide +kernel
set_option maxRecDepth 20000 in
theorem ggX5_many_X5_requireWhat : GoodIn wsX5_many wsX5_requireWhat := goodIn_ca (goodIn_r _ [12, 13, 14] (by decide +kernel) (by decide +kernel)) (goodIn_sub (fun _ h => List.mem_cons_of_mem _ (List.mem_append_right _ h)) (by decide +kernel))
set_option maxRecDepth 20000 in
theorem gX5_many_X5_requireWhat : GoodIn wsX5_many (va_wsS RX5 133 yX5_requireWhat wsX5_requireWhat) := goodIn_app (goodIn_of _ (by decide +kernel)) ggX5_many_X5_requireWhat
set_option maxRecDepth 20000 in
theorem ggX5_many_J6_bitCount_0f7a4 : GoodIn wsX5_many wsJ6_bitCount_0f7a4 := goodIn_r _ [18, 19, 20, 21] (by decide +kernel) (by decide +kernel)
set_option maxRecDepth 20000 in
theorem gX5_many_J6_bitCount_0f7a4 : GoodIn wsX5_many (va_wsS RX5 152 yJ6_bitCount_0f7a4 wsJ6_bitCount_0f7a4) := goodIn_app (goodIn_of _ (by decide +kernel)) ggX5_many_J6_bitCount_0f7a4
set_option maxRecDepth 20000 in
theorem ggX5_many_X3_typable : GoodIn wsX5_many wsX3_typable := goodIn_r _ [26, 27, 28, 29, 30, 25, 31, 32, 33, 34, 35, 36, 37, 38, 39, 40, 41, 42, 43, 44, 45, 46, 47, 48, 49, 50, 11, 51, 52, 53, 54, 55, 56, 57, 58, 59, 60, 61, 62, 63, 64, 65, 66, 67, 68, 69, 97, 98, 99, 100, 101, 108, 109, 110, 111, 112, 113, 114] (by decide +kernel) (by decide +kernel)
set_option maxRecDepth 20000 in
theorem gX5_many_X3_typable : GoodIn wsX5_many (wsV RX5 157 RX3 yX3_typable wsX3_typable) := goodIn_app (goodIn_of _ (by decide +kernel)) ggX5_many_X3_typable
set_option maxRecDepth 20000 in
theorem ggX5_many_X3_allFaults : GoodIn wsX5_many wsX3_allFaults := goodIn_r _ [73, 27, 74, 28, 29, 30, 25, 31, 32, 33, 34, 35, 36, 37, 38, 39, 40, 41, 42, 43, 44, 45, 46, 47, 48, 49, 50, 11, 51, 52, 53, 54, 55, 56, 57, 58, 59, 60, 61, 62, 63, 97, 98, 99, 100, 101, 112, 113, 114, 108, 109, 110, 111] (by decide +kernel) (by decide +kernel)
set_option maxRecDepth 20000 in
theorem gX5_many_X3_allFaults : GoodIn wsX5_many (wsV RX5 160 RX3 yX3_allFaults wsX3_allFaults) := goodIn_app (goodIn_of _ (by decide +kernel)) ggX5_many_X3_allFaults
set_option maxRecDepth 20000 in
theorem ggX5_many_X5_tollWith : GoodIn wsX5_many wsX5_tollWith := goodIn_r _ [78, 1, 2, 5, 79, 80, 81, 82, 25, 83, 32, 34, 84, 11, 85, 86, 87, 88, 89, 37, 90, 91, 92, 93, 94, 95, 96, 97, 98, 99, 100, 101, 102, 103, 104, 105, 106, 107, 108, 109, 110, 111] (by decide +kernel) (by decide +kernel)
set_option maxRecDepth 20000 in
theorem gX5_many_X5_tollWith : GoodIn wsX5_many (wsV RX5 175 RX5 yX5_tollWith wsX5_tollWith) := goodIn_app (goodIn_of _ (by decide +kernel)) ggX5_many_X5_tollWith
theorem dX5_many_0 : decode cX5_many 0 = .ok (.iload_n 1, 1) := by decide +kernel
theorem dX5_many_1 : decode cX5_many 1 = .ok (.bipush 8, 2) := by decide +kernel
theorem dX5_many_3 : decode cX5_many 3 = .ok (.invokestatic 133, 3) := by decide +kernel
theorem dX5_many_6 : decode cX5_many 6 = .ok (.iload_n 1, 1) := by decide +kernel
theorem dX5_many_7 : decode cX5_many 7 = .ok (.tableswitch 115 0 7 #[45, 53, 64, 75, 83, 91, 99, 107], 45) := by decide +kernel
theorem dX5_many_52 : decode cX5_many 52 = .ok (.aload_n 0, 1) := by decide +kernel
theorem dX5_many_53 : decode cX5_many 53 = .ok (.getfield 10, 3) := by decide +kernel
theorem dX5_many_56 : decode cX5_many 56 = .ok (.getfield 36, 3) := by decide +kernel
theorem dX5_many_59 : decode cX5_many 59 = .ok (.ireturn, 1) := by decide +kernel
theorem dX5_many_60 : decode cX5_many 60 = .ok (.aload_n 0, 1) := by decide +kernel
theorem dX5_many_61 : decode cX5_many 61 = .ok (.getfield 10, 3) := by decide +kernel
theorem dX5_many_64 : decode cX5_many 64 = .ok (.getfield 114, 3) := by decide +kernel
theorem dX5_many_67 : decode cX5_many 67 = .ok (.invokestatic 152, 3) := by decide +kernel
theorem dX5_many_70 : decode cX5_many 70 = .ok (.ireturn, 1) := by decide +kernel
theorem dX5_many_71 : decode cX5_many 71 = .ok (.aload_n 0, 1) := by decide +kernel
theorem dX5_many_72 : decode cX5_many 72 = .ok (.getfield 10, 3) := by decide +kernel
theorem dX5_many_75 : decode cX5_many 75 = .ok (.invokevirtual 157, 3) := by decide +kernel
theorem dX5_many_78 : decode cX5_many 78 = .ok (.invokestatic 152, 3) := by decide +kernel
theorem dX5_many_81 : decode cX5_many 81 = .ok (.ireturn, 1) := by decide +kernel
theorem dX5_many_82 : decode cX5_many 82 = .ok (.aload_n 0, 1) := by decide +kernel
theorem dX5_many_83 : decode cX5_many 83 = .ok (.getfield 10, 3) := by decide +kernel
theorem dX5_many_86 : decode cX5_many 86 = .ok (.invokevirtual 160, 3) := by decide +kernel
theorem dX5_many_89 : decode cX5_many 89 = .ok (.ireturn, 1) := by decide +kernel
theorem dX5_many_90 : decode cX5_many 90 = .ok (.aload_n 0, 1) := by decide +kernel
theorem dX5_many_91 : decode cX5_many 91 = .ok (.getfield 10, 3) := by decide +kernel
theorem dX5_many_94 : decode cX5_many 94 = .ok (.getfield 163, 3) := by decide +kernel
theorem dX5_many_97 : decode cX5_many 97 = .ok (.ireturn, 1) := by decide +kernel
theorem dX5_many_98 : decode cX5_many 98 = .ok (.aload_n 0, 1) := by decide +kernel
theorem dX5_many_99 : decode cX5_many 99 = .ok (.getfield 28, 3) := by decide +kernel
theorem dX5_many_102 : decode cX5_many 102 = .ok (.getfield 166, 3) := by decide +kernel
theorem dX5_many_105 : decode cX5_many 105 = .ok (.ireturn, 1) := by decide +kernel
theorem dX5_many_106 : decode cX5_many 106 = .ok (.aload_n 0, 1) := by decide +kernel
theorem dX5_many_107 : decode cX5_many 107 = .ok (.getfield 28, 3) := by decide +kernel
theorem dX5_many_110 : decode cX5_many 110 = .ok (.getfield 169, 3) := by decide +kernel
theorem dX5_many_113 : decode cX5_many 113 = .ok (.ireturn, 1) := by decide +kernel
theorem dX5_many_114 : decode cX5_many 114 = .ok (.aload_n 0, 1) := by decide +kernel
theorem dX5_many_115 : decode cX5_many 115 = .ok (.getfield 28, 3) := by decide +kernel
theorem dX5_many_118 : decode cX5_many 118 = .ok (.getfield 172, 3) := by decide +kernel
theorem dX5_many_121 : decode cX5_many 121 = .ok (.ireturn, 1) := by decide +kernel
theorem dX5_many_122 : decode cX5_many 122 = .ok (.aload_n 0, 1) := by decide +kernel
theorem dX5_many_123 : decode cX5_many 123 = .ok (.aload_n 0, 1) := by decide +kernel
theorem dX5_many_124 : decode cX5_many 124 = .ok (.getfield 10, 3) := by decide +kernel
theorem dX5_many_127 : decode cX5_many 127 = .ok (.getfield 114, 3) := by decide +kernel
theorem dX5_many_130 : decode cX5_many 130 = .ok (.invokevirtual 175, 3) := by decide +kernel
theorem dX5_many_133 : decode cX5_many 133 = .ok (.ireturn, 1) := by decide +kernel
set_option maxRecDepth 20000 in
theorem ggX5_budget_X5_requireBudget : GoodIn wsX5_budget wsX5_requireBudget := goodIn_ca (goodIn_r _ [5, 6, 7] (by decide +kernel) (by decide +kernel)) (goodIn_sub (fun _ h => List.mem_cons_of_mem _ (List.mem_append_right _ h)) (by decide +kernel))
set_option maxRecDepth 20000 in
theorem gX5_budget_X5_requireBudget : GoodIn wsX5_budget (va_wsS RX5 178 yX5_requireBudget wsX5_requireBudget) := goodIn_app (goodIn_of _ (by decide +kernel)) ggX5_budget_X5_requireBudget
theorem dX5_budget_0 : decode cX5_budget 0 = .ok (.iload_n 1, 1) := by decide +kernel
theorem dX5_budget_1 : decode cX5_budget 1 = .ok (.invokestatic 178, 3) := by decide +kernel
theorem dX5_budget_4 : decode cX5_budget 4 = .ok (.aload_n 0, 1) := by decide +kernel
theorem dX5_budget_5 : decode cX5_budget 5 = .ok (.getfield 32, 3) := by decide +kernel
theorem dX5_budget_8 : decode cX5_budget 8 = .ok (.istore_n 2, 1) := by decide +kernel
theorem dX5_budget_9 : decode cX5_budget 9 = .ok (.aload_n 0, 1) := by decide +kernel
theorem dX5_budget_10 : decode cX5_budget 10 = .ok (.iload_n 1, 1) := by decide +kernel
theorem dX5_budget_11 : decode cX5_budget 11 = .ok (.putfield 32, 3) := by decide +kernel
theorem dX5_budget_14 : decode cX5_budget 14 = .ok (.iload_n 2, 1) := by decide +kernel
theorem dX5_budget_15 : decode cX5_budget 15 = .ok (.ireturn, 1) := by decide +kernel
set_option maxRecDepth 20000 in
theorem ggX5_run_X5_requireFunction : GoodIn wsX5_run wsX5_requireFunction := goodIn_ca (goodIn_r _ [9, 10, 11, 12, 13, 141, 142, 143, 144, 158, 159, 160, 161, 162] (by decide +kernel) (by decide +kernel)) (goodIn_sub (fun _ h => List.mem_cons_of_mem _ (List.mem_append_left _ (List.mem_append_right _ h))) (by decide +kernel))
set_option maxRecDepth 20000 in
theorem gX5_run_X5_requireFunction : GoodIn wsX5_run (wsV RX5 46 RX5 yX5_requireFunction wsX5_requireFunction) := goodIn_app (goodIn_of _ (by decide +kernel)) ggX5_run_X5_requireFunction
set_option maxRecDepth 20000 in
theorem ggX5_run_X5_requireValue : GoodIn wsX5_run wsX5_requireValue := goodIn_ca (goodIn_r _ [16, 17, 18, 19, 20, 8, 21] (by decide +kernel) (by decide +kernel)) (goodIn_sub (fun _ h => List.mem_cons_of_mem _ (List.mem_append_right _ h)) (by decide +kernel))
set_option maxRecDepth 20000 in
theorem gX5_run_X5_requireValue : GoodIn wsX5_run (va_wsS RX5 181 yX5_requireValue wsX5_requireValue) := goodIn_app (goodIn_of _ (by decide +kernel)) ggX5_run_X5_requireValue
set_option maxRecDepth 20000 in
theorem ggX5_run_X4_tryOut : GoodIn wsX5_run wsX4_tryOut := goodIn_r _ [26, 27, 28, 29, 30, 31, 32, 25, 33, 34, 35, 36, 37, 38, 39, 40, 41, 42, 43, 44, 45, 46, 47, 48, 49, 50, 51, 52, 53, 54, 55, 56, 57, 58, 59, 60, 8, 61, 62, 63, 64, 65, 66, 67, 68, 69, 70, 71, 72, 73, 74, 75, 76, 77, 78, 79, 80, 81, 82, 83, 84, 85, 86, 87, 88, 89, 90, 91, 92, 93, 94, 95, 96, 97, 98, 99, 100, 101, 102, 103, 104, 105, 106, 107, 108, 109, 145, 146, 147, 148, 149, 150, 151, 152, 153, 154, 155, 156, 157, 158, 159, 160, 161, 162, 163, 164, 165, 166] (by decide +kernel) (by decide +kernel)
set_option maxRecDepth 20000 in
theorem gX5_run_X4_tryOut : GoodIn wsX5_run (wsV RX5 184 RX4 yX4_tryOut wsX4_tryOut) := goodIn_app (goodIn_of _ (by decide +kernel)) ggX5_run_X4_tryOut
set_option maxRecDepth 20000 in
theorem ggX5_run_X0_enter : GoodIn wsX5_run wsX0_enter := goodIn_r _ [114, 115, 116, 117, 118, 119, 120, 121, 122, 123, 25, 124, 35, 36, 125, 126, 127, 113, 128, 129, 130, 131, 132, 133, 134, 135, 136, 137, 138, 139, 140, 167, 168, 169, 170, 171, 172, 145, 146, 147, 148, 149, 150, 151, 152, 153, 154, 155, 156, 157] (by decide +kernel) (by decide +kernel)
set_option maxRecDepth 20000 in
theorem gX5_run_X0_enter : GoodIn wsX5_run (wsV RX5 188 RX0 yX0_enter wsX0_enter) := goodIn_app (goodIn_of _ (by decide +kernel)) ggX5_run_X0_enter
theorem dX5_run_0 : decode cX5_run 0 = .ok (.aload_n 0, 1) := by decide +kernel
theorem dX5_run_1 : decode cX5_run 1 = .ok (.iload_n 1, 1) := by decide +kernel
theorem dX5_run_2 : decode cX5_run 2 = .ok (.invokevirtual 46, 3) := by decide +kernel
theorem dX5_run_5 : decode cX5_run 5 = .ok (.iload_n 2, 1) := by decide +kernel
theorem dX5_run_6 : decode cX5_run 6 = .ok (.iload_n 3, 1) := by decide +kernel
theorem dX5_run_7 : decode cX5_run 7 = .ok (.invokestatic 181, 3) := by decide +kernel
theorem dX5_run_10 : decode cX5_run 10 = .ok (.aload_n 0, 1) := by decide +kernel
theorem dX5_run_11 : decode cX5_run 11 = .ok (.getfield 21, 3) := by decide +kernel
theorem dX5_run_14 : decode cX5_run 14 = .ok (.iload_n 1, 1) := by decide +kernel
theorem dX5_run_15 : decode cX5_run 15 = .ok (.iload_n 2, 1) := by decide +kernel
theorem dX5_run_16 : decode cX5_run 16 = .ok (.iload_n 3, 1) := by decide +kernel
theorem dX5_run_17 : decode cX5_run 17 = .ok (.aload_n 0, 1) := by decide +kernel
theorem dX5_run_18 : decode cX5_run 18 = .ok (.getfield 32, 3) := by decide +kernel
theorem dX5_run_21 : decode cX5_run 21 = .ok (.invokevirtual 184, 3) := by decide +kernel
theorem dX5_run_24 : decode cX5_run 24 = .ok (.aload_n 0, 1) := by decide +kernel
theorem dX5_run_25 : decode cX5_run 25 = .ok (.getfield 28, 3) := by decide +kernel
theorem dX5_run_28 : decode cX5_run 28 = .ok (.aload_n 0, 1) := by decide +kernel
theorem dX5_run_29 : decode cX5_run 29 = .ok (.getfield 21, 3) := by decide +kernel
theorem dX5_run_32 : decode cX5_run 32 = .ok (.invokevirtual 188, 3) := by decide +kernel
theorem dX5_run_35 : decode cX5_run 35 = .ok (.aload_n 0, 1) := by decide +kernel
theorem dX5_run_36 : decode cX5_run 36 = .ok (.getfield 21, 3) := by decide +kernel
theorem dX5_run_39 : decode cX5_run 39 = .ok (.getfield 192, 3) := by decide +kernel
theorem dX5_run_42 : decode cX5_run 42 = .ok (.ireturn, 1) := by decide +kernel
set_option maxRecDepth 20000 in
theorem ggX5_latest_X5_requireWhat : GoodIn wsX5_latest wsX5_requireWhat := goodIn_ca (goodIn_r _ [6, 7, 8] (by decide +kernel) (by decide +kernel)) (goodIn_sub (fun _ h => List.mem_cons_of_mem _ (List.mem_append_right _ h)) (by decide +kernel))
set_option maxRecDepth 20000 in
theorem gX5_latest_X5_requireWhat : GoodIn wsX5_latest (va_wsS RX5 133 yX5_requireWhat wsX5_requireWhat) := goodIn_app (goodIn_of _ (by decide +kernel)) ggX5_latest_X5_requireWhat
theorem dX5_latest_0 : decode cX5_latest 0 = .ok (.iload_n 1, 1) := by decide +kernel
theorem dX5_latest_1 : decode cX5_latest 1 = .ok (.bipush 7, 2) := by decide +kernel
theorem dX5_latest_3 : decode cX5_latest 3 = .ok (.invokestatic 133, 3) := by decide +kernel
theorem dX5_latest_6 : decode cX5_latest 6 = .ok (.aload_n 0, 1) := by decide +kernel
theorem dX5_latest_7 : decode cX5_latest 7 = .ok (.getfield 28, 3) := by decide +kernel
theorem dX5_latest_10 : decode cX5_latest 10 = .ok (.getfield 195, 3) := by decide +kernel
theorem dX5_latest_13 : decode cX5_latest 13 = .ok (.iload_n 1, 1) := by decide +kernel
theorem dX5_latest_14 : decode cX5_latest 14 = .ok (.iaload, 1) := by decide +kernel
theorem dX5_latest_15 : decode cX5_latest 15 = .ok (.ireturn, 1) := by decide +kernel
set_option maxRecDepth 20000 in
theorem ggX5_counted_X5_requireFunction : GoodIn wsX5_counted wsX5_requireFunction := goodIn_ca (goodIn_r _ [7, 8, 9, 10, 11, 15, 16, 17, 18, 25, 26, 27, 28, 29] (by decide +kernel) (by decide +kernel)) (goodIn_sub (fun _ h => List.mem_cons_of_mem _ (List.mem_append_right _ h)) (by decide +kernel))
set_option maxRecDepth 20000 in
theorem gX5_counted_X5_requireFunction : GoodIn wsX5_counted (wsV RX5 46 RX5 yX5_requireFunction wsX5_requireFunction) := goodIn_app (goodIn_of _ (by decide +kernel)) ggX5_counted_X5_requireFunction
set_option maxRecDepth 20000 in
theorem ggX5_counted_X5_rowOf : GoodIn wsX5_counted wsX5_rowOf := goodIn_r _ [14] (by decide +kernel) (by decide +kernel)
set_option maxRecDepth 20000 in
theorem gX5_counted_X5_rowOf : GoodIn wsX5_counted (va_wsS RX5 202 yX5_rowOf wsX5_rowOf) := goodIn_app (goodIn_of _ (by decide +kernel)) ggX5_counted_X5_rowOf
theorem dX5_counted_0 : decode cX5_counted 0 = .ok (.iload_n 1, 1) := by decide +kernel
theorem dX5_counted_1 : decode cX5_counted 1 = .ok (.iconst (-1), 1) := by decide +kernel
theorem dX5_counted_2 : decode cX5_counted 2 = .ok (.if_icmp .eq 8, 3) := by decide +kernel
theorem dX5_counted_5 : decode cX5_counted 5 = .ok (.aload_n 0, 1) := by decide +kernel
theorem dX5_counted_6 : decode cX5_counted 6 = .ok (.iload_n 1, 1) := by decide +kernel
theorem dX5_counted_7 : decode cX5_counted 7 = .ok (.invokevirtual 46, 3) := by decide +kernel
theorem dX5_counted_10 : decode cX5_counted 10 = .ok (.aload_n 0, 1) := by decide +kernel
theorem dX5_counted_11 : decode cX5_counted 11 = .ok (.iload_n 2, 1) := by decide +kernel
theorem dX5_counted_12 : decode cX5_counted 12 = .ok (.invokevirtual 46, 3) := by decide +kernel
theorem dX5_counted_15 : decode cX5_counted 15 = .ok (.aload_n 0, 1) := by decide +kernel
theorem dX5_counted_16 : decode cX5_counted 16 = .ok (.getfield 28, 3) := by decide +kernel
theorem dX5_counted_19 : decode cX5_counted 19 = .ok (.getfield 198, 3) := by decide +kernel
theorem dX5_counted_22 : decode cX5_counted 22 = .ok (.iload_n 1, 1) := by decide +kernel
theorem dX5_counted_23 : decode cX5_counted 23 = .ok (.invokestatic 202, 3) := by decide +kernel
theorem dX5_counted_26 : decode cX5_counted 26 = .ok (.aaload, 1) := by decide +kernel
theorem dX5_counted_27 : decode cX5_counted 27 = .ok (.iload_n 2, 1) := by decide +kernel
theorem dX5_counted_28 : decode cX5_counted 28 = .ok (.iaload, 1) := by decide +kernel
theorem dX5_counted_29 : decode cX5_counted 29 = .ok (.ireturn, 1) := by decide +kernel
set_option maxRecDepth 20000 in
theorem ggX5_blamed_X5_requireFunction : GoodIn wsX5_blamed wsX5_requireFunction := goodIn_ca (goodIn_r _ [7, 8, 9, 10, 11, 12, 13, 14, 15, 22, 23, 24, 25, 26] (by decide +kernel) (by decide +kernel)) (goodIn_sub (fun _ h => List.mem_cons_of_mem _ (List.mem_append_right _ h)) (by decide +kernel))
set_option maxRecDepth 20000 in
theorem gX5_blamed_X5_requireFunction : GoodIn wsX5_blamed (wsV RX5 46 RX5 yX5_requireFunction wsX5_requireFunction) := goodIn_app (goodIn_of _ (by decide +kernel)) ggX5_blamed_X5_requireFunction
theorem dX5_blamed_0 : decode cX5_blamed 0 = .ok (.aload_n 0, 1) := by decide +kernel
theorem dX5_blamed_1 : decode cX5_blamed 1 = .ok (.iload_n 1, 1) := by decide +kernel
theorem dX5_blamed_2 : decode cX5_blamed 2 = .ok (.invokevirtual 46, 3) := by decide +kernel
theorem dX5_blamed_5 : decode cX5_blamed 5 = .ok (.aload_n 0, 1) := by decide +kernel
theorem dX5_blamed_6 : decode cX5_blamed 6 = .ok (.getfield 28, 3) := by decide +kernel
theorem dX5_blamed_9 : decode cX5_blamed 9 = .ok (.getfield 205, 3) := by decide +kernel
theorem dX5_blamed_12 : decode cX5_blamed 12 = .ok (.iload_n 1, 1) := by decide +kernel
theorem dX5_blamed_13 : decode cX5_blamed 13 = .ok (.iaload, 1) := by decide +kernel
theorem dX5_blamed_14 : decode cX5_blamed 14 = .ok (.ireturn, 1) := by decide +kernel
set_option maxRecDepth 20000 in
theorem ggX5_gain_X5_requireFunction : GoodIn wsX5_gain wsX5_requireFunction := goodIn_ca (goodIn_r _ [5, 6, 7, 8, 9, 41, 42, 43, 44, 45, 46, 47, 48, 49] (by decide +kernel) (by decide +kernel)) (goodIn_sub (fun _ h => List.mem_cons_of_mem _ (List.mem_append_right _ h)) (by decide +kernel))
set_option maxRecDepth 20000 in
theorem gX5_gain_X5_requireFunction : GoodIn wsX5_gain (wsV RX5 46 RX5 yX5_requireFunction wsX5_requireFunction) := goodIn_app (goodIn_of _ (by decide +kernel)) ggX5_gain_X5_requireFunction
set_option maxRecDepth 20000 in
theorem ggX5_gain_X5_gainOf : GoodIn wsX5_gain wsX5_gainOf := goodIn_r _ [13, 8, 14, 15, 16, 17, 4, 18, 9, 19, 20, 21, 22, 23, 24, 25, 26, 27, 28, 29, 30, 31, 32, 33, 34, 35, 36, 37, 38, 39, 40, 41, 42, 43, 44, 45, 46, 47, 48, 49, 50, 51, 52, 53, 54, 55, 56, 57, 58, 59] (by decide +kernel) (by decide +kernel)
set_option maxRecDepth 20000 in
theorem gX5_gain_X5_gainOf : GoodIn wsX5_gain (wsV RX5 208 RX5 yX5_gainOf wsX5_gainOf) := goodIn_app (goodIn_of _ (by decide +kernel)) ggX5_gain_X5_gainOf
theorem dX5_gain_0 : decode cX5_gain 0 = .ok (.aload_n 0, 1) := by decide +kernel
theorem dX5_gain_1 : decode cX5_gain 1 = .ok (.iload_n 1, 1) := by decide +kernel
theorem dX5_gain_2 : decode cX5_gain 2 = .ok (.invokevirtual 46, 3) := by decide +kernel
theorem dX5_gain_5 : decode cX5_gain 5 = .ok (.aload_n 0, 1) := by decide +kernel
theorem dX5_gain_6 : decode cX5_gain 6 = .ok (.iload_n 1, 1) := by decide +kernel
theorem dX5_gain_7 : decode cX5_gain 7 = .ok (.invokevirtual 208, 3) := by decide +kernel
theorem dX5_gain_10 : decode cX5_gain 10 = .ok (.ireturn, 1) := by decide +kernel
set_option maxRecDepth 20000 in
theorem ggX5_next_X5_nextToType : GoodIn wsX5_next wsX5_nextToType := goodIn_r _ [5, 6, 7, 8, 9, 10, 11, 12, 13, 14, 15, 16, 17, 18, 19, 20, 21, 22, 23, 24, 25, 26, 27, 28, 29, 30, 31, 32, 33, 34, 35, 36, 37, 4, 38, 39, 40, 41, 42, 43, 44, 45, 46, 47, 48, 49, 50, 51, 52, 53, 54, 55, 56, 57, 58, 59, 60, 61, 62, 63, 64, 65, 66, 67, 68, 69, 70, 71, 72, 73, 74, 75, 76, 77, 78, 79, 80, 81, 82, 83, 84, 85, 86, 87, 88, 89, 90, 91, 92, 93, 94, 95, 96, 97, 98, 99, 100, 101, 102, 103] (by decide +kernel) (by decide +kernel)
set_option maxRecDepth 20000 in
theorem gX5_next_X5_nextToType : GoodIn wsX5_next (wsV RX5 211 RX5 yX5_nextToType wsX5_nextToType) := goodIn_app (goodIn_of _ (by decide +kernel)) ggX5_next_X5_nextToType
theorem dX5_next_0 : decode cX5_next 0 = .ok (.aload_n 0, 1) := by decide +kernel
theorem dX5_next_1 : decode cX5_next 1 = .ok (.invokevirtual 211, 3) := by decide +kernel
theorem dX5_next_4 : decode cX5_next 4 = .ok (.ireturn, 1) := by decide +kernel
set_option maxRecDepth 20000 in
theorem ggX5_migrate_X5_nextToType : GoodIn wsX5_migrate wsX5_nextToType := goodIn_r _ [9, 3, 4, 10, 11, 12, 13, 14, 15, 16, 17, 18, 19, 20, 21, 22, 23, 24, 25, 26, 27, 28, 29, 30, 31, 32, 33, 34, 35, 36, 37, 38, 39, 8, 40, 41, 42, 43, 44, 45, 46, 47, 48, 49, 50, 51, 52, 53, 54, 55, 56, 57, 58, 59, 60, 61, 62, 63, 64, 65, 66, 67, 68, 69, 70, 71, 72, 73, 74, 75, 76, 77, 78, 79, 80, 81, 82, 83, 84, 85, 86, 87, 88, 89, 90, 91, 92, 93, 94, 95, 96, 97, 98, 99, 100, 101, 102, 103, 104, 105] (by decide +kernel) (by decide +kernel)
set_option maxRecDepth 20000 in
theorem gX5_migrate_X5_nextToType : GoodIn wsX5_migrate (wsV RX5 211 RX5 yX5_nextToType wsX5_nextToType) := goodIn_app (goodIn_of _ (by decide +kernel)) ggX5_migrate_X5_nextToType
set_option maxRecDepth 20000 in
theorem ggX5_migrate_X5_gainOf : GoodIn wsX5_migrate wsX5_gainOf := goodIn_r _ [65, 3, 4, 66, 67, 68, 8, 69, 10, 70, 71, 72, 73, 74, 14, 75, 21, 23, 60, 61, 76, 77, 78, 79, 26, 80, 81, 82, 83, 57, 58, 84, 85, 86, 87, 88, 89, 90, 91, 92, 100, 101, 102, 103, 104, 105, 93, 94, 95, 96] (by decide +kernel) (by decide +kernel)
set_option maxRecDepth 20000 in
theorem gX5_migrate_X5_gainOf : GoodIn wsX5_migrate (wsV RX5 208 RX5 yX5_gainOf wsX5_gainOf) := goodIn_app (goodIn_of _ (by decide +kernel)) ggX5_migrate_X5_gainOf
set_option maxRecDepth 20000 in
theorem ggX5_migrate_X5_with : GoodIn wsX5_migrate wsX5_with := goodIn_r _ [58] (by decide +kernel) (by decide +kernel)
set_option maxRecDepth 20000 in
theorem gX5_migrate_X5_with : GoodIn wsX5_migrate (va_wsS RX5 121 yX5_with wsX5_with) := goodIn_app (goodIn_of _ (by decide +kernel)) ggX5_migrate_X5_with
theorem dX5_migrate_0 : decode cX5_migrate 0 = .ok (.iload_n 1, 1) := by decide +kernel
theorem dX5_migrate_1 : decode cX5_migrate 1 = .ok (.iconst 1, 1) := by decide +kernel
theorem dX5_migrate_2 : decode cX5_migrate 2 = .ok (.if_icmp .lt 9, 3) := by decide +kernel
theorem dX5_migrate_5 : decode cX5_migrate 5 = .ok (.iload_n 1, 1) := by decide +kernel
theorem dX5_migrate_6 : decode cX5_migrate 6 = .ok (.bipush 10, 2) := by decide +kernel
theorem dX5_migrate_8 : decode cX5_migrate 8 = .ok (.if_icmp .le 13, 3) := by decide +kernel
theorem dX5_migrate_11 : decode cX5_migrate 11 = .ok (.new 54, 3) := by decide +kernel
theorem dX5_migrate_14 : decode cX5_migrate 14 = .ok (.dup, 1) := by decide +kernel
theorem dX5_migrate_15 : decode cX5_migrate 15 = .ok (.ldc 214, 2) := by decide +kernel
theorem dX5_migrate_17 : decode cX5_migrate 17 = .ok (.invokespecial 58, 3) := by decide +kernel
theorem dX5_migrate_20 : decode cX5_migrate 20 = .ok (.athrow, 1) := by decide +kernel
theorem dX5_migrate_21 : decode cX5_migrate 21 = .ok (.iconst 0, 1) := by decide +kernel
theorem dX5_migrate_22 : decode cX5_migrate 22 = .ok (.istore_n 2, 1) := by decide +kernel
theorem dX5_migrate_23 : decode cX5_migrate 23 = .ok (.iload_n 2, 1) := by decide +kernel
theorem dX5_migrate_24 : decode cX5_migrate 24 = .ok (.iload_n 1, 1) := by decide +kernel
theorem dX5_migrate_25 : decode cX5_migrate 25 = .ok (.if_icmp .ge 47, 3) := by decide +kernel
theorem dX5_migrate_28 : decode cX5_migrate 28 = .ok (.aload_n 0, 1) := by decide +kernel
theorem dX5_migrate_29 : decode cX5_migrate 29 = .ok (.invokevirtual 211, 3) := by decide +kernel
theorem dX5_migrate_32 : decode cX5_migrate 32 = .ok (.istore_n 3, 1) := by decide +kernel
theorem dX5_migrate_33 : decode cX5_migrate 33 = .ok (.iload_n 3, 1) := by decide +kernel
theorem dX5_migrate_34 : decode cX5_migrate 34 = .ok (.iconst (-1), 1) := by decide +kernel
theorem dX5_migrate_35 : decode cX5_migrate 35 = .ok (.if_icmp .eq 11, 3) := by decide +kernel
theorem dX5_migrate_38 : decode cX5_migrate 38 = .ok (.aload_n 0, 1) := by decide +kernel
theorem dX5_migrate_39 : decode cX5_migrate 39 = .ok (.iload_n 3, 1) := by decide +kernel
theorem dX5_migrate_40 : decode cX5_migrate 40 = .ok (.invokevirtual 208, 3) := by decide +kernel
theorem dX5_migrate_43 : decode cX5_migrate 43 = .ok (.ifCond .ge 5, 3) := by decide +kernel
theorem dX5_migrate_46 : decode cX5_migrate 46 = .ok (.iload_n 2, 1) := by decide +kernel
theorem dX5_migrate_47 : decode cX5_migrate 47 = .ok (.ireturn, 1) := by decide +kernel
theorem dX5_migrate_48 : decode cX5_migrate 48 = .ok (.aload_n 0, 1) := by decide +kernel
theorem dX5_migrate_49 : decode cX5_migrate 49 = .ok (.getfield 10, 3) := by decide +kernel
theorem dX5_migrate_52 : decode cX5_migrate 52 = .ok (.aload_n 0, 1) := by decide +kernel
theorem dX5_migrate_53 : decode cX5_migrate 53 = .ok (.getfield 10, 3) := by decide +kernel
theorem dX5_migrate_56 : decode cX5_migrate 56 = .ok (.getfield 114, 3) := by decide +kernel
theorem dX5_migrate_59 : decode cX5_migrate 59 = .ok (.iload_n 3, 1) := by decide +kernel
theorem dX5_migrate_60 : decode cX5_migrate 60 = .ok (.invokestatic 121, 3) := by decide +kernel
theorem dX5_migrate_63 : decode cX5_migrate 63 = .ok (.putfield 114, 3) := by decide +kernel
theorem dX5_migrate_66 : decode cX5_migrate 66 = .ok (.iinc 2 1, 3) := by decide +kernel
theorem dX5_migrate_69 : decode cX5_migrate 69 = .ok (.goto (-46), 3) := by decide +kernel
theorem dX5_migrate_72 : decode cX5_migrate 72 = .ok (.iload_n 1, 1) := by decide +kernel
theorem dX5_migrate_73 : decode cX5_migrate 73 = .ok (.ireturn, 1) := by decide +kernel
set_option maxRecDepth 20000 in
theorem ggX5_wouldBlame_X5_requireFunction : GoodIn wsX5_wouldBlame wsX5_requireFunction := goodIn_ca (goodIn_r _ [8, 9, 10, 11, 12, 109, 110, 111, 112, 126, 127, 128, 129, 130] (by decide +kernel) (by decide +kernel)) (goodIn_sub (fun _ h => List.mem_cons_of_mem _ (List.mem_append_left _ (List.mem_append_right _ h))) (by decide +kernel))
set_option maxRecDepth 20000 in
theorem gX5_wouldBlame_X5_requireFunction : GoodIn wsX5_wouldBlame (wsV RX5 46 RX5 yX5_requireFunction wsX5_requireFunction) := goodIn_app (goodIn_of _ (by decide +kernel)) ggX5_wouldBlame_X5_requireFunction
set_option maxRecDepth 20000 in
theorem ggX5_wouldBlame_X5_requireValue : GoodIn wsX5_wouldBlame wsX5_requireValue := goodIn_ca (goodIn_r _ [15, 16, 17, 18, 19, 7, 20] (by decide +kernel) (by decide +kernel)) (goodIn_sub (fun _ h => List.mem_cons_of_mem _ (List.mem_append_right _ h)) (by decide +kernel))
set_option maxRecDepth 20000 in
theorem gX5_wouldBlame_X5_requireValue : GoodIn wsX5_wouldBlame (va_wsS RX5 181 yX5_requireValue wsX5_requireValue) := goodIn_app (goodIn_of _ (by decide +kernel)) ggX5_wouldBlame_X5_requireValue
set_option maxRecDepth 20000 in
theorem ggX5_wouldBlame_X4_tryOut : GoodIn wsX5_wouldBlame wsX4_tryOut := goodIn_r _ [25, 26, 27, 28, 29, 30, 31, 24, 32, 33, 34, 35, 36, 37, 38, 39, 40, 41, 42, 43, 44, 45, 46, 47, 48, 49, 50, 51, 52, 53, 54, 55, 56, 57, 58, 59, 7, 60, 61, 62, 63, 64, 65, 66, 67, 68, 69, 70, 71, 72, 73, 74, 75, 76, 77, 78, 79, 80, 81, 82, 83, 84, 85, 86, 87, 88, 89, 90, 91, 92, 93, 94, 95, 96, 97, 98, 99, 100, 101, 102, 103, 104, 105, 106, 107, 108, 113, 114, 115, 116, 117, 118, 119, 120, 121, 122, 123, 124, 125, 126, 127, 128, 129, 130, 131, 132, 133, 134] (by decide +kernel) (by decide +kernel)
set_option maxRecDepth 20000 in
theorem gX5_wouldBlame_X4_tryOut : GoodIn wsX5_wouldBlame (wsV RX5 184 RX4 yX4_tryOut wsX4_tryOut) := goodIn_app (goodIn_of _ (by decide +kernel)) ggX5_wouldBlame_X4_tryOut
theorem dX5_wouldBlame_0 : decode cX5_wouldBlame 0 = .ok (.aload_n 0, 1) := by decide +kernel
theorem dX5_wouldBlame_1 : decode cX5_wouldBlame 1 = .ok (.iload_n 1, 1) := by decide +kernel
theorem dX5_wouldBlame_2 : decode cX5_wouldBlame 2 = .ok (.invokevirtual 46, 3) := by decide +kernel
theorem dX5_wouldBlame_5 : decode cX5_wouldBlame 5 = .ok (.iload_n 2, 1) := by decide +kernel
theorem dX5_wouldBlame_6 : decode cX5_wouldBlame 6 = .ok (.iload_n 3, 1) := by decide +kernel
theorem dX5_wouldBlame_7 : decode cX5_wouldBlame 7 = .ok (.invokestatic 181, 3) := by decide +kernel
theorem dX5_wouldBlame_10 : decode cX5_wouldBlame 10 = .ok (.aload_n 0, 1) := by decide +kernel
theorem dX5_wouldBlame_11 : decode cX5_wouldBlame 11 = .ok (.getfield 21, 3) := by decide +kernel
theorem dX5_wouldBlame_14 : decode cX5_wouldBlame 14 = .ok (.iload_n 1, 1) := by decide +kernel
theorem dX5_wouldBlame_15 : decode cX5_wouldBlame 15 = .ok (.iload_n 2, 1) := by decide +kernel
theorem dX5_wouldBlame_16 : decode cX5_wouldBlame 16 = .ok (.iload_n 3, 1) := by decide +kernel
theorem dX5_wouldBlame_17 : decode cX5_wouldBlame 17 = .ok (.aload_n 0, 1) := by decide +kernel
theorem dX5_wouldBlame_18 : decode cX5_wouldBlame 18 = .ok (.getfield 32, 3) := by decide +kernel
theorem dX5_wouldBlame_21 : decode cX5_wouldBlame 21 = .ok (.invokevirtual 184, 3) := by decide +kernel
theorem dX5_wouldBlame_24 : decode cX5_wouldBlame 24 = .ok (.aload_n 0, 1) := by decide +kernel
theorem dX5_wouldBlame_25 : decode cX5_wouldBlame 25 = .ok (.getfield 21, 3) := by decide +kernel
theorem dX5_wouldBlame_28 : decode cX5_wouldBlame 28 = .ok (.getfield 216, 3) := by decide +kernel
theorem dX5_wouldBlame_31 : decode cX5_wouldBlame 31 = .ok (.ireturn, 1) := by decide +kernel
set_option maxRecDepth 20000 in
theorem ggX5_untyped_X5_requireFunction : GoodIn wsX5_untyped wsX5_requireFunction := goodIn_ca (goodIn_r _ [6, 7, 8, 1, 9, 79, 80, 81, 82, 83, 84, 85, 86, 87] (by decide +kernel) (by decide +kernel)) (goodIn_sub (fun _ h => List.mem_cons_of_mem _ (List.mem_append_left _ (List.mem_append_right _ h))) (by decide +kernel))
set_option maxRecDepth 20000 in
theorem gX5_untyped_X5_requireFunction : GoodIn wsX5_untyped (wsV RX5 46 RX5 yX5_requireFunction wsX5_requireFunction) := goodIn_app (goodIn_of _ (by decide +kernel)) ggX5_untyped_X5_requireFunction
set_option maxRecDepth 20000 in
theorem ggX5_untyped_X5_requireHints : GoodIn wsX5_untyped wsX5_requireHints := goodIn_ca (goodIn_r _ [12, 13, 14] (by decide +kernel) (by decide +kernel)) (goodIn_sub (fun _ h => List.mem_cons_of_mem _ (List.mem_append_right _ h)) (by decide +kernel))
set_option maxRecDepth 20000 in
theorem gX5_untyped_X5_requireHints : GoodIn wsX5_untyped (va_wsS RX5 77 yX5_requireHints wsX5_requireHints) := goodIn_app (goodIn_of _ (by decide +kernel)) ggX5_untyped_X5_requireHints
set_option maxRecDepth 20000 in
theorem ggX5_untyped_X3_untypableWith : GoodIn wsX5_untyped wsX3_untypableWith := goodIn_r _ [19, 20, 21, 22, 23, 24, 25, 18, 26, 27, 28, 29, 30, 31, 32, 33, 34, 35, 36, 37, 38, 39, 40, 41, 42, 43, 44, 45, 46, 47, 48, 49, 50, 51, 52, 5, 53, 54, 55, 56, 57, 58, 59, 60, 61, 62, 63, 64, 65, 66, 67, 68, 69, 70, 71, 83, 84, 85, 86, 87, 88, 89, 90, 91, 92, 93, 94] (by decide +kernel) (by decide +kernel)
set_option maxRecDepth 20000 in
theorem gX5_untyped_X3_untypableWith : GoodIn wsX5_untyped (wsV RX5 222 RX3 yX3_untypableWith wsX3_untypableWith) := goodIn_app (goodIn_of _ (by decide +kernel)) ggX5_untyped_X3_untypableWith
set_option maxRecDepth 20000 in
theorem ggX5_untyped_J6_bitCount_0f7a4 : GoodIn wsX5_untyped wsJ6_bitCount_0f7a4 := goodIn_r _ [75, 76, 77, 78] (by decide +kernel) (by decide +kernel)
set_option maxRecDepth 20000 in
theorem gX5_untyped_J6_bitCount_0f7a4 : GoodIn wsX5_untyped (va_wsS RX5 152 yJ6_bitCount_0f7a4 wsJ6_bitCount_0f7a4) := goodIn_app (goodIn_of _ (by decide +kernel)) ggX5_untyped_J6_bitCount_0f7a4
theorem dX5_untyped_0 : decode cX5_untyped 0 = .ok (.aload_n 0, 1) := by decide +kernel
theorem dX5_untyped_1 : decode cX5_untyped 1 = .ok (.iload_n 1, 1) := by decide +kernel
theorem dX5_untyped_2 : decode cX5_untyped 2 = .ok (.invokevirtual 46, 3) := by decide +kernel
theorem dX5_untyped_5 : decode cX5_untyped 5 = .ok (.iload_n 2, 1) := by decide +kernel
theorem dX5_untyped_6 : decode cX5_untyped 6 = .ok (.iload_n 3, 1) := by decide +kernel
theorem dX5_untyped_7 : decode cX5_untyped 7 = .ok (.invokestatic 77, 3) := by decide +kernel
theorem dX5_untyped_10 : decode cX5_untyped 10 = .ok (.aload_n 0, 1) := by decide +kernel
theorem dX5_untyped_11 : decode cX5_untyped 11 = .ok (.getfield 10, 3) := by decide +kernel
theorem dX5_untyped_14 : decode cX5_untyped 14 = .ok (.iload_n 1, 1) := by decide +kernel
theorem dX5_untyped_15 : decode cX5_untyped 15 = .ok (.iload_n 2, 1) := by decide +kernel
theorem dX5_untyped_16 : decode cX5_untyped 16 = .ok (.iload_n 3, 1) := by decide +kernel
theorem dX5_untyped_17 : decode cX5_untyped 17 = .ok (.invokevirtual 222, 3) := by decide +kernel
theorem dX5_untyped_20 : decode cX5_untyped 20 = .ok (.invokestatic 152, 3) := by decide +kernel
theorem dX5_untyped_23 : decode cX5_untyped 23 = .ok (.ireturn, 1) := by decide +kernel
set_option maxRecDepth 20000 in
theorem ggX5_tollAtBest_X3_typable : GoodIn wsX5_tollAtBest wsX3_typable := goodIn_r _ [6, 7, 8, 9, 10, 5, 11, 12, 13, 14, 15, 16, 17, 18, 19, 20, 21, 22, 23, 24, 25, 26, 27, 28, 29, 30, 31, 32, 33, 34, 35, 36, 37, 38, 39, 40, 41, 42, 43, 44, 45, 46, 47, 48, 49, 50, 75, 76, 77, 78, 79, 80, 81, 82, 83, 84, 85, 86] (by decide +kernel) (by decide +kernel)
set_option maxRecDepth 20000 in
theorem gX5_tollAtBest_X3_typable : GoodIn wsX5_tollAtBest (wsV RX5 157 RX3 yX3_typable wsX3_typable) := goodIn_app (goodIn_of _ (by decide +kernel)) ggX5_tollAtBest_X3_typable
set_option maxRecDepth 20000 in
theorem ggX5_tollAtBest_X5_tollWith : GoodIn wsX5_tollAtBest wsX5_tollWith := goodIn_r _ [54, 1, 55, 56, 57, 58, 59, 60, 5, 61, 12, 14, 62, 31, 63, 64, 65, 66, 67, 17, 68, 69, 70, 71, 72, 73, 74, 75, 76, 77, 78, 79, 87, 88, 89, 90, 91, 92, 80, 81, 82, 83] (by decide +kernel) (by decide +kernel)
set_option maxRecDepth 20000 in
theorem gX5_tollAtBest_X5_tollWith : GoodIn wsX5_tollAtBest (wsV RX5 175 RX5 yX5_tollWith wsX5_tollWith) := goodIn_app (goodIn_of _ (by decide +kernel)) ggX5_tollAtBest_X5_tollWith
theorem dX5_tollAtBest_0 : decode cX5_tollAtBest 0 = .ok (.aload_n 0, 1) := by decide +kernel
theorem dX5_tollAtBest_1 : decode cX5_tollAtBest 1 = .ok (.aload_n 0, 1) := by decide +kernel
theorem dX5_tollAtBest_2 : decode cX5_tollAtBest 2 = .ok (.getfield 10, 3) := by decide +kernel
theorem dX5_tollAtBest_5 : decode cX5_tollAtBest 5 = .ok (.invokevirtual 157, 3) := by decide +kernel
theorem dX5_tollAtBest_8 : decode cX5_tollAtBest 8 = .ok (.invokevirtual 175, 3) := by decide +kernel
theorem dX5_tollAtBest_11 : decode cX5_tollAtBest 11 = .ok (.ireturn, 1) := by decide +kernel
set_option maxRecDepth 20000 in
theorem ggX5_digest_X5_many : GoodIn wsX5_digest wsX5_many := goodIn_ca (goodIn_r _ [8, 2, 3, 9, 10, 11, 12, 13, 14, 15, 16, 7, 17, 18, 19, 20, 21, 22, 23, 24, 25, 26, 27, 28, 29, 30, 31, 32, 33, 34, 35, 36, 37, 38, 39, 40, 41, 42, 43, 44, 45, 46, 47, 48, 49, 50, 51, 52, 53, 54, 55, 56, 57, 58, 59, 60, 61, 62, 63, 64, 65, 66, 67, 68, 69, 70, 71, 72, 73, 74, 75, 76, 77, 78, 79, 80, 81, 82, 83, 84, 85, 86, 87, 88, 89, 90, 91, 92, 93, 94, 95, 96, 97, 267, 268, 269, 270, 271, 272, 273, 274, 275, 276, 277, 278, 279, 280, 281, 282, 283, 284, 285, 286, 287, 288] (by decide +kernel) (by decide +kernel)) (goodIn_sub (fun _ h => List.mem_cons_of_mem _ (List.mem_append_left _ (List.mem_append_right _ h))) (by decide +kernel))
set_option maxRecDepth 20000 in
theorem gX5_digest_X5_many : GoodIn wsX5_digest (wsV RX5 227 RX5 yX5_many wsX5_many) := goodIn_app (goodIn_of _ (by decide +kernel)) ggX5_digest_X5_many
set_option maxRecDepth 20000 in
theorem ggX5_digest_X5_mixed : GoodIn wsX5_digest wsX5_mixed := goodIn_r _ [100, 101] (by decide +kernel) (by decide +kernel)
set_option maxRecDepth 20000 in
theorem gX5_digest_X5_mixed : GoodIn wsX5_digest (va_wsS RX5 230 yX5_mixed wsX5_mixed) := goodIn_app (goodIn_of _ (by decide +kernel)) ggX5_digest_X5_mixed
set_option maxRecDepth 20000 in
theorem ggX5_digest_X5_latest : GoodIn wsX5_digest wsX5_latest := goodIn_ca (goodIn_r _ [105, 11, 106, 15, 16, 7, 17, 18, 19, 267, 268, 269, 270, 276, 277, 278, 279, 280, 281] (by decide +kernel) (by decide +kernel)) (goodIn_sub (fun _ h => List.mem_cons_of_mem _ (List.mem_append_left _ (List.mem_append_right _ h))) (by decide +kernel))
set_option maxRecDepth 20000 in
theorem gX5_digest_X5_latest : GoodIn wsX5_digest (wsV RX5 234 RX5 yX5_latest wsX5_latest) := goodIn_app (goodIn_of _ (by decide +kernel)) ggX5_digest_X5_latest
set_option maxRecDepth 20000 in
theorem ggX5_digest_X5_mixedFunction : GoodIn wsX5_digest wsX5_mixedFunction := goodIn_ca (goodIn_ca (goodIn_r _ [110, 2, 111, 112, 113, 114, 115, 7, 116, 117, 118, 9, 119, 120, 121, 11, 122, 123, 124, 125, 126, 127, 3, 15, 16, 17, 18, 19, 128, 89, 90, 129, 34, 35, 30, 36, 37, 38, 39, 40, 41, 42, 43, 44, 45, 46, 47, 48, 49, 50, 51, 52, 53, 54, 55, 56, 57, 58, 59, 60, 61, 62, 63, 64, 65, 66, 67, 68, 130, 131, 132, 133, 134, 135, 136, 137, 138, 139, 140, 141, 32, 142, 143, 144, 145, 146, 147, 148, 149, 150, 151, 152, 153, 154, 98, 99, 100, 101, 155, 156, 157, 158, 159, 160, 161, 162, 163, 164, 165, 166, 167, 168, 169, 170, 171, 172, 80, 81, 82, 83, 84, 85, 86, 87, 88, 91, 92, 93, 94, 95, 96, 97, 173, 73, 74, 174, 175, 176, 177, 178, 179, 180, 181, 182, 183, 184, 185, 186, 187, 188, 189, 190, 191, 192, 193, 194, 195, 196, 197, 198, 199, 200, 201, 202, 203, 204, 205, 206, 207, 208, 209, 210, 211, 212, 213, 214, 215, 216, 217, 218, 219, 220, 221, 222, 223, 224, 225, 226, 227, 228, 229, 230, 231, 232, 233, 234, 235, 236, 237, 238, 239, 240, 241, 242, 243, 244, 245, 246, 247, 248, 249, 250, 251, 252, 253, 254, 267, 268, 269, 270, 271, 272, 273, 274, 275, 282, 283, 284, 285, 286, 287, 288, 276, 277, 278, 279, 280, 281, 289, 290, 291, 292, 293, 294, 295, 296, 297, 298, 299, 300, 301] (by decide +kernel) (by decide +kernel)) (goodIn_sub (fun _ h => List.mem_cons_of_mem _ (List.mem_append_right _ h)) (by decide +kernel))) (goodIn_sub (fun _ h => List.mem_cons_of_mem _ (List.mem_append_left _ (List.mem_append_right _ h))) (by decide +kernel))
set_option maxRecDepth 20000 in
theorem gX5_digest_X5_mixedFunction : GoodIn wsX5_digest (wsV RX5 236 RX5 yX5_mixedFunction wsX5_mixedFunction) := goodIn_app (goodIn_of _ (by decide +kernel)) ggX5_digest_X5_mixedFunction
set_option maxRecDepth 20000 in
theorem ggX5_digest_X5_next : GoodIn wsX5_digest wsX5_next := goodIn_r _ [258, 259, 260, 261, 7, 262, 2, 9, 3, 27, 28, 29, 30, 31, 32, 33, 34, 35, 36, 37, 38, 39, 40, 41, 42, 43, 44, 45, 46, 47, 48, 49, 50, 51, 52, 53, 54, 55, 56, 57, 58, 59, 60, 61, 62, 63, 64, 65, 66, 67, 68, 69, 70, 71, 72, 73, 74, 128, 89, 90, 169, 170, 171, 172, 80, 81, 82, 83, 11, 84, 85, 86, 87, 88, 91, 92, 93, 94, 95, 96, 97, 173, 267, 268, 269, 270, 271, 272, 273, 274, 275, 282, 283, 284, 285, 286, 287, 288, 276, 277, 278, 279, 280, 281] (by decide +kernel) (by decide +kernel)
set_option maxRecDepth 20000 in
theorem gX5_digest_X5_next : GoodIn wsX5_digest (wsV RX5 239 RX5 yX5_next wsX5_next) := goodIn_app (goodIn_of _ (by decide +kernel)) ggX5_digest_X5_next
set_option maxRecDepth 20000 in
theorem ggX5_digest_X5_tollAtBest : GoodIn wsX5_digest wsX5_tollAtBest := goodIn_r _ [266, 2, 27, 28, 29, 30, 31, 32, 33, 34, 35, 36, 37, 38, 39, 40, 41, 42, 43, 44, 45, 46, 47, 48, 49, 50, 51, 52, 53, 54, 55, 7, 56, 57, 58, 59, 60, 61, 62, 63, 64, 65, 66, 67, 68, 69, 70, 71, 72, 73, 74, 80, 81, 82, 83, 3, 11, 84, 85, 86, 87, 88, 89, 90, 91, 92, 93, 94, 95, 96, 97, 267, 268, 269, 270, 271, 272, 273, 274, 275, 282, 283, 284, 285, 286, 287, 288, 276, 277, 278, 279, 280, 281] (by decide +kernel) (by decide +kernel)
set_option maxRecDepth 20000 in
theorem gX5_digest_X5_tollAtBest : GoodIn wsX5_digest (wsV RX5 242 RX5 yX5_tollAtBest wsX5_tollAtBest) := goodIn_app (goodIn_of _ (by decide +kernel)) ggX5_digest_X5_tollAtBest
theorem dX5_digest_0 : decode cX5_digest 0 = .ok (.ldc2_w 225, 3) := by decide +kernel
theorem dX5_digest_3 : decode cX5_digest 3 = .ok (.lstore_n 1, 1) := by decide +kernel
theorem dX5_digest_4 : decode cX5_digest 4 = .ok (.iconst 0, 1) := by decide +kernel
theorem dX5_digest_5 : decode cX5_digest 5 = .ok (.istore_n 3, 1) := by decide +kernel
theorem dX5_digest_6 : decode cX5_digest 6 = .ok (.iload_n 3, 1) := by decide +kernel
theorem dX5_digest_7 : decode cX5_digest 7 = .ok (.bipush 8, 2) := by decide +kernel
theorem dX5_digest_9 : decode cX5_digest 9 = .ok (.if_icmp .gt 19, 3) := by decide +kernel
theorem dX5_digest_12 : decode cX5_digest 12 = .ok (.lload_n 1, 1) := by decide +kernel
theorem dX5_digest_13 : decode cX5_digest 13 = .ok (.aload_n 0, 1) := by decide +kernel
theorem dX5_digest_14 : decode cX5_digest 14 = .ok (.iload_n 3, 1) := by decide +kernel
theorem dX5_digest_15 : decode cX5_digest 15 = .ok (.invokevirtual 227, 3) := by decide +kernel
theorem dX5_digest_18 : decode cX5_digest 18 = .ok (.invokestatic 230, 3) := by decide +kernel
theorem dX5_digest_21 : decode cX5_digest 21 = .ok (.lstore_n 1, 1) := by decide +kernel
theorem dX5_digest_22 : decode cX5_digest 22 = .ok (.iinc 3 1, 3) := by decide +kernel
theorem dX5_digest_25 : decode cX5_digest 25 = .ok (.goto (-19), 3) := by decide +kernel
theorem dX5_digest_28 : decode cX5_digest 28 = .ok (.iconst 0, 1) := by decide +kernel
theorem dX5_digest_29 : decode cX5_digest 29 = .ok (.istore_n 3, 1) := by decide +kernel
theorem dX5_digest_30 : decode cX5_digest 30 = .ok (.iload_n 3, 1) := by decide +kernel
theorem dX5_digest_31 : decode cX5_digest 31 = .ok (.bipush 7, 2) := by decide +kernel
theorem dX5_digest_33 : decode cX5_digest 33 = .ok (.if_icmp .gt 19, 3) := by decide +kernel
theorem dX5_digest_36 : decode cX5_digest 36 = .ok (.lload_n 1, 1) := by decide +kernel
theorem dX5_digest_37 : decode cX5_digest 37 = .ok (.aload_n 0, 1) := by decide +kernel
theorem dX5_digest_38 : decode cX5_digest 38 = .ok (.iload_n 3, 1) := by decide +kernel
theorem dX5_digest_39 : decode cX5_digest 39 = .ok (.invokevirtual 234, 3) := by decide +kernel
theorem dX5_digest_42 : decode cX5_digest 42 = .ok (.invokestatic 230, 3) := by decide +kernel
theorem dX5_digest_45 : decode cX5_digest 45 = .ok (.lstore_n 1, 1) := by decide +kernel
theorem dX5_digest_46 : decode cX5_digest 46 = .ok (.iinc 3 1, 3) := by decide +kernel
theorem dX5_digest_49 : decode cX5_digest 49 = .ok (.goto (-19), 3) := by decide +kernel
theorem dX5_digest_52 : decode cX5_digest 52 = .ok (.iconst 0, 1) := by decide +kernel
theorem dX5_digest_53 : decode cX5_digest 53 = .ok (.istore_n 3, 1) := by decide +kernel
theorem dX5_digest_54 : decode cX5_digest 54 = .ok (.iload_n 3, 1) := by decide +kernel
theorem dX5_digest_55 : decode cX5_digest 55 = .ok (.aload_n 0, 1) := by decide +kernel
theorem dX5_digest_56 : decode cX5_digest 56 = .ok (.getfield 10, 3) := by decide +kernel
theorem dX5_digest_59 : decode cX5_digest 59 = .ok (.getfield 36, 3) := by decide +kernel
theorem dX5_digest_62 : decode cX5_digest 62 = .ok (.if_icmp .ge 16, 3) := by decide +kernel
theorem dX5_digest_65 : decode cX5_digest 65 = .ok (.aload_n 0, 1) := by decide +kernel
theorem dX5_digest_66 : decode cX5_digest 66 = .ok (.lload_n 1, 1) := by decide +kernel
theorem dX5_digest_67 : decode cX5_digest 67 = .ok (.iload_n 3, 1) := by decide +kernel
theorem dX5_digest_68 : decode cX5_digest 68 = .ok (.invokevirtual 236, 3) := by decide +kernel
theorem dX5_digest_71 : decode cX5_digest 71 = .ok (.lstore_n 1, 1) := by decide +kernel
theorem dX5_digest_72 : decode cX5_digest 72 = .ok (.iinc 3 1, 3) := by decide +kernel
theorem dX5_digest_75 : decode cX5_digest 75 = .ok (.goto (-21), 3) := by decide +kernel
theorem dX5_digest_78 : decode cX5_digest 78 = .ok (.lload_n 1, 1) := by decide +kernel
theorem dX5_digest_79 : decode cX5_digest 79 = .ok (.aload_n 0, 1) := by decide +kernel
theorem dX5_digest_80 : decode cX5_digest 80 = .ok (.invokevirtual 239, 3) := by decide +kernel
theorem dX5_digest_83 : decode cX5_digest 83 = .ok (.invokestatic 230, 3) := by decide +kernel
theorem dX5_digest_86 : decode cX5_digest 86 = .ok (.lstore_n 1, 1) := by decide +kernel
theorem dX5_digest_87 : decode cX5_digest 87 = .ok (.lload_n 1, 1) := by decide +kernel
theorem dX5_digest_88 : decode cX5_digest 88 = .ok (.aload_n 0, 1) := by decide +kernel
theorem dX5_digest_89 : decode cX5_digest 89 = .ok (.invokevirtual 242, 3) := by decide +kernel
theorem dX5_digest_92 : decode cX5_digest 92 = .ok (.invokestatic 230, 3) := by decide +kernel
theorem dX5_digest_95 : decode cX5_digest 95 = .ok (.lreturn, 1) := by decide +kernel
set_option maxRecDepth 20000 in
theorem ggX5_mixedFunction_X5_ofFunction : GoodIn wsX5_mixedFunction wsX5_ofFunction := goodIn_ca (goodIn_ca (goodIn_r _ [8, 1, 2, 3, 9, 10, 11, 12, 13, 14, 15, 16, 17, 18, 7, 19, 20, 21, 22, 23, 24, 25, 26, 27, 28, 29, 30, 31, 32, 33, 34, 35, 36, 37, 38, 39, 40, 41, 42, 43, 44, 45, 46, 47, 48, 49, 50, 51, 52, 53, 54, 55, 56, 57, 58, 59, 60, 61, 62, 63, 64, 65, 66, 67, 68, 69, 70, 71, 72, 73, 74, 75, 76, 77, 78, 79, 80, 81, 82, 83, 84, 85, 86, 87, 88, 89, 90, 91, 92, 93, 216, 217, 218, 219, 220, 221, 222, 223, 224, 225, 226, 227, 228, 229, 230, 231, 232, 233, 234, 235, 236, 237] (by decide +kernel) (by decide +kernel)) (goodIn_sub (fun _ h => List.mem_cons_of_mem _ (List.mem_append_left _ (List.mem_append_right _ h))) (by decide +kernel))) (goodIn_sub (fun _ h => List.mem_cons_of_mem _ (List.mem_append_right _ h)) (by decide +kernel))
set_option maxRecDepth 20000 in
theorem gX5_mixedFunction_X5_ofFunction : GoodIn wsX5_mixedFunction (wsV RX5 245 RX5 yX5_ofFunction wsX5_ofFunction) := goodIn_app (goodIn_of _ (by decide +kernel)) ggX5_mixedFunction_X5_ofFunction
set_option maxRecDepth 20000 in
theorem ggX5_mixedFunction_X5_mixed : GoodIn wsX5_mixedFunction wsX5_mixed := goodIn_r _ [96, 97] (by decide +kernel) (by decide +kernel)
set_option maxRecDepth 20000 in
theorem gX5_mixedFunction_X5_mixed : GoodIn wsX5_mixedFunction (va_wsS RX5 230 yX5_mixed wsX5_mixed) := goodIn_app (goodIn_of _ (by decide +kernel)) ggX5_mixedFunction_X5_mixed
set_option maxRecDepth 20000 in
theorem ggX5_mixedFunction_X5_stepAt : GoodIn wsX5_mixedFunction wsX5_stepAt := goodIn_ca (goodIn_r _ [101, 20, 21, 1, 2, 3, 102, 16, 17, 18, 7, 19, 22, 216, 217, 218, 219, 220, 221, 222, 223, 224, 225, 226, 227, 228] (by decide +kernel) (by decide +kernel)) (goodIn_sub (fun _ h => List.mem_cons_of_mem _ (List.mem_append_left _ (List.mem_append_right _ h))) (by decide +kernel))
set_option maxRecDepth 20000 in
theorem gX5_mixedFunction_X5_stepAt : GoodIn wsX5_mixedFunction (wsV RX5 248 RX5 yX5_stepAt wsX5_stepAt) := goodIn_app (goodIn_of _ (by decide +kernel)) ggX5_mixedFunction_X5_stepAt
set_option maxRecDepth 20000 in
theorem ggX5_mixedFunction_X5_blamed : GoodIn wsX5_mixedFunction wsX5_blamed := goodIn_ca (goodIn_r _ [106, 15, 107, 16, 17, 18, 7, 19, 20, 21, 1, 22, 216, 217, 218, 219, 232, 233, 234, 235, 236, 237, 220, 221, 222, 223, 224] (by decide +kernel) (by decide +kernel)) (goodIn_sub (fun _ h => List.mem_cons_of_mem _ (List.mem_append_left _ (List.mem_append_right _ h))) (by decide +kernel))
set_option maxRecDepth 20000 in
theorem gX5_mixedFunction_X5_blamed : GoodIn wsX5_mixedFunction (wsV RX5 251 RX5 yX5_blamed wsX5_blamed) := goodIn_app (goodIn_of _ (by decide +kernel)) ggX5_mixedFunction_X5_blamed
set_option maxRecDepth 20000 in
theorem ggX5_mixedFunction_X5_gain : GoodIn wsX5_mixedFunction wsX5_gain := goodIn_ca (goodIn_r _ [111, 16, 17, 18, 7, 19, 20, 21, 1, 22, 112, 113, 114, 115, 11, 116, 117, 118, 119, 15, 120, 121, 122, 123, 34, 124, 36, 38, 29, 30, 125, 126, 127, 128, 41, 129, 130, 131, 132, 133, 134, 216, 217, 218, 219, 220, 221, 222, 223, 224, 232, 233, 234, 235, 236, 237, 225, 226, 227, 228] (by decide +kernel) (by decide +kernel)) (goodIn_sub (fun _ h => List.mem_cons_of_mem _ (List.mem_append_left _ (List.mem_append_right _ h))) (by decide +kernel))
set_option maxRecDepth 20000 in
theorem gX5_mixedFunction_X5_gain : GoodIn wsX5_mixedFunction (wsV RX5 254 RX5 yX5_gain wsX5_gain) := goodIn_app (goodIn_of _ (by decide +kernel)) ggX5_mixedFunction_X5_gain
set_option maxRecDepth 20000 in
theorem ggX5_mixedFunction_X5_wouldBlame : GoodIn wsX5_mixedFunction wsX5_wouldBlame := goodIn_ca (goodIn_ca (goodIn_r _ [138, 139, 140, 141, 16, 17, 18, 7, 19, 20, 21, 1, 22, 142, 143, 144, 26, 27, 145, 146, 147, 148, 149, 150, 151, 152, 153, 154, 155, 156, 157, 158, 159, 160, 161, 162, 163, 164, 165, 166, 167, 168, 169, 170, 171, 172, 173, 174, 175, 176, 177, 178, 179, 180, 181, 182, 183, 184, 185, 130, 131, 186, 122, 123, 34, 124, 36, 38, 29, 30, 187, 188, 189, 190, 191, 192, 193, 194, 126, 127, 128, 41, 195, 54, 55, 56, 57, 196, 197, 198, 199, 200, 201, 202, 203, 204, 205, 206, 207, 208, 209, 66, 67, 210, 211, 212, 213, 214, 215, 216, 217, 218, 219, 238, 239, 240, 241, 242, 243, 244, 245, 246, 247, 248, 249, 250, 220, 221, 222, 223, 224, 225, 226, 227, 228] (by decide +kernel) (by decide +kernel)) (goodIn_sub (fun _ h => List.mem_cons_of_mem _ (List.mem_append_left _ (List.mem_append_right _ h))) (by decide +kernel))) (goodIn_sub (fun _ h => List.mem_cons_of_mem _ (List.mem_append_right _ h)) (by decide +kernel))
set_option maxRecDepth 20000 in
theorem gX5_mixedFunction_X5_wouldBlame : GoodIn wsX5_mixedFunction (wsV RX5 257 RX5 yX5_wouldBlame wsX5_wouldBlame) := goodIn_app (goodIn_of _ (by decide +kernel)) ggX5_mixedFunction_X5_wouldBlame
theorem dX5_mixedFunction_0 : decode cX5_mixedFunction 0 = .ok (.lload_n 1, 1) := by decide +kernel
theorem dX5_mixedFunction_1 : decode cX5_mixedFunction 1 = .ok (.lstore 4, 2) := by decide +kernel
theorem dX5_mixedFunction_3 : decode cX5_mixedFunction 3 = .ok (.iconst 0, 1) := by decide +kernel
theorem dX5_mixedFunction_4 : decode cX5_mixedFunction 4 = .ok (.istore 6, 2) := by decide +kernel
theorem dX5_mixedFunction_6 : decode cX5_mixedFunction 6 = .ok (.iload 6, 2) := by decide +kernel
theorem dX5_mixedFunction_8 : decode cX5_mixedFunction 8 = .ok (.bipush 10, 2) := by decide +kernel
theorem dX5_mixedFunction_10 : decode cX5_mixedFunction 10 = .ok (.if_icmp .gt 23, 3) := by decide +kernel
theorem dX5_mixedFunction_13 : decode cX5_mixedFunction 13 = .ok (.lload 4, 2) := by decide +kernel
theorem dX5_mixedFunction_15 : decode cX5_mixedFunction 15 = .ok (.aload_n 0, 1) := by decide +kernel
theorem dX5_mixedFunction_16 : decode cX5_mixedFunction 16 = .ok (.iload_n 3, 1) := by decide +kernel
theorem dX5_mixedFunction_17 : decode cX5_mixedFunction 17 = .ok (.iload 6, 2) := by decide +kernel
theorem dX5_mixedFunction_19 : decode cX5_mixedFunction 19 = .ok (.invokevirtual 245, 3) := by decide +kernel
theorem dX5_mixedFunction_22 : decode cX5_mixedFunction 22 = .ok (.invokestatic 230, 3) := by decide +kernel
theorem dX5_mixedFunction_25 : decode cX5_mixedFunction 25 = .ok (.lstore 4, 2) := by decide +kernel
theorem dX5_mixedFunction_27 : decode cX5_mixedFunction 27 = .ok (.iinc 6 1, 3) := by decide +kernel
theorem dX5_mixedFunction_30 : decode cX5_mixedFunction 30 = .ok (.goto (-24), 3) := by decide +kernel
theorem dX5_mixedFunction_33 : decode cX5_mixedFunction 33 = .ok (.aload_n 0, 1) := by decide +kernel
theorem dX5_mixedFunction_34 : decode cX5_mixedFunction 34 = .ok (.getfield 10, 3) := by decide +kernel
theorem dX5_mixedFunction_37 : decode cX5_mixedFunction 37 = .ok (.getfield 59, 3) := by decide +kernel
theorem dX5_mixedFunction_40 : decode cX5_mixedFunction 40 = .ok (.iload_n 3, 1) := by decide +kernel
theorem dX5_mixedFunction_41 : decode cX5_mixedFunction 41 = .ok (.aaload, 1) := by decide +kernel
theorem dX5_mixedFunction_42 : decode cX5_mixedFunction 42 = .ok (.getfield 63, 3) := by decide +kernel
theorem dX5_mixedFunction_45 : decode cX5_mixedFunction 45 = .ok (.istore 6, 2) := by decide +kernel
theorem dX5_mixedFunction_47 : decode cX5_mixedFunction 47 = .ok (.iconst 0, 1) := by decide +kernel
theorem dX5_mixedFunction_48 : decode cX5_mixedFunction 48 = .ok (.istore 7, 2) := by decide +kernel
theorem dX5_mixedFunction_50 : decode cX5_mixedFunction 50 = .ok (.iload 7, 2) := by decide +kernel
theorem dX5_mixedFunction_52 : decode cX5_mixedFunction 52 = .ok (.iload 6, 2) := by decide +kernel
theorem dX5_mixedFunction_54 : decode cX5_mixedFunction 54 = .ok (.if_icmp .ge 23, 3) := by decide +kernel
theorem dX5_mixedFunction_57 : decode cX5_mixedFunction 57 = .ok (.lload 4, 2) := by decide +kernel
theorem dX5_mixedFunction_59 : decode cX5_mixedFunction 59 = .ok (.aload_n 0, 1) := by decide +kernel
theorem dX5_mixedFunction_60 : decode cX5_mixedFunction 60 = .ok (.iload_n 3, 1) := by decide +kernel
theorem dX5_mixedFunction_61 : decode cX5_mixedFunction 61 = .ok (.iload 7, 2) := by decide +kernel
theorem dX5_mixedFunction_63 : decode cX5_mixedFunction 63 = .ok (.invokevirtual 248, 3) := by decide +kernel
theorem dX5_mixedFunction_66 : decode cX5_mixedFunction 66 = .ok (.invokestatic 230, 3) := by decide +kernel
theorem dX5_mixedFunction_69 : decode cX5_mixedFunction 69 = .ok (.lstore 4, 2) := by decide +kernel
theorem dX5_mixedFunction_71 : decode cX5_mixedFunction 71 = .ok (.iinc 7 1, 3) := by decide +kernel
theorem dX5_mixedFunction_74 : decode cX5_mixedFunction 74 = .ok (.goto (-24), 3) := by decide +kernel
theorem dX5_mixedFunction_77 : decode cX5_mixedFunction 77 = .ok (.lload 4, 2) := by decide +kernel
theorem dX5_mixedFunction_79 : decode cX5_mixedFunction 79 = .ok (.aload_n 0, 1) := by decide +kernel
theorem dX5_mixedFunction_80 : decode cX5_mixedFunction 80 = .ok (.iload_n 3, 1) := by decide +kernel
theorem dX5_mixedFunction_81 : decode cX5_mixedFunction 81 = .ok (.invokevirtual 251, 3) := by decide +kernel
theorem dX5_mixedFunction_84 : decode cX5_mixedFunction 84 = .ok (.invokestatic 230, 3) := by decide +kernel
theorem dX5_mixedFunction_87 : decode cX5_mixedFunction 87 = .ok (.lstore 4, 2) := by decide +kernel
theorem dX5_mixedFunction_89 : decode cX5_mixedFunction 89 = .ok (.lload 4, 2) := by decide +kernel
theorem dX5_mixedFunction_91 : decode cX5_mixedFunction 91 = .ok (.aload_n 0, 1) := by decide +kernel
theorem dX5_mixedFunction_92 : decode cX5_mixedFunction 92 = .ok (.iload_n 3, 1) := by decide +kernel
theorem dX5_mixedFunction_93 : decode cX5_mixedFunction 93 = .ok (.invokevirtual 254, 3) := by decide +kernel
theorem dX5_mixedFunction_96 : decode cX5_mixedFunction 96 = .ok (.invokestatic 230, 3) := by decide +kernel
theorem dX5_mixedFunction_99 : decode cX5_mixedFunction 99 = .ok (.lstore 4, 2) := by decide +kernel
theorem dX5_mixedFunction_101 : decode cX5_mixedFunction 101 = .ok (.lload 4, 2) := by decide +kernel
theorem dX5_mixedFunction_103 : decode cX5_mixedFunction 103 = .ok (.aload_n 0, 1) := by decide +kernel
theorem dX5_mixedFunction_104 : decode cX5_mixedFunction 104 = .ok (.iload_n 3, 1) := by decide +kernel
theorem dX5_mixedFunction_105 : decode cX5_mixedFunction 105 = .ok (.iconst 0, 1) := by decide +kernel
theorem dX5_mixedFunction_106 : decode cX5_mixedFunction 106 = .ok (.iconst 3, 1) := by decide +kernel
theorem dX5_mixedFunction_107 : decode cX5_mixedFunction 107 = .ok (.invokevirtual 257, 3) := by decide +kernel
theorem dX5_mixedFunction_110 : decode cX5_mixedFunction 110 = .ok (.invokestatic 230, 3) := by decide +kernel
theorem dX5_mixedFunction_113 : decode cX5_mixedFunction 113 = .ok (.lstore 4, 2) := by decide +kernel
theorem dX5_mixedFunction_115 : decode cX5_mixedFunction 115 = .ok (.lload 4, 2) := by decide +kernel
theorem dX5_mixedFunction_117 : decode cX5_mixedFunction 117 = .ok (.aload_n 0, 1) := by decide +kernel
theorem dX5_mixedFunction_118 : decode cX5_mixedFunction 118 = .ok (.iload_n 3, 1) := by decide +kernel
theorem dX5_mixedFunction_119 : decode cX5_mixedFunction 119 = .ok (.iconst 1, 1) := by decide +kernel
theorem dX5_mixedFunction_120 : decode cX5_mixedFunction 120 = .ok (.iconst 3, 1) := by decide +kernel
theorem dX5_mixedFunction_121 : decode cX5_mixedFunction 121 = .ok (.invokevirtual 257, 3) := by decide +kernel
theorem dX5_mixedFunction_124 : decode cX5_mixedFunction 124 = .ok (.invokestatic 230, 3) := by decide +kernel
theorem dX5_mixedFunction_127 : decode cX5_mixedFunction 127 = .ok (.lstore 4, 2) := by decide +kernel
theorem dX5_mixedFunction_129 : decode cX5_mixedFunction 129 = .ok (.lload 4, 2) := by decide +kernel
theorem dX5_mixedFunction_131 : decode cX5_mixedFunction 131 = .ok (.aload_n 0, 1) := by decide +kernel
theorem dX5_mixedFunction_132 : decode cX5_mixedFunction 132 = .ok (.iload_n 3, 1) := by decide +kernel
theorem dX5_mixedFunction_133 : decode cX5_mixedFunction 133 = .ok (.iconst 2, 1) := by decide +kernel
theorem dX5_mixedFunction_134 : decode cX5_mixedFunction 134 = .ok (.iconst 1, 1) := by decide +kernel
theorem dX5_mixedFunction_135 : decode cX5_mixedFunction 135 = .ok (.invokevirtual 257, 3) := by decide +kernel
theorem dX5_mixedFunction_138 : decode cX5_mixedFunction 138 = .ok (.invokestatic 230, 3) := by decide +kernel
theorem dX5_mixedFunction_141 : decode cX5_mixedFunction 141 = .ok (.lreturn, 1) := by decide +kernel
theorem dX5_mixed_0 : decode cX5_mixed 0 = .ok (.lload_n 0, 1) := by decide +kernel
theorem dX5_mixed_1 : decode cX5_mixed 1 = .ok (.ldc2_w 260, 3) := by decide +kernel
theorem dX5_mixed_4 : decode cX5_mixed 4 = .ok (.lmul, 1) := by decide +kernel
theorem dX5_mixed_5 : decode cX5_mixed 5 = .ok (.iload_n 2, 1) := by decide +kernel
theorem dX5_mixed_6 : decode cX5_mixed 6 = .ok (.i2l, 1) := by decide +kernel
theorem dX5_mixed_7 : decode cX5_mixed 7 = .ok (.ladd, 1) := by decide +kernel
theorem dX5_mixed_8 : decode cX5_mixed 8 = .ok (.lreturn, 1) := by decide +kernel
set_option maxRecDepth 20000 in
theorem ggX5_tollWith_X3_guardsCall : GoodIn wsX5_tollWith wsX3_guardsCall := goodIn_r _ [9, 10, 11, 12, 13, 14, 27, 28, 29, 30, 31, 38, 39, 40, 41] (by decide +kernel) (by decide +kernel)
set_option maxRecDepth 20000 in
theorem gX5_tollWith_X3_guardsCall : GoodIn wsX5_tollWith (wsV RX5 262 RX3 yX3_guardsCall wsX3_guardsCall) := goodIn_app (goodIn_of _ (by decide +kernel)) ggX5_tollWith_X3_guardsCall
set_option maxRecDepth 20000 in
theorem ggX5_tollWith_X3_guardsGive : GoodIn wsX5_tollWith wsX3_guardsGive := goodIn_r _ [18, 10, 19, 12, 13, 14, 27, 28, 29, 30, 31, 38, 39, 40, 41] (by decide +kernel) (by decide +kernel)
set_option maxRecDepth 20000 in
theorem gX5_tollWith_X3_guardsGive : GoodIn wsX5_tollWith (wsV RX5 266 RX3 yX3_guardsGive wsX3_guardsGive) := goodIn_app (goodIn_of _ (by decide +kernel)) ggX5_tollWith_X3_guardsGive
set_option maxRecDepth 20000 in
theorem ggX5_tollWith_X5_rowOf : GoodIn wsX5_tollWith wsX5_rowOf := goodIn_r _ [22] (by decide +kernel) (by decide +kernel)
set_option maxRecDepth 20000 in
theorem gX5_tollWith_X5_rowOf : GoodIn wsX5_tollWith (va_wsS RX5 202 yX5_rowOf wsX5_rowOf) := goodIn_app (goodIn_of _ (by decide +kernel)) ggX5_tollWith_X5_rowOf
theorem dX5_tollWith_0 : decode cX5_tollWith 0 = .ok (.iconst 0, 1) := by decide +kernel
theorem dX5_tollWith_1 : decode cX5_tollWith 1 = .ok (.istore_n 2, 1) := by decide +kernel
theorem dX5_tollWith_2 : decode cX5_tollWith 2 = .ok (.iconst (-1), 1) := by decide +kernel
theorem dX5_tollWith_3 : decode cX5_tollWith 3 = .ok (.istore_n 3, 1) := by decide +kernel
theorem dX5_tollWith_4 : decode cX5_tollWith 4 = .ok (.iload_n 3, 1) := by decide +kernel
theorem dX5_tollWith_5 : decode cX5_tollWith 5 = .ok (.aload_n 0, 1) := by decide +kernel
theorem dX5_tollWith_6 : decode cX5_tollWith 6 = .ok (.getfield 10, 3) := by decide +kernel
theorem dX5_tollWith_9 : decode cX5_tollWith 9 = .ok (.getfield 36, 3) := by decide +kernel
theorem dX5_tollWith_12 : decode cX5_tollWith 12 = .ok (.if_icmp .ge 78, 3) := by decide +kernel
theorem dX5_tollWith_15 : decode cX5_tollWith 15 = .ok (.iconst 0, 1) := by decide +kernel
theorem dX5_tollWith_16 : decode cX5_tollWith 16 = .ok (.istore 4, 2) := by decide +kernel
theorem dX5_tollWith_18 : decode cX5_tollWith 18 = .ok (.iload 4, 2) := by decide +kernel
theorem dX5_tollWith_20 : decode cX5_tollWith 20 = .ok (.aload_n 0, 1) := by decide +kernel
theorem dX5_tollWith_21 : decode cX5_tollWith 21 = .ok (.getfield 10, 3) := by decide +kernel
theorem dX5_tollWith_24 : decode cX5_tollWith 24 = .ok (.getfield 36, 3) := by decide +kernel
theorem dX5_tollWith_27 : decode cX5_tollWith 27 = .ok (.if_icmp .ge 57, 3) := by decide +kernel
theorem dX5_tollWith_30 : decode cX5_tollWith 30 = .ok (.aload_n 0, 1) := by decide +kernel
theorem dX5_tollWith_31 : decode cX5_tollWith 31 = .ok (.getfield 10, 3) := by decide +kernel
theorem dX5_tollWith_34 : decode cX5_tollWith 34 = .ok (.iload_n 3, 1) := by decide +kernel
theorem dX5_tollWith_35 : decode cX5_tollWith 35 = .ok (.iload 4, 2) := by decide +kernel
theorem dX5_tollWith_37 : decode cX5_tollWith 37 = .ok (.iload_n 1, 1) := by decide +kernel
theorem dX5_tollWith_38 : decode cX5_tollWith 38 = .ok (.invokevirtual 262, 3) := by decide +kernel
theorem dX5_tollWith_41 : decode cX5_tollWith 41 = .ok (.ifCond .ne 17, 3) := by decide +kernel
theorem dX5_tollWith_44 : decode cX5_tollWith 44 = .ok (.aload_n 0, 1) := by decide +kernel
theorem dX5_tollWith_45 : decode cX5_tollWith 45 = .ok (.getfield 10, 3) := by decide +kernel
theorem dX5_tollWith_48 : decode cX5_tollWith 48 = .ok (.iload_n 3, 1) := by decide +kernel
theorem dX5_tollWith_49 : decode cX5_tollWith 49 = .ok (.iload 4, 2) := by decide +kernel
theorem dX5_tollWith_51 : decode cX5_tollWith 51 = .ok (.iload_n 1, 1) := by decide +kernel
theorem dX5_tollWith_52 : decode cX5_tollWith 52 = .ok (.invokevirtual 266, 3) := by decide +kernel
theorem dX5_tollWith_55 : decode cX5_tollWith 55 = .ok (.ifCond .eq 23, 3) := by decide +kernel
theorem dX5_tollWith_58 : decode cX5_tollWith 58 = .ok (.iload_n 2, 1) := by decide +kernel
theorem dX5_tollWith_59 : decode cX5_tollWith 59 = .ok (.iconst 2, 1) := by decide +kernel
theorem dX5_tollWith_60 : decode cX5_tollWith 60 = .ok (.aload_n 0, 1) := by decide +kernel
theorem dX5_tollWith_61 : decode cX5_tollWith 61 = .ok (.getfield 28, 3) := by decide +kernel
theorem dX5_tollWith_64 : decode cX5_tollWith 64 = .ok (.getfield 198, 3) := by decide +kernel
theorem dX5_tollWith_67 : decode cX5_tollWith 67 = .ok (.iload_n 3, 1) := by decide +kernel
theorem dX5_tollWith_68 : decode cX5_tollWith 68 = .ok (.invokestatic 202, 3) := by decide +kernel
theorem dX5_tollWith_71 : decode cX5_tollWith 71 = .ok (.aaload, 1) := by decide +kernel
theorem dX5_tollWith_72 : decode cX5_tollWith 72 = .ok (.iload 4, 2) := by decide +kernel
theorem dX5_tollWith_74 : decode cX5_tollWith 74 = .ok (.iaload, 1) := by decide +kernel
theorem dX5_tollWith_75 : decode cX5_tollWith 75 = .ok (.imul, 1) := by decide +kernel
theorem dX5_tollWith_76 : decode cX5_tollWith 76 = .ok (.iadd, 1) := by decide +kernel
theorem dX5_tollWith_77 : decode cX5_tollWith 77 = .ok (.istore_n 2, 1) := by decide +kernel
theorem dX5_tollWith_78 : decode cX5_tollWith 78 = .ok (.iinc 4 1, 3) := by decide +kernel
theorem dX5_tollWith_81 : decode cX5_tollWith 81 = .ok (.goto (-63), 3) := by decide +kernel
theorem dX5_tollWith_84 : decode cX5_tollWith 84 = .ok (.iinc 3 1, 3) := by decide +kernel
theorem dX5_tollWith_87 : decode cX5_tollWith 87 = .ok (.goto (-83), 3) := by decide +kernel
theorem dX5_tollWith_90 : decode cX5_tollWith 90 = .ok (.iload_n 2, 1) := by decide +kernel
theorem dX5_tollWith_91 : decode cX5_tollWith 91 = .ok (.ireturn, 1) := by decide +kernel
set_option maxRecDepth 20000 in
theorem ggX5_gainOf_X5_tollWith : GoodIn wsX5_gainOf wsX5_tollWith := goodIn_r _ [7, 1, 8, 9, 10, 11, 12, 13, 14, 15, 16, 17, 18, 6, 19, 20, 21, 22, 23, 24, 25, 26, 27, 31, 32, 33, 34, 35, 36, 37, 38, 39, 40, 41, 42, 43, 44, 45, 46, 47, 48, 49] (by decide +kernel) (by decide +kernel)
set_option maxRecDepth 20000 in
theorem gX5_gainOf_X5_tollWith : GoodIn wsX5_gainOf (wsV RX5 175 RX5 yX5_tollWith wsX5_tollWith) := goodIn_app (goodIn_of _ (by decide +kernel)) ggX5_gainOf_X5_tollWith
set_option maxRecDepth 20000 in
theorem ggX5_gainOf_X5_with : GoodIn wsX5_gainOf wsX5_with := goodIn_r _ [30] (by decide +kernel) (by decide +kernel)
set_option maxRecDepth 20000 in
theorem gX5_gainOf_X5_with : GoodIn wsX5_gainOf (va_wsS RX5 121 yX5_with wsX5_with) := goodIn_app (goodIn_of _ (by decide +kernel)) ggX5_gainOf_X5_with
theorem dX5_gainOf_0 : decode cX5_gainOf 0 = .ok (.aload_n 0, 1) := by decide +kernel
theorem dX5_gainOf_1 : decode cX5_gainOf 1 = .ok (.aload_n 0, 1) := by decide +kernel
theorem dX5_gainOf_2 : decode cX5_gainOf 2 = .ok (.getfield 10, 3) := by decide +kernel
theorem dX5_gainOf_5 : decode cX5_gainOf 5 = .ok (.getfield 114, 3) := by decide +kernel
theorem dX5_gainOf_8 : decode cX5_gainOf 8 = .ok (.invokevirtual 175, 3) := by decide +kernel
theorem dX5_gainOf_11 : decode cX5_gainOf 11 = .ok (.aload_n 0, 1) := by decide +kernel
theorem dX5_gainOf_12 : decode cX5_gainOf 12 = .ok (.aload_n 0, 1) := by decide +kernel
theorem dX5_gainOf_13 : decode cX5_gainOf 13 = .ok (.getfield 10, 3) := by decide +kernel
theorem dX5_gainOf_16 : decode cX5_gainOf 16 = .ok (.getfield 114, 3) := by decide +kernel
theorem dX5_gainOf_19 : decode cX5_gainOf 19 = .ok (.iload_n 1, 1) := by decide +kernel
theorem dX5_gainOf_20 : decode cX5_gainOf 20 = .ok (.invokestatic 121, 3) := by decide +kernel
theorem dX5_gainOf_23 : decode cX5_gainOf 23 = .ok (.invokevirtual 175, 3) := by decide +kernel
theorem dX5_gainOf_26 : decode cX5_gainOf 26 = .ok (.isub, 1) := by decide +kernel
theorem dX5_gainOf_27 : decode cX5_gainOf 27 = .ok (.ireturn, 1) := by decide +kernel
set_option maxRecDepth 20000 in
theorem ggX5_nextToType_X3_typable : GoodIn wsX5_nextToType wsX3_typable := goodIn_r _ [8, 9, 10, 11, 12, 7, 13, 14, 15, 16, 17, 18, 19, 20, 21, 22, 23, 24, 25, 26, 27, 28, 29, 30, 31, 32, 33, 34, 35, 36, 37, 38, 39, 40, 41, 42, 43, 44, 45, 46, 47, 48, 49, 50, 51, 52, 82, 83, 84, 85, 86, 87, 88, 89, 90, 91, 92, 93] (by decide +kernel) (by decide +kernel)
set_option maxRecDepth 20000 in
theorem gX5_nextToType_X3_typable : GoodIn wsX5_nextToType (wsV RX5 157 RX3 yX3_typable wsX3_typable) := goodIn_app (goodIn_of _ (by decide +kernel)) ggX5_nextToType_X3_typable
set_option maxRecDepth 20000 in
theorem ggX5_nextToType_X5_has : GoodIn wsX5_nextToType wsX5_has := goodIn_r _ [55] (by decide +kernel) (by decide +kernel)
set_option maxRecDepth 20000 in
theorem gX5_nextToType_X5_has : GoodIn wsX5_nextToType (va_wsS RX5 117 yX5_has wsX5_has) := goodIn_app (goodIn_of _ (by decide +kernel)) ggX5_nextToType_X5_has
set_option maxRecDepth 20000 in
theorem ggX5_nextToType_X5_gainOf : GoodIn wsX5_nextToType wsX5_gainOf := goodIn_r _ [59, 1, 2, 60, 61, 62, 33, 63, 3, 64, 65, 66, 67, 68, 7, 69, 14, 16, 54, 55, 70, 71, 72, 73, 19, 74, 75, 76, 77, 51, 52, 78, 79, 80, 81, 82, 83, 84, 85, 86, 94, 95, 96, 97, 98, 99, 87, 88, 89, 90] (by decide +kernel) (by decide +kernel)
set_option maxRecDepth 20000 in
theorem gX5_nextToType_X5_gainOf : GoodIn wsX5_nextToType (wsV RX5 208 RX5 yX5_gainOf wsX5_gainOf) := goodIn_app (goodIn_of _ (by decide +kernel)) ggX5_nextToType_X5_gainOf
theorem dX5_nextToType_0 : decode cX5_nextToType 0 = .ok (.aload_n 0, 1) := by decide +kernel
theorem dX5_nextToType_1 : decode cX5_nextToType 1 = .ok (.getfield 10, 3) := by decide +kernel
theorem dX5_nextToType_4 : decode cX5_nextToType 4 = .ok (.invokevirtual 157, 3) := by decide +kernel
theorem dX5_nextToType_7 : decode cX5_nextToType 7 = .ok (.aload_n 0, 1) := by decide +kernel
theorem dX5_nextToType_8 : decode cX5_nextToType 8 = .ok (.getfield 10, 3) := by decide +kernel
theorem dX5_nextToType_11 : decode cX5_nextToType 11 = .ok (.getfield 114, 3) := by decide +kernel
theorem dX5_nextToType_14 : decode cX5_nextToType 14 = .ok (.iconst (-1), 1) := by decide +kernel
theorem dX5_nextToType_15 : decode cX5_nextToType 15 = .ok (.ixor, 1) := by decide +kernel
theorem dX5_nextToType_16 : decode cX5_nextToType 16 = .ok (.iand, 1) := by decide +kernel
theorem dX5_nextToType_17 : decode cX5_nextToType 17 = .ok (.istore_n 1, 1) := by decide +kernel
theorem dX5_nextToType_18 : decode cX5_nextToType 18 = .ok (.iconst (-1), 1) := by decide +kernel
theorem dX5_nextToType_19 : decode cX5_nextToType 19 = .ok (.istore_n 2, 1) := by decide +kernel
theorem dX5_nextToType_20 : decode cX5_nextToType 20 = .ok (.iconst 0, 1) := by decide +kernel
theorem dX5_nextToType_21 : decode cX5_nextToType 21 = .ok (.istore_n 3, 1) := by decide +kernel
theorem dX5_nextToType_22 : decode cX5_nextToType 22 = .ok (.iconst 0, 1) := by decide +kernel
theorem dX5_nextToType_23 : decode cX5_nextToType 23 = .ok (.istore 4, 2) := by decide +kernel
theorem dX5_nextToType_25 : decode cX5_nextToType 25 = .ok (.iload 4, 2) := by decide +kernel
theorem dX5_nextToType_27 : decode cX5_nextToType 27 = .ok (.aload_n 0, 1) := by decide +kernel
theorem dX5_nextToType_28 : decode cX5_nextToType 28 = .ok (.getfield 10, 3) := by decide +kernel
theorem dX5_nextToType_31 : decode cX5_nextToType 31 = .ok (.getfield 36, 3) := by decide +kernel
theorem dX5_nextToType_34 : decode cX5_nextToType 34 = .ok (.if_icmp .ge 43, 3) := by decide +kernel
theorem dX5_nextToType_37 : decode cX5_nextToType 37 = .ok (.iload_n 1, 1) := by decide +kernel
theorem dX5_nextToType_38 : decode cX5_nextToType 38 = .ok (.iload 4, 2) := by decide +kernel
theorem dX5_nextToType_40 : decode cX5_nextToType 40 = .ok (.invokestatic 117, 3) := by decide +kernel
theorem dX5_nextToType_43 : decode cX5_nextToType 43 = .ok (.ifCond .eq 28, 3) := by decide +kernel
theorem dX5_nextToType_46 : decode cX5_nextToType 46 = .ok (.aload_n 0, 1) := by decide +kernel
theorem dX5_nextToType_47 : decode cX5_nextToType 47 = .ok (.iload 4, 2) := by decide +kernel
theorem dX5_nextToType_49 : decode cX5_nextToType 49 = .ok (.invokevirtual 208, 3) := by decide +kernel
theorem dX5_nextToType_52 : decode cX5_nextToType 52 = .ok (.istore 5, 2) := by decide +kernel
theorem dX5_nextToType_54 : decode cX5_nextToType 54 = .ok (.iload_n 2, 1) := by decide +kernel
theorem dX5_nextToType_55 : decode cX5_nextToType 55 = .ok (.iconst (-1), 1) := by decide +kernel
theorem dX5_nextToType_56 : decode cX5_nextToType 56 = .ok (.if_icmp .eq 9, 3) := by decide +kernel
theorem dX5_nextToType_59 : decode cX5_nextToType 59 = .ok (.iload 5, 2) := by decide +kernel
theorem dX5_nextToType_61 : decode cX5_nextToType 61 = .ok (.iload_n 3, 1) := by decide +kernel
theorem dX5_nextToType_62 : decode cX5_nextToType 62 = .ok (.if_icmp .le 9, 3) := by decide +kernel
theorem dX5_nextToType_65 : decode cX5_nextToType 65 = .ok (.iload 4, 2) := by decide +kernel
theorem dX5_nextToType_67 : decode cX5_nextToType 67 = .ok (.istore_n 2, 1) := by decide +kernel
theorem dX5_nextToType_68 : decode cX5_nextToType 68 = .ok (.iload 5, 2) := by decide +kernel
theorem dX5_nextToType_70 : decode cX5_nextToType 70 = .ok (.istore_n 3, 1) := by decide +kernel
theorem dX5_nextToType_71 : decode cX5_nextToType 71 = .ok (.iinc 4 1, 3) := by decide +kernel
theorem dX5_nextToType_74 : decode cX5_nextToType 74 = .ok (.goto (-49), 3) := by decide +kernel
theorem dX5_nextToType_77 : decode cX5_nextToType 77 = .ok (.iload_n 2, 1) := by decide +kernel
theorem dX5_nextToType_78 : decode cX5_nextToType 78 = .ok (.ireturn, 1) := by decide +kernel
theorem dX5_requireFunction_0 : decode cX5_requireFunction 0 = .ok (.iload_n 1, 1) := by decide +kernel
theorem dX5_requireFunction_1 : decode cX5_requireFunction 1 = .ok (.ifCond .lt 14, 3) := by decide +kernel
theorem dX5_requireFunction_4 : decode cX5_requireFunction 4 = .ok (.iload_n 1, 1) := by decide +kernel
theorem dX5_requireFunction_5 : decode cX5_requireFunction 5 = .ok (.aload_n 0, 1) := by decide +kernel
theorem dX5_requireFunction_6 : decode cX5_requireFunction 6 = .ok (.getfield 10, 3) := by decide +kernel
theorem dX5_requireFunction_9 : decode cX5_requireFunction 9 = .ok (.getfield 36, 3) := by decide +kernel
theorem dX5_requireFunction_12 : decode cX5_requireFunction 12 = .ok (.if_icmp .lt 14, 3) := by decide +kernel
theorem dX5_requireFunction_15 : decode cX5_requireFunction 15 = .ok (.new 128, 3) := by decide +kernel
theorem dX5_requireFunction_18 : decode cX5_requireFunction 18 = .ok (.dup, 1) := by decide +kernel
theorem dX5_requireFunction_19 : decode cX5_requireFunction 19 = .ok (.ldc_w 269, 3) := by decide +kernel
theorem dX5_requireFunction_22 : decode cX5_requireFunction 22 = .ok (.invokespecial 132, 3) := by decide +kernel
theorem dX5_requireFunction_25 : decode cX5_requireFunction 25 = .ok (.athrow, 1) := by decide +kernel
theorem dX5_requireFunction_26 : decode cX5_requireFunction 26 = .ok (.return_, 1) := by decide +kernel
theorem dX5_requireHints_0 : decode cX5_requireHints 0 = .ok (.iload_n 0, 1) := by decide +kernel
theorem dX5_requireHints_1 : decode cX5_requireHints 1 = .ok (.ifCond .lt 17, 3) := by decide +kernel
theorem dX5_requireHints_4 : decode cX5_requireHints 4 = .ok (.iload_n 0, 1) := by decide +kernel
theorem dX5_requireHints_5 : decode cX5_requireHints 5 = .ok (.iconst 3, 1) := by decide +kernel
theorem dX5_requireHints_6 : decode cX5_requireHints 6 = .ok (.if_icmp .gt 12, 3) := by decide +kernel
theorem dX5_requireHints_9 : decode cX5_requireHints 9 = .ok (.iload_n 1, 1) := by decide +kernel
theorem dX5_requireHints_10 : decode cX5_requireHints 10 = .ok (.ifCond .lt 8, 3) := by decide +kernel
theorem dX5_requireHints_13 : decode cX5_requireHints 13 = .ok (.iload_n 1, 1) := by decide +kernel
theorem dX5_requireHints_14 : decode cX5_requireHints 14 = .ok (.iconst 3, 1) := by decide +kernel
theorem dX5_requireHints_15 : decode cX5_requireHints 15 = .ok (.if_icmp .le 14, 3) := by decide +kernel
theorem dX5_requireHints_18 : decode cX5_requireHints 18 = .ok (.new 54, 3) := by decide +kernel
theorem dX5_requireHints_21 : decode cX5_requireHints 21 = .ok (.dup, 1) := by decide +kernel
theorem dX5_requireHints_22 : decode cX5_requireHints 22 = .ok (.ldc_w 271, 3) := by decide +kernel
theorem dX5_requireHints_25 : decode cX5_requireHints 25 = .ok (.invokespecial 58, 3) := by decide +kernel
theorem dX5_requireHints_28 : decode cX5_requireHints 28 = .ok (.athrow, 1) := by decide +kernel
theorem dX5_requireHints_29 : decode cX5_requireHints 29 = .ok (.return_, 1) := by decide +kernel
theorem dX5_requireWhat_0 : decode cX5_requireWhat 0 = .ok (.iload_n 0, 1) := by decide +kernel
theorem dX5_requireWhat_1 : decode cX5_requireWhat 1 = .ok (.ifCond .lt 8, 3) := by decide +kernel
theorem dX5_requireWhat_4 : decode cX5_requireWhat 4 = .ok (.iload_n 0, 1) := by decide +kernel
theorem dX5_requireWhat_5 : decode cX5_requireWhat 5 = .ok (.iload_n 1, 1) := by decide +kernel
theorem dX5_requireWhat_6 : decode cX5_requireWhat 6 = .ok (.if_icmp .le 14, 3) := by decide +kernel
theorem dX5_requireWhat_9 : decode cX5_requireWhat 9 = .ok (.new 54, 3) := by decide +kernel
theorem dX5_requireWhat_12 : decode cX5_requireWhat 12 = .ok (.dup, 1) := by decide +kernel
theorem dX5_requireWhat_13 : decode cX5_requireWhat 13 = .ok (.ldc_w 273, 3) := by decide +kernel
theorem dX5_requireWhat_16 : decode cX5_requireWhat 16 = .ok (.invokespecial 58, 3) := by decide +kernel
theorem dX5_requireWhat_19 : decode cX5_requireWhat 19 = .ok (.athrow, 1) := by decide +kernel
theorem dX5_requireWhat_20 : decode cX5_requireWhat 20 = .ok (.return_, 1) := by decide +kernel
theorem dX5_requireBudget_0 : decode cX5_requireBudget 0 = .ok (.iload_n 0, 1) := by decide +kernel
theorem dX5_requireBudget_1 : decode cX5_requireBudget 1 = .ok (.ifCond .lt 9, 3) := by decide +kernel
theorem dX5_requireBudget_4 : decode cX5_requireBudget 4 = .ok (.iload_n 0, 1) := by decide +kernel
theorem dX5_requireBudget_5 : decode cX5_requireBudget 5 = .ok (.bipush 20, 2) := by decide +kernel
theorem dX5_requireBudget_7 : decode cX5_requireBudget 7 = .ok (.if_icmp .le 14, 3) := by decide +kernel
theorem dX5_requireBudget_10 : decode cX5_requireBudget 10 = .ok (.new 54, 3) := by decide +kernel
theorem dX5_requireBudget_13 : decode cX5_requireBudget 13 = .ok (.dup, 1) := by decide +kernel
theorem dX5_requireBudget_14 : decode cX5_requireBudget 14 = .ok (.ldc_w 275, 3) := by decide +kernel
theorem dX5_requireBudget_17 : decode cX5_requireBudget 17 = .ok (.invokespecial 58, 3) := by decide +kernel
theorem dX5_requireBudget_20 : decode cX5_requireBudget 20 = .ok (.athrow, 1) := by decide +kernel
theorem dX5_requireBudget_21 : decode cX5_requireBudget 21 = .ok (.return_, 1) := by decide +kernel
set_option maxRecDepth 20000 in
theorem ggX5_requireValue_X5_isValue : GoodIn wsX5_requireValue wsX5_isValue := goodIn_r _ [6] (by decide +kernel) (by decide +kernel)
set_option maxRecDepth 20000 in
theorem gX5_requireValue_X5_isValue : GoodIn wsX5_requireValue (va_wsS RX5 277 yX5_isValue wsX5_isValue) := goodIn_app (goodIn_of _ (by decide +kernel)) ggX5_requireValue_X5_isValue
theorem dX5_requireValue_0 : decode cX5_requireValue 0 = .ok (.iload_n 0, 1) := by decide +kernel
theorem dX5_requireValue_1 : decode cX5_requireValue 1 = .ok (.iload_n 1, 1) := by decide +kernel
theorem dX5_requireValue_2 : decode cX5_requireValue 2 = .ok (.invokestatic 277, 3) := by decide +kernel
theorem dX5_requireValue_5 : decode cX5_requireValue 5 = .ok (.ifCond .ne 14, 3) := by decide +kernel
theorem dX5_requireValue_8 : decode cX5_requireValue 8 = .ok (.new 54, 3) := by decide +kernel
theorem dX5_requireValue_11 : decode cX5_requireValue 11 = .ok (.dup, 1) := by decide +kernel
theorem dX5_requireValue_12 : decode cX5_requireValue 12 = .ok (.ldc_w 280, 3) := by decide +kernel
theorem dX5_requireValue_15 : decode cX5_requireValue 15 = .ok (.invokespecial 58, 3) := by decide +kernel
theorem dX5_requireValue_18 : decode cX5_requireValue 18 = .ok (.athrow, 1) := by decide +kernel
theorem dX5_requireValue_19 : decode cX5_requireValue 19 = .ok (.return_, 1) := by decide +kernel
theorem dX5_isValue_0 : decode cX5_isValue 0 = .ok (.iload_n 0, 1) := by decide +kernel
theorem dX5_isValue_1 : decode cX5_isValue 1 = .ok (.tableswitch 79 0 2 #[27, 47, 64], 27) := by decide +kernel
theorem dX5_isValue_28 : decode cX5_isValue 28 = .ok (.iload_n 1, 1) := by decide +kernel
theorem dX5_isValue_29 : decode cX5_isValue 29 = .ok (.sipush (-999), 3) := by decide +kernel
theorem dX5_isValue_32 : decode cX5_isValue 32 = .ok (.if_icmp .lt 14, 3) := by decide +kernel
theorem dX5_isValue_35 : decode cX5_isValue 35 = .ok (.iload_n 1, 1) := by decide +kernel
theorem dX5_isValue_36 : decode cX5_isValue 36 = .ok (.sipush 999, 3) := by decide +kernel
theorem dX5_isValue_39 : decode cX5_isValue 39 = .ok (.if_icmp .gt 7, 3) := by decide +kernel
theorem dX5_isValue_42 : decode cX5_isValue 42 = .ok (.iconst 1, 1) := by decide +kernel
theorem dX5_isValue_43 : decode cX5_isValue 43 = .ok (.goto 4, 3) := by decide +kernel
theorem dX5_isValue_46 : decode cX5_isValue 46 = .ok (.iconst 0, 1) := by decide +kernel
theorem dX5_isValue_47 : decode cX5_isValue 47 = .ok (.ireturn, 1) := by decide +kernel
theorem dX5_isValue_48 : decode cX5_isValue 48 = .ok (.iload_n 1, 1) := by decide +kernel
theorem dX5_isValue_49 : decode cX5_isValue 49 = .ok (.ifCond .lt 14, 3) := by decide +kernel
theorem dX5_isValue_52 : decode cX5_isValue 52 = .ok (.iload_n 1, 1) := by decide +kernel
theorem dX5_isValue_53 : decode cX5_isValue 53 = .ok (.sipush 999, 3) := by decide +kernel
theorem dX5_isValue_56 : decode cX5_isValue 56 = .ok (.if_icmp .gt 7, 3) := by decide +kernel
theorem dX5_isValue_59 : decode cX5_isValue 59 = .ok (.iconst 1, 1) := by decide +kernel
theorem dX5_isValue_60 : decode cX5_isValue 60 = .ok (.goto 4, 3) := by decide +kernel
theorem dX5_isValue_63 : decode cX5_isValue 63 = .ok (.iconst 0, 1) := by decide +kernel
theorem dX5_isValue_64 : decode cX5_isValue 64 = .ok (.ireturn, 1) := by decide +kernel
theorem dX5_isValue_65 : decode cX5_isValue 65 = .ok (.iload_n 1, 1) := by decide +kernel
theorem dX5_isValue_66 : decode cX5_isValue 66 = .ok (.ifCond .eq 8, 3) := by decide +kernel
theorem dX5_isValue_69 : decode cX5_isValue 69 = .ok (.iload_n 1, 1) := by decide +kernel
theorem dX5_isValue_70 : decode cX5_isValue 70 = .ok (.iconst 1, 1) := by decide +kernel
theorem dX5_isValue_71 : decode cX5_isValue 71 = .ok (.if_icmp .ne 7, 3) := by decide +kernel
theorem dX5_isValue_74 : decode cX5_isValue 74 = .ok (.iconst 1, 1) := by decide +kernel
theorem dX5_isValue_75 : decode cX5_isValue 75 = .ok (.goto 4, 3) := by decide +kernel
theorem dX5_isValue_78 : decode cX5_isValue 78 = .ok (.iconst 0, 1) := by decide +kernel
theorem dX5_isValue_79 : decode cX5_isValue 79 = .ok (.ireturn, 1) := by decide +kernel
theorem dX5_isValue_80 : decode cX5_isValue 80 = .ok (.iconst 0, 1) := by decide +kernel
theorem dX5_isValue_81 : decode cX5_isValue 81 = .ok (.ireturn, 1) := by decide +kernel
theorem dX5_has_0 : decode cX5_has 0 = .ok (.iload_n 1, 1) := by decide +kernel
theorem dX5_has_1 : decode cX5_has 1 = .ok (.iconst (-1), 1) := by decide +kernel
theorem dX5_has_2 : decode cX5_has 2 = .ok (.if_icmp .eq 16, 3) := by decide +kernel
theorem dX5_has_5 : decode cX5_has 5 = .ok (.iload_n 0, 1) := by decide +kernel
theorem dX5_has_6 : decode cX5_has 6 = .ok (.iload_n 1, 1) := by decide +kernel
theorem dX5_has_7 : decode cX5_has 7 = .ok (.ishr, 1) := by decide +kernel
theorem dX5_has_8 : decode cX5_has 8 = .ok (.iconst 1, 1) := by decide +kernel
theorem dX5_has_9 : decode cX5_has 9 = .ok (.iand, 1) := by decide +kernel
theorem dX5_has_10 : decode cX5_has 10 = .ok (.iconst 1, 1) := by decide +kernel
theorem dX5_has_11 : decode cX5_has 11 = .ok (.if_icmp .ne 7, 3) := by decide +kernel
theorem dX5_has_14 : decode cX5_has 14 = .ok (.iconst 1, 1) := by decide +kernel
theorem dX5_has_15 : decode cX5_has 15 = .ok (.goto 4, 3) := by decide +kernel
theorem dX5_has_18 : decode cX5_has 18 = .ok (.iconst 0, 1) := by decide +kernel
theorem dX5_has_19 : decode cX5_has 19 = .ok (.ireturn, 1) := by decide +kernel
theorem dX5_with_0 : decode cX5_with 0 = .ok (.iload_n 0, 1) := by decide +kernel
theorem dX5_with_1 : decode cX5_with 1 = .ok (.iconst 1, 1) := by decide +kernel
theorem dX5_with_2 : decode cX5_with 2 = .ok (.iload_n 1, 1) := by decide +kernel
theorem dX5_with_3 : decode cX5_with 3 = .ok (.ishl, 1) := by decide +kernel
theorem dX5_with_4 : decode cX5_with 4 = .ok (.ior, 1) := by decide +kernel
theorem dX5_with_5 : decode cX5_with 5 = .ok (.ireturn, 1) := by decide +kernel
theorem dX5_without_0 : decode cX5_without 0 = .ok (.iload_n 0, 1) := by decide +kernel
theorem dX5_without_1 : decode cX5_without 1 = .ok (.iconst 1, 1) := by decide +kernel
theorem dX5_without_2 : decode cX5_without 2 = .ok (.iload_n 1, 1) := by decide +kernel
theorem dX5_without_3 : decode cX5_without 3 = .ok (.ishl, 1) := by decide +kernel
theorem dX5_without_4 : decode cX5_without 4 = .ok (.iconst (-1), 1) := by decide +kernel
theorem dX5_without_5 : decode cX5_without 5 = .ok (.ixor, 1) := by decide +kernel
theorem dX5_without_6 : decode cX5_without 6 = .ok (.iand, 1) := by decide +kernel
theorem dX5_without_7 : decode cX5_without 7 = .ok (.ireturn, 1) := by decide +kernel
theorem dX5_rowOf_0 : decode cX5_rowOf 0 = .ok (.iload_n 0, 1) := by decide +kernel
theorem dX5_rowOf_1 : decode cX5_rowOf 1 = .ok (.iconst 1, 1) := by decide +kernel
theorem dX5_rowOf_2 : decode cX5_rowOf 2 = .ok (.iadd, 1) := by decide +kernel
theorem dX5_rowOf_3 : decode cX5_rowOf 3 = .ok (.ireturn, 1) := by decide +kernel
theorem dX5_newCallTable_0 : decode cX5_newCallTable 0 = .ok (.bipush 11, 2) := by decide +kernel
theorem dX5_newCallTable_2 : decode cX5_newCallTable 2 = .ok (.bipush 10, 2) := by decide +kernel
theorem dX5_newCallTable_4 : decode cX5_newCallTable 4 = .ok (.multianewarray 282 2, 4) := by decide +kernel
theorem dX5_newCallTable_8 : decode cX5_newCallTable 8 = .ok (.areturn, 1) := by decide +kernel
theorem dX5_isCall_0 : decode cX5_isCall 0 = .ok (.iload_n 0, 1) := by decide +kernel
theorem dX5_isCall_1 : decode cX5_isCall 1 = .ok (.bipush 40, 2) := by decide +kernel
theorem dX5_isCall_3 : decode cX5_isCall 3 = .ok (.if_icmp .lt 7, 3) := by decide +kernel
theorem dX5_isCall_6 : decode cX5_isCall 6 = .ok (.iconst 1, 1) := by decide +kernel
theorem dX5_isCall_7 : decode cX5_isCall 7 = .ok (.goto 4, 3) := by decide +kernel
theorem dX5_isCall_10 : decode cX5_isCall 10 = .ok (.iconst 0, 1) := by decide +kernel
theorem dX5_isCall_11 : decode cX5_isCall 11 = .ok (.ireturn, 1) := by decide +kernel
theorem dX5_plainNeed_0 : decode cX5_plainNeed 0 = .ok (.iload_n 0, 1) := by decide +kernel
theorem dX5_plainNeed_1 : decode cX5_plainNeed 1 = .ok (.tableswitch 37 20 23 #[31, 33, 37, 35], 31) := by decide +kernel
theorem dX5_plainNeed_32 : decode cX5_plainNeed 32 = .ok (.iconst 1, 1) := by decide +kernel
theorem dX5_plainNeed_33 : decode cX5_plainNeed 33 = .ok (.ireturn, 1) := by decide +kernel
theorem dX5_plainNeed_34 : decode cX5_plainNeed 34 = .ok (.iconst 3, 1) := by decide +kernel
theorem dX5_plainNeed_35 : decode cX5_plainNeed 35 = .ok (.ireturn, 1) := by decide +kernel
theorem dX5_plainNeed_36 : decode cX5_plainNeed 36 = .ok (.iconst 2, 1) := by decide +kernel
theorem dX5_plainNeed_37 : decode cX5_plainNeed 37 = .ok (.ireturn, 1) := by decide +kernel
theorem dX5_plainNeed_38 : decode cX5_plainNeed 38 = .ok (.iconst 0, 1) := by decide +kernel
theorem dX5_plainNeed_39 : decode cX5_plainNeed 39 = .ok (.ireturn, 1) := by decide +kernel
theorem dX5_plainGift_0 : decode cX5_plainGift 0 = .ok (.iload_n 0, 1) := by decide +kernel
theorem dX5_plainGift_1 : decode cX5_plainGift 1 = .ok (.tableswitch 33 21 23 #[27, 29, 31], 27) := by decide +kernel
theorem dX5_plainGift_28 : decode cX5_plainGift 28 = .ok (.iconst 1, 1) := by decide +kernel
theorem dX5_plainGift_29 : decode cX5_plainGift 29 = .ok (.ireturn, 1) := by decide +kernel
theorem dX5_plainGift_30 : decode cX5_plainGift 30 = .ok (.iconst 2, 1) := by decide +kernel
theorem dX5_plainGift_31 : decode cX5_plainGift 31 = .ok (.ireturn, 1) := by decide +kernel
theorem dX5_plainGift_32 : decode cX5_plainGift 32 = .ok (.iconst 2, 1) := by decide +kernel
theorem dX5_plainGift_33 : decode cX5_plainGift 33 = .ok (.ireturn, 1) := by decide +kernel
theorem dX5_plainGift_34 : decode cX5_plainGift 34 = .ok (.iconst 0, 1) := by decide +kernel
theorem dX5_plainGift_35 : decode cX5_plainGift 35 = .ok (.ireturn, 1) := by decide +kernel
theorem dX6_init_0 : decode cX6_init 0 = .ok (.aload_n 0, 1) := by decide +kernel
theorem dX6_init_1 : decode cX6_init 1 = .ok (.invokespecial 1, 3) := by decide +kernel
theorem dX6_init_4 : decode cX6_init 4 = .ok (.aload_n 0, 1) := by decide +kernel
theorem dX6_init_5 : decode cX6_init 5 = .ok (.bipush 10, 2) := by decide +kernel
theorem dX6_init_7 : decode cX6_init 7 = .ok (.bipush 6, 2) := by decide +kernel
theorem dX6_init_9 : decode cX6_init 9 = .ok (.multianewarray 7 2, 4) := by decide +kernel
theorem dX6_init_13 : decode cX6_init 13 = .ok (.putfield 9, 3) := by decide +kernel
theorem dX6_init_16 : decode cX6_init 16 = .ok (.aload_n 0, 1) := by decide +kernel
theorem dX6_init_17 : decode cX6_init 17 = .ok (.bipush 10, 2) := by decide +kernel
theorem dX6_init_19 : decode cX6_init 19 = .ok (.newarray .int, 2) := by decide +kernel
theorem dX6_init_21 : decode cX6_init 21 = .ok (.putfield 14, 3) := by decide +kernel
theorem dX6_init_24 : decode cX6_init 24 = .ok (.aload_n 0, 1) := by decide +kernel
theorem dX6_init_25 : decode cX6_init 25 = .ok (.bipush 10, 2) := by decide +kernel
theorem dX6_init_27 : decode cX6_init 27 = .ok (.newarray .int, 2) := by decide +kernel
theorem dX6_init_29 : decode cX6_init 29 = .ok (.putfield 18, 3) := by decide +kernel
theorem dX6_init_32 : decode cX6_init 32 = .ok (.aload_n 0, 1) := by decide +kernel
theorem dX6_init_33 : decode cX6_init 33 = .ok (.bipush 10, 2) := by decide +kernel
theorem dX6_init_35 : decode cX6_init 35 = .ok (.newarray .int, 2) := by decide +kernel
theorem dX6_init_37 : decode cX6_init 37 = .ok (.putfield 21, 3) := by decide +kernel
theorem dX6_init_40 : decode cX6_init 40 = .ok (.aload_n 0, 1) := by decide +kernel
theorem dX6_init_41 : decode cX6_init 41 = .ok (.bipush 10, 2) := by decide +kernel
theorem dX6_init_43 : decode cX6_init 43 = .ok (.newarray .boolean, 2) := by decide +kernel
theorem dX6_init_45 : decode cX6_init 45 = .ok (.putfield 24, 3) := by decide +kernel
theorem dX6_init_48 : decode cX6_init 48 = .ok (.aload_n 0, 1) := by decide +kernel
theorem dX6_init_49 : decode cX6_init 49 = .ok (.bipush 14, 2) := by decide +kernel
theorem dX6_init_51 : decode cX6_init 51 = .ok (.newarray .int, 2) := by decide +kernel
theorem dX6_init_53 : decode cX6_init 53 = .ok (.putfield 28, 3) := by decide +kernel
theorem dX6_init_56 : decode cX6_init 56 = .ok (.aload_n 0, 1) := by decide +kernel
theorem dX6_init_57 : decode cX6_init 57 = .ok (.bipush 14, 2) := by decide +kernel
theorem dX6_init_59 : decode cX6_init 59 = .ok (.newarray .int, 2) := by decide +kernel
theorem dX6_init_61 : decode cX6_init 61 = .ok (.putfield 31, 3) := by decide +kernel
theorem dX6_init_64 : decode cX6_init 64 = .ok (.aload_n 0, 1) := by decide +kernel
theorem dX6_init_65 : decode cX6_init 65 = .ok (.bipush 8, 2) := by decide +kernel
theorem dX6_init_67 : decode cX6_init 67 = .ok (.newarray .int, 2) := by decide +kernel
end
section
theorem dX6_init_69 : decode cX6_init 69 = .ok (.putfield 34, 3) := by decide +kernel
theorem dX6_init_72 : decode cX6_init 72 = .ok (.return_, 1) := by decide +kernel
theorem dX6_gives_0 : decode cX6_gives 0 = .ok (.iload_n 1, 1) := by decide +kernel
theorem dX6_gives_1 : decode cX6_gives 1 = .ok (.bipush 40, 2) := by decide +kernel
theorem dX6_gives_3 : decode cX6_gives 3 = .ok (.if_icmp .lt 13, 3) := by decide +kernel
theorem dX6_gives_6 : decode cX6_gives 6 = .ok (.aload_n 0, 1) := by decide +kernel
theorem dX6_gives_7 : decode cX6_gives 7 = .ok (.getfield 21, 3) := by decide +kernel
theorem dX6_gives_10 : decode cX6_gives 10 = .ok (.iload_n 1, 1) := by decide +kernel
theorem dX6_gives_11 : decode cX6_gives 11 = .ok (.bipush 40, 2) := by decide +kernel
theorem dX6_gives_13 : decode cX6_gives 13 = .ok (.isub, 1) := by decide +kernel
theorem dX6_gives_14 : decode cX6_gives 14 = .ok (.iaload, 1) := by decide +kernel
theorem dX6_gives_15 : decode cX6_gives 15 = .ok (.ireturn, 1) := by decide +kernel
theorem dX6_gives_16 : decode cX6_gives 16 = .ok (.iconst 5, 1) := by decide +kernel
theorem dX6_gives_17 : decode cX6_gives 17 = .ok (.newarray .int, 2) := by decide +kernel
theorem dX6_gives_19 : decode cX6_gives 19 = .ok (.dup, 1) := by decide +kernel
theorem dX6_gives_20 : decode cX6_gives 20 = .ok (.iconst 0, 1) := by decide +kernel
theorem dX6_gives_21 : decode cX6_gives 21 = .ok (.iconst 0, 1) := by decide +kernel
theorem dX6_gives_22 : decode cX6_gives 22 = .ok (.iastore, 1) := by decide +kernel
theorem dX6_gives_23 : decode cX6_gives 23 = .ok (.dup, 1) := by decide +kernel
theorem dX6_gives_24 : decode cX6_gives 24 = .ok (.iconst 1, 1) := by decide +kernel
theorem dX6_gives_25 : decode cX6_gives 25 = .ok (.iconst 1, 1) := by decide +kernel
theorem dX6_gives_26 : decode cX6_gives 26 = .ok (.iastore, 1) := by decide +kernel
theorem dX6_gives_27 : decode cX6_gives 27 = .ok (.dup, 1) := by decide +kernel
theorem dX6_gives_28 : decode cX6_gives 28 = .ok (.iconst 2, 1) := by decide +kernel
theorem dX6_gives_29 : decode cX6_gives 29 = .ok (.iconst 2, 1) := by decide +kernel
theorem dX6_gives_30 : decode cX6_gives 30 = .ok (.iastore, 1) := by decide +kernel
theorem dX6_gives_31 : decode cX6_gives 31 = .ok (.dup, 1) := by decide +kernel
theorem dX6_gives_32 : decode cX6_gives 32 = .ok (.iconst 3, 1) := by decide +kernel
theorem dX6_gives_33 : decode cX6_gives 33 = .ok (.iconst 2, 1) := by decide +kernel
theorem dX6_gives_34 : decode cX6_gives 34 = .ok (.iastore, 1) := by decide +kernel
theorem dX6_gives_35 : decode cX6_gives 35 = .ok (.dup, 1) := by decide +kernel
theorem dX6_gives_36 : decode cX6_gives 36 = .ok (.iconst 4, 1) := by decide +kernel
theorem dX6_gives_37 : decode cX6_gives 37 = .ok (.iconst 0, 1) := by decide +kernel
theorem dX6_gives_38 : decode cX6_gives 38 = .ok (.iastore, 1) := by decide +kernel
theorem dX6_gives_39 : decode cX6_gives 39 = .ok (.astore_n 2, 1) := by decide +kernel
theorem dX6_gives_40 : decode cX6_gives 40 = .ok (.iload_n 1, 1) := by decide +kernel
theorem dX6_gives_41 : decode cX6_gives 41 = .ok (.bipush 10, 2) := by decide +kernel
theorem dX6_gives_43 : decode cX6_gives 43 = .ok (.if_icmp .ge 7, 3) := by decide +kernel
theorem dX6_gives_46 : decode cX6_gives 46 = .ok (.iconst 0, 1) := by decide +kernel
theorem dX6_gives_47 : decode cX6_gives 47 = .ok (.goto 9, 3) := by decide +kernel
theorem dX6_gives_50 : decode cX6_gives 50 = .ok (.aload_n 2, 1) := by decide +kernel
theorem dX6_gives_51 : decode cX6_gives 51 = .ok (.iload_n 1, 1) := by decide +kernel
theorem dX6_gives_52 : decode cX6_gives 52 = .ok (.bipush 20, 2) := by decide +kernel
theorem dX6_gives_54 : decode cX6_gives 54 = .ok (.isub, 1) := by decide +kernel
theorem dX6_gives_55 : decode cX6_gives 55 = .ok (.iaload, 1) := by decide +kernel
theorem dX6_gives_56 : decode cX6_gives 56 = .ok (.ireturn, 1) := by decide +kernel
set_option maxRecDepth 20000 in
theorem ggX6_isTold_L_cell : GoodIn wsX6_isTold wsL_cell := goodIn_r _ [8, 9] (by decide +kernel) (by decide +kernel)
set_option maxRecDepth 20000 in
theorem gX6_isTold_L_cell_n110 : GoodIn wsX6_isTold (wsL_cell) := ggX6_isTold_L_cell
set_option maxRecDepth 20000 in
theorem ggX6_isTold_L_below : GoodIn wsX6_isTold wsL_below := goodIn_r _ [11, 12] (by decide +kernel) (by decide +kernel)
set_option maxRecDepth 20000 in
theorem gX6_isTold_L_below_n116 : GoodIn wsX6_isTold (wsL_below) := ggX6_isTold_L_below
set_option maxRecDepth 20000 in
theorem ggX6_isTold_X5_function : GoodIn wsX6_isTold wsX5_function := goodIn_ca (goodIn_r _ [17, 18, 19, 20, 21, 132, 133, 134, 135, 136, 137, 138, 139, 140] (by decide +kernel) (by decide +kernel)) (goodIn_sub (fun _ h => List.mem_cons_of_mem _ (List.mem_append_left _ (List.mem_append_left _ (List.mem_append_right _ h)))) (by decide +kernel))
set_option maxRecDepth 20000 in
theorem gX6_isTold_X5_function : GoodIn wsX6_isTold (wsV RX6 119 RX5 yX5_function wsX5_function) := goodIn_app (goodIn_of _ (by decide +kernel)) ggX6_isTold_X5_function
set_option maxRecDepth 20000 in
theorem ggX6_isTold_X6_step : GoodIn wsX6_isTold wsX6_step := goodIn_r _ [25, 10, 7, 11, 12] (by decide +kernel) (by decide +kernel)
set_option maxRecDepth 20000 in
theorem gX6_isTold_X6_step : GoodIn wsX6_isTold (va_wsS RX6 125 yX6_step wsX6_step) := goodIn_app (goodIn_of _ (by decide +kernel)) ggX6_isTold_X6_step
set_option maxRecDepth 20000 in
theorem ggX6_isTold_X5_step : GoodIn wsX6_isTold wsX5_step := goodIn_ca (goodIn_ca (goodIn_ca (goodIn_r _ [29, 30, 31, 18, 19, 20, 32, 33, 34, 35, 36, 37, 16, 38, 39, 40, 21, 41, 42, 43, 44, 45, 46, 47, 48, 49, 50, 51, 52, 53, 54, 55, 56, 57, 58, 59, 60, 61, 62, 63, 64, 65, 66, 67, 68, 69, 70, 71, 72, 73, 74, 75, 76, 77, 78, 79, 80, 81, 82, 83, 84, 85, 86, 87, 88, 89, 90, 91, 92, 93, 94, 95, 96, 97, 98, 99, 100, 101, 102, 103, 104, 105, 106, 107, 108, 109, 110, 111, 112, 113, 132, 133, 134, 135, 136, 137, 138, 139, 140, 141, 142, 143, 144, 145, 146, 147] (by decide +kernel) (by decide +kernel)) (goodIn_sub (fun _ h => List.mem_cons_of_mem _ (List.mem_append_left _ (List.mem_append_right _ h))) (by decide +kernel))) (goodIn_sub (fun _ h => List.mem_cons_of_mem _ (List.mem_append_left _ (List.mem_append_left _ (List.mem_append_right _ h)))) (by decide +kernel))) (goodIn_sub (fun _ h => List.mem_cons_of_mem _ (List.mem_append_right _ h)) (by decide +kernel))
set_option maxRecDepth 20000 in
theorem gX6_isTold_X5_step : GoodIn wsX6_isTold (wsV RX6 129 RX5 yX5_step wsX5_step) := goodIn_app (goodIn_of _ (by decide +kernel)) ggX6_isTold_X5_step
set_option maxRecDepth 20000 in
theorem ggX6_isTold_X6_gives : GoodIn wsX6_isTold wsX6_gives := goodIn_r _ [117, 2, 118, 119, 120, 121, 122, 123, 124, 125, 126, 127, 128, 129, 130, 131] (by decide +kernel) (by decide +kernel)
set_option maxRecDepth 20000 in
theorem gX6_isTold_X6_gives : GoodIn wsX6_isTold (wsV RX6 37 RX6 yX6_gives wsX6_gives) := goodIn_app (goodIn_of _ (by decide +kernel)) ggX6_isTold_X6_gives
theorem dX6_isTold_0 : decode cX6_isTold 0 = .ok (.iconst 2, 1) := by decide +kernel
theorem dX6_isTold_1 : decode cX6_isTold 1 = .ok (.aload_n 2, 1) := by decide +kernel
theorem dX6_isTold_2 : decode cX6_isTold 2 = .ok (.iload_n 3, 1) := by decide +kernel
theorem dX6_isTold_3 : decode cX6_isTold 3 = .ok (.invokestatic 110, 3) := by decide +kernel
theorem dX6_isTold_6 : decode cX6_isTold 6 = .ok (.bipush 6, 2) := by decide +kernel
theorem dX6_isTold_8 : decode cX6_isTold 8 = .ok (.invokestatic 116, 3) := by decide +kernel
theorem dX6_isTold_11 : decode cX6_isTold 11 = .ok (.iadd, 1) := by decide +kernel
theorem dX6_isTold_12 : decode cX6_isTold 12 = .ok (.istore 4, 2) := by decide +kernel
theorem dX6_isTold_14 : decode cX6_isTold 14 = .ok (.iconst 0, 1) := by decide +kernel
theorem dX6_isTold_15 : decode cX6_isTold 15 = .ok (.istore 5, 2) := by decide +kernel
theorem dX6_isTold_17 : decode cX6_isTold 17 = .ok (.iload 5, 2) := by decide +kernel
theorem dX6_isTold_19 : decode cX6_isTold 19 = .ok (.iload 4, 2) := by decide +kernel
theorem dX6_isTold_21 : decode cX6_isTold 21 = .ok (.if_icmp .ge 46, 3) := by decide +kernel
theorem dX6_isTold_24 : decode cX6_isTold 24 = .ok (.aload_n 1, 1) := by decide +kernel
theorem dX6_isTold_25 : decode cX6_isTold 25 = .ok (.invokevirtual 119, 3) := by decide +kernel
theorem dX6_isTold_28 : decode cX6_isTold 28 = .ok (.iload 5, 2) := by decide +kernel
theorem dX6_isTold_30 : decode cX6_isTold 30 = .ok (.if_icmp .eq 5, 3) := by decide +kernel
theorem dX6_isTold_33 : decode cX6_isTold 33 = .ok (.iconst 0, 1) := by decide +kernel
theorem dX6_isTold_34 : decode cX6_isTold 34 = .ok (.ireturn, 1) := by decide +kernel
theorem dX6_isTold_35 : decode cX6_isTold 35 = .ok (.aload_n 0, 1) := by decide +kernel
theorem dX6_isTold_36 : decode cX6_isTold 36 = .ok (.getfield 18, 3) := by decide +kernel
theorem dX6_isTold_39 : decode cX6_isTold 39 = .ok (.iload 5, 2) := by decide +kernel
theorem dX6_isTold_41 : decode cX6_isTold 41 = .ok (.iconst 3, 1) := by decide +kernel
theorem dX6_isTold_42 : decode cX6_isTold 42 = .ok (.iastore, 1) := by decide +kernel
theorem dX6_isTold_43 : decode cX6_isTold 43 = .ok (.aload_n 0, 1) := by decide +kernel
theorem dX6_isTold_44 : decode cX6_isTold 44 = .ok (.getfield 21, 3) := by decide +kernel
theorem dX6_isTold_47 : decode cX6_isTold 47 = .ok (.iload 5, 2) := by decide +kernel
theorem dX6_isTold_49 : decode cX6_isTold 49 = .ok (.iconst 3, 1) := by decide +kernel
theorem dX6_isTold_50 : decode cX6_isTold 50 = .ok (.iastore, 1) := by decide +kernel
theorem dX6_isTold_51 : decode cX6_isTold 51 = .ok (.aload_n 0, 1) := by decide +kernel
theorem dX6_isTold_52 : decode cX6_isTold 52 = .ok (.dup, 1) := by decide +kernel
theorem dX6_isTold_53 : decode cX6_isTold 53 = .ok (.getfield 57, 3) := by decide +kernel
theorem dX6_isTold_56 : decode cX6_isTold 56 = .ok (.iconst 1, 1) := by decide +kernel
theorem dX6_isTold_57 : decode cX6_isTold 57 = .ok (.iadd, 1) := by decide +kernel
theorem dX6_isTold_58 : decode cX6_isTold 58 = .ok (.putfield 57, 3) := by decide +kernel
theorem dX6_isTold_61 : decode cX6_isTold 61 = .ok (.iinc 5 1, 3) := by decide +kernel
theorem dX6_isTold_64 : decode cX6_isTold 64 = .ok (.goto (-47), 3) := by decide +kernel
theorem dX6_isTold_67 : decode cX6_isTold 67 = .ok (.iconst 0, 1) := by decide +kernel
theorem dX6_isTold_68 : decode cX6_isTold 68 = .ok (.istore 5, 2) := by decide +kernel
theorem dX6_isTold_70 : decode cX6_isTold 70 = .ok (.iload 5, 2) := by decide +kernel
theorem dX6_isTold_72 : decode cX6_isTold 72 = .ok (.iload 4, 2) := by decide +kernel
theorem dX6_isTold_74 : decode cX6_isTold 74 = .ok (.if_icmp .ge 134, 3) := by decide +kernel
theorem dX6_isTold_77 : decode cX6_isTold 77 = .ok (.aload_n 2, 1) := by decide +kernel
theorem dX6_isTold_78 : decode cX6_isTold 78 = .ok (.iload_n 3, 1) := by decide +kernel
theorem dX6_isTold_79 : decode cX6_isTold 79 = .ok (.iconst 1, 1) := by decide +kernel
theorem dX6_isTold_80 : decode cX6_isTold 80 = .ok (.iadd, 1) := by decide +kernel
theorem dX6_isTold_81 : decode cX6_isTold 81 = .ok (.iload 5, 2) := by decide +kernel
theorem dX6_isTold_83 : decode cX6_isTold 83 = .ok (.iadd, 1) := by decide +kernel
theorem dX6_isTold_84 : decode cX6_isTold 84 = .ok (.invokestatic 110, 3) := by decide +kernel
theorem dX6_isTold_87 : decode cX6_isTold 87 = .ok (.istore 6, 2) := by decide +kernel
theorem dX6_isTold_89 : decode cX6_isTold 89 = .ok (.iload 6, 2) := by decide +kernel
theorem dX6_isTold_91 : decode cX6_isTold 91 = .ok (.iconst 4, 1) := by decide +kernel
theorem dX6_isTold_92 : decode cX6_isTold 92 = .ok (.invokestatic 116, 3) := by decide +kernel
theorem dX6_isTold_95 : decode cX6_isTold 95 = .ok (.istore 7, 2) := by decide +kernel
theorem dX6_isTold_97 : decode cX6_isTold 97 = .ok (.iconst 0, 1) := by decide +kernel
theorem dX6_isTold_98 : decode cX6_isTold 98 = .ok (.istore 8, 2) := by decide +kernel
theorem dX6_isTold_100 : decode cX6_isTold 100 = .ok (.iload 8, 2) := by decide +kernel
theorem dX6_isTold_102 : decode cX6_isTold 102 = .ok (.iload 6, 2) := by decide +kernel
theorem dX6_isTold_104 : decode cX6_isTold 104 = .ok (.iconst 2, 1) := by decide +kernel
theorem dX6_isTold_105 : decode cX6_isTold 105 = .ok (.ishr, 1) := by decide +kernel
theorem dX6_isTold_106 : decode cX6_isTold 106 = .ok (.iconst 5, 1) := by decide +kernel
theorem dX6_isTold_107 : decode cX6_isTold 107 = .ok (.invokestatic 116, 3) := by decide +kernel
theorem dX6_isTold_110 : decode cX6_isTold 110 = .ok (.if_icmp .ge 92, 3) := by decide +kernel
theorem dX6_isTold_113 : decode cX6_isTold 113 = .ok (.iload 6, 2) := by decide +kernel
theorem dX6_isTold_115 : decode cX6_isTold 115 = .ok (.iload 8, 2) := by decide +kernel
theorem dX6_isTold_117 : decode cX6_isTold 117 = .ok (.ishr, 1) := by decide +kernel
theorem dX6_isTold_118 : decode cX6_isTold 118 = .ok (.iload 7, 2) := by decide +kernel
theorem dX6_isTold_120 : decode cX6_isTold 120 = .ok (.iload 4, 2) := by decide +kernel
theorem dX6_isTold_122 : decode cX6_isTold 122 = .ok (.invokestatic 125, 3) := by decide +kernel
theorem dX6_isTold_125 : decode cX6_isTold 125 = .ok (.istore 9, 2) := by decide +kernel
theorem dX6_isTold_127 : decode cX6_isTold 127 = .ok (.aload_n 0, 1) := by decide +kernel
theorem dX6_isTold_128 : decode cX6_isTold 128 = .ok (.getfield 9, 3) := by decide +kernel
theorem dX6_isTold_131 : decode cX6_isTold 131 = .ok (.iload 5, 2) := by decide +kernel
theorem dX6_isTold_133 : decode cX6_isTold 133 = .ok (.aaload, 1) := by decide +kernel
theorem dX6_isTold_134 : decode cX6_isTold 134 = .ok (.iload 8, 2) := by decide +kernel
theorem dX6_isTold_136 : decode cX6_isTold 136 = .ok (.iload 9, 2) := by decide +kernel
theorem dX6_isTold_138 : decode cX6_isTold 138 = .ok (.iastore, 1) := by decide +kernel
theorem dX6_isTold_139 : decode cX6_isTold 139 = .ok (.aload_n 0, 1) := by decide +kernel
theorem dX6_isTold_140 : decode cX6_isTold 140 = .ok (.getfield 14, 3) := by decide +kernel
theorem dX6_isTold_143 : decode cX6_isTold 143 = .ok (.iload 5, 2) := by decide +kernel
theorem dX6_isTold_145 : decode cX6_isTold 145 = .ok (.dup2, 1) := by decide +kernel
theorem dX6_isTold_146 : decode cX6_isTold 146 = .ok (.iaload, 1) := by decide +kernel
theorem dX6_isTold_147 : decode cX6_isTold 147 = .ok (.iconst 1, 1) := by decide +kernel
theorem dX6_isTold_148 : decode cX6_isTold 148 = .ok (.iadd, 1) := by decide +kernel
theorem dX6_isTold_149 : decode cX6_isTold 149 = .ok (.iastore, 1) := by decide +kernel
theorem dX6_isTold_150 : decode cX6_isTold 150 = .ok (.aload_n 1, 1) := by decide +kernel
theorem dX6_isTold_151 : decode cX6_isTold 151 = .ok (.iload 5, 2) := by decide +kernel
theorem dX6_isTold_153 : decode cX6_isTold 153 = .ok (.iload 9, 2) := by decide +kernel
theorem dX6_isTold_155 : decode cX6_isTold 155 = .ok (.invokevirtual 129, 3) := by decide +kernel
theorem dX6_isTold_158 : decode cX6_isTold 158 = .ok (.iload 8, 2) := by decide +kernel
theorem dX6_isTold_160 : decode cX6_isTold 160 = .ok (.iconst 1, 1) := by decide +kernel
theorem dX6_isTold_161 : decode cX6_isTold 161 = .ok (.iadd, 1) := by decide +kernel
theorem dX6_isTold_162 : decode cX6_isTold 162 = .ok (.if_icmp .eq 5, 3) := by decide +kernel
theorem dX6_isTold_165 : decode cX6_isTold 165 = .ok (.iconst 0, 1) := by decide +kernel
theorem dX6_isTold_166 : decode cX6_isTold 166 = .ok (.ireturn, 1) := by decide +kernel
theorem dX6_isTold_167 : decode cX6_isTold 167 = .ok (.iload 9, 2) := by decide +kernel
theorem dX6_isTold_169 : decode cX6_isTold 169 = .ok (.bipush 40, 2) := by decide +kernel
theorem dX6_isTold_171 : decode cX6_isTold 171 = .ok (.if_icmp .lt 17, 3) := by decide +kernel
theorem dX6_isTold_174 : decode cX6_isTold 174 = .ok (.iload 6, 2) := by decide +kernel
theorem dX6_isTold_176 : decode cX6_isTold 176 = .ok (.iconst 3, 1) := by decide +kernel
theorem dX6_isTold_177 : decode cX6_isTold 177 = .ok (.iload 8, 2) := by decide +kernel
theorem dX6_isTold_179 : decode cX6_isTold 179 = .ok (.iadd, 1) := by decide +kernel
theorem dX6_isTold_180 : decode cX6_isTold 180 = .ok (.ishr, 1) := by decide +kernel
theorem dX6_isTold_181 : decode cX6_isTold 181 = .ok (.iconst 4, 1) := by decide +kernel
theorem dX6_isTold_182 : decode cX6_isTold 182 = .ok (.invokestatic 116, 3) := by decide +kernel
theorem dX6_isTold_185 : decode cX6_isTold 185 = .ok (.goto 9, 3) := by decide +kernel
theorem dX6_isTold_188 : decode cX6_isTold 188 = .ok (.aload_n 0, 1) := by decide +kernel
theorem dX6_isTold_189 : decode cX6_isTold 189 = .ok (.iload 9, 2) := by decide +kernel
theorem dX6_isTold_191 : decode cX6_isTold 191 = .ok (.invokevirtual 37, 3) := by decide +kernel
theorem dX6_isTold_194 : decode cX6_isTold 194 = .ok (.istore 7, 2) := by decide +kernel
theorem dX6_isTold_196 : decode cX6_isTold 196 = .ok (.iinc 8 1, 3) := by decide +kernel
theorem dX6_isTold_199 : decode cX6_isTold 199 = .ok (.goto (-99), 3) := by decide +kernel
theorem dX6_isTold_202 : decode cX6_isTold 202 = .ok (.iinc 5 1, 3) := by decide +kernel
theorem dX6_isTold_205 : decode cX6_isTold 205 = .ok (.goto (-135), 3) := by decide +kernel
theorem dX6_isTold_208 : decode cX6_isTold 208 = .ok (.iconst 1, 1) := by decide +kernel
theorem dX6_isTold_209 : decode cX6_isTold 209 = .ok (.ireturn, 1) := by decide +kernel
set_option maxRecDepth 20000 in
theorem ggX6_step_L_below : GoodIn wsX6_step wsL_below := goodIn_r _ [3, 4] (by decide +kernel) (by decide +kernel)
set_option maxRecDepth 20000 in
theorem gX6_step_L_below_n116 : GoodIn wsX6_step (wsL_below) := ggX6_step_L_below
theorem dX6_step_0 : decode cX6_step 0 = .ok (.iload_n 0, 1) := by decide +kernel
theorem dX6_step_1 : decode cX6_step 1 = .ok (.iconst 4, 1) := by decide +kernel
theorem dX6_step_2 : decode cX6_step 2 = .ok (.ishr, 1) := by decide +kernel
theorem dX6_step_3 : decode cX6_step 3 = .ok (.bipush 9, 2) := by decide +kernel
theorem dX6_step_5 : decode cX6_step 5 = .ok (.invokestatic 116, 3) := by decide +kernel
theorem dX6_step_8 : decode cX6_step 8 = .ok (.istore_n 3, 1) := by decide +kernel
theorem dX6_step_9 : decode cX6_step 9 = .ok (.iload_n 3, 1) := by decide +kernel
theorem dX6_step_10 : decode cX6_step 10 = .ok (.iconst 2, 1) := by decide +kernel
theorem dX6_step_11 : decode cX6_step 11 = .ok (.if_icmp .ge 15, 3) := by decide +kernel
theorem dX6_step_14 : decode cX6_step 14 = .ok (.bipush 40, 2) := by decide +kernel
theorem dX6_step_16 : decode cX6_step 16 = .ok (.iload_n 0, 1) := by decide +kernel
theorem dX6_step_17 : decode cX6_step 17 = .ok (.bipush 6, 2) := by decide +kernel
theorem dX6_step_19 : decode cX6_step 19 = .ok (.ishr, 1) := by decide +kernel
theorem dX6_step_20 : decode cX6_step 20 = .ok (.iload_n 2, 1) := by decide +kernel
theorem dX6_step_21 : decode cX6_step 21 = .ok (.invokestatic 116, 3) := by decide +kernel
theorem dX6_step_24 : decode cX6_step 24 = .ok (.iadd, 1) := by decide +kernel
theorem dX6_step_25 : decode cX6_step 25 = .ok (.ireturn, 1) := by decide +kernel
theorem dX6_step_26 : decode cX6_step 26 = .ok (.iload_n 3, 1) := by decide +kernel
theorem dX6_step_27 : decode cX6_step 27 = .ok (.iconst 2, 1) := by decide +kernel
theorem dX6_step_28 : decode cX6_step 28 = .ok (.if_icmp .ne 14, 3) := by decide +kernel
theorem dX6_step_31 : decode cX6_step 31 = .ok (.bipush 20, 2) := by decide +kernel
theorem dX6_step_33 : decode cX6_step 33 = .ok (.iload_n 0, 1) := by decide +kernel
theorem dX6_step_34 : decode cX6_step 34 = .ok (.iconst 5, 1) := by decide +kernel
theorem dX6_step_35 : decode cX6_step 35 = .ok (.ishr, 1) := by decide +kernel
theorem dX6_step_36 : decode cX6_step 36 = .ok (.iconst 5, 1) := by decide +kernel
theorem dX6_step_37 : decode cX6_step 37 = .ok (.invokestatic 116, 3) := by decide +kernel
theorem dX6_step_40 : decode cX6_step 40 = .ok (.iadd, 1) := by decide +kernel
theorem dX6_step_41 : decode cX6_step 41 = .ok (.ireturn, 1) := by decide +kernel
theorem dX6_step_42 : decode cX6_step 42 = .ok (.iload_n 3, 1) := by decide +kernel
theorem dX6_step_43 : decode cX6_step 43 = .ok (.iconst 3, 1) := by decide +kernel
theorem dX6_step_44 : decode cX6_step 44 = .ok (.if_icmp .ne 6, 3) := by decide +kernel
theorem dX6_step_47 : decode cX6_step 47 = .ok (.bipush 21, 2) := by decide +kernel
theorem dX6_step_49 : decode cX6_step 49 = .ok (.ireturn, 1) := by decide +kernel
theorem dX6_step_50 : decode cX6_step 50 = .ok (.iload_n 1, 1) := by decide +kernel
theorem dX6_step_51 : decode cX6_step 51 = .ok (.iconst 1, 1) := by decide +kernel
theorem dX6_step_52 : decode cX6_step 52 = .ok (.if_icmp .ne 6, 3) := by decide +kernel
theorem dX6_step_55 : decode cX6_step 55 = .ok (.bipush 20, 2) := by decide +kernel
theorem dX6_step_57 : decode cX6_step 57 = .ok (.ireturn, 1) := by decide +kernel
theorem dX6_step_58 : decode cX6_step 58 = .ok (.iload_n 1, 1) := by decide +kernel
theorem dX6_step_59 : decode cX6_step 59 = .ok (.iconst 2, 1) := by decide +kernel
theorem dX6_step_60 : decode cX6_step 60 = .ok (.if_icmp .ne 6, 3) := by decide +kernel
theorem dX6_step_63 : decode cX6_step 63 = .ok (.bipush 23, 2) := by decide +kernel
theorem dX6_step_65 : decode cX6_step 65 = .ok (.ireturn, 1) := by decide +kernel
theorem dX6_step_66 : decode cX6_step 66 = .ok (.iload_n 3, 1) := by decide +kernel
theorem dX6_step_67 : decode cX6_step 67 = .ok (.iconst 4, 1) := by decide +kernel
theorem dX6_step_68 : decode cX6_step 68 = .ok (.if_icmp .ne 8, 3) := by decide +kernel
theorem dX6_step_71 : decode cX6_step 71 = .ok (.bipush 22, 2) := by decide +kernel
theorem dX6_step_73 : decode cX6_step 73 = .ok (.goto 21, 3) := by decide +kernel
theorem dX6_step_76 : decode cX6_step 76 = .ok (.iload_n 3, 1) := by decide +kernel
theorem dX6_step_77 : decode cX6_step 77 = .ok (.iconst 5, 1) := by decide +kernel
theorem dX6_step_78 : decode cX6_step 78 = .ok (.if_icmp .ne 8, 3) := by decide +kernel
theorem dX6_step_81 : decode cX6_step 81 = .ok (.bipush 24, 2) := by decide +kernel
theorem dX6_step_83 : decode cX6_step 83 = .ok (.goto 11, 3) := by decide +kernel
theorem dX6_step_86 : decode cX6_step 86 = .ok (.iload_n 0, 1) := by decide +kernel
theorem dX6_step_87 : decode cX6_step 87 = .ok (.iconst 5, 1) := by decide +kernel
theorem dX6_step_88 : decode cX6_step 88 = .ok (.ishr, 1) := by decide +kernel
theorem dX6_step_89 : decode cX6_step 89 = .ok (.bipush 10, 2) := by decide +kernel
theorem dX6_step_91 : decode cX6_step 91 = .ok (.invokestatic 116, 3) := by decide +kernel
theorem dX6_step_94 : decode cX6_step 94 = .ok (.ireturn, 1) := by decide +kernel
theorem dJ6_bitCount_0f7a4_0 : decode cJ6_bitCount_0f7a4 0 = .ok (.iload_n 0, 1) := by decide +kernel
theorem dJ6_bitCount_0f7a4_1 : decode cJ6_bitCount_0f7a4 1 = .ok (.iload_n 0, 1) := by decide +kernel
theorem dJ6_bitCount_0f7a4_2 : decode cJ6_bitCount_0f7a4 2 = .ok (.iconst 1, 1) := by decide +kernel
theorem dJ6_bitCount_0f7a4_3 : decode cJ6_bitCount_0f7a4 3 = .ok (.iushr, 1) := by decide +kernel
theorem dJ6_bitCount_0f7a4_4 : decode cJ6_bitCount_0f7a4 4 = .ok (.ldc_w 265, 3) := by decide +kernel
theorem dJ6_bitCount_0f7a4_7 : decode cJ6_bitCount_0f7a4 7 = .ok (.iand, 1) := by decide +kernel
theorem dJ6_bitCount_0f7a4_8 : decode cJ6_bitCount_0f7a4 8 = .ok (.isub, 1) := by decide +kernel
theorem dJ6_bitCount_0f7a4_9 : decode cJ6_bitCount_0f7a4 9 = .ok (.istore_n 0, 1) := by decide +kernel
theorem dJ6_bitCount_0f7a4_10 : decode cJ6_bitCount_0f7a4 10 = .ok (.iload_n 0, 1) := by decide +kernel
theorem dJ6_bitCount_0f7a4_11 : decode cJ6_bitCount_0f7a4 11 = .ok (.ldc_w 266, 3) := by decide +kernel
theorem dJ6_bitCount_0f7a4_14 : decode cJ6_bitCount_0f7a4 14 = .ok (.iand, 1) := by decide +kernel
theorem dJ6_bitCount_0f7a4_15 : decode cJ6_bitCount_0f7a4 15 = .ok (.iload_n 0, 1) := by decide +kernel
theorem dJ6_bitCount_0f7a4_16 : decode cJ6_bitCount_0f7a4 16 = .ok (.iconst 2, 1) := by decide +kernel
theorem dJ6_bitCount_0f7a4_17 : decode cJ6_bitCount_0f7a4 17 = .ok (.iushr, 1) := by decide +kernel
theorem dJ6_bitCount_0f7a4_18 : decode cJ6_bitCount_0f7a4 18 = .ok (.ldc_w 266, 3) := by decide +kernel
theorem dJ6_bitCount_0f7a4_21 : decode cJ6_bitCount_0f7a4 21 = .ok (.iand, 1) := by decide +kernel
theorem dJ6_bitCount_0f7a4_22 : decode cJ6_bitCount_0f7a4 22 = .ok (.iadd, 1) := by decide +kernel
theorem dJ6_bitCount_0f7a4_23 : decode cJ6_bitCount_0f7a4 23 = .ok (.istore_n 0, 1) := by decide +kernel
theorem dJ6_bitCount_0f7a4_24 : decode cJ6_bitCount_0f7a4 24 = .ok (.iload_n 0, 1) := by decide +kernel
theorem dJ6_bitCount_0f7a4_25 : decode cJ6_bitCount_0f7a4 25 = .ok (.iload_n 0, 1) := by decide +kernel
theorem dJ6_bitCount_0f7a4_26 : decode cJ6_bitCount_0f7a4 26 = .ok (.iconst 4, 1) := by decide +kernel
theorem dJ6_bitCount_0f7a4_27 : decode cJ6_bitCount_0f7a4 27 = .ok (.iushr, 1) := by decide +kernel
theorem dJ6_bitCount_0f7a4_28 : decode cJ6_bitCount_0f7a4 28 = .ok (.iadd, 1) := by decide +kernel
theorem dJ6_bitCount_0f7a4_29 : decode cJ6_bitCount_0f7a4 29 = .ok (.ldc_w 267, 3) := by decide +kernel
theorem dJ6_bitCount_0f7a4_32 : decode cJ6_bitCount_0f7a4 32 = .ok (.iand, 1) := by decide +kernel
theorem dJ6_bitCount_0f7a4_33 : decode cJ6_bitCount_0f7a4 33 = .ok (.istore_n 0, 1) := by decide +kernel
theorem dJ6_bitCount_0f7a4_34 : decode cJ6_bitCount_0f7a4 34 = .ok (.iload_n 0, 1) := by decide +kernel
theorem dJ6_bitCount_0f7a4_35 : decode cJ6_bitCount_0f7a4 35 = .ok (.iload_n 0, 1) := by decide +kernel
theorem dJ6_bitCount_0f7a4_36 : decode cJ6_bitCount_0f7a4 36 = .ok (.bipush 8, 2) := by decide +kernel
theorem dJ6_bitCount_0f7a4_38 : decode cJ6_bitCount_0f7a4 38 = .ok (.iushr, 1) := by decide +kernel
theorem dJ6_bitCount_0f7a4_39 : decode cJ6_bitCount_0f7a4 39 = .ok (.iadd, 1) := by decide +kernel
theorem dJ6_bitCount_0f7a4_40 : decode cJ6_bitCount_0f7a4 40 = .ok (.istore_n 0, 1) := by decide +kernel
theorem dJ6_bitCount_0f7a4_41 : decode cJ6_bitCount_0f7a4 41 = .ok (.iload_n 0, 1) := by decide +kernel
theorem dJ6_bitCount_0f7a4_42 : decode cJ6_bitCount_0f7a4 42 = .ok (.iload_n 0, 1) := by decide +kernel
theorem dJ6_bitCount_0f7a4_43 : decode cJ6_bitCount_0f7a4 43 = .ok (.bipush 16, 2) := by decide +kernel
theorem dJ6_bitCount_0f7a4_45 : decode cJ6_bitCount_0f7a4 45 = .ok (.iushr, 1) := by decide +kernel
theorem dJ6_bitCount_0f7a4_46 : decode cJ6_bitCount_0f7a4 46 = .ok (.iadd, 1) := by decide +kernel
theorem dJ6_bitCount_0f7a4_47 : decode cJ6_bitCount_0f7a4 47 = .ok (.istore_n 0, 1) := by decide +kernel
theorem dJ6_bitCount_0f7a4_48 : decode cJ6_bitCount_0f7a4 48 = .ok (.iload_n 0, 1) := by decide +kernel
theorem dJ6_bitCount_0f7a4_49 : decode cJ6_bitCount_0f7a4 49 = .ok (.bipush 63, 2) := by decide +kernel
theorem dJ6_bitCount_0f7a4_51 : decode cJ6_bitCount_0f7a4 51 = .ok (.iand, 1) := by decide +kernel
theorem dJ6_bitCount_0f7a4_52 : decode cJ6_bitCount_0f7a4 52 = .ok (.ireturn, 1) := by decide +kernel
theorem dJ9_abs_0f7a4_0 : decode cJ9_abs_0f7a4 0 = .ok (.iload_n 0, 1) := by decide +kernel
theorem dJ9_abs_0f7a4_1 : decode cJ9_abs_0f7a4 1 = .ok (.ifCond .ge 8, 3) := by decide +kernel
theorem dJ9_abs_0f7a4_4 : decode cJ9_abs_0f7a4 4 = .ok (.iload_n 0, 1) := by decide +kernel
theorem dJ9_abs_0f7a4_5 : decode cJ9_abs_0f7a4 5 = .ok (.ineg, 1) := by decide +kernel
theorem dJ9_abs_0f7a4_6 : decode cJ9_abs_0f7a4 6 = .ok (.goto 4, 3) := by decide +kernel
theorem dJ9_abs_0f7a4_9 : decode cJ9_abs_0f7a4 9 = .ok (.iload_n 0, 1) := by decide +kernel
theorem dJ9_abs_0f7a4_10 : decode cJ9_abs_0f7a4 10 = .ok (.ireturn, 1) := by decide +kernel
theorem dJ9_max_7cf53_0 : decode cJ9_max_7cf53 0 = .ok (.iload_n 0, 1) := by decide +kernel
theorem dJ9_max_7cf53_1 : decode cJ9_max_7cf53 1 = .ok (.iload_n 1, 1) := by decide +kernel
theorem dJ9_max_7cf53_2 : decode cJ9_max_7cf53 2 = .ok (.if_icmp .lt 7, 3) := by decide +kernel
theorem dJ9_max_7cf53_5 : decode cJ9_max_7cf53 5 = .ok (.iload_n 0, 1) := by decide +kernel
theorem dJ9_max_7cf53_6 : decode cJ9_max_7cf53 6 = .ok (.goto 4, 3) := by decide +kernel
theorem dJ9_max_7cf53_9 : decode cJ9_max_7cf53 9 = .ok (.iload_n 1, 1) := by decide +kernel
theorem dJ9_max_7cf53_10 : decode cJ9_max_7cf53 10 = .ok (.ireturn, 1) := by decide +kernel
theorem dJ9_min_7cf53_0 : decode cJ9_min_7cf53 0 = .ok (.iload_n 0, 1) := by decide +kernel
theorem dJ9_min_7cf53_1 : decode cJ9_min_7cf53 1 = .ok (.iload_n 1, 1) := by decide +kernel
theorem dJ9_min_7cf53_2 : decode cJ9_min_7cf53 2 = .ok (.if_icmp .gt 7, 3) := by decide +kernel
theorem dJ9_min_7cf53_5 : decode cJ9_min_7cf53 5 = .ok (.iload_n 0, 1) := by decide +kernel
theorem dJ9_min_7cf53_6 : decode cJ9_min_7cf53 6 = .ok (.goto 4, 3) := by decide +kernel
theorem dJ9_min_7cf53_9 : decode cJ9_min_7cf53 9 = .ok (.iload_n 1, 1) := by decide +kernel
theorem dJ9_min_7cf53_10 : decode cJ9_min_7cf53 10 = .ok (.ireturn, 1) := by decide +kernel
theorem dL_below_0 : decode cL_below 0 = .ok (.iload_n 0, 1) := by decide +kernel
theorem dL_below_1 : decode cL_below 1 = .ok (.ldc 7, 2) := by decide +kernel
theorem dL_below_3 : decode cL_below 3 = .ok (.iand, 1) := by decide +kernel
theorem dL_below_4 : decode cL_below 4 = .ok (.iload_n 1, 1) := by decide +kernel
theorem dL_below_5 : decode cL_below 5 = .ok (.irem, 1) := by decide +kernel
theorem dL_below_6 : decode cL_below 6 = .ok (.ireturn, 1) := by decide +kernel
theorem dL_cell_0 : decode cL_cell 0 = .ok (.iload_n 1, 1) := by decide +kernel
theorem dL_cell_1 : decode cL_cell 1 = .ok (.aload_n 0, 1) := by decide +kernel
theorem dL_cell_2 : decode cL_cell 2 = .ok (.arraylength, 1) := by decide +kernel
theorem dL_cell_3 : decode cL_cell 3 = .ok (.if_icmp .ge 9, 3) := by decide +kernel
theorem dL_cell_6 : decode cL_cell 6 = .ok (.aload_n 0, 1) := by decide +kernel
theorem dL_cell_7 : decode cL_cell 7 = .ok (.iload_n 1, 1) := by decide +kernel
theorem dL_cell_8 : decode cL_cell 8 = .ok (.iaload, 1) := by decide +kernel
theorem dL_cell_9 : decode cL_cell 9 = .ok (.goto 9, 3) := by decide +kernel
theorem dL_cell_12 : decode cL_cell 12 = .ok (.ldc 8, 2) := by decide +kernel
theorem dL_cell_14 : decode cL_cell 14 = .ok (.iload_n 1, 1) := by decide +kernel
theorem dL_cell_15 : decode cL_cell 15 = .ok (.iconst 3, 1) := by decide +kernel
theorem dL_cell_16 : decode cL_cell 16 = .ok (.iadd, 1) := by decide +kernel
theorem dL_cell_17 : decode cL_cell 17 = .ok (.imul, 1) := by decide +kernel
theorem dL_cell_18 : decode cL_cell 18 = .ok (.ireturn, 1) := by decide +kernel
abbrev vwCl : List vw_C := [(RX0, TX0, 6), (RX1, TX1, 3), (RX2, TX2, 4), (RX3, TX3, 5), (RX4, TX4, 13), (RX5, TX5, 4), (RX6, TX6, 13)]
end
section
/-! The world by offsets: n cells from the address b on, what each holds by f; rows for one cell of it. -/
def ts_W (D : va_G) (b n : Nat) (f : Nat → va_E) (H : Heap) : Prop := ∀ k, k < n → va_at D vwCl (b + k, f k) H
def ts_A (b n sz : Nat) : Nat → Prop := fun x => (b ≤ x ∧ x < b + n) ∨ sz ≤ x
theorem ts_Ain {b n sz k : Nat} (h : k < n) : ts_A b n sz (b + k) := Or.inl ⟨by omega, by omega⟩
theorem ts_Aup {b n sz sz' x : Nat} (h : sz ≤ sz') (hx : ts_A b n sz' x) : ts_A b n sz x := hx.elim Or.inl (fun q => Or.inr (Nat.le_trans h q))
theorem ts_one {D : va_G} {b n : Nat} {f : Nat → va_E} {H : Heap} (h : ts_W D b n f H) {k : Nat} (hk : k < n) {e : va_E} (he : f k = e) : va_P D vwCl [(b + k, e)] H := by
  intro j q hj
  have h0 : j < 1 := (List.getElem?_eq_some_iff.mp hj).1
  rw [show j = 0 by omega] at hj
  cases hj
  rw [← he]
  exact h k hk
theorem ts_kept {D : va_G} {b n : Nat} {f : Nat → va_E} {H H1 : Heap} (h : ts_W D b n f H) (hq : ∀ x, b ≤ x → x < b + n → H1[x]? = H[x]?) : ts_W D b n f H1 := fun k hk => (h k hk).kept (hq (b + k) (by omega) (by omega))
theorem ts_conv {D : va_G} {b n : Nat} {f f' : Nat → va_E} {H : Heap} (h : ts_W D b n f H) (hf : ∀ k, k < n → f' k = f k) : ts_W D b n f' H := fun k hk => by rw [hf k hk]; exact h k hk
theorem ts_set {D : va_G} {b n : Nat} {f f' : Nat → va_E} {H H1 : Heap} (h : ts_W D b n f H) {k : Nat} (he : va_at D vwCl (b + k, f' k) H1) (hoth : ∀ i, i < n → i ≠ k → f' i = f i) (oq : ∀ x, x ≠ b + k → H1[x]? = H[x]?) : ts_W D b n f' H1 := by
  intro i hi
  by_cases e : i = k
  · subst e
    exact he
  · rw [hoth i hi e]
    exact (h i hi).kept (oq (b + i) (by omega))
theorem ts_arr {c : ClassId} {n : Nat} {f g : Nat → Value} (h : ∀ j, j < n → f j = g j) : arrV c n f = arrV c n g := by
  have e : (Array.ofFn (n := n) fun j => f j.val) = Array.ofFn (n := n) fun j => g j.val := by
    apply Array.ext
    · simp
    · intro j h1 h2
      simp only [Array.getElem_ofFn]
      exact h j (by simpa using h1)
  show ({ cls := c, slots := Array.ofFn (n := n) fun j => f j.val, vm := .none } : Cell) = { cls := c, slots := Array.ofFn (n := n) fun j => g j.val, vm := .none }
  rw [e]
section TSR
variable {p : Program} {l : Launch} {e : Env} {R : Room} {s : State} {m : MethodId} {args : Array Value} {below : List Frame} {meth : Method} {c : Code} {H : Heap} {locs : List Loc} {cells slots : Nat} {Q : State → Prop}
variable {cc : ByteArray} {pc : Nat} {ls : Array Slot} {rest : List Value} {D : va_G} {A : Nat → Prop} {b n : Nat} {tys : List (ClassId × FieldType)} {f : Nat → va_E} {H0 : Heap}
theorem ts_get (hexec : p.tables.exec = Jvm.exec) (hb : c.code = cc) {own C : String} {T : u_T} {N ci index : Nat} {Ts : List Cond} (hts : ∀ w ∈ Ts, w.before args s = true) (hin : ∀ w ∈ u_ws C T N, w ∈ Ts) (hown : s.vm.findClass own = some m.cls) (hK : va_K D vwCl tys s) (hW : ts_W D b n f H) (k : Nat) (hk : k < n) {fs : List Value} (he : f k = .inr (ci, fs)) (hc : vwCl[ci]? = some (C, T, N)) (j : Nat) (hj : j < N) (hlink : Cond.fieldLink own index (T j).1 (T j).2.1 (T j).2.2.1 ∈ Ts) {v : Value} (hv : fs[j]? = some v) (hdg : decode cc pc = .ok (.getfield index, 3))
    (kk : W p l e R s m args below meth c H locs cells slots Q (F0 m (pc + 3) ls (v :: rest))) : W p l e R s m args below meth c H locs cells slots Q (F0 m pc ls (.ref (b + k) :: rest)) :=
  va_get hexec hb hts hin hown hK (ts_one hW hk he) 0 rfl hc j hj (hts _ hlink) (fun _ h => h) hv hdg kk
theorem ts_put (hexec : p.tables.exec = Jvm.exec) (hb : c.code = cc) {own C : String} {T : u_T} {N ci index : Nat} {Ts : List Cond} (hts : ∀ w ∈ Ts, w.before args s = true) (hin : ∀ w ∈ u_ws C T N, w ∈ Ts) (ty0 : Nat → FieldType) (hty : ∀ k, k < N → parseFieldDescriptor (T k).2.2.1 = some (ty0 k)) (hnm : ∀ a, a < N → ∀ b, b < N → a ≠ b → (T a).2.1 ≠ (T b).2.1) (hown : s.vm.findClass own = some m.cls) (hK : va_K D vwCl tys s) (hW : ts_W D b n f H) (hS0 : va_S A H0 H locs) (hA : ∀ k, k < n → A (b + k)) (k : Nat) (hk : k < n) {fs : List Value} (he : f k = .inr (ci, fs)) (hc : vwCl[ci]? = some (C, T, N)) (j : Nat) (hj : j < N) (hlink : Cond.fieldLink own index (T j).1 (T j).2.1 (T j).2.2.1 ∈ Ts) (hfin : (T j).2.2.2 = false) {v : Value} (hn : narrow (ty0 j) v = v) (hfit : fits (ty0 j) v = true) (hl : j < fs.length)
    (f' : Nat → va_E) (hf' : f' k = .inr (ci, fs.set j v)) (hoth : ∀ i, i < n → i ≠ k → f' i = f i) (hdg : decode cc pc = .ok (.putfield index, 3))
    (kk : ∀ (H1 : Heap) (locs1 : List Loc), (∀ x, x ≠ b + k → H1[x]? = H[x]?) → H1.size = H.size → ts_W D b n f' H1 → va_S A H0 H1 locs1 → W p l e R s m args below meth c H1 locs1 cells slots Q (F0 m (pc + 3) ls rest)) : W p l e R s m args below meth c H locs cells slots Q (F0 m pc ls (v :: .ref (b + k) :: rest)) := by
  have hap := va_apart (own := own) hts hin ty0 hty hnm hK hc
  obtain ⟨r, h1, cell, q1, q2, q3, q4⟩ := ts_one hW hk he 0 _ rfl
  have hr : r = (C, T, N) := Option.some.inj (h1.symm.trans hc)
  subst hr
  obtain ⟨hSl, hfc, kC, hkC, hkind⟩ := hK.1 ci _ hc
  obtain ⟨cf, kf, fi, fl, hi, hsl⟩ := hSl j hj
  have hlay := hts _ (hin _ (u_in_lay hj))
  unfold u_lay at hlay
  rw [if_neg (by rw [hfin]; decide)] at hlay
  have hst := (u_facts hfc hkC (u_lays hts hin hj) hi).1
  have h6 := u_store hfc hkC hkind hlay hi (hty j hj) hn hfit
  refine W.putK hexec hb (f := fl) ⟨hown, hts _ hlink, ⟨_, _, _, hi⟩, hst⟩ (by rw [q2]; exact h6) q1 q3 (by rw [hsl]; exact k2_hasslot (q4 j hj)) rfl rfl hdg fun H' e1 e2 e3 => ?_
  rw [hsl] at e1 ⊢
  refine kk H' _ e3 e2 (ts_set hW ?_ hoth e3) (hS0.put e2 e3 (hA k hk))
  rw [hf']
  exact ⟨_, hc, t_OB.to (V := updV (vp_V fs) j v) ⟨_, e1, q2, q3, t_set q4 hap hj v⟩ (fun i _ => vp_updV_set hl v i)⟩
theorem ts_iald (hexec : p.tables.exec = Jvm.exec) (hb : c.code = cc) (hK : va_K D vwCl tys s) (hW : ts_W D b n f H) (k : Nat) (hk : k < n) (t0 : Nat) {cA : ClassId} {N i : Nat} {g : Nat → Int32} (he : f k = .inl (cA, N, .inl g)) (ht : tys[t0]? = some (cA, .int)) (hi : i < N) (hN : N < 2 ^ 31) {v : Int32} (hv : g i = v) (hdg : decode cc pc = .ok (.iaload, 1))
    (kk : W p l e R s m args below meth c H locs cells slots Q (F0 m (pc + 1) ls (.int v :: rest))) : W p l e R s m args below meth c H locs cells slots Q (F0 m pc ls (.int (nI i) :: .ref (b + k) :: rest)) := by
  refine va_iald hexec hb hK (ts_one hW hk he) 0 t0 rfl ht (vp_in_nI hi hN) hdg ?_
  rw [nI_clamp (by omega), hv]
  exact kk
theorem ts_aald (hexec : p.tables.exec = Jvm.exec) (hb : c.code = cc) (hK : va_K D vwCl tys s) (hW : ts_W D b n f H) (k : Nat) (hk : k < n) (t0 : Nat) {cA : ClassId} {ty : FieldType} {N i : Nat} {g : Nat → Option Nat} (he : f k = .inl (cA, N, .inr (.inr (.inr (.inr g))))) (ht : tys[t0]? = some (cA, ty)) (hty : ty.isReference = true) (hi : i < N) (hN : N < 2 ^ 31) {a : Nat} (hv : g i = some a) (hdg : decode cc pc = .ok (.aaload, 1))
    (kk : W p l e R s m args below meth c H locs cells slots Q (F0 m (pc + 1) ls (.ref a :: rest))) : W p l e R s m args below meth c H locs cells slots Q (F0 m pc ls (.int (nI i) :: .ref (b + k) :: rest)) := by
  have hin := vp_in_nI hi hN
  have hc : (nI i).toNatClampNeg = i := nI_clamp (by omega)
  have hP := ts_one hW hk he 0 _ rfl
  refine W.aald (v := .ref a) (ty := ty) hexec hb hP ((hK.2 t0 _ ht).1 N (fun j => va_rf (g j))) hty (fun q => by cases q) (by show ¬ (nI i < 0 ∨ (arrV _ _ _).slots.size ≤ _); rw [arrV_size]; exact hin) ?_ rfl rfl hdg kk
  show (arrV _ _ _).slots[_]? = _
  rw [hc, arrV_read _ _ hi, hv]
  rfl
theorem ts_iast (hexec : p.tables.exec = Jvm.exec) (hb : c.code = cc) (hK : va_K D vwCl tys s) (hW : ts_W D b n f H) (hS0 : va_S A H0 H locs) (hA : ∀ k, k < n → A (b + k)) (k : Nat) (hk : k < n) (t0 : Nat) {cA : ClassId} {N i : Nat} {g g' : Nat → Int32} (he : f k = .inl (cA, N, .inl g)) (ht : tys[t0]? = some (cA, .int)) (hi : i < N) (hN : N < 2 ^ 31) {v : Int32}
    (f' : Nat → va_E) (hf' : f' k = .inl (cA, N, .inl g')) (hg : ∀ j, j < N → g' j = if j = i then v else g j) (hoth : ∀ j, j < n → j ≠ k → f' j = f j) (hdg : decode cc pc = .ok (.iastore, 1))
    (kk : ∀ (H1 : Heap) (locs1 : List Loc), (∀ x, x ≠ b + k → H1[x]? = H[x]?) → H1.size = H.size → ts_W D b n f' H1 → va_S A H0 H1 locs1 → W p l e R s m args below meth c H1 locs1 cells slots Q (F0 m (pc + 1) ls rest)) : W p l e R s m args below meth c H locs cells slots Q (F0 m pc ls (.int v :: .int (nI i) :: .ref (b + k) :: rest)) := by
  have hin := vp_in_nI hi hN
  have hc : (nI i).toNatClampNeg = i := nI_clamp (by omega)
  refine W.iast hexec hb (ts_one hW hk he 0 _ rfl) ((hK.2 t0 _ ht).1 N (fun j => .int (g j))) (fun q => by cases q) (by show ¬ (nI i < 0 ∨ (arrV _ _ _).slots.size ≤ _); rw [arrV_size]; exact hin) rfl rfl hdg fun H1 e1 e2 e3 => ?_
  refine kk H1 _ e3 e2 (ts_set hW ?_ hoth e3) (hS0.put e2 e3 (hA k hk))
  rw [hf']
  show H1[b + k]? = some (vp_cell _ _)
  rw [e1, vp_cell_i, vp_cell_i, arrV_store, hc]
  congr 1
  apply ts_arr
  intro j hj
  rw [hg j hj]
  by_cases q : j = i
  · subst q
    simp [updV]
  · simp [updV, q]
theorem ts_alen (hexec : p.tables.exec = Jvm.exec) (hb : c.code = cc) (hK : va_K D vwCl tys s) (hW : ts_W D b n f H) (k : Nat) (hk : k < n) (t0 : Nat) {cA : ClassId} {x : vp_A} (he : f k = .inl (cA, x)) {ty : FieldType} (ht : tys[t0]? = some (cA, ty)) {v : Int32} (hv : Int32.ofNat x.1 = v) (hdg : decode cc pc = .ok (.arraylength, 1))
    (kk : W p l e R s m args below meth c H locs cells slots Q (F0 m (pc + 1) ls (.int v :: rest))) : W p l e R s m args below meth c H locs cells slots Q (F0 m pc ls (.ref (b + k) :: rest)) :=
  va_alen hexec hb hK (ts_one hW hk he) 0 t0 rfl ht hv hdg kk
theorem ts_iadd (hexec : p.tables.exec = Jvm.exec) (hb : c.code = cc) {x y v : Int32} (hdg : decode cc pc = .ok (.iadd, 1)) (hv : x + y = v)
    (kk : W p l e R s m args below meth c H locs cells slots Q (F0 m (pc + 1) ls (.int v :: rest))) : W p l e R s m args below meth c H locs cells slots Q (F0 m pc ls (.int y :: .int x :: rest)) := by
  subst hv
  exact lv_iadd hexec hb hdg kk
theorem ts_isub (hexec : p.tables.exec = Jvm.exec) (hb : c.code = cc) {x y v : Int32} (hdg : decode cc pc = .ok (.isub, 1)) (hv : x - y = v)
    (kk : W p l e R s m args below meth c H locs cells slots Q (F0 m (pc + 1) ls (.int v :: rest))) : W p l e R s m args below meth c H locs cells slots Q (F0 m pc ls (.int y :: .int x :: rest)) := by
  subst hv
  exact lv_isub hexec hb hdg kk
theorem ts_imul (hexec : p.tables.exec = Jvm.exec) (hb : c.code = cc) {x y v : Int32} (hdg : decode cc pc = .ok (.imul, 1)) (hv : x * y = v)
    (kk : W p l e R s m args below meth c H locs cells slots Q (F0 m (pc + 1) ls (.int v :: rest))) : W p l e R s m args below meth c H locs cells slots Q (F0 m pc ls (.int y :: .int x :: rest)) := by
  subst hv
  exact lv_imul hexec hb hdg kk
theorem ts_iand (hexec : p.tables.exec = Jvm.exec) (hb : c.code = cc) {x y v : Int32} (hdg : decode cc pc = .ok (.iand, 1)) (hv : x &&& y = v)
    (kk : W p l e R s m args below meth c H locs cells slots Q (F0 m (pc + 1) ls (.int v :: rest))) : W p l e R s m args below meth c H locs cells slots Q (F0 m pc ls (.int y :: .int x :: rest)) := by
  subst hv
  exact lv_iand hexec hb hdg kk
theorem ts_ior (hexec : p.tables.exec = Jvm.exec) (hb : c.code = cc) {x y v : Int32} (hdg : decode cc pc = .ok (.ior, 1)) (hv : x ||| y = v)
    (kk : W p l e R s m args below meth c H locs cells slots Q (F0 m (pc + 1) ls (.int v :: rest))) : W p l e R s m args below meth c H locs cells slots Q (F0 m pc ls (.int y :: .int x :: rest)) := by
  subst hv
  exact lv_ior hexec hb hdg kk
theorem ts_ixor (hexec : p.tables.exec = Jvm.exec) (hb : c.code = cc) {x y v : Int32} (hdg : decode cc pc = .ok (.ixor, 1)) (hv : x ^^^ y = v)
    (kk : W p l e R s m args below meth c H locs cells slots Q (F0 m (pc + 1) ls (.int v :: rest))) : W p l e R s m args below meth c H locs cells slots Q (F0 m pc ls (.int y :: .int x :: rest)) := by
  subst hv
  exact lv_ixor hexec hb hdg kk
theorem ts_ishl (hexec : p.tables.exec = Jvm.exec) (hb : c.code = cc) {x y v : Int32} (hdg : decode cc pc = .ok (.ishl, 1)) (hv : x <<< (y &&& 31) = v)
    (kk : W p l e R s m args below meth c H locs cells slots Q (F0 m (pc + 1) ls (.int v :: rest))) : W p l e R s m args below meth c H locs cells slots Q (F0 m pc ls (.int y :: .int x :: rest)) := by
  subst hv
  exact lv_ishl hexec hb hdg kk
theorem ts_ishr (hexec : p.tables.exec = Jvm.exec) (hb : c.code = cc) {x y v : Int32} (hdg : decode cc pc = .ok (.ishr, 1)) (hv : x >>> (y &&& 31) = v)
    (kk : W p l e R s m args below meth c H locs cells slots Q (F0 m (pc + 1) ls (.int v :: rest))) : W p l e R s m args below meth c H locs cells slots Q (F0 m pc ls (.int y :: .int x :: rest)) := by
  subst hv
  exact lv_ishr hexec hb hdg kk
theorem ts_int {x y : Int32} (hv : x = y) (kk : W p l e R s m args below meth c H locs cells slots Q (F0 m pc ls (.int y :: rest))) : W p l e R s m args below meth c H locs cells slots Q (F0 m pc ls (.int x :: rest)) := by
  subst hv
  exact kk
theorem ts_ref {x y : Nat} (hv : x = y) (kk : W p l e R s m args below meth c H locs cells slots Q (F0 m pc ls (.ref y :: rest))) : W p l e R s m args below meth c H locs cells slots Q (F0 m pc ls (.ref x :: rest)) := by
  subst hv
  exact kk
end TSR
/-! Private methods of nest mates: the words about them, all of this system -/
def ts_nq : List (String × Nat × MethodName × String) := [("TypecheckStation$Program", 20, ⟨"TypecheckStation$Findings", "<init>", "()V"⟩, "TypecheckStation"), ("TypecheckStation$Trial", 15, ⟨"TypecheckStation", "newCallTable", "()[[I"⟩, "TypecheckStation"), ("TypecheckStation$Books", 9, ⟨"TypecheckStation", "newCallTable", "()[[I"⟩, "TypecheckStation"), ("TypecheckStation$Program", 29, ⟨"TypecheckStation", "isCall", "(I)Z"⟩, "TypecheckStation"), ("TypecheckStation$Program", 36, ⟨"TypecheckStation", "plainNeed", "(I)I"⟩, "TypecheckStation"), ("TypecheckStation$Program", 43, ⟨"TypecheckStation", "plainGift", "(I)I"⟩, "TypecheckStation"), ("TypecheckStation$Program", 72, ⟨"TypecheckStation", "with", "(II)I"⟩, "TypecheckStation"), ("TypecheckStation$Program", 106, ⟨"TypecheckStation", "has", "(II)Z"⟩, "TypecheckStation"), ("TypecheckStation$Trial", 75, ⟨"TypecheckStation", "rowOf", "(I)I"⟩, "TypecheckStation"), ("TypecheckStation$Trial", 119, ⟨"TypecheckStation", "isCall", "(I)Z"⟩, "TypecheckStation"), ("TypecheckStation$Trial", 123, ⟨"TypecheckStation", "plainNeed", "(I)I"⟩, "TypecheckStation"), ("TypecheckStation$Trial", 126, ⟨"TypecheckStation", "has", "(II)Z"⟩, "TypecheckStation"), ("TypecheckStation$Trial", 133, ⟨"TypecheckStation", "plainGift", "(I)I"⟩, "TypecheckStation"), ("TypecheckStationLaw", 14, ⟨"TypecheckStationLaw$Own", "<init>", "()V"⟩, "TypecheckStationLaw"), ("TypecheckStationLaw$Own", 110, ⟨"TypecheckStationLaw", "cell", "([II)I"⟩, "TypecheckStationLaw"), ("TypecheckStationLaw$Own", 116, ⟨"TypecheckStationLaw", "below", "(II)I"⟩, "TypecheckStationLaw"), ("TypecheckStationLaw", 53, ⟨"TypecheckStationLaw$Own", "step", "(III)I"⟩, "TypecheckStationLaw")]
def ts_N (U : State) : Prop := ∀ q ∈ ts_nq, va_Nw (.methodLinkNest q.1 q.2.1 q.2.2.1 q.2.2.2) U
theorem ts_N.warm {s U : State} (hW : s.WarmedH U.vm) (h : ts_N s) : ts_N U := fun q hq => va_Nw.warmM hW (h q hq)
theorem ts_N.same {s U : State} (e : s.vm = U.vm) (h : ts_N s) : ts_N U := fun q hq => va_Nw.same rfl e (h q hq)
/-! A method's entry -/
def ts_Cx (p : Program) (s : State) (m : MethodId) (args : Array Value) (meth : Method) (c : Code) (cc : ByteArray) (maxL : Nat) (ret : Option FieldType) (y : MethodName) (ws : List Cond) : Prop :=
  p.tables.exec = Jvm.exec ∧ c.code = cc ∧ c.maxLocals = maxL ∧ s.vm.findClass y.cls = some m.cls ∧ (∀ w ∈ ws, w.before args s = true) ∧ meth.sig.returnType = ret ∧ meth.locks = false ∧ meth.name = y.name
theorem ts_met {l : Launch} {y : MethodName} {ws ws' : List Cond} {rm : Room} {cc : ByteArray} {maxL : Nat} {ret : Option FieldType} {av : List Value} {X : State → Prop} {Qc : Array Value → State → Outcome → State → Prop} {mc ms : Nat} {free : Addr → Prop}
    (hy : plainName y.cls = true) (hw : ws = Cond.code y cc maxL ret :: ws') (hlen : (lg_sl av).length ≤ maxL)
    (body : ∀ (p : Program) (e : Env) (s : State) (m : MethodId) (below : List Frame) (meth : Method) (c : Code), ts_Cx p s m av.toArray meth c cc maxL ret y ws → X s → ∀ ls : Array Slot, lv_has ls maxL (lv_args 0 av) →
      W p l e rm s m av.toArray below meth c s.heap [] 0 0 (MQ below Qc av.toArray s mc ms free) (F0 m 0 ls [])) :
    Met l y ws rm (va_Pc av X) Qc mc ms free := by
  refine Met.ofW (cc := cc) (maxL := maxL) (ret := ret) hy hw ?_
  intro p e s m args below meth c s₁ B hml hv
  obtain ⟨rfl, hX⟩ := hv
  have hl := lv_entry av (n := maxL) hlen
  rw [lg_entry_eq]
  exact body p e s m below meth c ⟨B.exec, B.bytes, hml, findClass_of_methodNamed B.named, atoms_spec (ws := ws) B.pre, B.returns, B.notSynchronized, (name_of_methodNamed B.named B.method).1⟩ hX _ hl
end
section
/-! What the station's 52 cells hold, in numbers: P: 0 budget, 1 size, 2 typed, 3 checks, 20+i a function's size, 30+i its in, 40+i its out; steps. F: faults, first fault, loose. T: the trial. B: the books. -/
abbrev PT : Type := (Nat → Nat) × (Nat → Nat → Nat)
abbrev FT : Type := Nat × Int32 × Nat
abbrev TT : Type := (Nat → Nat) × (Nat → Int32) × (Nat → Nat → Nat)
abbrev BT : Type := (Nat → Nat) × (Nat → Int32) × (Nat → Nat → Nat)
abbrev ST : Type := PT × FT × TT × BT
abbrev CQ : Type := ClassId × ClassId × ClassId
def tq (q : CQ) : List (ClassId × FieldType) := [(q.1, .int), (q.2.1, .object "TypecheckStation$Function"), (q.2.2, .array .int)]
/-- who calls, who is blamed: 0 is outside or nobody, k + 1 the function k -/
def zI : Nat → Int32
  | 0 => -1
  | k + 1 => nI k
def fnat (g : Nat → Nat) : Nat → Int32 := fun j => nI (g j)
def cel (q : CQ) (b : Nat) (u : ST) (k : Nat) : va_E :=
  if k = 0 then .inr (5, [.ref (b + 1), .ref (b + 24), .ref (b + 37), .int (nI (u.1.1 0))])
  else if k = 1 then .inr (3, [.ref (b + 2), .ref (b + 23), .int (nI (u.1.1 1)), .int (nI (u.1.1 2)), .int (nI (u.1.1 3))])
  else if k = 2 then .inl (q.2.1, 10, .inr (.inr (.inr (.inr (fun i => some (b + (3 + 2 * i)))))))
  else if k < 23 then (if k % 2 = 1 then .inr (2, [.ref (b + (k + 1)), .int (nI (u.1.1 (20 + (k - 3) / 2))), .int (nI (u.1.1 (30 + (k - 3) / 2))), .int (nI (u.1.1 (40 + (k - 3) / 2)))]) else .inl (q.1, 6, .inl (fnat (u.1.2 ((k - 4) / 2)))))
  else if k = 23 then .inr (1, [.int (nI u.2.1.1), .int u.2.1.2.1, .int (nI u.2.1.2.2)])
  else if k = 24 then .inr (4, [.ref (b + 1), .ref (b + 25), .int (nI (u.2.2.1.1 0)), .int (nI (u.2.2.1.1 1)), .int (u.2.2.1.2.1 0), .int (nI (u.2.2.1.1 2)), .int (nI (u.2.2.1.1 3)), .int (nI (u.2.2.1.1 4)), .int (nI (u.2.2.1.1 5)), .int (nI (u.2.2.1.1 6)), .int (zI (u.2.2.1.1 8)), .int (nI (u.2.2.1.1 7)), .int (zI (u.2.2.1.1 9))])
  else if k = 25 then .inl (q.2.2, 11, .inr (.inr (.inr (.inr (fun i => some (b + (26 + i)))))))
  else if k < 37 then .inl (q.1, 10, .inl (fnat (u.2.2.1.2.2 (k - 26))))
  else if k = 37 then .inr (0, [.ref (b + 38), .ref (b + 50), .ref (b + 51), .int (nI (u.2.2.2.1 0)), .int (nI (u.2.2.2.1 1)), .int (nI (u.2.2.2.1 2))])
  else if k = 38 then .inl (q.2.2, 11, .inr (.inr (.inr (.inr (fun i => some (b + (39 + i)))))))
  else if k < 50 then .inl (q.1, 10, .inl (fnat (u.2.2.2.2.2 (k - 39))))
  else if k = 50 then .inl (q.1, 10, .inl (fnat (u.2.2.2.2.2 11)))
  else .inl (q.1, 8, .inl u.2.2.2.2.1)
section CEL
variable {q : CQ} {b : Nat} {u u' : ST}
theorem cel_st : cel q b u 0 = .inr (5, [.ref (b + 1), .ref (b + 24), .ref (b + 37), .int (nI (u.1.1 0))]) := rfl
theorem cel_pr : cel q b u 1 = .inr (3, [.ref (b + 2), .ref (b + 23), .int (nI (u.1.1 1)), .int (nI (u.1.1 2)), .int (nI (u.1.1 3))]) := rfl
theorem cel_fs : cel q b u 2 = .inl (q.2.1, 10, .inr (.inr (.inr (.inr (fun i => some (b + (3 + 2 * i))))))) := rfl
theorem cel_fn {i : Nat} (h : i < 10) : cel q b u (3 + 2 * i) = .inr (2, [.ref (b + (4 + 2 * i)), .int (nI (u.1.1 (20 + i))), .int (nI (u.1.1 (30 + i))), .int (nI (u.1.1 (40 + i)))]) := by
  have e1 : (3 + 2 * i - 3) / 2 = i := by omega
  have e2 : 3 + 2 * i + 1 = 4 + 2 * i := by omega
  unfold cel
  rw [if_neg (by omega), if_neg (by omega), if_neg (by omega), if_pos (by omega), if_pos (by omega), e1, e2]
theorem cel_sp {i : Nat} (h : i < 10) : cel q b u (4 + 2 * i) = .inl (q.1, 6, .inl (fnat (u.1.2 i))) := by
  have e1 : (4 + 2 * i - 4) / 2 = i := by omega
  unfold cel
  rw [if_neg (by omega), if_neg (by omega), if_neg (by omega), if_pos (by omega), if_neg (by omega), e1]
theorem cel_fi : cel q b u 23 = .inr (1, [.int (nI u.2.1.1), .int u.2.1.2.1, .int (nI u.2.1.2.2)]) := rfl
theorem cel_tr : cel q b u 24 = .inr (4, [.ref (b + 1), .ref (b + 25), .int (nI (u.2.2.1.1 0)), .int (nI (u.2.2.1.1 1)), .int (u.2.2.1.2.1 0), .int (nI (u.2.2.1.1 2)), .int (nI (u.2.2.1.1 3)), .int (nI (u.2.2.1.1 4)), .int (nI (u.2.2.1.1 5)), .int (nI (u.2.2.1.1 6)), .int (zI (u.2.2.1.1 8)), .int (nI (u.2.2.1.1 7)), .int (zI (u.2.2.1.1 9))]) := rfl
theorem cel_tc : cel q b u 25 = .inl (q.2.2, 11, .inr (.inr (.inr (.inr (fun i => some (b + (26 + i))))))) := rfl
theorem cel_tw {i : Nat} (h : i < 11) : cel q b u (26 + i) = .inl (q.1, 10, .inl (fnat (u.2.2.1.2.2 i))) := by
  have e1 : 26 + i - 26 = i := by omega
  unfold cel
  rw [if_neg (by omega), if_neg (by omega), if_neg (by omega), if_neg (by omega), if_neg (by omega), if_neg (by omega), if_neg (by omega), if_pos (by omega), e1]
theorem cel_bk : cel q b u 37 = .inr (0, [.ref (b + 38), .ref (b + 50), .ref (b + 51), .int (nI (u.2.2.2.1 0)), .int (nI (u.2.2.2.1 1)), .int (nI (u.2.2.2.1 2))]) := rfl
theorem cel_bc : cel q b u 38 = .inl (q.2.2, 11, .inr (.inr (.inr (.inr (fun i => some (b + (39 + i))))))) := rfl
theorem cel_bw {i : Nat} (h : i < 11) : cel q b u (39 + i) = .inl (q.1, 10, .inl (fnat (u.2.2.2.2.2 i))) := by
  have e1 : 39 + i - 39 = i := by omega
  unfold cel
  rw [if_neg (by omega), if_neg (by omega), if_neg (by omega), if_neg (by omega), if_neg (by omega), if_neg (by omega), if_neg (by omega), if_neg (by omega), if_neg (by omega), if_neg (by omega), if_pos (by omega), e1]
theorem cel_bb : cel q b u 50 = .inl (q.1, 10, .inl (fnat (u.2.2.2.2.2 11))) := rfl
theorem cel_bl : cel q b u 51 = .inl (q.1, 8, .inl u.2.2.2.2.1) := rfl
/-- what a change of one part leaves -/
theorem cel_oP (hs : u'.1.2 = u.1.2) (hf : ∀ i, 20 ≤ i → u'.1.1 i = u.1.1 i) (h0 : u'.1.1 0 = u.1.1 0) (h2 : u'.2 = u.2) : ∀ k, k < 52 → k ≠ 1 → cel q b u' k = cel q b u k := by
  intro k hk hn
  unfold cel
  rw [hs, h0, h2, hf (20 + (k - 3) / 2) (by omega), hf (30 + (k - 3) / 2) (by omega), hf (40 + (k - 3) / 2) (by omega)]
  simp only [if_neg hn]
theorem cel_oS (hs : u'.1.2 = u.1.2) (hf : ∀ i, 1 ≤ i → u'.1.1 i = u.1.1 i) (h2 : u'.2 = u.2) : ∀ k, k < 52 → k ≠ 0 → cel q b u' k = cel q b u k := by
  intro k hk hn
  unfold cel
  rw [hs, h2, hf 1 (by omega), hf 2 (by omega), hf 3 (by omega), hf (20 + (k - 3) / 2) (by omega), hf (30 + (k - 3) / 2) (by omega), hf (40 + (k - 3) / 2) (by omega)]
  simp only [if_neg hn]
theorem cel_oFn {i : Nat} (hi : i < 10) (hs : u'.1.2 = u.1.2) (hf : ∀ j, j ≠ 20 + i → j ≠ 30 + i → j ≠ 40 + i → u'.1.1 j = u.1.1 j) (h2 : u'.2 = u.2) : ∀ k, k < 52 → k ≠ 3 + 2 * i → cel q b u' k = cel q b u k := by
  intro k hk hn
  unfold cel
  rw [hs, h2, hf 0 (by omega) (by omega) (by omega), hf 1 (by omega) (by omega) (by omega), hf 2 (by omega) (by omega) (by omega), hf 3 (by omega) (by omega) (by omega)]
  by_cases c0 : k = 0
  · rw [if_pos c0, if_pos c0]
  rw [if_neg c0, if_neg c0]
  by_cases c1 : k = 1
  · rw [if_pos c1, if_pos c1]
  rw [if_neg c1, if_neg c1]
  by_cases c2 : k = 2
  · rw [if_pos c2, if_pos c2]
  rw [if_neg c2, if_neg c2]
  by_cases c3 : k < 23
  · rw [if_pos c3, if_pos c3]
    by_cases c4 : k % 2 = 1
    · rw [if_pos c4, if_pos c4, hf (20 + (k - 3) / 2) (by omega) (by omega) (by omega), hf (30 + (k - 3) / 2) (by omega) (by omega) (by omega), hf (40 + (k - 3) / 2) (by omega) (by omega) (by omega)]
    · rw [if_neg c4, if_neg c4]
  · rw [if_neg c3, if_neg c3]
theorem cel_oSp {i : Nat} (hi : i < 10) (hf : u'.1.1 = u.1.1) (hs : ∀ j, j ≠ i → u'.1.2 j = u.1.2 j) (h2 : u'.2 = u.2) : ∀ k, k < 52 → k ≠ 4 + 2 * i → cel q b u' k = cel q b u k := by
  intro k hk hn
  unfold cel
  rw [hf, h2]
  by_cases c0 : k = 0
  · rw [if_pos c0, if_pos c0]
  rw [if_neg c0, if_neg c0]
  by_cases c1 : k = 1
  · rw [if_pos c1, if_pos c1]
  rw [if_neg c1, if_neg c1]
  by_cases c2 : k = 2
  · rw [if_pos c2, if_pos c2]
  rw [if_neg c2, if_neg c2]
  by_cases c3 : k < 23
  · rw [if_pos c3, if_pos c3]
    by_cases c4 : k % 2 = 1
    · rw [if_pos c4, if_pos c4]
    · rw [if_neg c4, if_neg c4, hs ((k - 4) / 2) (by omega)]
  · rw [if_neg c3, if_neg c3]
theorem cel_oF (hP : u'.1 = u.1) (h2 : u'.2.2 = u.2.2) : ∀ k, k < 52 → k ≠ 23 → cel q b u' k = cel q b u k := by
  intro k hk hn
  unfold cel
  rw [hP, h2]
  simp only [if_neg hn]
theorem cel_oT (hP : u'.1 = u.1) (hF : u'.2.1 = u.2.1) (hc : u'.2.2.1.2.2 = u.2.2.1.2.2) (hB : u'.2.2.2 = u.2.2.2) : ∀ k, k < 52 → k ≠ 24 → cel q b u' k = cel q b u k := by
  intro k hk hn
  unfold cel
  rw [hP, hF, hc, hB]
  simp only [if_neg hn]
theorem cel_oTw {i : Nat} (hi : i < 11) (hP : u'.1 = u.1) (hF : u'.2.1 = u.2.1) (h1 : u'.2.2.1.1 = u.2.2.1.1) (h2 : u'.2.2.1.2.1 = u.2.2.1.2.1) (hc : ∀ j, j ≠ i → u'.2.2.1.2.2 j = u.2.2.1.2.2 j) (hB : u'.2.2.2 = u.2.2.2) : ∀ k, k < 52 → k ≠ 26 + i → cel q b u' k = cel q b u k := by
  intro k hk hn
  unfold cel
  rw [hP, hF, h1, h2, hB]
  by_cases c : k < 37
  · by_cases d : 26 ≤ k
    · rw [hc (k - 26) (by omega)]
    · rw [if_pos c]
      have : k = 0 ∨ k = 1 ∨ k = 2 ∨ k < 23 ∨ k = 23 ∨ k = 24 ∨ k = 25 := by omega
      rcases this with e | e | e | e | e | e | e <;> simp [e]
  · simp [c]
theorem cel_oB (hP : u'.1 = u.1) (hF : u'.2.1 = u.2.1) (hT : u'.2.2.1 = u.2.2.1) (hc : u'.2.2.2.2 = u.2.2.2.2) : ∀ k, k < 52 → k ≠ 37 → cel q b u' k = cel q b u k := by
  intro k hk hn
  unfold cel
  rw [hP, hF, hT, hc]
  simp only [if_neg hn]
theorem cel_oBl (hP : u'.1 = u.1) (hF : u'.2.1 = u.2.1) (hT : u'.2.2.1 = u.2.2.1) (h1 : u'.2.2.2.1 = u.2.2.2.1) (hc : u'.2.2.2.2.2 = u.2.2.2.2.2) : ∀ k, k < 52 → k ≠ 51 → cel q b u' k = cel q b u k := by
  intro k hk hn
  have : k < 50 ∨ k = 50 := by omega
  unfold cel
  rw [hP, hF, hT, h1, hc]
  rcases this with e | e
  · have h38 : (k < 50) = True := by simp [e]
    simp only [h38, if_true]
  · simp [e]
theorem cel_oBw {i r : Nat} (hi : i < 12) (hr : r = if i = 11 then 50 else 39 + i) (hP : u'.1 = u.1) (hF : u'.2.1 = u.2.1) (hT : u'.2.2.1 = u.2.2.1) (h1 : u'.2.2.2.1 = u.2.2.2.1) (h2 : u'.2.2.2.2.1 = u.2.2.2.2.1) (hc : ∀ j, j ≠ i → u'.2.2.2.2.2 j = u.2.2.2.2.2 j) : ∀ k, k < 52 → k ≠ r → cel q b u' k = cel q b u k := by
  intro k hk hn
  unfold cel
  rw [hP, hF, hT, h1, h2]
  by_cases c : k = 50
  · have hi11 : i ≠ 11 := fun e => hn (by rw [hr, if_pos e, c])
    rw [hc 11 (Ne.symm hi11)]
    simp [c]
  · by_cases d : k < 50
    · by_cases d2 : 39 ≤ k
      · rw [hc (k - 39) (fun e => by
          have h11 : i ≠ 11 := by omega
          rw [if_neg h11] at hr
          omega)]
        simp [c]
      · have : k = 0 ∨ k = 1 ∨ k = 2 ∨ k < 23 ∨ k = 23 ∨ k = 24 ∨ k = 25 ∨ k < 37 ∨ k = 37 ∨ k = 38 := by omega
        rcases this with e | e | e | e | e | e | e | e | e | e <;> simp [e]
    · simp [c, d]
end CEL
/-! Contracts of the station's methods -/
def Ws (D : va_G) (q : CQ) (b : Nat) (u : ST) (U : State) : Prop := ts_W D b 52 (cel q b u) U.heap
def Pr (D : va_G) (q : CQ) (b sz : Nat) (u : ST) : State → Prop := fun U => U.heap.size = sz ∧ Ws D q b u U ∧ va_K D vwCl (tq q) U ∧ ts_N U
abbrev cI (D : va_G) (q : CQ) (b sz : Nat) (post : Int32 → ST → Prop) := va_Qi post (Ws D q b) (ts_A b 52 sz)
abbrev cL (D : va_G) (q : CQ) (b sz : Nat) (post : Int64 → ST → Prop) := va_Ql post (Ws D q b) (ts_A b 52 sz)
abbrev cV (D : va_G) (q : CQ) (b sz : Nat) (post : ST → Prop) := va_Qv post (Ws D q b) (ts_A b 52 sz)
abbrev cR (D : va_G) (q : CQ) (b sz k : Nat) (post : ST → Prop) := va_Qr post (fun u a t => a = b + k ∧ Ws D q b u t) (ts_A b 52 sz)
theorem Pr.blind {D : va_G} {q : CQ} {b sz : Nat} {u : ST} {av : List Value} : FrameBlind (va_Pc av (Pr D q b sz u)) := fun a U g mk h => ⟨h.1, h.2.1, h.2.2.1, va_K.moved (u := U) (U := U.calling g mk a) (Vm.Alike.refl U.vm) h.2.2.2.1, ts_N.same (s := U) (U := U.calling g mk a) rfl h.2.2.2.2⟩
section CALLS
variable {p : Program} {l : Launch} {e : Env} {R : Room} {s : State} {m : MethodId} {args : Array Value} {below : List Frame} {meth : Method} {c : Code} {H : Heap} {locs : List Loc} {cells slots : Nat} {Q : State → Prop}
variable {cc : ByteArray} {pc : Nat} {ls : Array Slot} {rest st : List Value} {D : va_G} {q : CQ} {A : Nat → Prop} {b : Nat} {u : ST} {H0 : Heap} {nL n index maxL : Nat} {Ts ws : List Cond} {own C : String} {y : MethodName} {bytes : ByteArray} {ret : Option FieldType} {rm : Room} {As : List Value}
theorem ts_preV (hK : va_K D vwCl (tq q) s) (hN : ts_N s) (hW : ts_W D b 52 (cel q b u) H) (k : Nat) (hk : k < 52) {ci : Nat} {fs : List Value} {T : u_T} {N : Nat} (he : cel q b u k = .inr (ci, fs)) (hc : vwCl[ci]? = some (C, T, N)) : PreV s H C (b + k) (va_Pc (.ref (b + k) :: As) (Pr D q b H.size u)) As :=
  ⟨Pr.blind, va_recv hK (ts_one hW hk he) hc (q0 := 0) rfl, fun U hU hW' => ⟨rfl, by rw [hU], by show ts_W D b 52 (cel q b u) U.heap; rw [hU]; exact hW, va_K.moved hW'.alike hK, hN.warm hW'⟩⟩
theorem ts_preS (hK : va_K D vwCl (tq q) s) (hN : ts_N s) (hW : ts_W D b 52 (cel q b u) H) : PreS s H (va_Pc As (Pr D q b H.size u)) As :=
  ⟨Pr.blind, fun U hU hW' => ⟨rfl, by rw [hU], by show ts_W D b 52 (cel q b u) U.heap; rw [hU]; exact hW, va_K.moved hW'.alike hK, hN.warm hW'⟩⟩
/-- behind a call that answers an int -/
theorem ts_retI {post : Int32 → ST → Prop} {a : Array Value} (hr : va_Run p l e R s m args below meth c H locs cells slots 0 0 (F0 m pc ls st) rest (cI D q b H.size post a) (ts_A b 52 H.size)) (hS : va_S A H0 H locs) (hA : ∀ x, ts_A b 52 H.size x → A x)
    (kk : ∀ (r : Int32) (u' : ST) (H1 : Heap) (locs1 : List Loc), post r u' → ts_W D b 52 (cel q b u') H1 → H.size ≤ H1.size → (∀ x : Nat, x < H.size → ¬ ts_A b 52 H.size x → H1[x]? = H[x]?) → va_S A H0 H1 locs1 → W p l e R s m args below meth c H1 locs1 cells slots Q (F0 m (pc + 3) ls (.int r :: rest))) : W p l e R s m args below meth c H locs cells slots Q (F0 m pc ls st) :=
  va_calli hr hS (fun x _ h => hA x h) hA (fun r u' t H1 locs1 ht _ hp hB hz hk hS1 => kk r u' H1 locs1 hp (by rw [← ht]; exact hB) hz hk hS1)
theorem ts_retL {post : Int64 → ST → Prop} {a : Array Value} (hr : va_Run p l e R s m args below meth c H locs cells slots 0 0 (F0 m pc ls st) rest (cL D q b H.size post a) (ts_A b 52 H.size)) (hS : va_S A H0 H locs) (hA : ∀ x, ts_A b 52 H.size x → A x)
    (kk : ∀ (r : Int64) (u' : ST) (H1 : Heap) (locs1 : List Loc), post r u' → ts_W D b 52 (cel q b u') H1 → H.size ≤ H1.size → (∀ x : Nat, x < H.size → ¬ ts_A b 52 H.size x → H1[x]? = H[x]?) → va_S A H0 H1 locs1 → W p l e R s m args below meth c H1 locs1 cells slots Q (F0 m (pc + 3) ls (.long r :: rest))) : W p l e R s m args below meth c H locs cells slots Q (F0 m pc ls st) :=
  va_calll hr hS (fun x _ h => hA x h) hA (fun r u' t H1 locs1 ht _ hp hB hz hk hS1 => kk r u' H1 locs1 hp (by rw [← ht]; exact hB) hz hk hS1)
theorem ts_retV {post : ST → Prop} {a : Array Value} (hr : va_Run p l e R s m args below meth c H locs cells slots 0 0 (F0 m pc ls st) rest (cV D q b H.size post a) (ts_A b 52 H.size)) (hS : va_S A H0 H locs) (hA : ∀ x, ts_A b 52 H.size x → A x)
    (kk : ∀ (u' : ST) (H1 : Heap) (locs1 : List Loc), post u' → ts_W D b 52 (cel q b u') H1 → H.size ≤ H1.size → (∀ x : Nat, x < H.size → ¬ ts_A b 52 H.size x → H1[x]? = H[x]?) → va_S A H0 H1 locs1 → W p l e R s m args below meth c H1 locs1 cells slots Q (F0 m (pc + 3) ls rest)) : W p l e R s m args below meth c H locs cells slots Q (F0 m pc ls st) :=
  va_callv hr hS (fun x _ h => hA x h) hA (fun u' t H1 locs1 ht _ hp hB hz hk hS1 => kk u' H1 locs1 hp (by rw [← ht]; exact hB) hz hk hS1)
theorem ts_retR {k : Nat} {post : ST → Prop} {a : Array Value} (hr : va_Run p l e R s m args below meth c H locs cells slots 0 0 (F0 m pc ls st) rest (cR D q b H.size k post a) (ts_A b 52 H.size)) (hS : va_S A H0 H locs) (hA : ∀ x, ts_A b 52 H.size x → A x)
    (kk : ∀ (u' : ST) (H1 : Heap) (locs1 : List Loc), post u' → ts_W D b 52 (cel q b u') H1 → H.size ≤ H1.size → (∀ x : Nat, x < H.size → ¬ ts_A b 52 H.size x → H1[x]? = H[x]?) → va_S A H0 H1 locs1 → W p l e R s m args below meth c H1 locs1 cells slots Q (F0 m (pc + 3) ls (.ref (b + k) :: rest))) : W p l e R s m args below meth c H locs cells slots Q (F0 m pc ls st) :=
  va_callr hr hS (fun x _ h => hA x h) hA (fun u' ra t H1 locs1 ht _ hp hB hz hk hS1 => by
    obtain ⟨rfl, hB⟩ := hB
    exact kk u' H1 locs1 hp (by rw [← ht]; exact hB) hz hk hS1)
/-- the ends of a method -/
theorem ts_iret {post : Int32 → ST → Prop} {y : MethodName} {ws : List Cond} {maxL : Nat} {v : Int32} (C0 : ts_Cx p s m args meth c cc maxL (some .int) y ws) (hW : ts_W D b 52 (cel q b u) H) (hS : va_S (ts_A b 52 s.heap.size) s.heap H locs) (hp : post v u) (hdg : decode cc pc = .ok (.ireturn, 1)) :
    W p l e R s m args below meth c H locs 0 0 (MQ below (cI D q b s.heap.size post) args s 0 0 (ts_A b 52 s.heap.size)) (F0 m pc ls [.int v]) :=
  W.iret C0.1 C0.2.1 C0.2.2.2.2.2.1 (fun t ht _ => ⟨⟨v, u, rfl, hp, by show ts_W D b 52 (cel q b u) t.heap; rw [ht]; exact hW⟩, hS.F ht⟩) hS.2.2 hdg C0.2.2.2.2.2.2.1
theorem ts_zret {post : Int32 → ST → Prop} {y : MethodName} {ws : List Cond} {maxL : Nat} {v : Int32} {ty : FieldType} (C0 : ts_Cx p s m args meth c cc maxL (some ty) y ws) (hn : narrow ty (.int v) = .int v) (hW : ts_W D b 52 (cel q b u) H) (hS : va_S (ts_A b 52 s.heap.size) s.heap H locs) (hp : post v u) (hdg : decode cc pc = .ok (.ireturn, 1)) :
    W p l e R s m args below meth c H locs 0 0 (MQ below (cI D q b s.heap.size post) args s 0 0 (ts_A b 52 s.heap.size)) (F0 m pc ls [.int v]) :=
  W.zret C0.1 C0.2.1 C0.2.2.2.2.2.1 hn (fun t ht _ => ⟨⟨v, u, rfl, hp, by show ts_W D b 52 (cel q b u) t.heap; rw [ht]; exact hW⟩, hS.F ht⟩) hS.2.2 hdg C0.2.2.2.2.2.2.1
theorem ts_lret {post : Int64 → ST → Prop} {y : MethodName} {ws : List Cond} {maxL : Nat} {v : Int64} (C0 : ts_Cx p s m args meth c cc maxL (some .long) y ws) (hW : ts_W D b 52 (cel q b u) H) (hS : va_S (ts_A b 52 s.heap.size) s.heap H locs) (hp : post v u) (hdg : decode cc pc = .ok (.lreturn, 1)) :
    W p l e R s m args below meth c H locs 0 0 (MQ below (cL D q b s.heap.size post) args s 0 0 (ts_A b 52 s.heap.size)) (F0 m pc ls [.long v]) :=
  W.lret C0.1 C0.2.1 C0.2.2.2.2.2.1 (fun t ht _ => ⟨⟨v, u, rfl, hp, by show ts_W D b 52 (cel q b u) t.heap; rw [ht]; exact hW⟩, hS.F ht⟩) hS.2.2 hdg C0.2.2.2.2.2.2.1
theorem ts_vret {post : ST → Prop} {y : MethodName} {ws : List Cond} {maxL : Nat} (C0 : ts_Cx p s m args meth c cc maxL none y ws) (hW : ts_W D b 52 (cel q b u) H) (hS : va_S (ts_A b 52 s.heap.size) s.heap H locs) (hp : post u) (hdg : decode cc pc = .ok (.return_, 1)) :
    W p l e R s m args below meth c H locs 0 0 (MQ below (cV D q b s.heap.size post) args s 0 0 (ts_A b 52 s.heap.size)) (F0 m pc ls []) :=
  W.vret C0.1 C0.2.1 C0.2.2.2.2.2.1 (fun t ht _ => ⟨⟨u, rfl, hp, by show ts_W D b 52 (cel q b u) t.heap; rw [ht]; exact hW⟩, hS.F ht⟩) hS.2.2 hdg C0.2.2.2.2.2.2.1
theorem ts_aret {k : Nat} {post : ST → Prop} {y : MethodName} {ws : List Cond} {maxL : Nat} {rt : FieldType} (C0 : ts_Cx p s m args meth c cc maxL (some rt) y ws) (hrt : (∃ n, rt = .object n) ∨ ∃ t, rt = .array t) (hW : ts_W D b 52 (cel q b u) H) (hS : va_S (ts_A b 52 s.heap.size) s.heap H locs) (hp : post u) (hdg : decode cc pc = .ok (.areturn, 1)) :
    W p l e R s m args below meth c H locs 0 0 (MQ below (cR D q b s.heap.size k post) args s 0 0 (ts_A b 52 s.heap.size)) (F0 m pc ls [.ref (b + k)]) :=
  W.aret C0.1 C0.2.1 C0.2.2.2.2.2.1 hrt (Or.inr ⟨_, rfl⟩) (fun t ht _ => ⟨⟨u, b + k, rfl, hp, rfl, by show ts_W D b 52 (cel q b u) t.heap; rw [ht]; exact hW⟩, hS.F ht⟩) hS.2.2 hdg C0.2.2.2.2.2.2.1
end CALLS
end
section
/-! Numbers of the machine, and the station in numbers -/
theorem ts_lays {big ws : List Cond} (p : Nat) (h : (big.drop p).take ws.length = ws) : ∀ w ∈ ws, w ∈ big := fun w hw => List.mem_of_mem_drop (List.mem_of_mem_take (by rw [h]; exact hw))
def ts_u2 (a : Nat → Nat → Nat) (r j v : Nat) : Nat → Nat → Nat := fun r' => if r' = r then va_up (a r) j v else a r'
theorem ts_u2_ne (a : Nat → Nat → Nat) {r r' : Nat} (j v : Nat) (h : r' ≠ r) : ts_u2 a r j v r' = a r' := if_neg h
theorem ts_u2_self (a : Nat → Nat → Nat) (r j v : Nat) : ts_u2 a r j v r = va_up (a r) j v := if_pos rfl
theorem ts_u2_row (a : Nat → Nat → Nat) (r i v j : Nat) : fnat (ts_u2 a r i v r) j = if j = i then nI v else fnat (a r) j := by
  rw [ts_u2_self]
  by_cases h : j = i
  · subst h; simp [fnat, va_up]
  · simp [fnat, va_up, h]
def b2i (B : Bool) : Int32 := if B = true then 1 else 0
theorem b2i_eq (B : Bool) : (b2i B = 0) = (B = false) := by cases B <;> simp [b2i]
theorem b2i_nar (B : Bool) : narrow .boolean (.int (b2i B)) = .int (b2i B) := by cases B <;> rfl
theorem b2i_t : b2i true = nI 1 := rfl
theorem b2i_f : b2i false = nI 0 := rfl
theorem ts_eq0 {n : Nat} (h : n < 2 ^ 31) : nI n = 0 ↔ n = 0 := by rw [show (0 : Int32) = nI 0 from rfl, nI_eq h (by omega)]
theorem ts_lt0 {n : Nat} (h : n < 2 ^ 31) : nI n < 0 ↔ n < 0 := by rw [show (0 : Int32) = nI 0 from rfl, nI_ltI h (by omega)]
theorem ts_ge0 {n : Nat} (h : n < 2 ^ 31) : 0 ≤ nI n ↔ 0 ≤ n := by rw [show (0 : Int32) = nI 0 from rfl, nI_leI (by omega) h]
theorem ts_gt0 {n : Nat} (h : n < 2 ^ 31) : 0 < nI n ↔ 0 < n := by rw [show (0 : Int32) = nI 0 from rfl, nI_ltI (by omega) h]
theorem ts_le0 {n : Nat} (h : n < 2 ^ 31) : nI n ≤ 0 ↔ n ≤ 0 := by rw [show (0 : Int32) = nI 0 from rfl, nI_leI h (by omega)]
theorem ts_or (a b : Nat) : nI a ||| nI b = nI (a ||| b) := by
  apply Int32.toBitVec_inj.1
  show BitVec.ofNat 32 a ||| BitVec.ofNat 32 b = BitVec.ofNat 32 (a ||| b)
  apply BitVec.eq_of_getLsbD_eq
  intro i hi
  simp [hi]
def diffN (a b : Nat) : Nat := a ^^^ (a &&& b)
theorem ts_diff (a b : Nat) : nI a &&& (nI b ^^^ (-1)) = nI (diffN a b) := by
  apply Int32.toBitVec_inj.1
  show BitVec.ofNat 32 a &&& (BitVec.ofNat 32 b ^^^ BitVec.allOnes 32) = BitVec.ofNat 32 (a ^^^ (a &&& b))
  apply BitVec.eq_of_getLsbD_eq
  intro i hi
  simp only [BitVec.getLsbD_and, BitVec.getLsbD_xor, BitVec.getLsbD_ofNat, BitVec.getLsbD_allOnes, Nat.testBit_xor, Nat.testBit_and, hi, decide_true, Bool.true_and]
  cases a.testBit i <;> cases b.testBit i <;> rfl
theorem diffN_lt {a b n : Nat} (h : a < 2 ^ n) : diffN a b < 2 ^ n := Nat.xor_lt_two_pow h (Nat.lt_of_le_of_lt Nat.and_le_left h)
theorem ts_shl {i : Nat} (h : i < 31) : nI 1 <<< (nI i &&& 31) = nI (2 ^ i) := by
  have := pk_shlN (n := 1) (nI i &&& 31) i (by revert h; revert i; decide +kernel) (by
    have : 2 ^ i < 2 ^ 31 := Nat.pow_lt_pow_right (by decide) h
    omega)
  rw [this, Nat.one_mul]
theorem ts_bit {s i : Nat} (hs : s < 2 ^ 31) (hi : i < 31) : (nI s >>> (nI i &&& 31)) &&& nI 1 = nI (s / 2 ^ i % 2) := by
  rw [pk_shrN hs (nI i &&& 31) i (by revert hi; revert i; decide +kernel)]
  exact pk_andN (by have : s / 2 ^ i ≤ s := Nat.div_le_self _ _; omega) 1 (by decide)
/-- what a plain step needs and gives -/
def plainN (v : Nat) : Nat := if v = 20 then 1 else if v = 21 then 3 else if v = 23 then 2 else 0
def plainG (v : Nat) : Nat := if v = 21 then 1 else if v = 22 then 2 else if v = 23 then 2 else 0
theorem plainN_le (v : Nat) : plainN v ≤ 3 := by unfold plainN; (repeat' split) <;> omega
theorem plainG_le (v : Nat) : plainG v ≤ 2 := by unfold plainG; (repeat' split) <;> omega
/-- the station's program is well made -/
def WP (P : PT) : Prop := P.1 0 ≤ 20 ∧ P.1 1 ≤ 10 ∧ P.1 2 < 1024 ∧ ∀ i, i < 10 → P.1 (20 + i) ≤ 6 ∧ P.1 (30 + i) ≤ 3 ∧ P.1 (40 + i) ≤ 3 ∧ ∀ j, j < P.1 (20 + i) → (P.2 i j ≤ 9 ∨ (20 ≤ P.2 i j ∧ P.2 i j ≤ 24) ∨ (40 ≤ P.2 i j ∧ P.2 i j < 40 + P.1 1))
theorem WP.bu {P : PT} (h : WP P) : P.1 0 ≤ 20 := h.1
theorem WP.sz {P : PT} (h : WP P) : P.1 1 ≤ 10 := h.2.1
theorem WP.ty {P : PT} (h : WP P) : P.1 2 < 1024 := h.2.2.1
theorem WP.fsz {P : PT} (h : WP P) {i : Nat} (hi : i < 10) : P.1 (20 + i) ≤ 6 := (h.2.2.2 i hi).1
theorem WP.fin {P : PT} (h : WP P) {i : Nat} (hi : i < 10) : P.1 (30 + i) ≤ 3 := (h.2.2.2 i hi).2.1
theorem WP.fout {P : PT} (h : WP P) {i : Nat} (hi : i < 10) : P.1 (40 + i) ≤ 3 := (h.2.2.2 i hi).2.2.1
theorem WP.stp {P : PT} (h : WP P) {i j : Nat} (hi : i < 10) (hj : j < P.1 (20 + i)) : P.2 i j ≤ 9 ∨ (20 ≤ P.2 i j ∧ P.2 i j ≤ 24) ∨ (40 ≤ P.2 i j ∧ P.2 i j < 40 + P.1 1) := (h.2.2.2 i hi).2.2.2 j hj
def okS (P : PT) (v : Nat) : Prop := v ≤ 9 ∨ (20 ≤ v ∧ v ≤ 24) ∨ (40 ≤ v ∧ v < 40 + P.1 1)
def isCallB (v : Nat) : Bool := decide (40 ≤ v)
def needP (P : PT) (v : Nat) : Nat := if 40 ≤ v then P.1 (30 + (v - 40)) else plainN v
def giftP (P : PT) (v : Nat) : Nat := if 40 ≤ v then P.1 (40 + (v - 40)) else plainG v
theorem needP_le {P : PT} (h : WP P) {v : Nat} (hv : okS P v) : needP P v ≤ 3 := by
  have hs := h.sz
  unfold okS at hv
  unfold needP
  split
  · exact h.fin (by omega)
  · exact plainN_le v
theorem giftP_le {P : PT} (h : WP P) {v : Nat} (hv : okS P v) : giftP P v ≤ 3 := by
  have hs := h.sz
  unfold okS at hv
  unfold giftP
  split
  · exact h.fout (by omega)
  · have := plainG_le v
    omega
def guessI (P : PT) (f : Nat) : Nat := if P.1 (20 + f) = 0 then 3 else needP P (P.2 f 0)
def guessO (P : PT) (f : Nat) : Nat := if P.1 (20 + f) = 0 then 3 else giftP P (P.2 f (P.1 (20 + f) - 1))
/-- one more need that is looked at -/
def needF (F : FT) (needed there place : Nat) : FT := if needed = 3 ∨ needed = there then F else if there = 3 then (F.1, F.2.1, F.2.2 + 1) else (F.1 + 1, (if F.1 = 0 then nI place else F.2.1), F.2.2)
def thereP (P : PT) (f : Nat) : Nat → Nat
  | 0 => P.1 (30 + f)
  | k + 1 => giftP P (P.2 f k)
def chkN (P : PT) (f : Nat) : Nat → FT
  | 0 => (0, -1, 0)
  | k + 1 => needF (chkN P f k) (needP P (P.2 f k)) (thereP P f k) k
def chkA (P : PT) (f : Nat) : FT := needF (chkN P f (P.1 (20 + f))) (P.1 (40 + f)) (thereP P f (P.1 (20 + f))) (P.1 (20 + f))
theorem needF_le (F : FT) (a b c : Nat) : (needF F a b c).1 ≤ F.1 + 1 ∧ (needF F a b c).2.2 ≤ F.2.2 + 1 := by
  unfold needF
  split
  · exact ⟨Nat.le_succ _, Nat.le_succ _⟩
  · split
    · exact ⟨Nat.le_succ _, Nat.le_refl _⟩
    · exact ⟨Nat.le_refl _, Nat.le_succ _⟩
theorem chkN_le (P : PT) (f : Nat) : ∀ k, (chkN P f k).1 ≤ k ∧ (chkN P f k).2.2 ≤ k
  | 0 => ⟨Nat.le_refl _, Nat.le_refl _⟩
  | k + 1 => by
    have h := chkN_le P f k
    have g := needF_le (chkN P f k) (needP P (P.2 f k)) (thereP P f k) k
    show (needF _ _ _ _).1 ≤ _ ∧ (needF _ _ _ _).2.2 ≤ _
    omega
theorem chkA_le {P : PT} (h : WP P) {f : Nat} (hf : f < 10) : (chkA P f).1 ≤ 7 ∧ (chkA P f).2.2 ≤ 7 := by
  have h1 := chkN_le P f (P.1 (20 + f))
  have h2 := needF_le (chkN P f (P.1 (20 + f))) (P.1 (40 + f)) (thereP P f (P.1 (20 + f))) (P.1 (20 + f))
  have h3 := h.fsz hf
  unfold chkA
  omega
def noneF (F : FT) : Bool := decide (F.1 = 0) && decide (F.2.2 = 0)
def okF (P : PT) (f : Nat) : Bool := noneF (chkA P f)
/-- the set of functions that can be typed, of the first k; a set is a number, a bit each -/
def setB (s i : Nat) : Nat := s ||| 2 ^ i
def hasB (s i : Nat) : Bool := decide (s / 2 ^ i % 2 = 1)
def typN (P : PT) : Nat → Nat
  | 0 => 0
  | k + 1 => if okF P k = true then setB (typN P k) k else typN P k
def fltN (P : PT) : Nat → Nat
  | 0 => 0
  | k + 1 => fltN P k + (chkA P k).1
def mentB (P : PT) (f v : Nat) : Nat → Bool
  | 0 => false
  | k + 1 => mentB P f v k || decide (P.2 f k = v)
def calN (P : PT) (f : Nat) : Nat → Nat
  | 0 => 0
  | k + 1 => calN P f k + (if k ≠ f ∧ mentB P k (40 + f) (P.1 (20 + k)) = true then 1 else 0)
theorem ts_bf {B : Bool} (h : b2i B = 0) : B = false := by rw [b2i_eq] at h; exact h
theorem ts_bt {B : Bool} (h : ¬ b2i B = 0) : B = true := by rw [b2i_eq] at h; simpa using h
theorem ts_df {p : Prop} [Decidable p] (h : b2i (decide p) = 0) : ¬ p := by have := ts_bf h; simpa using this
theorem ts_dt {p : Prop} [Decidable p] (h : ¬ b2i (decide p) = 0) : p := by have := ts_bt h; simpa using this
theorem mentB_up {P : PT} {f v j : Nat} (h : mentB P f v j = true) : ∀ n, j ≤ n → mentB P f v n = true
  | 0, hn => by rw [show j = 0 by omega] at h; exact h
  | n + 1, hn => by
    rcases Nat.lt_or_ge j (n + 1) with q | q
    · show (mentB P f v n || _) = true
      rw [mentB_up h n (by omega)]
      rfl
    · rw [show n + 1 = j by omega]
      exact h
theorem zI_succ (r : Nat) : zI r + 1 = zI (r + 1) := by
  cases r with
  | zero => rfl
  | succ k => exact nI_1 k
theorem zI_row (r : Nat) : zI r + nI 1 = nI r := by
  cases r with
  | zero => rfl
  | succ k => exact nI_1 k
theorem zI_lt {r n : Nat} (hr : r < 2 ^ 31) (hn : n < 2 ^ 31) : zI r < nI n ↔ r ≤ n := by
  cases r with
  | zero =>
    refine ⟨fun _ => Nat.zero_le _, fun _ => ?_⟩
    have h1 : (nI n).toInt = n := nI_toInt hn
    show (-1 : Int32) < nI n
    rw [Int32.lt_iff_toInt_lt, h1]
    show (-1 : Int) < n
    omega
  | succ k => exact (nI_ltI (by omega) hn).trans ⟨fun h => h, fun h => h⟩
theorem zI_le {r n : Nat} (hr : r < 2 ^ 31) (hn : n < 2 ^ 31) : nI n ≤ zI r ↔ n < r := by
  cases r with
  | zero =>
    refine ⟨fun h => ?_, fun h => absurd h (Nat.not_lt_zero _)⟩
    have h1 : (nI n).toInt = n := nI_toInt hn
    have h2 : nI n ≤ (-1 : Int32) := h
    rw [Int32.le_iff_toInt_le, h1] at h2
    have h3 : (n : Int) ≤ -1 := h2
    omega
  | succ k => exact (nI_leI hn (by omega)).trans ⟨fun h => Nat.lt_succ_of_le h, fun h => Nat.le_of_lt_succ h⟩
def hasR (s : Nat) : Nat → Bool
  | 0 => false
  | k + 1 => hasB s k
theorem ts_nem1 {n : Nat} (h : n < 2 ^ 31) : nI n ≠ -1 := fun e => by
  have h1 : (nI n).toInt = n := nI_toInt h
  rw [e] at h1
  have h2 : (-1 : Int) = n := h1
  omega
def cntB (s : Nat) : Nat → Nat
  | 0 => 0
  | k + 1 => cntB s k + (if hasB s k = true then 1 else 0)
def gcB (P : PT) (r j s : Nat) : Bool := hasB s j && (!hasR s r && decide (P.1 (30 + j) ≠ 3))
def ggB (P : PT) (r j s : Nat) : Bool := hasR s r && (!hasB s j && decide (P.1 (40 + j) ≠ 3))
/-- what leaves the typed ones when steps or hints have changed -/
def dropD (P : PT) : Nat := diffN (P.1 2) (typN P (P.1 1))
def dropP (P : PT) : PT := (va_up P.1 2 (diffN (P.1 2) (dropD P)), P.2)
def chkP (P : PT) (n : Nat) : PT := (va_up P.1 3 (P.1 3 + n), P.2)
def hintP (P : PT) (f a o : Nat) : PT := (va_up (va_up P.1 (30 + f) a) (40 + f) o, P.2)
def chgN (P : PT) (f a o : Nat) : Nat := (if P.1 (30 + f) = a then 0 else 1) + (if P.1 (40 + f) = o then 0 else 1)
def hintC (P : PT) (f a o : Nat) : PT := if chgN P f a o = 0 then hintP P f a o else chkP (hintP P f a o) (1 + calN (hintP P f a o) f ((hintP P f a o).1 1))
theorem WP.chk {P : PT} (h : WP P) (n : Nat) : WP (va_up P.1 3 n, P.2) := by
  refine ⟨?_, ?_, ?_, fun i hi => ?_⟩
  · exact h.1
  · exact h.2.1
  · exact h.2.2.1
  · have e1 : va_up P.1 3 n (20 + i) = P.1 (20 + i) := va_up_ne _ _ (by omega)
    have e2 : va_up P.1 3 n (30 + i) = P.1 (30 + i) := va_up_ne _ _ (by omega)
    have e3 : va_up P.1 3 n (40 + i) = P.1 (40 + i) := va_up_ne _ _ (by omega)
    show va_up P.1 3 n (20 + i) ≤ 6 ∧ va_up P.1 3 n (30 + i) ≤ 3 ∧ va_up P.1 3 n (40 + i) ≤ 3 ∧ ∀ j, j < va_up P.1 3 n (20 + i) → _
    rw [e1, e2, e3]
    exact h.2.2.2 i hi
theorem WP.hint {P : PT} (h : WP P) {f a o : Nat} (hf : f < 10) (ha : a ≤ 3) (ho : o ≤ 3) : WP (hintP P f a o) := by
  have n : ∀ k, k ≠ 30 + f → k ≠ 40 + f → (hintP P f a o).1 k = P.1 k := fun k h1 h2 => (va_up_ne _ _ h2).trans (va_up_ne _ _ h1)
  refine ⟨?_, ?_, ?_, fun i hi => ?_⟩
  · rw [n 0 (by omega) (by omega)]; exact h.1
  · rw [n 1 (by omega) (by omega)]; exact h.2.1
  · rw [n 2 (by omega) (by omega)]; exact h.2.2.1
  · have e1 : (hintP P f a o).1 (20 + i) = P.1 (20 + i) := n _ (by omega) (by omega)
    have e4 : (hintP P f a o).1 1 = P.1 1 := n _ (by omega) (by omega)
    have e2 : (hintP P f a o).1 (30 + i) ≤ 3 := by
      by_cases q : i = f
      · subst q
        show va_up (va_up P.1 (30 + i) a) (40 + i) o (30 + i) ≤ 3
        rw [va_up_ne _ _ (by omega), va_up_self]
        exact ha
      · rw [n _ (by omega) (by omega)]
        exact h.fin hi
    have e3 : (hintP P f a o).1 (40 + i) ≤ 3 := by
      by_cases q : i = f
      · subst q
        show va_up (va_up P.1 (30 + i) a) (40 + i) o (40 + i) ≤ 3
        rw [va_up_self]
        exact ho
      · rw [n _ (by omega) (by omega)]
        exact h.fout hi
    refine ⟨by rw [e1]; exact h.fsz hi, e2, e3, fun j hj => ?_⟩
    rw [e1] at hj
    rw [e4]
    exact h.stp hi hj
theorem hint_back (g : Nat → Nat) (f a o : Nat) : va_up (va_up (va_up (va_up g (30 + f) a) (40 + f) o) (30 + f) (g (30 + f))) (40 + f) (g (40 + f)) = g := by
  funext k
  by_cases h1 : k = 40 + f
  · subst h1; rw [va_up_self]
  · rw [va_up_ne _ _ h1]
    by_cases h2 : k = 30 + f
    · subst h2; rw [va_up_self]
    · rw [va_up_ne _ _ h2, va_up_ne _ _ h1, va_up_ne _ _ h2]
end
section
set_option maxHeartbeats 4000000 in
set_option maxRecDepth 100000 in
theorem k_X1_clear (l : Launch) (D : va_G) (q : CQ) (b sz : Nat) (u : ST)   : Met l yX1_clear wsX1_clear ({ frames := 0, cells := 0, slots := 0, locals := 0 } : Room) (va_Pc [.ref (b + 23)] (Pr D q b sz u)) (cV D q b sz (fun u' => u' = (u.1, (0, -1, 0), u.2.2))) 0 0 (ts_A b 52 sz) := by
  refine ts_met (by decide) rfl (Nat.le_of_ble_eq_true rfl) ?_
  intro p e s m below meth c C0 hX ls hl
  obtain ⟨hsz, hW, hK, hN⟩ := hX
  subst hsz
  obtain ⟨hx, hb, hml, hown, hts, -, -, -⟩ := id C0
  have hW : ts_W D b 52 (cel q b u) s.heap := hW
  have hS : va_S (ts_A b 52 s.heap.size) s.heap s.heap [] := va_S.rf
  have hB : ∀ k, k < 52 → ts_A b 52 s.heap.size (b + k) := fun k hk => ts_Ain hk
  have hi1 : ∀ w ∈ wsX10, w ∈ wsX1_clear := ts_lays 4 rfl
  have hl : lv_has ls 1 [(0, .ref (b + 23))] := hl
  refine lv_aload_n hx hb dX1_clear_0 rfl (lv_at hl 0 rfl) ?_
  refine lv_iconst (v := nI 0) hx hb dX1_clear_1 (by decide) ?_
  refine ts_put (C := RX1) (T := TX1) (N := 3) (v := .int (nI 0)) hx hb hts hi1 tyX1 tyX1_ok nmX1 hown hK hW hS hB 23 (by decide) cel_fi rfl 0 (by decide) (List.mem_of_getElem? (i := 1) rfl) rfl rfl rfl (Nat.le_of_ble_eq_true rfl) (cel q b (u.1, (0, u.2.1.2.1, u.2.1.2.2), u.2.2.1, u.2.2.2)) rfl (cel_oF rfl rfl) dX1_clear_2 (fun H locs _ _ hW hS => ?_)
  refine lv_aload_n hx hb dX1_clear_5 rfl (lv_at hl 0 rfl) ?_
  refine lv_iconst (v := (-1)) hx hb dX1_clear_6 (by decide) ?_
  refine ts_put (C := RX1) (T := TX1) (N := 3) (v := .int (-1)) hx hb hts hi1 tyX1 tyX1_ok nmX1 hown hK hW hS hB 23 (by decide) cel_fi rfl 1 (by decide) (List.mem_of_getElem? (i := 2) rfl) rfl rfl rfl (Nat.le_of_ble_eq_true rfl) (cel q b (u.1, (0, (-1), u.2.1.2.2), u.2.2.1, u.2.2.2)) rfl (cel_oF rfl rfl) dX1_clear_7 (fun H locs _ _ hW hS => ?_)
  refine lv_aload_n hx hb dX1_clear_10 rfl (lv_at hl 0 rfl) ?_
  refine lv_iconst (v := nI 0) hx hb dX1_clear_11 (by decide) ?_
  refine ts_put (C := RX1) (T := TX1) (N := 3) (v := .int (nI 0)) hx hb hts hi1 tyX1 tyX1_ok nmX1 hown hK hW hS hB 23 (by decide) cel_fi rfl 2 (by decide) (List.mem_of_getElem? (i := 3) rfl) rfl rfl rfl (Nat.le_of_ble_eq_true rfl) (cel q b (u.1, (0, (-1), 0), u.2.2.1, u.2.2.2)) rfl (cel_oF rfl rfl) dX1_clear_12 (fun H locs _ _ hW hS => ?_)
  exact ts_vret (u := (u.1, (0, (-1), 0), u.2.2.1, u.2.2.2)) C0 hW hS (by exact rfl) dX1_clear_15
set_option maxHeartbeats 4000000 in
set_option maxRecDepth 100000 in
theorem k_X1_need (l : Launch) (D : va_G) (q : CQ) (b sz : Nat) (u : ST) (a t k : Nat) (ha : a ≤ 3) (ht : t ≤ 3) (hk : k < 1000) (hF : u.2.1.1 < 1000) : Met l yX1_need wsX1_need ({ frames := 0, cells := 0, slots := 0, locals := 0 } : Room) (va_Pc [.ref (b + 23), .int (nI a), .int (nI t), .int (nI k)] (Pr D q b sz u)) (cV D q b sz (fun u' => u' = (u.1, needF u.2.1 a t k, u.2.2))) 0 0 (ts_A b 52 sz) := by
  refine ts_met (by decide) rfl (Nat.le_of_ble_eq_true rfl) ?_
  intro p e s m below meth c C0 hX ls hl
  obtain ⟨hsz, hW, hK, hN⟩ := hX
  subst hsz
  obtain ⟨hx, hb, hml, hown, hts, -, -, -⟩ := id C0
  have hW : ts_W D b 52 (cel q b u) s.heap := hW
  have hS : va_S (ts_A b 52 s.heap.size) s.heap s.heap [] := va_S.rf
  have hB : ∀ k, k < 52 → ts_A b 52 s.heap.size (b + k) := fun k hk => ts_Ain hk
  have hi1 : ∀ w ∈ wsX10, w ∈ wsX1_need := ts_lays 4 rfl
  have hl : lv_has ls 4 [(0, .ref (b + 23)), (1, .int (nI a)), (2, .int (nI t)), (3, .int (nI k))] := hl
  refine lv_iload_n hx hb dX1_need_0 rfl (lv_at hl 1 rfl) ?_
  refine lv_iconst (v := nI 3) hx hb dX1_need_1 (by decide) ?_
  refine lv_icmp_eq (tgt := 10) hx hb dX1_need_2 (by decide) (fun c1 => ?_) (fun c1 => ?_)
  · skip
    rw [nI_eq (by omega) (by omega)] at c1
    exact ts_vret (u := u) C0 hW hS (by (show _ = (u.1, needF u.2.1 a t k, u.2.2)); unfold needF; repeat' split; all_goals first | rfl | (exfalso; omega)) dX1_need_10
  rw [nI_eq (by omega) (by omega)] at c1
  refine lv_iload_n hx hb dX1_need_5 rfl (lv_at hl 1 rfl) ?_
  refine lv_iload_n hx hb dX1_need_6 rfl (lv_at hl 2 rfl) ?_
  refine lv_icmp_ne (tgt := 11) hx hb dX1_need_7 (by decide) (fun c2 => ?_) (fun c2 => ?_)
  · skip
    rw [nI_eq (by omega) (by omega)] at c2
    refine lv_iload_n hx hb dX1_need_11 rfl (lv_at hl 2 rfl) ?_
    refine lv_iconst (v := nI 3) hx hb dX1_need_12 (by decide) ?_
    refine lv_icmp_ne (tgt := 27) hx hb dX1_need_13 (by decide) (fun c3 => ?_) (fun c3 => ?_)
    · skip
      rw [nI_eq (by omega) (by omega)] at c3
      refine lv_aload_n hx hb dX1_need_27 rfl (lv_at hl 0 rfl) ?_
      refine ts_get (C := RX1) (T := TX1) (N := 3) (v := .int (nI u.2.1.1)) hx hb hts hi1 hown hK hW 23 (by decide) cel_fi rfl 0 (by decide) (List.mem_of_getElem? (i := 2) rfl) rfl dX1_need_28 ?_
      refine lv_if_ne (tgt := 39) hx hb dX1_need_31 (by decide) (fun c4 => ?_) (fun c4 => ?_)
      · skip
        rw [ts_eq0 (by omega)] at c4
        refine lv_aload_n hx hb dX1_need_39 rfl (lv_at hl 0 rfl) ?_
        refine lv_dup hx hb dX1_need_40 rfl ?_
        refine ts_get (C := RX1) (T := TX1) (N := 3) (v := .int (nI u.2.1.1)) hx hb hts hi1 hown hK hW 23 (by decide) cel_fi rfl 0 (by decide) (List.mem_of_getElem? (i := 2) rfl) rfl dX1_need_41 ?_
        refine lv_iconst (v := nI 1) hx hb dX1_need_44 (by decide) ?_
        refine ts_iadd (v := nI (u.2.1.1 + 1)) hx hb dX1_need_45 (nI_add _ _) ?_
        refine ts_put (C := RX1) (T := TX1) (N := 3) (v := .int (nI (u.2.1.1 + 1))) hx hb hts hi1 tyX1 tyX1_ok nmX1 hown hK hW hS hB 23 (by decide) cel_fi rfl 0 (by decide) (List.mem_of_getElem? (i := 2) rfl) rfl rfl rfl (Nat.le_of_ble_eq_true rfl) (cel q b (u.1, (u.2.1.1 + 1, u.2.1.2.1, u.2.1.2.2), u.2.2.1, u.2.2.2)) rfl (cel_oF rfl rfl) dX1_need_46 (fun H locs _ _ hW hS => ?_)
        exact ts_vret (u := (u.1, (u.2.1.1 + 1, u.2.1.2.1, u.2.1.2.2), u.2.2.1, u.2.2.2)) C0 hW hS (by (show _ = (u.1, needF u.2.1 a t k, u.2.2)); unfold needF; repeat' split; all_goals first | rfl | (exfalso; omega)) dX1_need_49
      rw [ts_eq0 (by omega)] at c4
      refine lv_aload_n hx hb dX1_need_34 rfl (lv_at hl 0 rfl) ?_
      refine lv_iload_n hx hb dX1_need_35 rfl (lv_at hl 3 rfl) ?_
      refine ts_put (C := RX1) (T := TX1) (N := 3) (v := .int (nI k)) hx hb hts hi1 tyX1 tyX1_ok nmX1 hown hK hW hS hB 23 (by decide) cel_fi rfl 1 (by decide) (List.mem_of_getElem? (i := 3) rfl) rfl rfl rfl (Nat.le_of_ble_eq_true rfl) (cel q b (u.1, (u.2.1.1, nI k, u.2.1.2.2), u.2.2.1, u.2.2.2)) rfl (cel_oF rfl rfl) dX1_need_36 (fun H locs _ _ hW hS => ?_)
      refine lv_aload_n hx hb dX1_need_39 rfl (lv_at hl 0 rfl) ?_
      refine lv_dup hx hb dX1_need_40 rfl ?_
      refine ts_get (C := RX1) (T := TX1) (N := 3) (v := .int (nI u.2.1.1)) hx hb hts hi1 hown hK hW 23 (by decide) cel_fi rfl 0 (by decide) (List.mem_of_getElem? (i := 2) rfl) rfl dX1_need_41 ?_
      refine lv_iconst (v := nI 1) hx hb dX1_need_44 (by decide) ?_
      refine ts_iadd (v := nI (u.2.1.1 + 1)) hx hb dX1_need_45 (nI_add _ _) ?_
      refine ts_put (C := RX1) (T := TX1) (N := 3) (v := .int (nI (u.2.1.1 + 1))) hx hb hts hi1 tyX1 tyX1_ok nmX1 hown hK hW hS hB 23 (by decide) cel_fi rfl 0 (by decide) (List.mem_of_getElem? (i := 2) rfl) rfl rfl rfl (Nat.le_of_ble_eq_true rfl) (cel q b (u.1, (u.2.1.1 + 1, nI k, u.2.1.2.2), u.2.2.1, u.2.2.2)) rfl (cel_oF rfl rfl) dX1_need_46 (fun H locs _ _ hW hS => ?_)
      exact ts_vret (u := (u.1, (u.2.1.1 + 1, nI k, u.2.1.2.2), u.2.2.1, u.2.2.2)) C0 hW hS (by (show _ = (u.1, needF u.2.1 a t k, u.2.2)); unfold needF; repeat' split; all_goals first | rfl | (exfalso; omega)) dX1_need_49
    rw [nI_eq (by omega) (by omega)] at c3
    refine lv_aload_n hx hb dX1_need_16 rfl (lv_at hl 0 rfl) ?_
    refine lv_dup hx hb dX1_need_17 rfl ?_
    refine ts_get (C := RX1) (T := TX1) (N := 3) (v := .int (nI u.2.1.2.2)) hx hb hts hi1 hown hK hW 23 (by decide) cel_fi rfl 2 (by decide) (List.mem_of_getElem? (i := 1) rfl) rfl dX1_need_18 ?_
    refine lv_iconst (v := nI 1) hx hb dX1_need_21 (by decide) ?_
    refine ts_iadd (v := nI (u.2.1.2.2 + 1)) hx hb dX1_need_22 (nI_add _ _) ?_
    refine ts_put (C := RX1) (T := TX1) (N := 3) (v := .int (nI (u.2.1.2.2 + 1))) hx hb hts hi1 tyX1 tyX1_ok nmX1 hown hK hW hS hB 23 (by decide) cel_fi rfl 2 (by decide) (List.mem_of_getElem? (i := 1) rfl) rfl rfl rfl (Nat.le_of_ble_eq_true rfl) (cel q b (u.1, (u.2.1.1, u.2.1.2.1, u.2.1.2.2 + 1), u.2.2.1, u.2.2.2)) rfl (cel_oF rfl rfl) dX1_need_23 (fun H locs _ _ hW hS => ?_)
    exact ts_vret (u := (u.1, (u.2.1.1, u.2.1.2.1, u.2.1.2.2 + 1), u.2.2.1, u.2.2.2)) C0 hW hS (by (show _ = (u.1, needF u.2.1 a t k, u.2.2)); unfold needF; repeat' split; all_goals first | rfl | (exfalso; omega)) dX1_need_26
  rw [nI_eq (by omega) (by omega)] at c2
  exact ts_vret (u := u) C0 hW hS (by (show _ = (u.1, needF u.2.1 a t k, u.2.2)); unfold needF; repeat' split; all_goals first | rfl | (exfalso; omega)) dX1_need_10
set_option maxHeartbeats 4000000 in
set_option maxRecDepth 100000 in
theorem k_X1_areNone (l : Launch) (D : va_G) (q : CQ) (b sz : Nat) (u : ST)  (hF : u.2.1.1 < 1000) (hF2 : u.2.1.2.2 < 1000) : Met l yX1_areNone wsX1_areNone ({ frames := 0, cells := 0, slots := 0, locals := 0 } : Room) (va_Pc [.ref (b + 23)] (Pr D q b sz u)) (cI D q b sz (fun r u' => r = b2i (noneF u.2.1) ∧ u' = u)) 0 0 (ts_A b 52 sz) := by
  refine ts_met (by decide) rfl (Nat.le_of_ble_eq_true rfl) ?_
  intro p e s m below meth c C0 hX ls hl
  obtain ⟨hsz, hW, hK, hN⟩ := hX
  subst hsz
  obtain ⟨hx, hb, hml, hown, hts, -, -, -⟩ := id C0
  have hW : ts_W D b 52 (cel q b u) s.heap := hW
  have hS : va_S (ts_A b 52 s.heap.size) s.heap s.heap [] := va_S.rf
  have hB : ∀ k, k < 52 → ts_A b 52 s.heap.size (b + k) := fun k hk => ts_Ain hk
  have hi1 : ∀ w ∈ wsX10, w ∈ wsX1_areNone := ts_lays 3 rfl
  have hl : lv_has ls 1 [(0, .ref (b + 23))] := hl
  refine lv_aload_n hx hb dX1_areNone_0 rfl (lv_at hl 0 rfl) ?_
  refine ts_get (C := RX1) (T := TX1) (N := 3) (v := .int (nI u.2.1.1)) hx hb hts hi1 hown hK hW 23 (by decide) cel_fi rfl 0 (by decide) (List.mem_of_getElem? (i := 1) rfl) rfl dX1_areNone_1 ?_
  refine lv_if_ne (tgt := 18) hx hb dX1_areNone_4 (by decide) (fun c1 => ?_) (fun c1 => ?_)
  · skip
    rw [ts_eq0 (by omega)] at c1
    refine lv_iconst (v := nI 0) hx hb dX1_areNone_18 (by decide) ?_
    exact ts_zret (u := u) (v := nI 0) C0 rfl hW hS (by refine ⟨?_, rfl⟩; rw [show noneF u.2.1 = false from by first | (simp [noneF, *]; done) | (simp [noneF, *]; omega)]; rfl) dX1_areNone_19
  rw [ts_eq0 (by omega)] at c1
  refine lv_aload_n hx hb dX1_areNone_7 rfl (lv_at hl 0 rfl) ?_
  refine ts_get (C := RX1) (T := TX1) (N := 3) (v := .int (nI u.2.1.2.2)) hx hb hts hi1 hown hK hW 23 (by decide) cel_fi rfl 2 (by decide) (List.mem_of_getElem? (i := 2) rfl) rfl dX1_areNone_8 ?_
  refine lv_if_ne (tgt := 18) hx hb dX1_areNone_11 (by decide) (fun c2 => ?_) (fun c2 => ?_)
  · skip
    rw [ts_eq0 (by omega)] at c2
    refine lv_iconst (v := nI 0) hx hb dX1_areNone_18 (by decide) ?_
    exact ts_zret (u := u) (v := nI 0) C0 rfl hW hS (by refine ⟨?_, rfl⟩; rw [show noneF u.2.1 = false from by first | (simp [noneF, *]; done) | (simp [noneF, *]; omega)]; rfl) dX1_areNone_19
  rw [ts_eq0 (by omega)] at c2
  refine lv_iconst (v := nI 1) hx hb dX1_areNone_14 (by decide) ?_
  refine lv_goto (tgt := 19) hx hb dX1_areNone_15 (by decide) ?_
  exact ts_zret (u := u) (v := nI 1) C0 rfl hW hS (by refine ⟨?_, rfl⟩; rw [show noneF u.2.1 = true from by first | (simp [noneF, *]; done) | (simp [noneF, *]; omega)]; rfl) dX1_areNone_19
set_option maxHeartbeats 4000000 in
set_option maxRecDepth 100000 in
theorem k_X2_mentions (l : Launch) (D : va_G) (q : CQ) (b sz : Nat) (u : ST) (i v : Nat) (hwf : WP u.1) (hi : i < 10) (hv : v < 1000) : Met l yX2_mentions wsX2_mentions ({ frames := 0, cells := 0, slots := 0, locals := 0 } : Room) (va_Pc [.ref (b + (3 + 2 * i)), .int (nI v)] (Pr D q b sz u)) (cI D q b sz (fun r u' => r = b2i (mentB u.1 i v (u.1.1 (20 + i))) ∧ u' = u)) 0 0 (ts_A b 52 sz) := by
  refine ts_met (by decide) rfl (Nat.le_of_ble_eq_true rfl) ?_
  intro p e s m below meth c C0 hX ls hl
  obtain ⟨hsz, hW, hK, hN⟩ := hX
  subst hsz
  obtain ⟨hx, hb, hml, hown, hts, -, -, -⟩ := id C0
  have hW : ts_W D b 52 (cel q b u) s.heap := hW
  have hS : va_S (ts_A b 52 s.heap.size) s.heap s.heap [] := va_S.rf
  have hB : ∀ k, k < 52 → ts_A b 52 s.heap.size (b + k) := fun k hk => ts_Ain hk
  have hi2 : ∀ w ∈ wsX20, w ∈ wsX2_mentions := ts_lays 3 rfl
  have hl : lv_has ls 3 [(0, .ref (b + (3 + 2 * i))), (1, .int (nI v))] := hl
  have hs := hwf.sz
  refine lv_iconst (v := nI 0) hx hb dX2_mentions_0 (by decide) ?_
  refine lv_istore_n (lv' := [(2, .int (nI 0)), (0, .ref (b + (3 + 2 * i))), (1, .int (nI v))]) hx hb dX2_mentions_1 rfl hl (by decide) rfl (fun ls hl => ?_)
  have key1 : ∀ (fu : Nat) (j : Nat), (j ≤ u.1.1 (20 + i)) → (mentB u.1 i v j = false) → (u.1.1 (20 + i) - j) < fu → ∀ (H : Heap) (locs : List Loc), ts_W D b 52 (cel q b u) H → va_S (ts_A b 52 s.heap.size) s.heap H locs → ∀ ls : Array Slot, lv_has ls 3 [(2, .int (nI j)), (0, .ref (b + (3 + 2 * i))), (1, .int (nI v))] → W p l e ({ frames := 0, cells := 0, slots := 0, locals := 0 } : Room) s m [.ref (b + (3 + 2 * i)), .int (nI v)].toArray below meth c H locs 0 0 (MQ below (cI D q b s.heap.size (fun r u' => r = b2i (mentB u.1 i v (u.1.1 (20 + i))) ∧ u' = u)) [.ref (b + (3 + 2 * i)), .int (nI v)].toArray s 0 0 (ts_A b 52 s.heap.size)) (F0 m 2 ls []) := by
    intro fu
    induction fu with
    | zero => intro j _ _ hn; exact absurd hn (Nat.not_lt_zero _)
    | succ fu ih2 =>
      intro j hj hm hn H locs hW hS ls hl
      have hsz := hwf.fsz hi
      refine lv_iload_n hx hb dX2_mentions_2 rfl (lv_at hl 0 rfl) ?_
      refine lv_aload_n hx hb dX2_mentions_3 rfl (lv_at hl 1 rfl) ?_
      refine ts_get (C := RX2) (T := TX2) (N := 4) (v := .int (nI (u.1.1 (20 + i)))) hx hb hts hi2 hown hK hW (3 + 2 * i) (by omega) (cel_fn (by omega)) rfl 1 (by decide) (List.mem_of_getElem? (i := 1) rfl) rfl dX2_mentions_4 ?_
      have hq3 := hwf.fsz (i := i) (by omega)
      refine lv_icmp_ge (tgt := 28) hx hb dX2_mentions_7 (by decide) (fun c4 => ?_) (fun c4 => ?_)
      · skip
        rw [nI_leI (by omega) (by omega)] at c4
        refine lv_iconst (v := nI 0) hx hb dX2_mentions_28 (by decide) ?_
        exact ts_zret (u := u) (v := nI 0) C0 rfl hW hS (by refine ⟨?_, rfl⟩; rw [show u.1.1 (20 + i) = j by omega, hm]; rfl) dX2_mentions_29
      rw [nI_leI (by omega) (by omega)] at c4
      refine lv_aload_n hx hb dX2_mentions_10 rfl (lv_at hl 1 rfl) ?_
      refine ts_get (C := RX2) (T := TX2) (N := 4) (v := .ref (b + (4 + 2 * i))) hx hb hts hi2 hown hK hW (3 + 2 * i) (by omega) (cel_fn (by omega)) rfl 0 (by decide) (List.mem_of_getElem? (i := 2) rfl) rfl dX2_mentions_11 ?_
      refine lv_iload_n hx hb dX2_mentions_14 rfl (lv_at hl 0 rfl) ?_
      refine ts_iald (v := nI (u.1.2 i j)) hx hb hK hW (4 + 2 * i) (by omega) 0 (cel_sp (by omega)) rfl (by omega) (by decide) rfl dX2_mentions_15 ?_
      have hq5 := hwf.stp (i := i) (j := j) (by omega) (by omega)
      refine lv_iload_n hx hb dX2_mentions_16 rfl (lv_at hl 2 rfl) ?_
      refine lv_icmp_ne (tgt := 22) hx hb dX2_mentions_17 (by decide) (fun c6 => ?_) (fun c6 => ?_)
      · skip
        rw [nI_eq (by omega) (by omega)] at c6
        refine lv_iinc (v := nI (j + 1)) (lv' := [(2, .int (nI (j + 1))), (0, .ref (b + (3 + 2 * i))), (1, .int (nI v))]) hx hb dX2_mentions_22 hl (k := 0) rfl (nI_add j 1) (by decide) rfl (fun ls hl => ?_)
        refine lv_goto (tgt := 2) hx hb dX2_mentions_25 (by decide) ?_
        exact ih2 (j + 1) (by omega) (by simp [mentB, *]) (by omega) H locs hW hS ls (lv_sub hl [0, 1, 2] rfl)
      rw [nI_eq (by omega) (by omega)] at c6
      refine lv_iconst (v := nI 1) hx hb dX2_mentions_20 (by decide) ?_
      exact ts_zret (u := u) (v := nI 1) C0 rfl hW hS (by refine ⟨?_, rfl⟩; rw [mentB_up (j := j + 1) (by simp [mentB, *]) _ (by omega)]; rfl) dX2_mentions_21
  exact key1 _ 0 (by omega) rfl (Nat.lt_succ_self _) _ _ hW hS ls (lv_sub hl [0, 1, 2] rfl)
set_option maxHeartbeats 4000000 in
set_option maxRecDepth 100000 in
theorem k_X5_isCall (l : Launch) (D : va_G) (q : CQ) (b sz : Nat) (u : ST) (v : Nat) (hv : v < 1000) : Met l yX5_isCall wsX5_isCall ({ frames := 0, cells := 0, slots := 0, locals := 0 } : Room) (va_Pc [.int (nI v)] (Pr D q b sz u)) (cI D q b sz (fun r u' => r = b2i (decide (40 ≤ v)) ∧ u' = u)) 0 0 (ts_A b 52 sz) := by
  refine ts_met (by decide) rfl (Nat.le_of_ble_eq_true rfl) ?_
  intro p e s m below meth c C0 hX ls hl
  obtain ⟨hsz, hW, hK, hN⟩ := hX
  subst hsz
  obtain ⟨hx, hb, hml, hown, hts, -, -, -⟩ := id C0
  have hW : ts_W D b 52 (cel q b u) s.heap := hW
  have hS : va_S (ts_A b 52 s.heap.size) s.heap s.heap [] := va_S.rf
  have hB : ∀ k, k < 52 → ts_A b 52 s.heap.size (b + k) := fun k hk => ts_Ain hk
  have hl : lv_has ls 1 [(0, .int (nI v))] := hl
  refine lv_iload_n hx hb dX5_isCall_0 rfl (lv_at hl 0 rfl) ?_
  refine lv_bipush (v := nI 40) hx hb dX5_isCall_1 (by decide) ?_
  refine lv_icmp_lt (tgt := 10) hx hb dX5_isCall_3 (by decide) (fun c1 => ?_) (fun c1 => ?_)
  · skip
    rw [nI_ltI (by omega) (by omega)] at c1
    refine lv_iconst (v := nI 0) hx hb dX5_isCall_10 (by decide) ?_
    exact ts_zret (u := u) (v := nI 0) C0 rfl hW hS (by refine ⟨?_, rfl⟩; rw [show decide (40 ≤ v) = false from by first | (simp [*]; done) | (simp [*]; omega)]; rfl) dX5_isCall_11
  rw [nI_ltI (by omega) (by omega)] at c1
  refine lv_iconst (v := nI 1) hx hb dX5_isCall_6 (by decide) ?_
  refine lv_goto (tgt := 11) hx hb dX5_isCall_7 (by decide) ?_
  exact ts_zret (u := u) (v := nI 1) C0 rfl hW hS (by refine ⟨?_, rfl⟩; rw [show decide (40 ≤ v) = true from by first | (simp [*]; done) | (simp [*]; omega)]; rfl) dX5_isCall_11
set_option maxHeartbeats 4000000 in
set_option maxRecDepth 100000 in
theorem k_X5_plainNeed (l : Launch) (D : va_G) (q : CQ) (b sz : Nat) (u : ST) (v : Nat) (hv : v < 1000) : Met l yX5_plainNeed wsX5_plainNeed ({ frames := 0, cells := 0, slots := 0, locals := 0 } : Room) (va_Pc [.int (nI v)] (Pr D q b sz u)) (cI D q b sz (fun r u' => r = nI (plainN v) ∧ u' = u)) 0 0 (ts_A b 52 sz) := by
  refine ts_met (by decide) rfl (Nat.le_of_ble_eq_true rfl) ?_
  intro p e s m below meth c C0 hX ls hl
  obtain ⟨hsz, hW, hK, hN⟩ := hX
  subst hsz
  obtain ⟨hx, hb, hml, hown, hts, -, -, -⟩ := id C0
  have hW : ts_W D b 52 (cel q b u) s.heap := hW
  have hS : va_S (ts_A b 52 s.heap.size) s.heap s.heap [] := va_S.rf
  have hB : ∀ k, k < 52 → ts_A b 52 s.heap.size (b + k) := fun k hk => ts_Ain hk
  have hl : lv_has ls 1 [(0, .int (nI v))] := hl
  refine lv_iload_n hx hb dX5_plainNeed_0 rfl (lv_at hl 0 rfl) ?_
  by_cases c1 : v = 20
  · skip
    refine lv_tableIn (tgt := 32) hx hb dX5_plainNeed_1 (by rw [c1]; decide) (by rw [c1]; decide) (by rw [c1]; rfl) (by decide) ?_
    refine lv_iconst (v := nI 1) hx hb dX5_plainNeed_32 (by decide) ?_
    exact ts_iret (u := u) (v := nI 1) C0 hW hS (by exact ⟨congrArg nI (by unfold plainN; (repeat' split) <;> omega), rfl⟩) dX5_plainNeed_33
  by_cases c2 : v = 21
  · skip
    refine lv_tableIn (tgt := 34) hx hb dX5_plainNeed_1 (by rw [c2]; decide) (by rw [c2]; decide) (by rw [c2]; rfl) (by decide) ?_
    refine lv_iconst (v := nI 3) hx hb dX5_plainNeed_34 (by decide) ?_
    exact ts_iret (u := u) (v := nI 3) C0 hW hS (by exact ⟨congrArg nI (by unfold plainN; (repeat' split) <;> omega), rfl⟩) dX5_plainNeed_35
  by_cases c3 : v = 22
  · skip
    refine lv_tableIn (tgt := 38) hx hb dX5_plainNeed_1 (by rw [c3]; decide) (by rw [c3]; decide) (by rw [c3]; rfl) (by decide) ?_
    refine lv_iconst (v := nI 0) hx hb dX5_plainNeed_38 (by decide) ?_
    exact ts_iret (u := u) (v := nI 0) C0 hW hS (by exact ⟨congrArg nI (by unfold plainN; (repeat' split) <;> omega), rfl⟩) dX5_plainNeed_39
  by_cases c4 : v = 23
  · skip
    refine lv_tableIn (tgt := 36) hx hb dX5_plainNeed_1 (by rw [c4]; decide) (by rw [c4]; decide) (by rw [c4]; rfl) (by decide) ?_
    refine lv_iconst (v := nI 2) hx hb dX5_plainNeed_36 (by decide) ?_
    exact ts_iret (u := u) (v := nI 2) C0 hW hS (by exact ⟨congrArg nI (by unfold plainN; (repeat' split) <;> omega), rfl⟩) dX5_plainNeed_37
  refine lv_tableOut (tgt := 38) hx hb dX5_plainNeed_1 (by rw [nI_toInt (by omega)]; omega) (by decide) ?_
  refine lv_iconst (v := nI 0) hx hb dX5_plainNeed_38 (by decide) ?_
  exact ts_iret (u := u) (v := nI 0) C0 hW hS (by exact ⟨congrArg nI (by unfold plainN; (repeat' split) <;> omega), rfl⟩) dX5_plainNeed_39
set_option maxHeartbeats 4000000 in
set_option maxRecDepth 100000 in
theorem k_X5_plainGift (l : Launch) (D : va_G) (q : CQ) (b sz : Nat) (u : ST) (v : Nat) (hv : v < 1000) : Met l yX5_plainGift wsX5_plainGift ({ frames := 0, cells := 0, slots := 0, locals := 0 } : Room) (va_Pc [.int (nI v)] (Pr D q b sz u)) (cI D q b sz (fun r u' => r = nI (plainG v) ∧ u' = u)) 0 0 (ts_A b 52 sz) := by
  refine ts_met (by decide) rfl (Nat.le_of_ble_eq_true rfl) ?_
  intro p e s m below meth c C0 hX ls hl
  obtain ⟨hsz, hW, hK, hN⟩ := hX
  subst hsz
  obtain ⟨hx, hb, hml, hown, hts, -, -, -⟩ := id C0
  have hW : ts_W D b 52 (cel q b u) s.heap := hW
  have hS : va_S (ts_A b 52 s.heap.size) s.heap s.heap [] := va_S.rf
  have hB : ∀ k, k < 52 → ts_A b 52 s.heap.size (b + k) := fun k hk => ts_Ain hk
  have hl : lv_has ls 1 [(0, .int (nI v))] := hl
  refine lv_iload_n hx hb dX5_plainGift_0 rfl (lv_at hl 0 rfl) ?_
  by_cases c1 : v = 21
  · skip
    refine lv_tableIn (tgt := 28) hx hb dX5_plainGift_1 (by rw [c1]; decide) (by rw [c1]; decide) (by rw [c1]; rfl) (by decide) ?_
    refine lv_iconst (v := nI 1) hx hb dX5_plainGift_28 (by decide) ?_
    exact ts_iret (u := u) (v := nI 1) C0 hW hS (by exact ⟨congrArg nI (by unfold plainG; (repeat' split) <;> omega), rfl⟩) dX5_plainGift_29
  by_cases c2 : v = 22
  · skip
    refine lv_tableIn (tgt := 30) hx hb dX5_plainGift_1 (by rw [c2]; decide) (by rw [c2]; decide) (by rw [c2]; rfl) (by decide) ?_
    refine lv_iconst (v := nI 2) hx hb dX5_plainGift_30 (by decide) ?_
    exact ts_iret (u := u) (v := nI 2) C0 hW hS (by exact ⟨congrArg nI (by unfold plainG; (repeat' split) <;> omega), rfl⟩) dX5_plainGift_31
  by_cases c3 : v = 23
  · skip
    refine lv_tableIn (tgt := 32) hx hb dX5_plainGift_1 (by rw [c3]; decide) (by rw [c3]; decide) (by rw [c3]; rfl) (by decide) ?_
    refine lv_iconst (v := nI 2) hx hb dX5_plainGift_32 (by decide) ?_
    exact ts_iret (u := u) (v := nI 2) C0 hW hS (by exact ⟨congrArg nI (by unfold plainG; (repeat' split) <;> omega), rfl⟩) dX5_plainGift_33
  refine lv_tableOut (tgt := 34) hx hb dX5_plainGift_1 (by rw [nI_toInt (by omega)]; omega) (by decide) ?_
  refine lv_iconst (v := nI 0) hx hb dX5_plainGift_34 (by decide) ?_
  exact ts_iret (u := u) (v := nI 0) C0 hW hS (by exact ⟨congrArg nI (by unfold plainG; (repeat' split) <;> omega), rfl⟩) dX5_plainGift_35
set_option maxHeartbeats 4000000 in
set_option maxRecDepth 100000 in
theorem k_X5_has (l : Launch) (D : va_G) (q : CQ) (b sz : Nat) (u : ST) (s_ f : Nat) (hs : s_ < 1024) (hf : f < 31) : Met l yX5_has wsX5_has ({ frames := 0, cells := 0, slots := 0, locals := 0 } : Room) (va_Pc [.int (nI s_), .int (nI f)] (Pr D q b sz u)) (cI D q b sz (fun r u' => r = b2i (hasB s_ f) ∧ u' = u)) 0 0 (ts_A b 52 sz) := by
  refine ts_met (by decide) rfl (Nat.le_of_ble_eq_true rfl) ?_
  intro p e s m below meth c C0 hX ls hl
  obtain ⟨hsz, hW, hK, hN⟩ := hX
  subst hsz
  obtain ⟨hx, hb, hml, hown, hts, -, -, -⟩ := id C0
  have hW : ts_W D b 52 (cel q b u) s.heap := hW
  have hS : va_S (ts_A b 52 s.heap.size) s.heap s.heap [] := va_S.rf
  have hB : ∀ k, k < 52 → ts_A b 52 s.heap.size (b + k) := fun k hk => ts_Ain hk
  have hl : lv_has ls 2 [(0, .int (nI s_)), (1, .int (nI f))] := hl
  refine lv_iload_n hx hb dX5_has_0 rfl (lv_at hl 1 rfl) ?_
  refine lv_iconst (v := (-1)) hx hb dX5_has_1 (by decide) ?_
  refine lv_icmp_eq (tgt := 18) hx hb dX5_has_2 (by decide) (fun c1 => ?_) (fun c1 => ?_)
  · skip
    exact absurd c1 (ts_nem1 (by omega))
  refine lv_iload_n hx hb dX5_has_5 rfl (lv_at hl 0 rfl) ?_
  refine lv_iload_n hx hb dX5_has_6 rfl (lv_at hl 1 rfl) ?_
  refine ts_ishr (v := (nI s_) >>> ((nI f) &&& 31)) hx hb dX5_has_7 rfl ?_
  refine lv_iconst (v := nI 1) hx hb dX5_has_8 (by decide) ?_
  refine ts_iand (v := nI (s_ / 2 ^ f % 2)) hx hb dX5_has_9 (ts_bit (by omega) (by omega)) ?_
  refine lv_iconst (v := nI 1) hx hb dX5_has_10 (by decide) ?_
  refine lv_icmp_ne (tgt := 18) hx hb dX5_has_11 (by decide) (fun c2 => ?_) (fun c2 => ?_)
  · skip
    rw [nI_eq (by omega) (by omega)] at c2
    refine lv_iconst (v := nI 0) hx hb dX5_has_18 (by decide) ?_
    exact ts_zret (u := u) (v := nI 0) C0 rfl hW hS (by refine ⟨?_, rfl⟩; rw [show hasB s_ f = false from by first | (simp [hasB, *]; done) | (simp [hasB, *]; omega)]; rfl) dX5_has_19
  rw [nI_eq (by omega) (by omega)] at c2
  refine lv_iconst (v := nI 1) hx hb dX5_has_14 (by decide) ?_
  refine lv_goto (tgt := 19) hx hb dX5_has_15 (by decide) ?_
  exact ts_zret (u := u) (v := nI 1) C0 rfl hW hS (by refine ⟨?_, rfl⟩; rw [show hasB s_ f = true from by first | (simp [hasB, *]; done) | (simp [hasB, *]; omega)]; rfl) dX5_has_19
theorem k_X5_hasN (l : Launch) (D : va_G) (q : CQ) (b sz : Nat) (u : ST) (s_ : Nat) : Met l yX5_has wsX5_has ({ frames := 0, cells := 0, slots := 0, locals := 0 } : Room) (va_Pc [.int (nI s_), .int (-1)] (Pr D q b sz u)) (cI D q b sz (fun r u' => r = b2i false ∧ u' = u)) 0 0 (ts_A b 52 sz) := by
  refine ts_met (by decide) rfl (Nat.le_of_ble_eq_true rfl) ?_
  intro p e s m below meth c C0 hX ls hl
  obtain ⟨hsz, hW, hK, hN⟩ := hX
  subst hsz
  obtain ⟨hx, hb, hml, hown, hts, -, -, -⟩ := id C0
  have hW : ts_W D b 52 (cel q b u) s.heap := hW
  have hS : va_S (ts_A b 52 s.heap.size) s.heap s.heap [] := va_S.rf
  have hl : lv_has ls 2 [(0, .int (nI s_)), (1, .int (-1))] := hl
  refine lv_iload_n hx hb dX5_has_0 rfl (lv_at hl 1 rfl) ?_
  refine lv_iconst (v := (-1)) hx hb dX5_has_1 (by decide) ?_
  refine lv_icmp_eq (tgt := 18) hx hb dX5_has_2 (by decide) (fun c1 => ?_) (fun c1 => absurd rfl c1)
  refine lv_iconst (v := nI 0) hx hb dX5_has_18 (by decide) ?_
  exact ts_zret (u := u) (v := nI 0) C0 rfl hW hS ⟨rfl, rfl⟩ dX5_has_19
theorem k_X5_hasR (l : Launch) (D : va_G) (q : CQ) (b sz : Nat) (u : ST) (s_ : Nat) (hs : s_ < 1024) : ∀ (r : Nat), r < 31 → Met l yX5_has wsX5_has ({ frames := 0, cells := 0, slots := 0, locals := 0 } : Room) (va_Pc [.int (nI s_), .int (zI r)] (Pr D q b sz u)) (cI D q b sz (fun v u' => v = b2i (hasR s_ r) ∧ u' = u)) 0 0 (ts_A b 52 sz)
  | 0, _ => k_X5_hasN l D q b sz u s_
  | f + 1, h => k_X5_has l D q b sz u s_ f hs (by omega)
set_option maxHeartbeats 4000000 in
set_option maxRecDepth 100000 in
theorem k_X5_with (l : Launch) (D : va_G) (q : CQ) (b sz : Nat) (u : ST) (s_ i : Nat) (hi : i < 31) : Met l yX5_with wsX5_with ({ frames := 0, cells := 0, slots := 0, locals := 0 } : Room) (va_Pc [.int (nI s_), .int (nI i)] (Pr D q b sz u)) (cI D q b sz (fun r u' => r = nI (setB s_ i) ∧ u' = u)) 0 0 (ts_A b 52 sz) := by
  refine ts_met (by decide) rfl (Nat.le_of_ble_eq_true rfl) ?_
  intro p e s m below meth c C0 hX ls hl
  obtain ⟨hsz, hW, hK, hN⟩ := hX
  subst hsz
  obtain ⟨hx, hb, hml, hown, hts, -, -, -⟩ := id C0
  have hW : ts_W D b 52 (cel q b u) s.heap := hW
  have hS : va_S (ts_A b 52 s.heap.size) s.heap s.heap [] := va_S.rf
  have hB : ∀ k, k < 52 → ts_A b 52 s.heap.size (b + k) := fun k hk => ts_Ain hk
  have hl : lv_has ls 2 [(0, .int (nI s_)), (1, .int (nI i))] := hl
  refine lv_iload_n hx hb dX5_with_0 rfl (lv_at hl 0 rfl) ?_
  refine lv_iconst (v := nI 1) hx hb dX5_with_1 (by decide) ?_
  refine lv_iload_n hx hb dX5_with_2 rfl (lv_at hl 1 rfl) ?_
  refine ts_ishl (v := nI (2 ^ i)) hx hb dX5_with_3 (ts_shl (by omega)) ?_
  refine ts_ior (v := nI (s_ ||| (2 ^ i))) hx hb dX5_with_4 (ts_or _ _) ?_
  exact ts_iret (u := u) (v := nI (s_ ||| (2 ^ i))) C0 hW hS (by exact ⟨rfl, rfl⟩) dX5_with_5
set_option maxHeartbeats 4000000 in
set_option maxRecDepth 100000 in
theorem k_X5_rowOf (l : Launch) (D : va_G) (q : CQ) (b sz : Nat) (u : ST) (r : Nat)  : Met l yX5_rowOf wsX5_rowOf ({ frames := 0, cells := 0, slots := 0, locals := 0 } : Room) (va_Pc [.int (zI r)] (Pr D q b sz u)) (cI D q b sz (fun v u' => v = nI r ∧ u' = u)) 0 0 (ts_A b 52 sz) := by
  refine ts_met (by decide) rfl (Nat.le_of_ble_eq_true rfl) ?_
  intro p e s m below meth c C0 hX ls hl
  obtain ⟨hsz, hW, hK, hN⟩ := hX
  subst hsz
  obtain ⟨hx, hb, hml, hown, hts, -, -, -⟩ := id C0
  have hW : ts_W D b 52 (cel q b u) s.heap := hW
  have hS : va_S (ts_A b 52 s.heap.size) s.heap s.heap [] := va_S.rf
  have hB : ∀ k, k < 52 → ts_A b 52 s.heap.size (b + k) := fun k hk => ts_Ain hk
  have hl : lv_has ls 1 [(0, .int (zI r))] := hl
  refine lv_iload_n hx hb dX5_rowOf_0 rfl (lv_at hl 0 rfl) ?_
  refine lv_iconst (v := nI 1) hx hb dX5_rowOf_1 (by decide) ?_
  refine ts_iadd (v := nI r) hx hb dX5_rowOf_2 (zI_row _) ?_
  exact ts_iret (u := u) (v := nI r) C0 hW hS (by exact ⟨rfl, rfl⟩) dX5_rowOf_3
set_option maxHeartbeats 4000000 in
set_option maxRecDepth 100000 in
theorem k_X3_isStep (l : Launch) (D : va_G) (q : CQ) (b sz : Nat) (u : ST) (v : Nat) (hwf : WP u.1) (hv : v ≤ 9 ∨ (20 ≤ v ∧ v ≤ 24) ∨ (40 ≤ v ∧ v < 40 + u.1.1 1)) : Met l yX3_isStep wsX3_isStep ({ frames := 0, cells := 0, slots := 0, locals := 0 } : Room) (va_Pc [.ref (b + 1), .int (nI v)] (Pr D q b sz u)) (cI D q b sz (fun r u' => r = b2i true ∧ u' = u)) 0 0 (ts_A b 52 sz) := by
  refine ts_met (by decide) rfl (Nat.le_of_ble_eq_true rfl) ?_
  intro p e s m below meth c C0 hX ls hl
  obtain ⟨hsz, hW, hK, hN⟩ := hX
  subst hsz
  obtain ⟨hx, hb, hml, hown, hts, -, -, -⟩ := id C0
  have hW : ts_W D b 52 (cel q b u) s.heap := hW
  have hS : va_S (ts_A b 52 s.heap.size) s.heap s.heap [] := va_S.rf
  have hB : ∀ k, k < 52 → ts_A b 52 s.heap.size (b + k) := fun k hk => ts_Ain hk
  have hi3 : ∀ w ∈ wsX30, w ∈ wsX3_isStep := ts_lays 2 rfl
  have hl : lv_has ls 2 [(0, .ref (b + 1)), (1, .int (nI v))] := hl
  have hs := hwf.sz
  refine lv_iload_n hx hb dX3_isStep_0 rfl (lv_at hl 1 rfl) ?_
  refine lv_if_lt (tgt := 10) hx hb dX3_isStep_1 (by decide) (fun c1 => ?_) (fun c1 => ?_)
  · skip
    rw [ts_lt0 (by omega)] at c1
    exfalso; omega
  rw [ts_lt0 (by omega)] at c1
  refine lv_iload_n hx hb dX3_isStep_4 rfl (lv_at hl 1 rfl) ?_
  refine lv_bipush (v := nI 9) hx hb dX3_isStep_5 (by decide) ?_
  refine lv_icmp_le (tgt := 39) hx hb dX3_isStep_7 (by decide) (fun c2 => ?_) (fun c2 => ?_)
  · skip
    rw [nI_leI (by omega) (by omega)] at c2
    refine lv_iconst (v := nI 1) hx hb dX3_isStep_39 (by decide) ?_
    refine lv_goto (tgt := 44) hx hb dX3_isStep_40 (by decide) ?_
    exact ts_zret (u := u) (v := nI 1) C0 rfl hW hS (by exact ⟨rfl, rfl⟩) dX3_isStep_44
  rw [nI_leI (by omega) (by omega)] at c2
  refine lv_iload_n hx hb dX3_isStep_10 rfl (lv_at hl 1 rfl) ?_
  refine lv_bipush (v := nI 20) hx hb dX3_isStep_11 (by decide) ?_
  refine lv_icmp_lt (tgt := 22) hx hb dX3_isStep_13 (by decide) (fun c3 => ?_) (fun c3 => ?_)
  · skip
    rw [nI_ltI (by omega) (by omega)] at c3
    refine lv_iload_n hx hb dX3_isStep_22 rfl (lv_at hl 1 rfl) ?_
    refine lv_bipush (v := nI 40) hx hb dX3_isStep_23 (by decide) ?_
    refine lv_icmp_lt (tgt := 43) hx hb dX3_isStep_25 (by decide) (fun c4 => ?_) (fun c4 => ?_)
    · skip
      rw [nI_ltI (by omega) (by omega)] at c4
      exfalso; omega
    rw [nI_ltI (by omega) (by omega)] at c4
    refine lv_iload_n hx hb dX3_isStep_28 rfl (lv_at hl 1 rfl) ?_
    refine lv_bipush (v := nI 40) hx hb dX3_isStep_29 (by decide) ?_
    refine ts_isub (v := nI (v - 40)) hx hb dX3_isStep_31 (pk_sub (by omega)) ?_
    refine lv_aload_n hx hb dX3_isStep_32 rfl (lv_at hl 0 rfl) ?_
    refine ts_get (C := RX3) (T := TX3) (N := 5) (v := .int (nI (u.1.1 1))) hx hb hts hi3 hown hK hW 1 (by decide) cel_pr rfl 2 (by decide) (List.mem_of_getElem? (i := 1) rfl) rfl dX3_isStep_33 ?_
    refine lv_icmp_ge (tgt := 43) hx hb dX3_isStep_36 (by decide) (fun c5 => ?_) (fun c5 => ?_)
    · skip
      rw [nI_leI (by omega) (by omega)] at c5
      exfalso; omega
    rw [nI_leI (by omega) (by omega)] at c5
    refine lv_iconst (v := nI 1) hx hb dX3_isStep_39 (by decide) ?_
    refine lv_goto (tgt := 44) hx hb dX3_isStep_40 (by decide) ?_
    exact ts_zret (u := u) (v := nI 1) C0 rfl hW hS (by exact ⟨rfl, rfl⟩) dX3_isStep_44
  rw [nI_ltI (by omega) (by omega)] at c3
  refine lv_iload_n hx hb dX3_isStep_16 rfl (lv_at hl 1 rfl) ?_
  refine lv_bipush (v := nI 24) hx hb dX3_isStep_17 (by decide) ?_
  refine lv_icmp_le (tgt := 39) hx hb dX3_isStep_19 (by decide) (fun c6 => ?_) (fun c6 => ?_)
  · skip
    rw [nI_leI (by omega) (by omega)] at c6
    refine lv_iconst (v := nI 1) hx hb dX3_isStep_39 (by decide) ?_
    refine lv_goto (tgt := 44) hx hb dX3_isStep_40 (by decide) ?_
    exact ts_zret (u := u) (v := nI 1) C0 rfl hW hS (by exact ⟨rfl, rfl⟩) dX3_isStep_44
  rw [nI_leI (by omega) (by omega)] at c6
  refine lv_iload_n hx hb dX3_isStep_22 rfl (lv_at hl 1 rfl) ?_
  refine lv_bipush (v := nI 40) hx hb dX3_isStep_23 (by decide) ?_
  refine lv_icmp_lt (tgt := 43) hx hb dX3_isStep_25 (by decide) (fun c7 => ?_) (fun c7 => ?_)
  · skip
    rw [nI_ltI (by omega) (by omega)] at c7
    exfalso; omega
  rw [nI_ltI (by omega) (by omega)] at c7
  refine lv_iload_n hx hb dX3_isStep_28 rfl (lv_at hl 1 rfl) ?_
  refine lv_bipush (v := nI 40) hx hb dX3_isStep_29 (by decide) ?_
  refine ts_isub (v := nI (v - 40)) hx hb dX3_isStep_31 (pk_sub (by omega)) ?_
  refine lv_aload_n hx hb dX3_isStep_32 rfl (lv_at hl 0 rfl) ?_
  refine ts_get (C := RX3) (T := TX3) (N := 5) (v := .int (nI (u.1.1 1))) hx hb hts hi3 hown hK hW 1 (by decide) cel_pr rfl 2 (by decide) (List.mem_of_getElem? (i := 1) rfl) rfl dX3_isStep_33 ?_
  refine lv_icmp_ge (tgt := 43) hx hb dX3_isStep_36 (by decide) (fun c8 => ?_) (fun c8 => ?_)
  · skip
    rw [nI_leI (by omega) (by omega)] at c8
    exfalso; omega
  rw [nI_leI (by omega) (by omega)] at c8
  refine lv_iconst (v := nI 1) hx hb dX3_isStep_39 (by decide) ?_
  refine lv_goto (tgt := 44) hx hb dX3_isStep_40 (by decide) ?_
  exact ts_zret (u := u) (v := nI 1) C0 rfl hW hS (by exact ⟨rfl, rfl⟩) dX3_isStep_44
set_option maxHeartbeats 4000000 in
set_option maxRecDepth 100000 in
theorem k_X3_needOf (l : Launch) (D : va_G) (q : CQ) (b sz : Nat) (u : ST) (v : Nat) (hwf : WP u.1) (hv : v ≤ 9 ∨ (20 ≤ v ∧ v ≤ 24) ∨ (40 ≤ v ∧ v < 40 + u.1.1 1)) : Met l yX3_needOf wsX3_needOf ({ frames := 1, cells := 0, slots := 0, locals := 20 } : Room) (va_Pc [.ref (b + 1), .int (nI v)] (Pr D q b sz u)) (cI D q b sz (fun r u' => r = nI (needP u.1 v) ∧ u' = u)) 0 0 (ts_A b 52 sz) := by
  refine ts_met (by decide) rfl (Nat.le_of_ble_eq_true rfl) ?_
  intro p e s m below meth c C0 hX ls hl
  obtain ⟨hsz, hW, hK, hN⟩ := hX
  subst hsz
  obtain ⟨hx, hb, hml, hown, hts, -, -, -⟩ := id C0
  have hW : ts_W D b 52 (cel q b u) s.heap := hW
  have hS : va_S (ts_A b 52 s.heap.size) s.heap s.heap [] := va_S.rf
  have hB : ∀ k, k < 52 → ts_A b 52 s.heap.size (b + k) := fun k hk => ts_Ain hk
  have hi2 : ∀ w ∈ wsX20, w ∈ wsX3_needOf := ts_lays 13 rfl
  have hi3 : ∀ w ∈ wsX30, w ∈ wsX3_needOf := ts_lays 8 rfl
  have hl : lv_has ls 2 [(0, .ref (b + 1)), (1, .int (nI v))] := hl
  have hs := hwf.sz
  refine lv_iload_n hx hb dX3_needOf_0 rfl (lv_at hl 1 rfl) ?_
  refine ts_retI (va_runSN (As := [.int (nI v)]) (rest := []) ⟨hx, hb, hml, hown, hts⟩ (k_X5_isCall l D q b s.heap.size u v (by omega)) ⟨va_cnB 1 hts gX3_needOf_X5_isCall_n29 rfl rfl rfl (hN _ (List.mem_of_getElem? (i := 3) rfl)) (hts _ (List.mem_of_getElem? (i := 4) rfl)) (by decide +kernel) ⟨Nat.le_of_ble_eq_true rfl, Nat.le_of_ble_eq_true rfl⟩, hts _ (List.mem_of_getElem? (i := 3) rfl), trivial⟩ (ts_preS hK hN hW) rfl rfl hl.1 rfl (lv_room (Nat.le_of_ble_eq_true rfl)) dX3_needOf_1 ⟨Nat.zero_le _, Nat.zero_le _⟩) hS (fun x h => ts_Aup hS.1 h) (fun r1 u2 H locs hp3 hW _ _ hS => ?_)
  have hp3r : r1 = b2i (decide (40 ≤ v)) := hp3.1
  have hp3u : u2 = u := hp3.2
  rw [hp3r]
  rw [hp3u] at hW
  refine lv_if_eq (tgt := 22) hx hb dX3_needOf_4 (by decide) (fun c4 => ?_) (fun c4 => ?_)
  · skip
    have c4 := ts_df c4
    refine lv_iload_n hx hb dX3_needOf_22 rfl (lv_at hl 1 rfl) ?_
    refine ts_retI (va_runSN (As := [.int (nI v)]) (rest := []) ⟨hx, hb, hml, hown, hts⟩ (k_X5_plainNeed l D q b H.size u v (by omega)) ⟨va_cnB 1 hts gX3_needOf_X5_plainNeed_n36 rfl rfl rfl (hN _ (List.mem_of_getElem? (i := 4) rfl)) (hts _ (List.mem_of_getElem? (i := 4) rfl)) (by decide +kernel) ⟨Nat.le_of_ble_eq_true rfl, Nat.le_of_ble_eq_true rfl⟩, hts _ (List.mem_of_getElem? (i := 6) rfl), trivial⟩ (ts_preS hK hN hW) rfl rfl hl.1 rfl (lv_room (Nat.le_of_ble_eq_true rfl)) dX3_needOf_23 ⟨Nat.zero_le _, Nat.zero_le _⟩) hS (fun x h => ts_Aup hS.1 h) (fun r5 u6 H locs hp7 hW _ _ hS => ?_)
    have hp7r : r5 = nI (plainN v) := hp7.1
    have hp7u : u6 = u := hp7.2
    rw [hp7r]
    rw [hp7u] at hW
    exact ts_iret (u := u) (v := nI (plainN v)) C0 hW hS (by exact ⟨congrArg nI (by unfold needP; split <;> first | rfl | (exfalso; omega)), rfl⟩) dX3_needOf_26
  have c4 := ts_dt c4
  refine lv_aload_n hx hb dX3_needOf_7 rfl (lv_at hl 0 rfl) ?_
  refine ts_get (C := RX3) (T := TX3) (N := 5) (v := .ref (b + 2)) hx hb hts hi3 hown hK hW 1 (by decide) cel_pr rfl 0 (by decide) (List.mem_of_getElem? (i := 1) rfl) rfl dX3_needOf_8 ?_
  refine lv_iload_n hx hb dX3_needOf_11 rfl (lv_at hl 1 rfl) ?_
  refine lv_bipush (v := nI 40) hx hb dX3_needOf_12 (by decide) ?_
  refine ts_isub (v := nI (v - 40)) hx hb dX3_needOf_14 (pk_sub (by omega)) ?_
  refine ts_aald (a := b + (3 + 2 * (v - 40))) hx hb hK hW 2 (by decide) 1 cel_fs rfl rfl (by omega) (by decide) rfl dX3_needOf_15 ?_
  refine ts_get (C := RX2) (T := TX2) (N := 4) (v := .int (nI (u.1.1 (30 + (v - 40))))) hx hb hts hi2 hown hK hW (3 + 2 * (v - 40)) (by omega) (cel_fn (by omega)) rfl 2 (by decide) (List.mem_of_getElem? (i := 2) rfl) rfl dX3_needOf_16 ?_
  have hq8 := hwf.fin (i := v - 40) (by omega)
  refine lv_goto (tgt := 26) hx hb dX3_needOf_19 (by decide) ?_
  exact ts_iret (u := u) (v := nI (u.1.1 (30 + (v - 40)))) C0 hW hS (by exact ⟨congrArg nI (by unfold needP; split <;> first | rfl | (exfalso; omega)), rfl⟩) dX3_needOf_26
set_option maxHeartbeats 4000000 in
set_option maxRecDepth 100000 in
theorem k_X3_giftOf (l : Launch) (D : va_G) (q : CQ) (b sz : Nat) (u : ST) (v : Nat) (hwf : WP u.1) (hv : v ≤ 9 ∨ (20 ≤ v ∧ v ≤ 24) ∨ (40 ≤ v ∧ v < 40 + u.1.1 1)) : Met l yX3_giftOf wsX3_giftOf ({ frames := 1, cells := 0, slots := 0, locals := 20 } : Room) (va_Pc [.ref (b + 1), .int (nI v)] (Pr D q b sz u)) (cI D q b sz (fun r u' => r = nI (giftP u.1 v) ∧ u' = u)) 0 0 (ts_A b 52 sz) := by
  refine ts_met (by decide) rfl (Nat.le_of_ble_eq_true rfl) ?_
  intro p e s m below meth c C0 hX ls hl
  obtain ⟨hsz, hW, hK, hN⟩ := hX
  subst hsz
  obtain ⟨hx, hb, hml, hown, hts, -, -, -⟩ := id C0
  have hW : ts_W D b 52 (cel q b u) s.heap := hW
  have hS : va_S (ts_A b 52 s.heap.size) s.heap s.heap [] := va_S.rf
  have hB : ∀ k, k < 52 → ts_A b 52 s.heap.size (b + k) := fun k hk => ts_Ain hk
  have hi2 : ∀ w ∈ wsX20, w ∈ wsX3_giftOf := ts_lays 13 rfl
  have hi3 : ∀ w ∈ wsX30, w ∈ wsX3_giftOf := ts_lays 8 rfl
  have hl : lv_has ls 2 [(0, .ref (b + 1)), (1, .int (nI v))] := hl
  have hs := hwf.sz
  refine lv_iload_n hx hb dX3_giftOf_0 rfl (lv_at hl 1 rfl) ?_
  refine ts_retI (va_runSN (As := [.int (nI v)]) (rest := []) ⟨hx, hb, hml, hown, hts⟩ (k_X5_isCall l D q b s.heap.size u v (by omega)) ⟨va_cnB 1 hts gX3_giftOf_X5_isCall_n29 rfl rfl rfl (hN _ (List.mem_of_getElem? (i := 3) rfl)) (hts _ (List.mem_of_getElem? (i := 4) rfl)) (by decide +kernel) ⟨Nat.le_of_ble_eq_true rfl, Nat.le_of_ble_eq_true rfl⟩, hts _ (List.mem_of_getElem? (i := 3) rfl), trivial⟩ (ts_preS hK hN hW) rfl rfl hl.1 rfl (lv_room (Nat.le_of_ble_eq_true rfl)) dX3_giftOf_1 ⟨Nat.zero_le _, Nat.zero_le _⟩) hS (fun x h => ts_Aup hS.1 h) (fun r1 u2 H locs hp3 hW _ _ hS => ?_)
  have hp3r : r1 = b2i (decide (40 ≤ v)) := hp3.1
  have hp3u : u2 = u := hp3.2
  rw [hp3r]
  rw [hp3u] at hW
  refine lv_if_eq (tgt := 22) hx hb dX3_giftOf_4 (by decide) (fun c4 => ?_) (fun c4 => ?_)
  · skip
    have c4 := ts_df c4
    refine lv_iload_n hx hb dX3_giftOf_22 rfl (lv_at hl 1 rfl) ?_
    refine ts_retI (va_runSN (As := [.int (nI v)]) (rest := []) ⟨hx, hb, hml, hown, hts⟩ (k_X5_plainGift l D q b H.size u v (by omega)) ⟨va_cnB 1 hts gX3_giftOf_X5_plainGift_n43 rfl rfl rfl (hN _ (List.mem_of_getElem? (i := 5) rfl)) (hts _ (List.mem_of_getElem? (i := 4) rfl)) (by decide +kernel) ⟨Nat.le_of_ble_eq_true rfl, Nat.le_of_ble_eq_true rfl⟩, hts _ (List.mem_of_getElem? (i := 6) rfl), trivial⟩ (ts_preS hK hN hW) rfl rfl hl.1 rfl (lv_room (Nat.le_of_ble_eq_true rfl)) dX3_giftOf_23 ⟨Nat.zero_le _, Nat.zero_le _⟩) hS (fun x h => ts_Aup hS.1 h) (fun r5 u6 H locs hp7 hW _ _ hS => ?_)
    have hp7r : r5 = nI (plainG v) := hp7.1
    have hp7u : u6 = u := hp7.2
    rw [hp7r]
    rw [hp7u] at hW
    exact ts_iret (u := u) (v := nI (plainG v)) C0 hW hS (by exact ⟨congrArg nI (by unfold giftP; split <;> first | rfl | (exfalso; omega)), rfl⟩) dX3_giftOf_26
  have c4 := ts_dt c4
  refine lv_aload_n hx hb dX3_giftOf_7 rfl (lv_at hl 0 rfl) ?_
  refine ts_get (C := RX3) (T := TX3) (N := 5) (v := .ref (b + 2)) hx hb hts hi3 hown hK hW 1 (by decide) cel_pr rfl 0 (by decide) (List.mem_of_getElem? (i := 1) rfl) rfl dX3_giftOf_8 ?_
  refine lv_iload_n hx hb dX3_giftOf_11 rfl (lv_at hl 1 rfl) ?_
  refine lv_bipush (v := nI 40) hx hb dX3_giftOf_12 (by decide) ?_
  refine ts_isub (v := nI (v - 40)) hx hb dX3_giftOf_14 (pk_sub (by omega)) ?_
  refine ts_aald (a := b + (3 + 2 * (v - 40))) hx hb hK hW 2 (by decide) 1 cel_fs rfl rfl (by omega) (by decide) rfl dX3_giftOf_15 ?_
  refine ts_get (C := RX2) (T := TX2) (N := 4) (v := .int (nI (u.1.1 (40 + (v - 40))))) hx hb hts hi2 hown hK hW (3 + 2 * (v - 40)) (by omega) (cel_fn (by omega)) rfl 3 (by decide) (List.mem_of_getElem? (i := 2) rfl) rfl dX3_giftOf_16 ?_
  have hq8 := hwf.fout (i := v - 40) (by omega)
  refine lv_goto (tgt := 26) hx hb dX3_giftOf_19 (by decide) ?_
  exact ts_iret (u := u) (v := nI (u.1.1 (40 + (v - 40)))) C0 hW hS (by exact ⟨congrArg nI (by unfold giftP; split <;> first | rfl | (exfalso; omega)), rfl⟩) dX3_giftOf_26
set_option maxHeartbeats 4000000 in
set_option maxRecDepth 100000 in
theorem k_X3_guessIn (l : Launch) (D : va_G) (q : CQ) (b sz : Nat) (u : ST) (f : Nat) (hwf : WP u.1) (hf : f < 10) : Met l yX3_guessIn wsX3_guessIn ({ frames := 2, cells := 0, slots := 0, locals := 41 } : Room) (va_Pc [.ref (b + 1), .ref (b + (3 + 2 * f))] (Pr D q b sz u)) (cI D q b sz (fun r u' => r = nI (guessI u.1 f) ∧ u' = u)) 0 0 (ts_A b 52 sz) := by
  refine ts_met (by decide) rfl (Nat.le_of_ble_eq_true rfl) ?_
  intro p e s m below meth c C0 hX ls hl
  obtain ⟨hsz, hW, hK, hN⟩ := hX
  subst hsz
  obtain ⟨hx, hb, hml, hown, hts, -, -, -⟩ := id C0
  have hW : ts_W D b 52 (cel q b u) s.heap := hW
  have hS : va_S (ts_A b 52 s.heap.size) s.heap s.heap [] := va_S.rf
  have hB : ∀ k, k < 52 → ts_A b 52 s.heap.size (b + k) := fun k hk => ts_Ain hk
  have hi2 : ∀ w ∈ wsX20, w ∈ wsX3_guessIn := ts_lays 15 rfl
  have hl : lv_has ls 2 [(0, .ref (b + 1)), (1, .ref (b + (3 + 2 * f)))] := hl
  have hs := hwf.sz
  refine lv_aload_n hx hb dX3_guessIn_0 rfl (lv_at hl 1 rfl) ?_
  refine ts_get (C := RX2) (T := TX2) (N := 4) (v := .int (nI (u.1.1 (20 + f)))) hx hb hts hi2 hown hK hW (3 + 2 * f) (by omega) (cel_fn (by omega)) rfl 1 (by decide) (List.mem_of_getElem? (i := 1) rfl) rfl dX3_guessIn_1 ?_
  have hq1 := hwf.fsz (i := f) (by omega)
  refine lv_if_ne (tgt := 11) hx hb dX3_guessIn_4 (by decide) (fun c2 => ?_) (fun c2 => ?_)
  · skip
    rw [ts_eq0 (by omega)] at c2
    refine lv_aload_n hx hb dX3_guessIn_11 rfl (lv_at hl 0 rfl) ?_
    refine lv_aload_n hx hb dX3_guessIn_12 rfl (lv_at hl 1 rfl) ?_
    refine ts_get (C := RX2) (T := TX2) (N := 4) (v := .ref (b + (4 + 2 * f))) hx hb hts hi2 hown hK hW (3 + 2 * f) (by omega) (cel_fn (by omega)) rfl 0 (by decide) (List.mem_of_getElem? (i := 2) rfl) rfl dX3_guessIn_13 ?_
    refine lv_iconst (v := nI 0) hx hb dX3_guessIn_16 (by decide) ?_
    refine ts_iald (v := nI (u.1.2 f 0)) hx hb hK hW (4 + 2 * f) (by omega) 0 (cel_sp (by omega)) rfl (by decide) (by decide) rfl dX3_guessIn_17 ?_
    have hq3 := hwf.stp (i := f) (j := 0) (by omega) (by omega)
    refine ts_retI (va_runV (As := [.int (nI (u.1.2 f 0))]) (rest := []) ⟨hx, hb, hml, hown, hts⟩ (k_X3_needOf l D q b s.heap.size u (u.1.2 f 0) hwf (by omega)) (cwV 1 hts gX3_guessIn_X3_needOf rfl rfl rfl (by decide +kernel) ⟨Nat.le_of_ble_eq_true rfl, Nat.le_of_ble_eq_true rfl⟩) (ts_preV hK hN hW 1 (by decide) cel_pr rfl) rfl rfl hl.1 rfl (lv_room (Nat.le_of_ble_eq_true rfl)) dX3_guessIn_18 ⟨Nat.zero_le _, Nat.zero_le _⟩) hS (fun x h => ts_Aup hS.1 h) (fun r4 u5 H locs hp6 hW _ _ hS => ?_)
    have hp6r : r4 = nI (needP u.1 (u.1.2 f 0)) := hp6.1
    have hp6u : u5 = u := hp6.2
    rw [hp6r]
    rw [hp6u] at hW
    have hq7 := needP_le hwf (v := u.1.2 f 0) (by unfold okS; omega)
    exact ts_iret (u := u) (v := nI (needP u.1 (u.1.2 f 0))) C0 hW hS (by exact ⟨congrArg nI (by unfold guessI; split <;> first | rfl | (exfalso; omega)), rfl⟩) dX3_guessIn_21
  rw [ts_eq0 (by omega)] at c2
  refine lv_iconst (v := nI 3) hx hb dX3_guessIn_7 (by decide) ?_
  refine lv_goto (tgt := 21) hx hb dX3_guessIn_8 (by decide) ?_
  exact ts_iret (u := u) (v := nI 3) C0 hW hS (by exact ⟨congrArg nI (by unfold guessI; split <;> first | rfl | (exfalso; omega)), rfl⟩) dX3_guessIn_21
set_option maxHeartbeats 4000000 in
set_option maxRecDepth 100000 in
theorem k_X3_guessOut (l : Launch) (D : va_G) (q : CQ) (b sz : Nat) (u : ST) (f : Nat) (hwf : WP u.1) (hf : f < 10) : Met l yX3_guessOut wsX3_guessOut ({ frames := 2, cells := 0, slots := 0, locals := 41 } : Room) (va_Pc [.ref (b + 1), .ref (b + (3 + 2 * f))] (Pr D q b sz u)) (cI D q b sz (fun r u' => r = nI (guessO u.1 f) ∧ u' = u)) 0 0 (ts_A b 52 sz) := by
  refine ts_met (by decide) rfl (Nat.le_of_ble_eq_true rfl) ?_
  intro p e s m below meth c C0 hX ls hl
  obtain ⟨hsz, hW, hK, hN⟩ := hX
  subst hsz
  obtain ⟨hx, hb, hml, hown, hts, -, -, -⟩ := id C0
  have hW : ts_W D b 52 (cel q b u) s.heap := hW
  have hS : va_S (ts_A b 52 s.heap.size) s.heap s.heap [] := va_S.rf
  have hB : ∀ k, k < 52 → ts_A b 52 s.heap.size (b + k) := fun k hk => ts_Ain hk
  have hi2 : ∀ w ∈ wsX20, w ∈ wsX3_guessOut := ts_lays 15 rfl
  have hl : lv_has ls 2 [(0, .ref (b + 1)), (1, .ref (b + (3 + 2 * f)))] := hl
  have hs := hwf.sz
  refine lv_aload_n hx hb dX3_guessOut_0 rfl (lv_at hl 1 rfl) ?_
  refine ts_get (C := RX2) (T := TX2) (N := 4) (v := .int (nI (u.1.1 (20 + f)))) hx hb hts hi2 hown hK hW (3 + 2 * f) (by omega) (cel_fn (by omega)) rfl 1 (by decide) (List.mem_of_getElem? (i := 1) rfl) rfl dX3_guessOut_1 ?_
  have hq1 := hwf.fsz (i := f) (by omega)
  refine lv_if_ne (tgt := 11) hx hb dX3_guessOut_4 (by decide) (fun c2 => ?_) (fun c2 => ?_)
  · skip
    rw [ts_eq0 (by omega)] at c2
    refine lv_aload_n hx hb dX3_guessOut_11 rfl (lv_at hl 0 rfl) ?_
    refine lv_aload_n hx hb dX3_guessOut_12 rfl (lv_at hl 1 rfl) ?_
    refine ts_get (C := RX2) (T := TX2) (N := 4) (v := .ref (b + (4 + 2 * f))) hx hb hts hi2 hown hK hW (3 + 2 * f) (by omega) (cel_fn (by omega)) rfl 0 (by decide) (List.mem_of_getElem? (i := 2) rfl) rfl dX3_guessOut_13 ?_
    refine lv_aload_n hx hb dX3_guessOut_16 rfl (lv_at hl 1 rfl) ?_
    refine ts_get (C := RX2) (T := TX2) (N := 4) (v := .int (nI (u.1.1 (20 + f)))) hx hb hts hi2 hown hK hW (3 + 2 * f) (by omega) (cel_fn (by omega)) rfl 1 (by decide) (List.mem_of_getElem? (i := 1) rfl) rfl dX3_guessOut_17 ?_
    have hq3 := hwf.fsz (i := f) (by omega)
    refine lv_iconst (v := nI 1) hx hb dX3_guessOut_20 (by decide) ?_
    refine ts_isub (v := nI ((u.1.1 (20 + f)) - 1)) hx hb dX3_guessOut_21 (pk_sub (by omega)) ?_
    refine ts_iald (v := nI (u.1.2 f ((u.1.1 (20 + f)) - 1))) hx hb hK hW (4 + 2 * f) (by omega) 0 (cel_sp (by omega)) rfl (by omega) (by decide) rfl dX3_guessOut_22 ?_
    have hq4 := hwf.stp (i := f) (j := (u.1.1 (20 + f)) - 1) (by omega) (by omega)
    refine ts_retI (va_runV (As := [.int (nI (u.1.2 f ((u.1.1 (20 + f)) - 1)))]) (rest := []) ⟨hx, hb, hml, hown, hts⟩ (k_X3_giftOf l D q b s.heap.size u (u.1.2 f ((u.1.1 (20 + f)) - 1)) hwf (by omega)) (cwV 1 hts gX3_guessOut_X3_giftOf rfl rfl rfl (by decide +kernel) ⟨Nat.le_of_ble_eq_true rfl, Nat.le_of_ble_eq_true rfl⟩) (ts_preV hK hN hW 1 (by decide) cel_pr rfl) rfl rfl hl.1 rfl (lv_room (Nat.le_of_ble_eq_true rfl)) dX3_guessOut_23 ⟨Nat.zero_le _, Nat.zero_le _⟩) hS (fun x h => ts_Aup hS.1 h) (fun r5 u6 H locs hp7 hW _ _ hS => ?_)
    have hp7r : r5 = nI (giftP u.1 (u.1.2 f ((u.1.1 (20 + f)) - 1))) := hp7.1
    have hp7u : u6 = u := hp7.2
    rw [hp7r]
    rw [hp7u] at hW
    have hq8 := giftP_le hwf (v := u.1.2 f ((u.1.1 (20 + f)) - 1)) (by unfold okS; omega)
    exact ts_iret (u := u) (v := nI (giftP u.1 (u.1.2 f ((u.1.1 (20 + f)) - 1)))) C0 hW hS (by exact ⟨congrArg nI (by unfold guessO; split <;> first | rfl | (exfalso; omega)), rfl⟩) dX3_guessOut_26
  rw [ts_eq0 (by omega)] at c2
  refine lv_iconst (v := nI 3) hx hb dX3_guessOut_7 (by decide) ?_
  refine lv_goto (tgt := 26) hx hb dX3_guessOut_8 (by decide) ?_
  exact ts_iret (u := u) (v := nI 3) C0 hW hS (by exact ⟨congrArg nI (by unfold guessO; split <;> first | rfl | (exfalso; omega)), rfl⟩) dX3_guessOut_26
end
section
set_option maxHeartbeats 4000000 in
set_option maxRecDepth 100000 in
theorem k_X3_checked (l : Launch) (D : va_G) (q : CQ) (b sz : Nat) (u : ST) (f : Nat) (hwf : WP u.1) (hf : f < 10) : Met l yX3_checked wsX3_checked ({ frames := 2, cells := 0, slots := 0, locals := 41 } : Room) (va_Pc [.ref (b + 1), .int (nI f)] (Pr D q b sz u)) (cR D q b sz 23 (fun u' => u' = (u.1, chkA u.1 f, u.2.2))) 0 0 (ts_A b 52 sz) := by
  refine ts_met (by decide) rfl (Nat.le_of_ble_eq_true rfl) ?_
  intro p e s m below meth c C0 hX ls hl
  obtain ⟨hsz, hW, hK, hN⟩ := hX
  subst hsz
  obtain ⟨hx, hb, hml, hown, hts, -, -, -⟩ := id C0
  have hW : ts_W D b 52 (cel q b u) s.heap := hW
  have hS : va_S (ts_A b 52 s.heap.size) s.heap s.heap [] := va_S.rf
  have hB : ∀ k, k < 52 → ts_A b 52 s.heap.size (b + k) := fun k hk => ts_Ain hk
  have hi2 : ∀ w ∈ wsX20, w ∈ wsX3_checked := ts_lays 40 rfl
  have hi3 : ∀ w ∈ wsX30, w ∈ wsX3_checked := ts_lays 35 rfl
  have hl : lv_has ls 6 [(0, .ref (b + 1)), (1, .int (nI f))] := hl
  have hs := hwf.sz
  refine lv_aload_n hx hb dX3_checked_0 rfl (lv_at hl 0 rfl) ?_
  refine ts_get (C := RX3) (T := TX3) (N := 5) (v := .ref (b + 2)) hx hb hts hi3 hown hK hW 1 (by decide) cel_pr rfl 0 (by decide) (List.mem_of_getElem? (i := 1) rfl) rfl dX3_checked_1 ?_
  refine lv_iload_n hx hb dX3_checked_4 rfl (lv_at hl 1 rfl) ?_
  refine ts_aald (a := b + (3 + 2 * f)) hx hb hK hW 2 (by decide) 1 cel_fs rfl rfl (by omega) (by decide) rfl dX3_checked_5 ?_
  refine lv_astore_n (lv' := [(2, .ref (b + (3 + 2 * f))), (0, .ref (b + 1)), (1, .int (nI f))]) hx hb dX3_checked_6 rfl hl (by decide) rfl (fun ls hl => ?_)
  refine lv_aload_n hx hb dX3_checked_7 rfl (lv_at hl 1 rfl) ?_
  refine ts_get (C := RX3) (T := TX3) (N := 5) (v := .ref (b + 23)) hx hb hts hi3 hown hK hW 1 (by decide) cel_pr rfl 1 (by decide) (List.mem_of_getElem? (i := 2) rfl) rfl dX3_checked_8 ?_
  refine ts_retV (va_runV (As := []) (rest := []) ⟨hx, hb, hml, hown, hts⟩ (k_X1_clear l D q b s.heap.size u ) (cwV 0 hts gX3_checked_X1_clear rfl rfl rfl (by decide +kernel) ⟨Nat.le_of_ble_eq_true rfl, Nat.le_of_ble_eq_true rfl⟩) (ts_preV hK hN hW 23 (by decide) cel_fi rfl) rfl rfl hl.1 rfl (lv_room (Nat.le_of_ble_eq_true rfl)) dX3_checked_11 ⟨Nat.zero_le _, Nat.zero_le _⟩) hS (fun x h => ts_Aup hS.1 h) (fun u2 H locs hp3 hW _ _ hS => ?_)
  have hp3u : u2 = (u.1, (0, -1, 0), u.2.2.1, u.2.2.2) := hp3
  rw [hp3u] at hW
  refine lv_aload_n hx hb dX3_checked_14 rfl (lv_at hl 0 rfl) ?_
  refine ts_get (C := RX2) (T := TX2) (N := 4) (v := .int (nI (u.1.1 (30 + f)))) hx hb hts hi2 hown hK hW (3 + 2 * f) (by omega) (cel_fn (by omega)) rfl 2 (by decide) (List.mem_of_getElem? (i := 3) rfl) rfl dX3_checked_15 ?_
  have hq4 := hwf.fin (i := f) (by omega)
  refine lv_istore_n (lv' := [(3, .int (nI (u.1.1 (30 + f)))), (2, .ref (b + (3 + 2 * f))), (0, .ref (b + 1)), (1, .int (nI f))]) hx hb dX3_checked_18 rfl hl (by decide) rfl (fun ls hl => ?_)
  refine lv_iconst (v := nI 0) hx hb dX3_checked_19 (by decide) ?_
  refine lv_istore (lv' := [(4, .int (nI 0)), (3, .int (nI (u.1.1 (30 + f)))), (2, .ref (b + (3 + 2 * f))), (0, .ref (b + 1)), (1, .int (nI f))]) hx hb dX3_checked_20 hl (by decide) rfl (fun ls hl => ?_)
  have key5 : ∀ (fu : Nat) (k : Nat), (k ≤ u.1.1 (20 + f)) → (thereP u.1 f k ≤ 3) → (u.1.1 (20 + f) - k) < fu → ∀ (H : Heap) (locs : List Loc), ts_W D b 52 (cel q b (u.1, (chkN u.1 f k), u.2.2.1, u.2.2.2)) H → va_S (ts_A b 52 s.heap.size) s.heap H locs → ∀ ls : Array Slot, lv_has ls 6 [(4, .int (nI k)), (3, .int (nI (thereP u.1 f k))), (2, .ref (b + (3 + 2 * f))), (0, .ref (b + 1)), (1, .int (nI f))] → W p l e ({ frames := 2, cells := 0, slots := 0, locals := 41 } : Room) s m [.ref (b + 1), .int (nI f)].toArray below meth c H locs 0 0 (MQ below (cR D q b s.heap.size 23 (fun u' => u' = (u.1, chkA u.1 f, u.2.2))) [.ref (b + 1), .int (nI f)].toArray s 0 0 (ts_A b 52 s.heap.size)) (F0 m 22 ls []) := by
    intro fu
    induction fu with
    | zero => intro k _ _ hn; exact absurd hn (Nat.not_lt_zero _)
    | succ fu ih6 =>
      intro k hk ht hn H locs hW hS ls hl
      have hq0 := chkN_le u.1 f k
      have hq1 := hwf.fsz hf
      refine lv_iload hx hb dX3_checked_22 (lv_at hl 0 rfl) ?_
      refine lv_aload_n hx hb dX3_checked_24 rfl (lv_at hl 2 rfl) ?_
      refine ts_get (C := RX2) (T := TX2) (N := 4) (v := .int (nI (u.1.1 (20 + f)))) hx hb hts hi2 hown hK hW (3 + 2 * f) (by omega) (cel_fn (by omega)) rfl 1 (by decide) (List.mem_of_getElem? (i := 4) rfl) rfl dX3_checked_25 ?_
      have hq7 := hwf.fsz (i := f) (by omega)
      refine lv_icmp_ge (tgt := 69) hx hb dX3_checked_28 (by decide) (fun c8 => ?_) (fun c8 => ?_)
      · skip
        rw [nI_leI (by omega) (by omega)] at c8
        refine lv_aload_n hx hb dX3_checked_69 rfl (lv_at hl 3 rfl) ?_
        refine ts_get (C := RX3) (T := TX3) (N := 5) (v := .ref (b + 23)) hx hb hts hi3 hown hK hW 1 (by decide) cel_pr rfl 1 (by decide) (List.mem_of_getElem? (i := 2) rfl) rfl dX3_checked_70 ?_
        refine lv_aload_n hx hb dX3_checked_73 rfl (lv_at hl 2 rfl) ?_
        refine ts_get (C := RX2) (T := TX2) (N := 4) (v := .int (nI (u.1.1 (40 + f)))) hx hb hts hi2 hown hK hW (3 + 2 * f) (by omega) (cel_fn (by omega)) rfl 3 (by decide) (List.mem_of_getElem? (i := 6) rfl) rfl dX3_checked_74 ?_
        have hq9 := hwf.fout (i := f) (by omega)
        refine lv_iload_n hx hb dX3_checked_77 rfl (lv_at hl 1 rfl) ?_
        refine lv_aload_n hx hb dX3_checked_78 rfl (lv_at hl 2 rfl) ?_
        refine ts_get (C := RX2) (T := TX2) (N := 4) (v := .int (nI (u.1.1 (20 + f)))) hx hb hts hi2 hown hK hW (3 + 2 * f) (by omega) (cel_fn (by omega)) rfl 1 (by decide) (List.mem_of_getElem? (i := 4) rfl) rfl dX3_checked_79 ?_
        have hq10 := hwf.fsz (i := f) (by omega)
        refine ts_retV (va_runV (As := [.int (nI (u.1.1 (40 + f))), .int (nI (thereP u.1 f k)), .int (nI (u.1.1 (20 + f)))]) (rest := []) ⟨hx, hb, hml, hown, hts⟩ (k_X1_need l D q b H.size (u.1, (chkN u.1 f k), u.2.2.1, u.2.2.2) (u.1.1 (40 + f)) (thereP u.1 f k) (u.1.1 (20 + f)) (by omega) (by omega) (by omega) (by show (chkN u.1 f k).1 < 1000; omega)) (cwV 3 hts gX3_checked_X1_need rfl rfl rfl (by decide +kernel) ⟨Nat.le_of_ble_eq_true rfl, Nat.le_of_ble_eq_true rfl⟩) (ts_preV hK hN hW 23 (by decide) cel_fi rfl) rfl rfl hl.1 rfl (lv_room (Nat.le_of_ble_eq_true rfl)) dX3_checked_82 ⟨Nat.zero_le _, Nat.zero_le _⟩) hS (fun x h => ts_Aup hS.1 h) (fun u12 H locs hp13 hW _ _ hS => ?_)
        have hp13u : u12 = (u.1, (needF (chkN u.1 f k) (u.1.1 (40 + f)) (thereP u.1 f k) (u.1.1 (20 + f))), u.2.2.1, u.2.2.2) := hp13
        rw [hp13u] at hW
        refine lv_aload_n hx hb dX3_checked_85 rfl (lv_at hl 3 rfl) ?_
        refine ts_get (C := RX3) (T := TX3) (N := 5) (v := .ref (b + 23)) hx hb hts hi3 hown hK hW 1 (by decide) cel_pr rfl 1 (by decide) (List.mem_of_getElem? (i := 2) rfl) rfl dX3_checked_86 ?_
        exact ts_aret (u := (u.1, (needF (chkN u.1 f k) (u.1.1 (40 + f)) (thereP u.1 f k) (u.1.1 (20 + f))), u.2.2.1, u.2.2.2)) (k := 23) C0 (Or.inl ⟨_, rfl⟩) hW hS (by (show _ = (u.1, chkA u.1 f, u.2.2)); unfold chkA; rw [show u.1.1 (20 + f) = k by omega]) dX3_checked_89
      rw [nI_leI (by omega) (by omega)] at c8
      refine lv_aload_n hx hb dX3_checked_31 rfl (lv_at hl 2 rfl) ?_
      refine ts_get (C := RX2) (T := TX2) (N := 4) (v := .ref (b + (4 + 2 * f))) hx hb hts hi2 hown hK hW (3 + 2 * f) (by omega) (cel_fn (by omega)) rfl 0 (by decide) (List.mem_of_getElem? (i := 5) rfl) rfl dX3_checked_32 ?_
      refine lv_iload hx hb dX3_checked_35 (lv_at hl 0 rfl) ?_
      refine ts_iald (v := nI (u.1.2 f k)) hx hb hK hW (4 + 2 * f) (by omega) 0 (cel_sp (by omega)) rfl (by omega) (by decide) rfl dX3_checked_37 ?_
      have hq14 := hwf.stp (i := f) (j := k) (by omega) (by omega)
      refine lv_istore (lv' := [(5, .int (nI (u.1.2 f k))), (4, .int (nI k)), (3, .int (nI (thereP u.1 f k))), (2, .ref (b + (3 + 2 * f))), (0, .ref (b + 1)), (1, .int (nI f))]) hx hb dX3_checked_38 hl (by decide) rfl (fun ls hl => ?_)
      refine lv_aload_n hx hb dX3_checked_40 rfl (lv_at hl 4 rfl) ?_
      refine ts_get (C := RX3) (T := TX3) (N := 5) (v := .ref (b + 23)) hx hb hts hi3 hown hK hW 1 (by decide) cel_pr rfl 1 (by decide) (List.mem_of_getElem? (i := 2) rfl) rfl dX3_checked_41 ?_
      refine lv_aload_n hx hb dX3_checked_44 rfl (lv_at hl 4 rfl) ?_
      refine lv_iload hx hb dX3_checked_45 (lv_at hl 0 rfl) ?_
      refine ts_retI (va_runV (As := [.int (nI (u.1.2 f k))]) (rest := [.ref (b + 23)]) ⟨hx, hb, hml, hown, hts⟩ (k_X3_needOf l D q b H.size (u.1, (chkN u.1 f k), u.2.2.1, u.2.2.2) (u.1.2 f k) hwf (by omega)) (cwV 1 hts gX3_checked_X3_needOf rfl rfl rfl (by decide +kernel) ⟨Nat.le_of_ble_eq_true rfl, Nat.le_of_ble_eq_true rfl⟩) (ts_preV hK hN hW 1 (by decide) cel_pr rfl) rfl rfl hl.1 rfl (lv_room (Nat.le_of_ble_eq_true rfl)) dX3_checked_47 ⟨Nat.zero_le _, Nat.zero_le _⟩) hS (fun x h => ts_Aup hS.1 h) (fun r15 u16 H locs hp17 hW _ _ hS => ?_)
      have hp17r : r15 = nI (needP u.1 (u.1.2 f k)) := hp17.1
      have hp17u : u16 = (u.1, (chkN u.1 f k), u.2.2.1, u.2.2.2) := hp17.2
      rw [hp17r]
      rw [hp17u] at hW
      have hq18 := needP_le hwf (v := u.1.2 f k) (by unfold okS; omega)
      refine lv_iload_n hx hb dX3_checked_50 rfl (lv_at hl 2 rfl) ?_
      refine lv_iload hx hb dX3_checked_51 (lv_at hl 1 rfl) ?_
      refine ts_retV (va_runV (As := [.int (nI (needP u.1 (u.1.2 f k))), .int (nI (thereP u.1 f k)), .int (nI k)]) (rest := []) ⟨hx, hb, hml, hown, hts⟩ (k_X1_need l D q b H.size (u.1, (chkN u.1 f k), u.2.2.1, u.2.2.2) (needP u.1 (u.1.2 f k)) (thereP u.1 f k) k (by omega) (by omega) (by omega) (by show (chkN u.1 f k).1 < 1000; omega)) (cwV 3 hts gX3_checked_X1_need rfl rfl rfl (by decide +kernel) ⟨Nat.le_of_ble_eq_true rfl, Nat.le_of_ble_eq_true rfl⟩) (ts_preV hK hN hW 23 (by decide) cel_fi rfl) rfl rfl hl.1 rfl (lv_room (Nat.le_of_ble_eq_true rfl)) dX3_checked_53 ⟨Nat.zero_le _, Nat.zero_le _⟩) hS (fun x h => ts_Aup hS.1 h) (fun u20 H locs hp21 hW _ _ hS => ?_)
      have hp21u : u20 = (u.1, (needF (chkN u.1 f k) (needP u.1 (u.1.2 f k)) (thereP u.1 f k) k), u.2.2.1, u.2.2.2) := hp21
      rw [hp21u] at hW
      refine lv_aload_n hx hb dX3_checked_56 rfl (lv_at hl 4 rfl) ?_
      refine lv_iload hx hb dX3_checked_57 (lv_at hl 0 rfl) ?_
      refine ts_retI (va_runV (As := [.int (nI (u.1.2 f k))]) (rest := []) ⟨hx, hb, hml, hown, hts⟩ (k_X3_giftOf l D q b H.size (u.1, (needF (chkN u.1 f k) (needP u.1 (u.1.2 f k)) (thereP u.1 f k) k), u.2.2.1, u.2.2.2) (u.1.2 f k) hwf (by omega)) (cwV 1 hts gX3_checked_X3_giftOf rfl rfl rfl (by decide +kernel) ⟨Nat.le_of_ble_eq_true rfl, Nat.le_of_ble_eq_true rfl⟩) (ts_preV hK hN hW 1 (by decide) cel_pr rfl) rfl rfl hl.1 rfl (lv_room (Nat.le_of_ble_eq_true rfl)) dX3_checked_59 ⟨Nat.zero_le _, Nat.zero_le _⟩) hS (fun x h => ts_Aup hS.1 h) (fun r22 u23 H locs hp24 hW _ _ hS => ?_)
      have hp24r : r22 = nI (giftP u.1 (u.1.2 f k)) := hp24.1
      have hp24u : u23 = (u.1, (needF (chkN u.1 f k) (needP u.1 (u.1.2 f k)) (thereP u.1 f k) k), u.2.2.1, u.2.2.2) := hp24.2
      rw [hp24r]
      rw [hp24u] at hW
      have hq25 := giftP_le hwf (v := u.1.2 f k) (by unfold okS; omega)
      refine lv_istore_n (lv' := [(3, .int (nI (giftP u.1 (u.1.2 f k)))), (5, .int (nI (u.1.2 f k))), (4, .int (nI k)), (2, .ref (b + (3 + 2 * f))), (0, .ref (b + 1)), (1, .int (nI f))]) hx hb dX3_checked_62 rfl hl (by decide) rfl (fun ls hl => ?_)
      refine lv_iinc (v := nI (k + 1)) (lv' := [(4, .int (nI (k + 1))), (3, .int (nI (giftP u.1 (u.1.2 f k)))), (5, .int (nI (u.1.2 f k))), (2, .ref (b + (3 + 2 * f))), (0, .ref (b + 1)), (1, .int (nI f))]) hx hb dX3_checked_63 hl (k := 2) rfl (nI_add k 1) (by decide) rfl (fun ls hl => ?_)
      refine lv_goto (tgt := 22) hx hb dX3_checked_66 (by decide) ?_
      have e26 : thereP u.1 f (k + 1) = giftP u.1 (u.1.2 f k) := by first | rfl | simp [thereP]
      exact ih6 (k + 1) (by omega) (by show giftP _ _ ≤ 3; omega) (by omega) H locs hW hS ls (show lv_has ls 6 [(4, .int (nI (k + 1))), (3, .int (nI (thereP u.1 f (k + 1)))), (2, .ref (b + (3 + 2 * f))), (0, .ref (b + 1)), (1, .int (nI f))] from by rw [e26]; exact lv_sub hl [0, 1, 3, 4, 5] rfl)
  have e27 : thereP u.1 f 0 = u.1.1 (30 + f) := by first | rfl | simp [thereP]
  exact key5 _ 0 (by omega) (hwf.fin hf) (Nat.lt_succ_self _) _ _ hW hS ls (show lv_has ls 6 [(4, .int (nI 0)), (3, .int (nI (thereP u.1 f 0))), (2, .ref (b + (3 + 2 * f))), (0, .ref (b + 1)), (1, .int (nI f))] from by rw [e27]; exact lv_sub hl [0, 1, 2, 3, 4] rfl)
set_option maxHeartbeats 4000000 in
set_option maxRecDepth 100000 in
theorem k_X3_typable (l : Launch) (D : va_G) (q : CQ) (b sz : Nat) (u : ST)  (hwf : WP u.1) : Met l yX3_typable wsX3_typable ({ frames := 3, cells := 0, slots := 0, locals := 66 } : Room) (va_Pc [.ref (b + 1)] (Pr D q b sz u)) (cI D q b sz (fun r u' => r = nI (typN u.1 (u.1.1 1)) ∧ ∃ F : FT, u' = (u.1, F, u.2.2))) 0 0 (ts_A b 52 sz) := by
  refine ts_met (by decide) rfl (Nat.le_of_ble_eq_true rfl) ?_
  intro p e s m below meth c C0 hX ls hl
  obtain ⟨hsz, hW, hK, hN⟩ := hX
  subst hsz
  obtain ⟨hx, hb, hml, hown, hts, -, -, -⟩ := id C0
  have hW : ts_W D b 52 (cel q b u) s.heap := hW
  have hS : va_S (ts_A b 52 s.heap.size) s.heap s.heap [] := va_S.rf
  have hB : ∀ k, k < 52 → ts_A b 52 s.heap.size (b + k) := fun k hk => ts_Ain hk
  have hi3 : ∀ w ∈ wsX30, w ∈ wsX3_typable := ts_lays 46 rfl
  have hl : lv_has ls 3 [(0, .ref (b + 1))] := hl
  have hs := hwf.sz
  refine lv_iconst (v := nI 0) hx hb dX3_typable_0 (by decide) ?_
  refine lv_istore_n (lv' := [(1, .int (nI 0)), (0, .ref (b + 1))]) hx hb dX3_typable_1 rfl hl (by decide) rfl (fun ls hl => ?_)
  refine lv_iconst (v := nI 0) hx hb dX3_typable_2 (by decide) ?_
  refine lv_istore_n (lv' := [(2, .int (nI 0)), (1, .int (nI 0)), (0, .ref (b + 1))]) hx hb dX3_typable_3 rfl hl (by decide) rfl (fun ls hl => ?_)
  have key1 : ∀ (fu : Nat) (k : Nat) (F : FT), (k ≤ u.1.1 1) → (u.1.1 1 - k) < fu → ∀ (H : Heap) (locs : List Loc), ts_W D b 52 (cel q b (u.1, F, u.2.2.1, u.2.2.2)) H → va_S (ts_A b 52 s.heap.size) s.heap H locs → ∀ ls : Array Slot, lv_has ls 3 [(2, .int (nI k)), (1, .int (nI (typN u.1 k))), (0, .ref (b + 1))] → W p l e ({ frames := 3, cells := 0, slots := 0, locals := 66 } : Room) s m [.ref (b + 1)].toArray below meth c H locs 0 0 (MQ below (cI D q b s.heap.size (fun r u' => r = nI (typN u.1 (u.1.1 1)) ∧ ∃ F : FT, u' = (u.1, F, u.2.2))) [.ref (b + 1)].toArray s 0 0 (ts_A b 52 s.heap.size)) (F0 m 4 ls []) := by
    intro fu
    induction fu with
    | zero => intro k F _ hn; exact absurd hn (Nat.not_lt_zero _)
    | succ fu ih2 =>
      intro k F hk hn H locs hW hS ls hl
      refine lv_iload_n hx hb dX3_typable_4 rfl (lv_at hl 0 rfl) ?_
      refine lv_aload_n hx hb dX3_typable_5 rfl (lv_at hl 2 rfl) ?_
      refine ts_get (C := RX3) (T := TX3) (N := 5) (v := .int (nI (u.1.1 1))) hx hb hts hi3 hown hK hW 1 (by decide) cel_pr rfl 2 (by decide) (List.mem_of_getElem? (i := 1) rfl) rfl dX3_typable_6 ?_
      refine lv_icmp_ge (tgt := 35) hx hb dX3_typable_9 (by decide) (fun c3 => ?_) (fun c3 => ?_)
      · skip
        rw [nI_leI (by omega) (by omega)] at c3
        refine lv_iload_n hx hb dX3_typable_35 rfl (lv_at hl 1 rfl) ?_
        exact ts_iret (u := (u.1, F, u.2.2.1, u.2.2.2)) (v := nI (typN u.1 k)) C0 hW hS (by rw [show u.1.1 1 = k by omega]; exact ⟨rfl, _, rfl⟩) dX3_typable_36
      rw [nI_leI (by omega) (by omega)] at c3
      refine lv_aload_n hx hb dX3_typable_12 rfl (lv_at hl 2 rfl) ?_
      refine lv_iload_n hx hb dX3_typable_13 rfl (lv_at hl 0 rfl) ?_
      refine ts_retR (va_runV (As := [.int (nI k)]) (rest := []) ⟨hx, hb, hml, hown, hts⟩ (k_X3_checked l D q b H.size (u.1, F, u.2.2.1, u.2.2.2) k hwf (by omega)) (cwV 1 hts gX3_typable_X3_checked rfl rfl rfl (by decide +kernel) ⟨Nat.le_of_ble_eq_true rfl, Nat.le_of_ble_eq_true rfl⟩) (ts_preV hK hN hW 1 (by decide) cel_pr rfl) rfl rfl hl.1 rfl (lv_room (Nat.le_of_ble_eq_true rfl)) dX3_typable_14 ⟨Nat.zero_le _, Nat.zero_le _⟩) hS (fun x h => ts_Aup hS.1 h) (fun u5 H locs hp6 hW _ _ hS => ?_)
      have hp6u : u5 = (u.1, (chkA u.1 k), u.2.2.1, u.2.2.2) := hp6
      rw [hp6u] at hW
      have hq7 := chkA_le hwf (f := k) (by omega)
      refine ts_retI (va_runV (As := []) (rest := []) ⟨hx, hb, hml, hown, hts⟩ (k_X1_areNone l D q b H.size (u.1, (chkA u.1 k), u.2.2.1, u.2.2.2) (by show (chkA u.1 k).1 < 1000; omega) (by show (chkA u.1 k).2.2 < 1000; omega)) (cwV 0 hts gX3_typable_X1_areNone rfl rfl rfl (by decide +kernel) ⟨Nat.le_of_ble_eq_true rfl, Nat.le_of_ble_eq_true rfl⟩) (ts_preV hK hN hW 23 (by decide) cel_fi rfl) rfl rfl hl.1 rfl (lv_room (Nat.le_of_ble_eq_true rfl)) dX3_typable_17 ⟨Nat.zero_le _, Nat.zero_le _⟩) hS (fun x h => ts_Aup hS.1 h) (fun r8 u9 H locs hp10 hW _ _ hS => ?_)
      have hp10r : r8 = b2i (noneF (chkA u.1 k)) := hp10.1
      have hp10u : u9 = (u.1, (chkA u.1 k), u.2.2.1, u.2.2.2) := hp10.2
      rw [hp10r]
      rw [hp10u] at hW
      refine lv_if_eq (tgt := 29) hx hb dX3_typable_20 (by decide) (fun c11 => ?_) (fun c11 => ?_)
      · skip
        have c11 := ts_bf c11
        refine lv_iinc (v := nI (k + 1)) (lv' := [(2, .int (nI (k + 1))), (1, .int (nI (typN u.1 k))), (0, .ref (b + 1))]) hx hb dX3_typable_29 hl (k := 0) rfl (nI_add k 1) (by decide) rfl (fun ls hl => ?_)
        refine lv_goto (tgt := 4) hx hb dX3_typable_32 (by decide) ?_
        have e12 : typN u.1 (k + 1) = typN u.1 k := by first | rfl | simp [typN, okF, *]
        exact ih2 (k + 1) (chkA u.1 k) (by omega) (by omega) H locs hW hS ls (show lv_has ls 3 [(2, .int (nI (k + 1))), (1, .int (nI (typN u.1 (k + 1)))), (0, .ref (b + 1))] from by rw [e12]; exact lv_sub hl [0, 1, 2] rfl)
      have c11 := ts_bt c11
      refine lv_iload_n hx hb dX3_typable_23 rfl (lv_at hl 1 rfl) ?_
      refine lv_iload_n hx hb dX3_typable_24 rfl (lv_at hl 0 rfl) ?_
      refine ts_retI (va_runSN (As := [.int (nI (typN u.1 k)), .int (nI k)]) (rest := []) ⟨hx, hb, hml, hown, hts⟩ (k_X5_with l D q b H.size (u.1, (chkA u.1 k), u.2.2.1, u.2.2.2) (typN u.1 k) k (by omega)) ⟨va_cnB 2 hts gX3_typable_X5_with_n72 rfl rfl rfl (hN _ (List.mem_of_getElem? (i := 6) rfl)) (hts _ (List.mem_of_getElem? (i := 26) rfl)) (by decide +kernel) ⟨Nat.le_of_ble_eq_true rfl, Nat.le_of_ble_eq_true rfl⟩, hts _ (List.mem_of_getElem? (i := 44) rfl), trivial⟩ (ts_preS hK hN hW) rfl rfl hl.1 rfl (lv_room (Nat.le_of_ble_eq_true rfl)) dX3_typable_25 ⟨Nat.zero_le _, Nat.zero_le _⟩) hS (fun x h => ts_Aup hS.1 h) (fun r13 u14 H locs hp15 hW _ _ hS => ?_)
      have hp15r : r13 = nI (setB (typN u.1 k) k) := hp15.1
      have hp15u : u14 = (u.1, (chkA u.1 k), u.2.2.1, u.2.2.2) := hp15.2
      rw [hp15r]
      rw [hp15u] at hW
      refine lv_istore_n (lv' := [(1, .int (nI (setB (typN u.1 k) k))), (2, .int (nI k)), (0, .ref (b + 1))]) hx hb dX3_typable_28 rfl hl (by decide) rfl (fun ls hl => ?_)
      refine lv_iinc (v := nI (k + 1)) (lv' := [(2, .int (nI (k + 1))), (1, .int (nI (setB (typN u.1 k) k))), (0, .ref (b + 1))]) hx hb dX3_typable_29 hl (k := 1) rfl (nI_add k 1) (by decide) rfl (fun ls hl => ?_)
      refine lv_goto (tgt := 4) hx hb dX3_typable_32 (by decide) ?_
      have e16 : typN u.1 (k + 1) = setB (typN u.1 k) k := by first | rfl | simp [typN, okF, *]
      exact ih2 (k + 1) (chkA u.1 k) (by omega) (by omega) H locs hW hS ls (show lv_has ls 3 [(2, .int (nI (k + 1))), (1, .int (nI (typN u.1 (k + 1)))), (0, .ref (b + 1))] from by rw [e16]; exact lv_sub hl [0, 1, 2] rfl)
  have e17 : typN u.1 0 = 0 := by first | rfl | simp [typN, okF, *]
  exact key1 _ 0 u.2.1 (by omega) (Nat.lt_succ_self _) _ _ hW hS ls (show lv_has ls 3 [(2, .int (nI 0)), (1, .int (nI (typN u.1 0))), (0, .ref (b + 1))] from by rw [e17]; exact lv_sub hl [0, 1, 2] rfl)
set_option maxHeartbeats 4000000 in
set_option maxRecDepth 100000 in
theorem k_X3_allFaults (l : Launch) (D : va_G) (q : CQ) (b sz : Nat) (u : ST)  (hwf : WP u.1) : Met l yX3_allFaults wsX3_allFaults ({ frames := 3, cells := 0, slots := 0, locals := 66 } : Room) (va_Pc [.ref (b + 1)] (Pr D q b sz u)) (cI D q b sz (fun r u' => r = nI (fltN u.1 (u.1.1 1)) ∧ ∃ F : FT, u' = (u.1, F, u.2.2))) 0 0 (ts_A b 52 sz) := by
  refine ts_met (by decide) rfl (Nat.le_of_ble_eq_true rfl) ?_
  intro p e s m below meth c C0 hX ls hl
  obtain ⟨hsz, hW, hK, hN⟩ := hX
  subst hsz
  obtain ⟨hx, hb, hml, hown, hts, -, -, -⟩ := id C0
  have hW : ts_W D b 52 (cel q b u) s.heap := hW
  have hS : va_S (ts_A b 52 s.heap.size) s.heap s.heap [] := va_S.rf
  have hB : ∀ k, k < 52 → ts_A b 52 s.heap.size (b + k) := fun k hk => ts_Ain hk
  have hi1 : ∀ w ∈ wsX10, w ∈ wsX3_allFaults := ts_lays 46 rfl
  have hi3 : ∀ w ∈ wsX30, w ∈ wsX3_allFaults := ts_lays 41 rfl
  have hl : lv_has ls 3 [(0, .ref (b + 1))] := hl
  have hs := hwf.sz
  refine lv_iconst (v := nI 0) hx hb dX3_allFaults_0 (by decide) ?_
  refine lv_istore_n (lv' := [(1, .int (nI 0)), (0, .ref (b + 1))]) hx hb dX3_allFaults_1 rfl hl (by decide) rfl (fun ls hl => ?_)
  refine lv_iconst (v := nI 0) hx hb dX3_allFaults_2 (by decide) ?_
  refine lv_istore_n (lv' := [(2, .int (nI 0)), (1, .int (nI 0)), (0, .ref (b + 1))]) hx hb dX3_allFaults_3 rfl hl (by decide) rfl (fun ls hl => ?_)
  have key1 : ∀ (fu : Nat) (k : Nat) (F : FT), (k ≤ u.1.1 1) → (u.1.1 1 - k) < fu → ∀ (H : Heap) (locs : List Loc), ts_W D b 52 (cel q b (u.1, F, u.2.2.1, u.2.2.2)) H → va_S (ts_A b 52 s.heap.size) s.heap H locs → ∀ ls : Array Slot, lv_has ls 3 [(2, .int (nI k)), (1, .int (nI (fltN u.1 k))), (0, .ref (b + 1))] → W p l e ({ frames := 3, cells := 0, slots := 0, locals := 66 } : Room) s m [.ref (b + 1)].toArray below meth c H locs 0 0 (MQ below (cI D q b s.heap.size (fun r u' => r = nI (fltN u.1 (u.1.1 1)) ∧ ∃ F : FT, u' = (u.1, F, u.2.2))) [.ref (b + 1)].toArray s 0 0 (ts_A b 52 s.heap.size)) (F0 m 4 ls []) := by
    intro fu
    induction fu with
    | zero => intro k F _ hn; exact absurd hn (Nat.not_lt_zero _)
    | succ fu ih2 =>
      intro k F hk hn H locs hW hS ls hl
      refine lv_iload_n hx hb dX3_allFaults_4 rfl (lv_at hl 0 rfl) ?_
      refine lv_aload_n hx hb dX3_allFaults_5 rfl (lv_at hl 2 rfl) ?_
      refine ts_get (C := RX3) (T := TX3) (N := 5) (v := .int (nI (u.1.1 1))) hx hb hts hi3 hown hK hW 1 (by decide) cel_pr rfl 2 (by decide) (List.mem_of_getElem? (i := 1) rfl) rfl dX3_allFaults_6 ?_
      refine lv_icmp_ge (tgt := 29) hx hb dX3_allFaults_9 (by decide) (fun c3 => ?_) (fun c3 => ?_)
      · skip
        rw [nI_leI (by omega) (by omega)] at c3
        refine lv_iload_n hx hb dX3_allFaults_29 rfl (lv_at hl 1 rfl) ?_
        exact ts_iret (u := (u.1, F, u.2.2.1, u.2.2.2)) (v := nI (fltN u.1 k)) C0 hW hS (by rw [show u.1.1 1 = k by omega]; exact ⟨rfl, _, rfl⟩) dX3_allFaults_30
      rw [nI_leI (by omega) (by omega)] at c3
      refine lv_iload_n hx hb dX3_allFaults_12 rfl (lv_at hl 1 rfl) ?_
      refine lv_aload_n hx hb dX3_allFaults_13 rfl (lv_at hl 2 rfl) ?_
      refine lv_iload_n hx hb dX3_allFaults_14 rfl (lv_at hl 0 rfl) ?_
      refine ts_retR (va_runV (As := [.int (nI k)]) (rest := [.int (nI (fltN u.1 k))]) ⟨hx, hb, hml, hown, hts⟩ (k_X3_checked l D q b H.size (u.1, F, u.2.2.1, u.2.2.2) k hwf (by omega)) (cwV 1 hts gX3_allFaults_X3_checked rfl rfl rfl (by decide +kernel) ⟨Nat.le_of_ble_eq_true rfl, Nat.le_of_ble_eq_true rfl⟩) (ts_preV hK hN hW 1 (by decide) cel_pr rfl) rfl rfl hl.1 rfl (lv_room (Nat.le_of_ble_eq_true rfl)) dX3_allFaults_15 ⟨Nat.zero_le _, Nat.zero_le _⟩) hS (fun x h => ts_Aup hS.1 h) (fun u5 H locs hp6 hW _ _ hS => ?_)
      have hp6u : u5 = (u.1, (chkA u.1 k), u.2.2.1, u.2.2.2) := hp6
      rw [hp6u] at hW
      have hq7 := chkA_le hwf (f := k) (by omega)
      refine ts_get (C := RX1) (T := TX1) (N := 3) (v := .int (nI (((chkA u.1 k)).1))) hx hb hts hi1 hown hK hW 23 (by decide) cel_fi rfl 0 (by decide) (List.mem_of_getElem? (i := 2) rfl) rfl dX3_allFaults_18 ?_
      refine ts_iadd (v := nI ((fltN u.1 k) + (((chkA u.1 k)).1))) hx hb dX3_allFaults_21 (nI_add _ _) ?_
      refine lv_istore_n (lv' := [(1, .int (nI ((fltN u.1 k) + (((chkA u.1 k)).1)))), (2, .int (nI k)), (0, .ref (b + 1))]) hx hb dX3_allFaults_22 rfl hl (by decide) rfl (fun ls hl => ?_)
      refine lv_iinc (v := nI (k + 1)) (lv' := [(2, .int (nI (k + 1))), (1, .int (nI ((fltN u.1 k) + (((chkA u.1 k)).1)))), (0, .ref (b + 1))]) hx hb dX3_allFaults_23 hl (k := 1) rfl (nI_add k 1) (by decide) rfl (fun ls hl => ?_)
      refine lv_goto (tgt := 4) hx hb dX3_allFaults_26 (by decide) ?_
      have e8 : fltN u.1 (k + 1) = (fltN u.1 k) + (((chkA u.1 k)).1) := by first | rfl | simp [fltN, *]
      exact ih2 (k + 1) (chkA u.1 k) (by omega) (by omega) H locs hW hS ls (show lv_has ls 3 [(2, .int (nI (k + 1))), (1, .int (nI (fltN u.1 (k + 1)))), (0, .ref (b + 1))] from by rw [e8]; exact lv_sub hl [0, 1, 2] rfl)
  have e9 : fltN u.1 0 = 0 := by first | rfl | simp [fltN, *]
  exact key1 _ 0 u.2.1 (by omega) (Nat.lt_succ_self _) _ _ hW hS ls (show lv_has ls 3 [(2, .int (nI 0)), (1, .int (nI (fltN u.1 0))), (0, .ref (b + 1))] from by rw [e9]; exact lv_sub hl [0, 1, 2] rfl)
set_option maxHeartbeats 4000000 in
set_option maxRecDepth 100000 in
theorem k_X3_callersOf (l : Launch) (D : va_G) (q : CQ) (b sz : Nat) (u : ST) (f : Nat) (hwf : WP u.1) (hf : f < 10) : Met l yX3_callersOf wsX3_callersOf ({ frames := 1, cells := 0, slots := 0, locals := 22 } : Room) (va_Pc [.ref (b + 1), .int (nI f)] (Pr D q b sz u)) (cI D q b sz (fun r u' => r = nI (calN u.1 f (u.1.1 1)) ∧ u' = u)) 0 0 (ts_A b 52 sz) := by
  refine ts_met (by decide) rfl (Nat.le_of_ble_eq_true rfl) ?_
  intro p e s m below meth c C0 hX ls hl
  obtain ⟨hsz, hW, hK, hN⟩ := hX
  subst hsz
  obtain ⟨hx, hb, hml, hown, hts, -, -, -⟩ := id C0
  have hW : ts_W D b 52 (cel q b u) s.heap := hW
  have hS : va_S (ts_A b 52 s.heap.size) s.heap s.heap [] := va_S.rf
  have hB : ∀ k, k < 52 → ts_A b 52 s.heap.size (b + k) := fun k hk => ts_Ain hk
  have hi3 : ∀ w ∈ wsX30, w ∈ wsX3_callersOf := ts_lays 10 rfl
  have hl : lv_has ls 4 [(0, .ref (b + 1)), (1, .int (nI f))] := hl
  have hs := hwf.sz
  refine lv_iconst (v := nI 0) hx hb dX3_callersOf_0 (by decide) ?_
  refine lv_istore_n (lv' := [(2, .int (nI 0)), (0, .ref (b + 1)), (1, .int (nI f))]) hx hb dX3_callersOf_1 rfl hl (by decide) rfl (fun ls hl => ?_)
  refine lv_iconst (v := nI 0) hx hb dX3_callersOf_2 (by decide) ?_
  refine lv_istore_n (lv' := [(3, .int (nI 0)), (2, .int (nI 0)), (0, .ref (b + 1)), (1, .int (nI f))]) hx hb dX3_callersOf_3 rfl hl (by decide) rfl (fun ls hl => ?_)
  have key1 : ∀ (fu : Nat) (k : Nat), (k ≤ u.1.1 1) → (u.1.1 1 - k) < fu → ∀ (H : Heap) (locs : List Loc), ts_W D b 52 (cel q b u) H → va_S (ts_A b 52 s.heap.size) s.heap H locs → ∀ ls : Array Slot, lv_has ls 4 [(3, .int (nI k)), (2, .int (nI (calN u.1 f k))), (0, .ref (b + 1)), (1, .int (nI f))] → W p l e ({ frames := 1, cells := 0, slots := 0, locals := 22 } : Room) s m [.ref (b + 1), .int (nI f)].toArray below meth c H locs 0 0 (MQ below (cI D q b s.heap.size (fun r u' => r = nI (calN u.1 f (u.1.1 1)) ∧ u' = u)) [.ref (b + 1), .int (nI f)].toArray s 0 0 (ts_A b 52 s.heap.size)) (F0 m 4 ls []) := by
    intro fu
    induction fu with
    | zero => intro k _ hn; exact absurd hn (Nat.not_lt_zero _)
    | succ fu ih2 =>
      intro k hk hn H locs hW hS ls hl
      refine lv_iload_n hx hb dX3_callersOf_4 rfl (lv_at hl 0 rfl) ?_
      refine lv_aload_n hx hb dX3_callersOf_5 rfl (lv_at hl 2 rfl) ?_
      refine ts_get (C := RX3) (T := TX3) (N := 5) (v := .int (nI (u.1.1 1))) hx hb hts hi3 hown hK hW 1 (by decide) cel_pr rfl 2 (by decide) (List.mem_of_getElem? (i := 1) rfl) rfl dX3_callersOf_6 ?_
      refine lv_icmp_ge (tgt := 42) hx hb dX3_callersOf_9 (by decide) (fun c3 => ?_) (fun c3 => ?_)
      · skip
        rw [nI_leI (by omega) (by omega)] at c3
        refine lv_iload_n hx hb dX3_callersOf_42 rfl (lv_at hl 1 rfl) ?_
        exact ts_iret (u := u) (v := nI (calN u.1 f k)) C0 hW hS (by rw [show u.1.1 1 = k by omega]; exact ⟨rfl, rfl⟩) dX3_callersOf_43
      rw [nI_leI (by omega) (by omega)] at c3
      refine lv_iload_n hx hb dX3_callersOf_12 rfl (lv_at hl 0 rfl) ?_
      refine lv_iload_n hx hb dX3_callersOf_13 rfl (lv_at hl 3 rfl) ?_
      refine lv_icmp_eq (tgt := 36) hx hb dX3_callersOf_14 (by decide) (fun c4 => ?_) (fun c4 => ?_)
      · skip
        rw [nI_eq (by omega) (by omega)] at c4
        refine lv_iinc (v := nI (k + 1)) (lv' := [(3, .int (nI (k + 1))), (2, .int (nI (calN u.1 f k))), (0, .ref (b + 1)), (1, .int (nI f))]) hx hb dX3_callersOf_36 hl (k := 0) rfl (nI_add k 1) (by decide) rfl (fun ls hl => ?_)
        refine lv_goto (tgt := 4) hx hb dX3_callersOf_39 (by decide) ?_
        have e5 : calN u.1 f (k + 1) = calN u.1 f k := by first | rfl | simp [calN, *]
        exact ih2 (k + 1) (by omega) (by omega) H locs hW hS ls (show lv_has ls 4 [(3, .int (nI (k + 1))), (2, .int (nI (calN u.1 f (k + 1)))), (0, .ref (b + 1)), (1, .int (nI f))] from by rw [e5]; exact lv_sub hl [0, 1, 2, 3] rfl)
      rw [nI_eq (by omega) (by omega)] at c4
      refine lv_aload_n hx hb dX3_callersOf_17 rfl (lv_at hl 2 rfl) ?_
      refine ts_get (C := RX3) (T := TX3) (N := 5) (v := .ref (b + 2)) hx hb hts hi3 hown hK hW 1 (by decide) cel_pr rfl 0 (by decide) (List.mem_of_getElem? (i := 2) rfl) rfl dX3_callersOf_18 ?_
      refine lv_iload_n hx hb dX3_callersOf_21 rfl (lv_at hl 0 rfl) ?_
      refine ts_aald (a := b + (3 + 2 * k)) hx hb hK hW 2 (by decide) 1 cel_fs rfl rfl (by omega) (by decide) rfl dX3_callersOf_22 ?_
      refine lv_bipush (v := nI 40) hx hb dX3_callersOf_23 (by decide) ?_
      refine lv_iload_n hx hb dX3_callersOf_25 rfl (lv_at hl 3 rfl) ?_
      refine ts_iadd (v := nI (40 + f)) hx hb dX3_callersOf_26 (nI_add _ _) ?_
      refine ts_retI (va_runV (As := [.int (nI (40 + f))]) (rest := []) ⟨hx, hb, hml, hown, hts⟩ (k_X2_mentions l D q b H.size u k (40 + f) hwf (by omega) (by omega)) (cwV 1 hts gX3_callersOf_X2_mentions rfl rfl rfl (by decide +kernel) ⟨Nat.le_of_ble_eq_true rfl, Nat.le_of_ble_eq_true rfl⟩) (ts_preV hK hN hW (3 + 2 * k) (by omega) (cel_fn (by omega)) rfl) rfl rfl hl.1 rfl (lv_room (Nat.le_of_ble_eq_true rfl)) dX3_callersOf_27 ⟨Nat.zero_le _, Nat.zero_le _⟩) hS (fun x h => ts_Aup hS.1 h) (fun r6 u7 H locs hp8 hW _ _ hS => ?_)
      have hp8r : r6 = b2i (mentB u.1 k (40 + f) (u.1.1 (20 + k))) := hp8.1
      have hp8u : u7 = u := hp8.2
      rw [hp8r]
      rw [hp8u] at hW
      refine lv_if_eq (tgt := 36) hx hb dX3_callersOf_30 (by decide) (fun c9 => ?_) (fun c9 => ?_)
      · skip
        have c9 := ts_bf c9
        refine lv_iinc (v := nI (k + 1)) (lv' := [(3, .int (nI (k + 1))), (2, .int (nI (calN u.1 f k))), (0, .ref (b + 1)), (1, .int (nI f))]) hx hb dX3_callersOf_36 hl (k := 0) rfl (nI_add k 1) (by decide) rfl (fun ls hl => ?_)
        refine lv_goto (tgt := 4) hx hb dX3_callersOf_39 (by decide) ?_
        have e10 : calN u.1 f (k + 1) = calN u.1 f k := by first | rfl | simp [calN, *]
        exact ih2 (k + 1) (by omega) (by omega) H locs hW hS ls (show lv_has ls 4 [(3, .int (nI (k + 1))), (2, .int (nI (calN u.1 f (k + 1)))), (0, .ref (b + 1)), (1, .int (nI f))] from by rw [e10]; exact lv_sub hl [0, 1, 2, 3] rfl)
      have c9 := ts_bt c9
      refine lv_iinc (v := nI ((calN u.1 f k) + 1)) (lv' := [(2, .int (nI ((calN u.1 f k) + 1))), (3, .int (nI k)), (0, .ref (b + 1)), (1, .int (nI f))]) hx hb dX3_callersOf_33 hl (k := 1) rfl (nI_add (calN u.1 f k) 1) (by decide) rfl (fun ls hl => ?_)
      refine lv_iinc (v := nI (k + 1)) (lv' := [(3, .int (nI (k + 1))), (2, .int (nI ((calN u.1 f k) + 1))), (0, .ref (b + 1)), (1, .int (nI f))]) hx hb dX3_callersOf_36 hl (k := 1) rfl (nI_add k 1) (by decide) rfl (fun ls hl => ?_)
      refine lv_goto (tgt := 4) hx hb dX3_callersOf_39 (by decide) ?_
      have e11 : calN u.1 f (k + 1) = (calN u.1 f k) + 1 := by first | rfl | simp [calN, *]
      exact ih2 (k + 1) (by omega) (by omega) H locs hW hS ls (show lv_has ls 4 [(3, .int (nI (k + 1))), (2, .int (nI (calN u.1 f (k + 1)))), (0, .ref (b + 1)), (1, .int (nI f))] from by rw [e11]; exact lv_sub hl [0, 1, 2, 3] rfl)
  have e12 : calN u.1 f 0 = 0 := by first | rfl | simp [calN, *]
  exact key1 _ 0 (by omega) (Nat.lt_succ_self _) _ _ hW hS ls (show lv_has ls 4 [(3, .int (nI 0)), (2, .int (nI (calN u.1 f 0))), (0, .ref (b + 1)), (1, .int (nI f))] from by rw [e12]; exact lv_sub hl [0, 1, 2, 3] rfl)
set_option maxRecDepth 100000 in
theorem ts_bitc : ∀ s_, s_ < 1024 → ((((((((nI s_) - ((((nI s_).toUInt32 >>> ((nI 1).toUInt32 &&& Int32.toUInt32 31)).toInt32) &&& (nI 1431655765))) &&& (nI 858993459)) + (((((nI s_) - ((((nI s_).toUInt32 >>> ((nI 1).toUInt32 &&& Int32.toUInt32 31)).toInt32) &&& (nI 1431655765))).toUInt32 >>> ((nI 2).toUInt32 &&& Int32.toUInt32 31)).toInt32) &&& (nI 858993459))) + ((((((nI s_) - ((((nI s_).toUInt32 >>> ((nI 1).toUInt32 &&& Int32.toUInt32 31)).toInt32) &&& (nI 1431655765))) &&& (nI 858993459)) + (((((nI s_) - ((((nI s_).toUInt32 >>> ((nI 1).toUInt32 &&& Int32.toUInt32 31)).toInt32) &&& (nI 1431655765))).toUInt32 >>> ((nI 2).toUInt32 &&& Int32.toUInt32 31)).toInt32) &&& (nI 858993459))).toUInt32 >>> ((nI 4).toUInt32 &&& Int32.toUInt32 31)).toInt32)) &&& (nI 252645135)) + ((((((((nI s_) - ((((nI s_).toUInt32 >>> ((nI 1).toUInt32 &&& Int32.toUInt32 31)).toInt32) &&& (nI 1431655765))) &&& (nI 858993459)) + (((((nI s_) - ((((nI s_).toUInt32 >>> ((nI 1).toUInt32 &&& Int32.toUInt32 31)).toInt32) &&& (nI 1431655765))).toUInt32 >>> ((nI 2).toUInt32 &&& Int32.toUInt32 31)).toInt32) &&& (nI 858993459))) + ((((((nI s_) - ((((nI s_).toUInt32 >>> ((nI 1).toUInt32 &&& Int32.toUInt32 31)).toInt32) &&& (nI 1431655765))) &&& (nI 858993459)) + (((((nI s_) - ((((nI s_).toUInt32 >>> ((nI 1).toUInt32 &&& Int32.toUInt32 31)).toInt32) &&& (nI 1431655765))).toUInt32 >>> ((nI 2).toUInt32 &&& Int32.toUInt32 31)).toInt32) &&& (nI 858993459))).toUInt32 >>> ((nI 4).toUInt32 &&& Int32.toUInt32 31)).toInt32)) &&& (nI 252645135)).toUInt32 >>> ((nI 8).toUInt32 &&& Int32.toUInt32 31)).toInt32)) + (((((((((nI s_) - ((((nI s_).toUInt32 >>> ((nI 1).toUInt32 &&& Int32.toUInt32 31)).toInt32) &&& (nI 1431655765))) &&& (nI 858993459)) + (((((nI s_) - ((((nI s_).toUInt32 >>> ((nI 1).toUInt32 &&& Int32.toUInt32 31)).toInt32) &&& (nI 1431655765))).toUInt32 >>> ((nI 2).toUInt32 &&& Int32.toUInt32 31)).toInt32) &&& (nI 858993459))) + ((((((nI s_) - ((((nI s_).toUInt32 >>> ((nI 1).toUInt32 &&& Int32.toUInt32 31)).toInt32) &&& (nI 1431655765))) &&& (nI 858993459)) + (((((nI s_) - ((((nI s_).toUInt32 >>> ((nI 1).toUInt32 &&& Int32.toUInt32 31)).toInt32) &&& (nI 1431655765))).toUInt32 >>> ((nI 2).toUInt32 &&& Int32.toUInt32 31)).toInt32) &&& (nI 858993459))).toUInt32 >>> ((nI 4).toUInt32 &&& Int32.toUInt32 31)).toInt32)) &&& (nI 252645135)) + ((((((((nI s_) - ((((nI s_).toUInt32 >>> ((nI 1).toUInt32 &&& Int32.toUInt32 31)).toInt32) &&& (nI 1431655765))) &&& (nI 858993459)) + (((((nI s_) - ((((nI s_).toUInt32 >>> ((nI 1).toUInt32 &&& Int32.toUInt32 31)).toInt32) &&& (nI 1431655765))).toUInt32 >>> ((nI 2).toUInt32 &&& Int32.toUInt32 31)).toInt32) &&& (nI 858993459))) + ((((((nI s_) - ((((nI s_).toUInt32 >>> ((nI 1).toUInt32 &&& Int32.toUInt32 31)).toInt32) &&& (nI 1431655765))) &&& (nI 858993459)) + (((((nI s_) - ((((nI s_).toUInt32 >>> ((nI 1).toUInt32 &&& Int32.toUInt32 31)).toInt32) &&& (nI 1431655765))).toUInt32 >>> ((nI 2).toUInt32 &&& Int32.toUInt32 31)).toInt32) &&& (nI 858993459))).toUInt32 >>> ((nI 4).toUInt32 &&& Int32.toUInt32 31)).toInt32)) &&& (nI 252645135)).toUInt32 >>> ((nI 8).toUInt32 &&& Int32.toUInt32 31)).toInt32)).toUInt32 >>> ((nI 16).toUInt32 &&& Int32.toUInt32 31)).toInt32)) &&& (nI 63) = nI (cntB s_ 10) := by decide +kernel
set_option maxHeartbeats 4000000 in
set_option maxRecDepth 100000 in
theorem k_J6_bitCount_0f7a4 (l : Launch) (D : va_G) (q : CQ) (b sz : Nat) (u : ST) (s_ : Nat) (hs : s_ < 1024) : Met l yJ6_bitCount_0f7a4 wsJ6_bitCount_0f7a4 ({ frames := 0, cells := 0, slots := 0, locals := 0 } : Room) (va_Pc [.int (nI s_)] (Pr D q b sz u)) (cI D q b sz (fun r u' => r = nI (cntB s_ 10) ∧ u' = u)) 0 0 (ts_A b 52 sz) := by
  refine ts_met (by decide) rfl (Nat.le_of_ble_eq_true rfl) ?_
  intro p e s m below meth c C0 hX ls hl
  obtain ⟨hsz, hW, hK, hN⟩ := hX
  subst hsz
  obtain ⟨hx, hb, hml, hown, hts, -, -, -⟩ := id C0
  have hW : ts_W D b 52 (cel q b u) s.heap := hW
  have hS : va_S (ts_A b 52 s.heap.size) s.heap s.heap [] := va_S.rf
  have hB : ∀ k, k < 52 → ts_A b 52 s.heap.size (b + k) := fun k hk => ts_Ain hk
  have hl : lv_has ls 1 [(0, .int (nI s_))] := hl
  refine lv_iload_n hx hb dJ6_bitCount_0f7a4_0 rfl (lv_at hl 0 rfl) ?_
  refine lv_iload_n hx hb dJ6_bitCount_0f7a4_1 rfl (lv_at hl 0 rfl) ?_
  refine lv_iconst (v := nI 1) hx hb dJ6_bitCount_0f7a4_2 (by decide) ?_
  refine lv_iushr (v := ((nI s_).toUInt32 >>> ((nI 1).toUInt32 &&& Int32.toUInt32 31)).toInt32) hx hb dJ6_bitCount_0f7a4_3 rfl ?_
  refine lv_ldcw (v := nI 1431655765) hx hb hown (hts _ (List.mem_of_getElem? (i := 1) rfl)) dJ6_bitCount_0f7a4_4 ?_
  refine ts_iand (v := (((nI s_).toUInt32 >>> ((nI 1).toUInt32 &&& Int32.toUInt32 31)).toInt32) &&& (nI 1431655765)) hx hb dJ6_bitCount_0f7a4_7 rfl ?_
  refine ts_isub (v := (nI s_) - ((((nI s_).toUInt32 >>> ((nI 1).toUInt32 &&& Int32.toUInt32 31)).toInt32) &&& (nI 1431655765))) hx hb dJ6_bitCount_0f7a4_8 rfl ?_
  refine lv_istore_n (lv' := [(0, .int ((nI s_) - ((((nI s_).toUInt32 >>> ((nI 1).toUInt32 &&& Int32.toUInt32 31)).toInt32) &&& (nI 1431655765))))]) hx hb dJ6_bitCount_0f7a4_9 rfl hl (by decide) rfl (fun ls hl => ?_)
  refine lv_iload_n hx hb dJ6_bitCount_0f7a4_10 rfl (lv_at hl 0 rfl) ?_
  refine lv_ldcw (v := nI 858993459) hx hb hown (hts _ (List.mem_of_getElem? (i := 2) rfl)) dJ6_bitCount_0f7a4_11 ?_
  refine ts_iand (v := ((nI s_) - ((((nI s_).toUInt32 >>> ((nI 1).toUInt32 &&& Int32.toUInt32 31)).toInt32) &&& (nI 1431655765))) &&& (nI 858993459)) hx hb dJ6_bitCount_0f7a4_14 rfl ?_
  refine lv_iload_n hx hb dJ6_bitCount_0f7a4_15 rfl (lv_at hl 0 rfl) ?_
  refine lv_iconst (v := nI 2) hx hb dJ6_bitCount_0f7a4_16 (by decide) ?_
  refine lv_iushr (v := (((nI s_) - ((((nI s_).toUInt32 >>> ((nI 1).toUInt32 &&& Int32.toUInt32 31)).toInt32) &&& (nI 1431655765))).toUInt32 >>> ((nI 2).toUInt32 &&& Int32.toUInt32 31)).toInt32) hx hb dJ6_bitCount_0f7a4_17 rfl ?_
  refine lv_ldcw (v := nI 858993459) hx hb hown (hts _ (List.mem_of_getElem? (i := 2) rfl)) dJ6_bitCount_0f7a4_18 ?_
  refine ts_iand (v := ((((nI s_) - ((((nI s_).toUInt32 >>> ((nI 1).toUInt32 &&& Int32.toUInt32 31)).toInt32) &&& (nI 1431655765))).toUInt32 >>> ((nI 2).toUInt32 &&& Int32.toUInt32 31)).toInt32) &&& (nI 858993459)) hx hb dJ6_bitCount_0f7a4_21 rfl ?_
  refine ts_iadd (v := (((nI s_) - ((((nI s_).toUInt32 >>> ((nI 1).toUInt32 &&& Int32.toUInt32 31)).toInt32) &&& (nI 1431655765))) &&& (nI 858993459)) + (((((nI s_) - ((((nI s_).toUInt32 >>> ((nI 1).toUInt32 &&& Int32.toUInt32 31)).toInt32) &&& (nI 1431655765))).toUInt32 >>> ((nI 2).toUInt32 &&& Int32.toUInt32 31)).toInt32) &&& (nI 858993459))) hx hb dJ6_bitCount_0f7a4_22 rfl ?_
  refine lv_istore_n (lv' := [(0, .int ((((nI s_) - ((((nI s_).toUInt32 >>> ((nI 1).toUInt32 &&& Int32.toUInt32 31)).toInt32) &&& (nI 1431655765))) &&& (nI 858993459)) + (((((nI s_) - ((((nI s_).toUInt32 >>> ((nI 1).toUInt32 &&& Int32.toUInt32 31)).toInt32) &&& (nI 1431655765))).toUInt32 >>> ((nI 2).toUInt32 &&& Int32.toUInt32 31)).toInt32) &&& (nI 858993459))))]) hx hb dJ6_bitCount_0f7a4_23 rfl hl (by decide) rfl (fun ls hl => ?_)
  refine lv_iload_n hx hb dJ6_bitCount_0f7a4_24 rfl (lv_at hl 0 rfl) ?_
  refine lv_iload_n hx hb dJ6_bitCount_0f7a4_25 rfl (lv_at hl 0 rfl) ?_
  refine lv_iconst (v := nI 4) hx hb dJ6_bitCount_0f7a4_26 (by decide) ?_
  refine lv_iushr (v := (((((nI s_) - ((((nI s_).toUInt32 >>> ((nI 1).toUInt32 &&& Int32.toUInt32 31)).toInt32) &&& (nI 1431655765))) &&& (nI 858993459)) + (((((nI s_) - ((((nI s_).toUInt32 >>> ((nI 1).toUInt32 &&& Int32.toUInt32 31)).toInt32) &&& (nI 1431655765))).toUInt32 >>> ((nI 2).toUInt32 &&& Int32.toUInt32 31)).toInt32) &&& (nI 858993459))).toUInt32 >>> ((nI 4).toUInt32 &&& Int32.toUInt32 31)).toInt32) hx hb dJ6_bitCount_0f7a4_27 rfl ?_
  refine ts_iadd (v := ((((nI s_) - ((((nI s_).toUInt32 >>> ((nI 1).toUInt32 &&& Int32.toUInt32 31)).toInt32) &&& (nI 1431655765))) &&& (nI 858993459)) + (((((nI s_) - ((((nI s_).toUInt32 >>> ((nI 1).toUInt32 &&& Int32.toUInt32 31)).toInt32) &&& (nI 1431655765))).toUInt32 >>> ((nI 2).toUInt32 &&& Int32.toUInt32 31)).toInt32) &&& (nI 858993459))) + ((((((nI s_) - ((((nI s_).toUInt32 >>> ((nI 1).toUInt32 &&& Int32.toUInt32 31)).toInt32) &&& (nI 1431655765))) &&& (nI 858993459)) + (((((nI s_) - ((((nI s_).toUInt32 >>> ((nI 1).toUInt32 &&& Int32.toUInt32 31)).toInt32) &&& (nI 1431655765))).toUInt32 >>> ((nI 2).toUInt32 &&& Int32.toUInt32 31)).toInt32) &&& (nI 858993459))).toUInt32 >>> ((nI 4).toUInt32 &&& Int32.toUInt32 31)).toInt32)) hx hb dJ6_bitCount_0f7a4_28 rfl ?_
  refine lv_ldcw (v := nI 252645135) hx hb hown (hts _ (List.mem_of_getElem? (i := 3) rfl)) dJ6_bitCount_0f7a4_29 ?_
  refine ts_iand (v := (((((nI s_) - ((((nI s_).toUInt32 >>> ((nI 1).toUInt32 &&& Int32.toUInt32 31)).toInt32) &&& (nI 1431655765))) &&& (nI 858993459)) + (((((nI s_) - ((((nI s_).toUInt32 >>> ((nI 1).toUInt32 &&& Int32.toUInt32 31)).toInt32) &&& (nI 1431655765))).toUInt32 >>> ((nI 2).toUInt32 &&& Int32.toUInt32 31)).toInt32) &&& (nI 858993459))) + ((((((nI s_) - ((((nI s_).toUInt32 >>> ((nI 1).toUInt32 &&& Int32.toUInt32 31)).toInt32) &&& (nI 1431655765))) &&& (nI 858993459)) + (((((nI s_) - ((((nI s_).toUInt32 >>> ((nI 1).toUInt32 &&& Int32.toUInt32 31)).toInt32) &&& (nI 1431655765))).toUInt32 >>> ((nI 2).toUInt32 &&& Int32.toUInt32 31)).toInt32) &&& (nI 858993459))).toUInt32 >>> ((nI 4).toUInt32 &&& Int32.toUInt32 31)).toInt32)) &&& (nI 252645135)) hx hb dJ6_bitCount_0f7a4_32 rfl ?_
  refine lv_istore_n (lv' := [(0, .int ((((((nI s_) - ((((nI s_).toUInt32 >>> ((nI 1).toUInt32 &&& Int32.toUInt32 31)).toInt32) &&& (nI 1431655765))) &&& (nI 858993459)) + (((((nI s_) - ((((nI s_).toUInt32 >>> ((nI 1).toUInt32 &&& Int32.toUInt32 31)).toInt32) &&& (nI 1431655765))).toUInt32 >>> ((nI 2).toUInt32 &&& Int32.toUInt32 31)).toInt32) &&& (nI 858993459))) + ((((((nI s_) - ((((nI s_).toUInt32 >>> ((nI 1).toUInt32 &&& Int32.toUInt32 31)).toInt32) &&& (nI 1431655765))) &&& (nI 858993459)) + (((((nI s_) - ((((nI s_).toUInt32 >>> ((nI 1).toUInt32 &&& Int32.toUInt32 31)).toInt32) &&& (nI 1431655765))).toUInt32 >>> ((nI 2).toUInt32 &&& Int32.toUInt32 31)).toInt32) &&& (nI 858993459))).toUInt32 >>> ((nI 4).toUInt32 &&& Int32.toUInt32 31)).toInt32)) &&& (nI 252645135)))]) hx hb dJ6_bitCount_0f7a4_33 rfl hl (by decide) rfl (fun ls hl => ?_)
  refine lv_iload_n hx hb dJ6_bitCount_0f7a4_34 rfl (lv_at hl 0 rfl) ?_
  refine lv_iload_n hx hb dJ6_bitCount_0f7a4_35 rfl (lv_at hl 0 rfl) ?_
  refine lv_bipush (v := nI 8) hx hb dJ6_bitCount_0f7a4_36 (by decide) ?_
  refine lv_iushr (v := (((((((nI s_) - ((((nI s_).toUInt32 >>> ((nI 1).toUInt32 &&& Int32.toUInt32 31)).toInt32) &&& (nI 1431655765))) &&& (nI 858993459)) + (((((nI s_) - ((((nI s_).toUInt32 >>> ((nI 1).toUInt32 &&& Int32.toUInt32 31)).toInt32) &&& (nI 1431655765))).toUInt32 >>> ((nI 2).toUInt32 &&& Int32.toUInt32 31)).toInt32) &&& (nI 858993459))) + ((((((nI s_) - ((((nI s_).toUInt32 >>> ((nI 1).toUInt32 &&& Int32.toUInt32 31)).toInt32) &&& (nI 1431655765))) &&& (nI 858993459)) + (((((nI s_) - ((((nI s_).toUInt32 >>> ((nI 1).toUInt32 &&& Int32.toUInt32 31)).toInt32) &&& (nI 1431655765))).toUInt32 >>> ((nI 2).toUInt32 &&& Int32.toUInt32 31)).toInt32) &&& (nI 858993459))).toUInt32 >>> ((nI 4).toUInt32 &&& Int32.toUInt32 31)).toInt32)) &&& (nI 252645135)).toUInt32 >>> ((nI 8).toUInt32 &&& Int32.toUInt32 31)).toInt32) hx hb dJ6_bitCount_0f7a4_38 rfl ?_
  refine ts_iadd (v := ((((((nI s_) - ((((nI s_).toUInt32 >>> ((nI 1).toUInt32 &&& Int32.toUInt32 31)).toInt32) &&& (nI 1431655765))) &&& (nI 858993459)) + (((((nI s_) - ((((nI s_).toUInt32 >>> ((nI 1).toUInt32 &&& Int32.toUInt32 31)).toInt32) &&& (nI 1431655765))).toUInt32 >>> ((nI 2).toUInt32 &&& Int32.toUInt32 31)).toInt32) &&& (nI 858993459))) + ((((((nI s_) - ((((nI s_).toUInt32 >>> ((nI 1).toUInt32 &&& Int32.toUInt32 31)).toInt32) &&& (nI 1431655765))) &&& (nI 858993459)) + (((((nI s_) - ((((nI s_).toUInt32 >>> ((nI 1).toUInt32 &&& Int32.toUInt32 31)).toInt32) &&& (nI 1431655765))).toUInt32 >>> ((nI 2).toUInt32 &&& Int32.toUInt32 31)).toInt32) &&& (nI 858993459))).toUInt32 >>> ((nI 4).toUInt32 &&& Int32.toUInt32 31)).toInt32)) &&& (nI 252645135)) + ((((((((nI s_) - ((((nI s_).toUInt32 >>> ((nI 1).toUInt32 &&& Int32.toUInt32 31)).toInt32) &&& (nI 1431655765))) &&& (nI 858993459)) + (((((nI s_) - ((((nI s_).toUInt32 >>> ((nI 1).toUInt32 &&& Int32.toUInt32 31)).toInt32) &&& (nI 1431655765))).toUInt32 >>> ((nI 2).toUInt32 &&& Int32.toUInt32 31)).toInt32) &&& (nI 858993459))) + ((((((nI s_) - ((((nI s_).toUInt32 >>> ((nI 1).toUInt32 &&& Int32.toUInt32 31)).toInt32) &&& (nI 1431655765))) &&& (nI 858993459)) + (((((nI s_) - ((((nI s_).toUInt32 >>> ((nI 1).toUInt32 &&& Int32.toUInt32 31)).toInt32) &&& (nI 1431655765))).toUInt32 >>> ((nI 2).toUInt32 &&& Int32.toUInt32 31)).toInt32) &&& (nI 858993459))).toUInt32 >>> ((nI 4).toUInt32 &&& Int32.toUInt32 31)).toInt32)) &&& (nI 252645135)).toUInt32 >>> ((nI 8).toUInt32 &&& Int32.toUInt32 31)).toInt32)) hx hb dJ6_bitCount_0f7a4_39 rfl ?_
  refine lv_istore_n (lv' := [(0, .int (((((((nI s_) - ((((nI s_).toUInt32 >>> ((nI 1).toUInt32 &&& Int32.toUInt32 31)).toInt32) &&& (nI 1431655765))) &&& (nI 858993459)) + (((((nI s_) - ((((nI s_).toUInt32 >>> ((nI 1).toUInt32 &&& Int32.toUInt32 31)).toInt32) &&& (nI 1431655765))).toUInt32 >>> ((nI 2).toUInt32 &&& Int32.toUInt32 31)).toInt32) &&& (nI 858993459))) + ((((((nI s_) - ((((nI s_).toUInt32 >>> ((nI 1).toUInt32 &&& Int32.toUInt32 31)).toInt32) &&& (nI 1431655765))) &&& (nI 858993459)) + (((((nI s_) - ((((nI s_).toUInt32 >>> ((nI 1).toUInt32 &&& Int32.toUInt32 31)).toInt32) &&& (nI 1431655765))).toUInt32 >>> ((nI 2).toUInt32 &&& Int32.toUInt32 31)).toInt32) &&& (nI 858993459))).toUInt32 >>> ((nI 4).toUInt32 &&& Int32.toUInt32 31)).toInt32)) &&& (nI 252645135)) + ((((((((nI s_) - ((((nI s_).toUInt32 >>> ((nI 1).toUInt32 &&& Int32.toUInt32 31)).toInt32) &&& (nI 1431655765))) &&& (nI 858993459)) + (((((nI s_) - ((((nI s_).toUInt32 >>> ((nI 1).toUInt32 &&& Int32.toUInt32 31)).toInt32) &&& (nI 1431655765))).toUInt32 >>> ((nI 2).toUInt32 &&& Int32.toUInt32 31)).toInt32) &&& (nI 858993459))) + ((((((nI s_) - ((((nI s_).toUInt32 >>> ((nI 1).toUInt32 &&& Int32.toUInt32 31)).toInt32) &&& (nI 1431655765))) &&& (nI 858993459)) + (((((nI s_) - ((((nI s_).toUInt32 >>> ((nI 1).toUInt32 &&& Int32.toUInt32 31)).toInt32) &&& (nI 1431655765))).toUInt32 >>> ((nI 2).toUInt32 &&& Int32.toUInt32 31)).toInt32) &&& (nI 858993459))).toUInt32 >>> ((nI 4).toUInt32 &&& Int32.toUInt32 31)).toInt32)) &&& (nI 252645135)).toUInt32 >>> ((nI 8).toUInt32 &&& Int32.toUInt32 31)).toInt32)))]) hx hb dJ6_bitCount_0f7a4_40 rfl hl (by decide) rfl (fun ls hl => ?_)
  refine lv_iload_n hx hb dJ6_bitCount_0f7a4_41 rfl (lv_at hl 0 rfl) ?_
  refine lv_iload_n hx hb dJ6_bitCount_0f7a4_42 rfl (lv_at hl 0 rfl) ?_
  refine lv_bipush (v := nI 16) hx hb dJ6_bitCount_0f7a4_43 (by decide) ?_
  refine lv_iushr (v := ((((((((nI s_) - ((((nI s_).toUInt32 >>> ((nI 1).toUInt32 &&& Int32.toUInt32 31)).toInt32) &&& (nI 1431655765))) &&& (nI 858993459)) + (((((nI s_) - ((((nI s_).toUInt32 >>> ((nI 1).toUInt32 &&& Int32.toUInt32 31)).toInt32) &&& (nI 1431655765))).toUInt32 >>> ((nI 2).toUInt32 &&& Int32.toUInt32 31)).toInt32) &&& (nI 858993459))) + ((((((nI s_) - ((((nI s_).toUInt32 >>> ((nI 1).toUInt32 &&& Int32.toUInt32 31)).toInt32) &&& (nI 1431655765))) &&& (nI 858993459)) + (((((nI s_) - ((((nI s_).toUInt32 >>> ((nI 1).toUInt32 &&& Int32.toUInt32 31)).toInt32) &&& (nI 1431655765))).toUInt32 >>> ((nI 2).toUInt32 &&& Int32.toUInt32 31)).toInt32) &&& (nI 858993459))).toUInt32 >>> ((nI 4).toUInt32 &&& Int32.toUInt32 31)).toInt32)) &&& (nI 252645135)) + ((((((((nI s_) - ((((nI s_).toUInt32 >>> ((nI 1).toUInt32 &&& Int32.toUInt32 31)).toInt32) &&& (nI 1431655765))) &&& (nI 858993459)) + (((((nI s_) - ((((nI s_).toUInt32 >>> ((nI 1).toUInt32 &&& Int32.toUInt32 31)).toInt32) &&& (nI 1431655765))).toUInt32 >>> ((nI 2).toUInt32 &&& Int32.toUInt32 31)).toInt32) &&& (nI 858993459))) + ((((((nI s_) - ((((nI s_).toUInt32 >>> ((nI 1).toUInt32 &&& Int32.toUInt32 31)).toInt32) &&& (nI 1431655765))) &&& (nI 858993459)) + (((((nI s_) - ((((nI s_).toUInt32 >>> ((nI 1).toUInt32 &&& Int32.toUInt32 31)).toInt32) &&& (nI 1431655765))).toUInt32 >>> ((nI 2).toUInt32 &&& Int32.toUInt32 31)).toInt32) &&& (nI 858993459))).toUInt32 >>> ((nI 4).toUInt32 &&& Int32.toUInt32 31)).toInt32)) &&& (nI 252645135)).toUInt32 >>> ((nI 8).toUInt32 &&& Int32.toUInt32 31)).toInt32)).toUInt32 >>> ((nI 16).toUInt32 &&& Int32.toUInt32 31)).toInt32) hx hb dJ6_bitCount_0f7a4_45 rfl ?_
  refine ts_iadd (v := (((((((nI s_) - ((((nI s_).toUInt32 >>> ((nI 1).toUInt32 &&& Int32.toUInt32 31)).toInt32) &&& (nI 1431655765))) &&& (nI 858993459)) + (((((nI s_) - ((((nI s_).toUInt32 >>> ((nI 1).toUInt32 &&& Int32.toUInt32 31)).toInt32) &&& (nI 1431655765))).toUInt32 >>> ((nI 2).toUInt32 &&& Int32.toUInt32 31)).toInt32) &&& (nI 858993459))) + ((((((nI s_) - ((((nI s_).toUInt32 >>> ((nI 1).toUInt32 &&& Int32.toUInt32 31)).toInt32) &&& (nI 1431655765))) &&& (nI 858993459)) + (((((nI s_) - ((((nI s_).toUInt32 >>> ((nI 1).toUInt32 &&& Int32.toUInt32 31)).toInt32) &&& (nI 1431655765))).toUInt32 >>> ((nI 2).toUInt32 &&& Int32.toUInt32 31)).toInt32) &&& (nI 858993459))).toUInt32 >>> ((nI 4).toUInt32 &&& Int32.toUInt32 31)).toInt32)) &&& (nI 252645135)) + ((((((((nI s_) - ((((nI s_).toUInt32 >>> ((nI 1).toUInt32 &&& Int32.toUInt32 31)).toInt32) &&& (nI 1431655765))) &&& (nI 858993459)) + (((((nI s_) - ((((nI s_).toUInt32 >>> ((nI 1).toUInt32 &&& Int32.toUInt32 31)).toInt32) &&& (nI 1431655765))).toUInt32 >>> ((nI 2).toUInt32 &&& Int32.toUInt32 31)).toInt32) &&& (nI 858993459))) + ((((((nI s_) - ((((nI s_).toUInt32 >>> ((nI 1).toUInt32 &&& Int32.toUInt32 31)).toInt32) &&& (nI 1431655765))) &&& (nI 858993459)) + (((((nI s_) - ((((nI s_).toUInt32 >>> ((nI 1).toUInt32 &&& Int32.toUInt32 31)).toInt32) &&& (nI 1431655765))).toUInt32 >>> ((nI 2).toUInt32 &&& Int32.toUInt32 31)).toInt32) &&& (nI 858993459))).toUInt32 >>> ((nI 4).toUInt32 &&& Int32.toUInt32 31)).toInt32)) &&& (nI 252645135)).toUInt32 >>> ((nI 8).toUInt32 &&& Int32.toUInt32 31)).toInt32)) + (((((((((nI s_) - ((((nI s_).toUInt32 >>> ((nI 1).toUInt32 &&& Int32.toUInt32 31)).toInt32) &&& (nI 1431655765))) &&& (nI 858993459)) + (((((nI s_) - ((((nI s_).toUInt32 >>> ((nI 1).toUInt32 &&& Int32.toUInt32 31)).toInt32) &&& (nI 1431655765))).toUInt32 >>> ((nI 2).toUInt32 &&& Int32.toUInt32 31)).toInt32) &&& (nI 858993459))) + ((((((nI s_) - ((((nI s_).toUInt32 >>> ((nI 1).toUInt32 &&& Int32.toUInt32 31)).toInt32) &&& (nI 1431655765))) &&& (nI 858993459)) + (((((nI s_) - ((((nI s_).toUInt32 >>> ((nI 1).toUInt32 &&& Int32.toUInt32 31)).toInt32) &&& (nI 1431655765))).toUInt32 >>> ((nI 2).toUInt32 &&& Int32.toUInt32 31)).toInt32) &&& (nI 858993459))).toUInt32 >>> ((nI 4).toUInt32 &&& Int32.toUInt32 31)).toInt32)) &&& (nI 252645135)) + ((((((((nI s_) - ((((nI s_).toUInt32 >>> ((nI 1).toUInt32 &&& Int32.toUInt32 31)).toInt32) &&& (nI 1431655765))) &&& (nI 858993459)) + (((((nI s_) - ((((nI s_).toUInt32 >>> ((nI 1).toUInt32 &&& Int32.toUInt32 31)).toInt32) &&& (nI 1431655765))).toUInt32 >>> ((nI 2).toUInt32 &&& Int32.toUInt32 31)).toInt32) &&& (nI 858993459))) + ((((((nI s_) - ((((nI s_).toUInt32 >>> ((nI 1).toUInt32 &&& Int32.toUInt32 31)).toInt32) &&& (nI 1431655765))) &&& (nI 858993459)) + (((((nI s_) - ((((nI s_).toUInt32 >>> ((nI 1).toUInt32 &&& Int32.toUInt32 31)).toInt32) &&& (nI 1431655765))).toUInt32 >>> ((nI 2).toUInt32 &&& Int32.toUInt32 31)).toInt32) &&& (nI 858993459))).toUInt32 >>> ((nI 4).toUInt32 &&& Int32.toUInt32 31)).toInt32)) &&& (nI 252645135)).toUInt32 >>> ((nI 8).toUInt32 &&& Int32.toUInt32 31)).toInt32)).toUInt32 >>> ((nI 16).toUInt32 &&& Int32.toUInt32 31)).toInt32)) hx hb dJ6_bitCount_0f7a4_46 rfl ?_
  refine lv_istore_n (lv' := [(0, .int ((((((((nI s_) - ((((nI s_).toUInt32 >>> ((nI 1).toUInt32 &&& Int32.toUInt32 31)).toInt32) &&& (nI 1431655765))) &&& (nI 858993459)) + (((((nI s_) - ((((nI s_).toUInt32 >>> ((nI 1).toUInt32 &&& Int32.toUInt32 31)).toInt32) &&& (nI 1431655765))).toUInt32 >>> ((nI 2).toUInt32 &&& Int32.toUInt32 31)).toInt32) &&& (nI 858993459))) + ((((((nI s_) - ((((nI s_).toUInt32 >>> ((nI 1).toUInt32 &&& Int32.toUInt32 31)).toInt32) &&& (nI 1431655765))) &&& (nI 858993459)) + (((((nI s_) - ((((nI s_).toUInt32 >>> ((nI 1).toUInt32 &&& Int32.toUInt32 31)).toInt32) &&& (nI 1431655765))).toUInt32 >>> ((nI 2).toUInt32 &&& Int32.toUInt32 31)).toInt32) &&& (nI 858993459))).toUInt32 >>> ((nI 4).toUInt32 &&& Int32.toUInt32 31)).toInt32)) &&& (nI 252645135)) + ((((((((nI s_) - ((((nI s_).toUInt32 >>> ((nI 1).toUInt32 &&& Int32.toUInt32 31)).toInt32) &&& (nI 1431655765))) &&& (nI 858993459)) + (((((nI s_) - ((((nI s_).toUInt32 >>> ((nI 1).toUInt32 &&& Int32.toUInt32 31)).toInt32) &&& (nI 1431655765))).toUInt32 >>> ((nI 2).toUInt32 &&& Int32.toUInt32 31)).toInt32) &&& (nI 858993459))) + ((((((nI s_) - ((((nI s_).toUInt32 >>> ((nI 1).toUInt32 &&& Int32.toUInt32 31)).toInt32) &&& (nI 1431655765))) &&& (nI 858993459)) + (((((nI s_) - ((((nI s_).toUInt32 >>> ((nI 1).toUInt32 &&& Int32.toUInt32 31)).toInt32) &&& (nI 1431655765))).toUInt32 >>> ((nI 2).toUInt32 &&& Int32.toUInt32 31)).toInt32) &&& (nI 858993459))).toUInt32 >>> ((nI 4).toUInt32 &&& Int32.toUInt32 31)).toInt32)) &&& (nI 252645135)).toUInt32 >>> ((nI 8).toUInt32 &&& Int32.toUInt32 31)).toInt32)) + (((((((((nI s_) - ((((nI s_).toUInt32 >>> ((nI 1).toUInt32 &&& Int32.toUInt32 31)).toInt32) &&& (nI 1431655765))) &&& (nI 858993459)) + (((((nI s_) - ((((nI s_).toUInt32 >>> ((nI 1).toUInt32 &&& Int32.toUInt32 31)).toInt32) &&& (nI 1431655765))).toUInt32 >>> ((nI 2).toUInt32 &&& Int32.toUInt32 31)).toInt32) &&& (nI 858993459))) + ((((((nI s_) - ((((nI s_).toUInt32 >>> ((nI 1).toUInt32 &&& Int32.toUInt32 31)).toInt32) &&& (nI 1431655765))) &&& (nI 858993459)) + (((((nI s_) - ((((nI s_).toUInt32 >>> ((nI 1).toUInt32 &&& Int32.toUInt32 31)).toInt32) &&& (nI 1431655765))).toUInt32 >>> ((nI 2).toUInt32 &&& Int32.toUInt32 31)).toInt32) &&& (nI 858993459))).toUInt32 >>> ((nI 4).toUInt32 &&& Int32.toUInt32 31)).toInt32)) &&& (nI 252645135)) + ((((((((nI s_) - ((((nI s_).toUInt32 >>> ((nI 1).toUInt32 &&& Int32.toUInt32 31)).toInt32) &&& (nI 1431655765))) &&& (nI 858993459)) + (((((nI s_) - ((((nI s_).toUInt32 >>> ((nI 1).toUInt32 &&& Int32.toUInt32 31)).toInt32) &&& (nI 1431655765))).toUInt32 >>> ((nI 2).toUInt32 &&& Int32.toUInt32 31)).toInt32) &&& (nI 858993459))) + ((((((nI s_) - ((((nI s_).toUInt32 >>> ((nI 1).toUInt32 &&& Int32.toUInt32 31)).toInt32) &&& (nI 1431655765))) &&& (nI 858993459)) + (((((nI s_) - ((((nI s_).toUInt32 >>> ((nI 1).toUInt32 &&& Int32.toUInt32 31)).toInt32) &&& (nI 1431655765))).toUInt32 >>> ((nI 2).toUInt32 &&& Int32.toUInt32 31)).toInt32) &&& (nI 858993459))).toUInt32 >>> ((nI 4).toUInt32 &&& Int32.toUInt32 31)).toInt32)) &&& (nI 252645135)).toUInt32 >>> ((nI 8).toUInt32 &&& Int32.toUInt32 31)).toInt32)).toUInt32 >>> ((nI 16).toUInt32 &&& Int32.toUInt32 31)).toInt32)))]) hx hb dJ6_bitCount_0f7a4_47 rfl hl (by decide) rfl (fun ls hl => ?_)
  refine lv_iload_n hx hb dJ6_bitCount_0f7a4_48 rfl (lv_at hl 0 rfl) ?_
  refine lv_bipush (v := nI 63) hx hb dJ6_bitCount_0f7a4_49 (by decide) ?_
  refine ts_iand (v := ((((((((nI s_) - ((((nI s_).toUInt32 >>> ((nI 1).toUInt32 &&& Int32.toUInt32 31)).toInt32) &&& (nI 1431655765))) &&& (nI 858993459)) + (((((nI s_) - ((((nI s_).toUInt32 >>> ((nI 1).toUInt32 &&& Int32.toUInt32 31)).toInt32) &&& (nI 1431655765))).toUInt32 >>> ((nI 2).toUInt32 &&& Int32.toUInt32 31)).toInt32) &&& (nI 858993459))) + ((((((nI s_) - ((((nI s_).toUInt32 >>> ((nI 1).toUInt32 &&& Int32.toUInt32 31)).toInt32) &&& (nI 1431655765))) &&& (nI 858993459)) + (((((nI s_) - ((((nI s_).toUInt32 >>> ((nI 1).toUInt32 &&& Int32.toUInt32 31)).toInt32) &&& (nI 1431655765))).toUInt32 >>> ((nI 2).toUInt32 &&& Int32.toUInt32 31)).toInt32) &&& (nI 858993459))).toUInt32 >>> ((nI 4).toUInt32 &&& Int32.toUInt32 31)).toInt32)) &&& (nI 252645135)) + ((((((((nI s_) - ((((nI s_).toUInt32 >>> ((nI 1).toUInt32 &&& Int32.toUInt32 31)).toInt32) &&& (nI 1431655765))) &&& (nI 858993459)) + (((((nI s_) - ((((nI s_).toUInt32 >>> ((nI 1).toUInt32 &&& Int32.toUInt32 31)).toInt32) &&& (nI 1431655765))).toUInt32 >>> ((nI 2).toUInt32 &&& Int32.toUInt32 31)).toInt32) &&& (nI 858993459))) + ((((((nI s_) - ((((nI s_).toUInt32 >>> ((nI 1).toUInt32 &&& Int32.toUInt32 31)).toInt32) &&& (nI 1431655765))) &&& (nI 858993459)) + (((((nI s_) - ((((nI s_).toUInt32 >>> ((nI 1).toUInt32 &&& Int32.toUInt32 31)).toInt32) &&& (nI 1431655765))).toUInt32 >>> ((nI 2).toUInt32 &&& Int32.toUInt32 31)).toInt32) &&& (nI 858993459))).toUInt32 >>> ((nI 4).toUInt32 &&& Int32.toUInt32 31)).toInt32)) &&& (nI 252645135)).toUInt32 >>> ((nI 8).toUInt32 &&& Int32.toUInt32 31)).toInt32)) + (((((((((nI s_) - ((((nI s_).toUInt32 >>> ((nI 1).toUInt32 &&& Int32.toUInt32 31)).toInt32) &&& (nI 1431655765))) &&& (nI 858993459)) + (((((nI s_) - ((((nI s_).toUInt32 >>> ((nI 1).toUInt32 &&& Int32.toUInt32 31)).toInt32) &&& (nI 1431655765))).toUInt32 >>> ((nI 2).toUInt32 &&& Int32.toUInt32 31)).toInt32) &&& (nI 858993459))) + ((((((nI s_) - ((((nI s_).toUInt32 >>> ((nI 1).toUInt32 &&& Int32.toUInt32 31)).toInt32) &&& (nI 1431655765))) &&& (nI 858993459)) + (((((nI s_) - ((((nI s_).toUInt32 >>> ((nI 1).toUInt32 &&& Int32.toUInt32 31)).toInt32) &&& (nI 1431655765))).toUInt32 >>> ((nI 2).toUInt32 &&& Int32.toUInt32 31)).toInt32) &&& (nI 858993459))).toUInt32 >>> ((nI 4).toUInt32 &&& Int32.toUInt32 31)).toInt32)) &&& (nI 252645135)) + ((((((((nI s_) - ((((nI s_).toUInt32 >>> ((nI 1).toUInt32 &&& Int32.toUInt32 31)).toInt32) &&& (nI 1431655765))) &&& (nI 858993459)) + (((((nI s_) - ((((nI s_).toUInt32 >>> ((nI 1).toUInt32 &&& Int32.toUInt32 31)).toInt32) &&& (nI 1431655765))).toUInt32 >>> ((nI 2).toUInt32 &&& Int32.toUInt32 31)).toInt32) &&& (nI 858993459))) + ((((((nI s_) - ((((nI s_).toUInt32 >>> ((nI 1).toUInt32 &&& Int32.toUInt32 31)).toInt32) &&& (nI 1431655765))) &&& (nI 858993459)) + (((((nI s_) - ((((nI s_).toUInt32 >>> ((nI 1).toUInt32 &&& Int32.toUInt32 31)).toInt32) &&& (nI 1431655765))).toUInt32 >>> ((nI 2).toUInt32 &&& Int32.toUInt32 31)).toInt32) &&& (nI 858993459))).toUInt32 >>> ((nI 4).toUInt32 &&& Int32.toUInt32 31)).toInt32)) &&& (nI 252645135)).toUInt32 >>> ((nI 8).toUInt32 &&& Int32.toUInt32 31)).toInt32)).toUInt32 >>> ((nI 16).toUInt32 &&& Int32.toUInt32 31)).toInt32)) &&& (nI 63)) hx hb dJ6_bitCount_0f7a4_51 rfl ?_
  exact ts_iret (u := u) (v := ((((((((nI s_) - ((((nI s_).toUInt32 >>> ((nI 1).toUInt32 &&& Int32.toUInt32 31)).toInt32) &&& (nI 1431655765))) &&& (nI 858993459)) + (((((nI s_) - ((((nI s_).toUInt32 >>> ((nI 1).toUInt32 &&& Int32.toUInt32 31)).toInt32) &&& (nI 1431655765))).toUInt32 >>> ((nI 2).toUInt32 &&& Int32.toUInt32 31)).toInt32) &&& (nI 858993459))) + ((((((nI s_) - ((((nI s_).toUInt32 >>> ((nI 1).toUInt32 &&& Int32.toUInt32 31)).toInt32) &&& (nI 1431655765))) &&& (nI 858993459)) + (((((nI s_) - ((((nI s_).toUInt32 >>> ((nI 1).toUInt32 &&& Int32.toUInt32 31)).toInt32) &&& (nI 1431655765))).toUInt32 >>> ((nI 2).toUInt32 &&& Int32.toUInt32 31)).toInt32) &&& (nI 858993459))).toUInt32 >>> ((nI 4).toUInt32 &&& Int32.toUInt32 31)).toInt32)) &&& (nI 252645135)) + ((((((((nI s_) - ((((nI s_).toUInt32 >>> ((nI 1).toUInt32 &&& Int32.toUInt32 31)).toInt32) &&& (nI 1431655765))) &&& (nI 858993459)) + (((((nI s_) - ((((nI s_).toUInt32 >>> ((nI 1).toUInt32 &&& Int32.toUInt32 31)).toInt32) &&& (nI 1431655765))).toUInt32 >>> ((nI 2).toUInt32 &&& Int32.toUInt32 31)).toInt32) &&& (nI 858993459))) + ((((((nI s_) - ((((nI s_).toUInt32 >>> ((nI 1).toUInt32 &&& Int32.toUInt32 31)).toInt32) &&& (nI 1431655765))) &&& (nI 858993459)) + (((((nI s_) - ((((nI s_).toUInt32 >>> ((nI 1).toUInt32 &&& Int32.toUInt32 31)).toInt32) &&& (nI 1431655765))).toUInt32 >>> ((nI 2).toUInt32 &&& Int32.toUInt32 31)).toInt32) &&& (nI 858993459))).toUInt32 >>> ((nI 4).toUInt32 &&& Int32.toUInt32 31)).toInt32)) &&& (nI 252645135)).toUInt32 >>> ((nI 8).toUInt32 &&& Int32.toUInt32 31)).toInt32)) + (((((((((nI s_) - ((((nI s_).toUInt32 >>> ((nI 1).toUInt32 &&& Int32.toUInt32 31)).toInt32) &&& (nI 1431655765))) &&& (nI 858993459)) + (((((nI s_) - ((((nI s_).toUInt32 >>> ((nI 1).toUInt32 &&& Int32.toUInt32 31)).toInt32) &&& (nI 1431655765))).toUInt32 >>> ((nI 2).toUInt32 &&& Int32.toUInt32 31)).toInt32) &&& (nI 858993459))) + ((((((nI s_) - ((((nI s_).toUInt32 >>> ((nI 1).toUInt32 &&& Int32.toUInt32 31)).toInt32) &&& (nI 1431655765))) &&& (nI 858993459)) + (((((nI s_) - ((((nI s_).toUInt32 >>> ((nI 1).toUInt32 &&& Int32.toUInt32 31)).toInt32) &&& (nI 1431655765))).toUInt32 >>> ((nI 2).toUInt32 &&& Int32.toUInt32 31)).toInt32) &&& (nI 858993459))).toUInt32 >>> ((nI 4).toUInt32 &&& Int32.toUInt32 31)).toInt32)) &&& (nI 252645135)) + ((((((((nI s_) - ((((nI s_).toUInt32 >>> ((nI 1).toUInt32 &&& Int32.toUInt32 31)).toInt32) &&& (nI 1431655765))) &&& (nI 858993459)) + (((((nI s_) - ((((nI s_).toUInt32 >>> ((nI 1).toUInt32 &&& Int32.toUInt32 31)).toInt32) &&& (nI 1431655765))).toUInt32 >>> ((nI 2).toUInt32 &&& Int32.toUInt32 31)).toInt32) &&& (nI 858993459))) + ((((((nI s_) - ((((nI s_).toUInt32 >>> ((nI 1).toUInt32 &&& Int32.toUInt32 31)).toInt32) &&& (nI 1431655765))) &&& (nI 858993459)) + (((((nI s_) - ((((nI s_).toUInt32 >>> ((nI 1).toUInt32 &&& Int32.toUInt32 31)).toInt32) &&& (nI 1431655765))).toUInt32 >>> ((nI 2).toUInt32 &&& Int32.toUInt32 31)).toInt32) &&& (nI 858993459))).toUInt32 >>> ((nI 4).toUInt32 &&& Int32.toUInt32 31)).toInt32)) &&& (nI 252645135)).toUInt32 >>> ((nI 8).toUInt32 &&& Int32.toUInt32 31)).toInt32)).toUInt32 >>> ((nI 16).toUInt32 &&& Int32.toUInt32 31)).toInt32)) &&& (nI 63)) C0 hW hS (by exact ⟨ts_bitc _ hs, rfl⟩) dJ6_bitCount_0f7a4_52
set_option maxHeartbeats 4000000 in
set_option maxRecDepth 100000 in
theorem k_X3_untypable (l : Launch) (D : va_G) (q : CQ) (b sz : Nat) (u : ST)  (hwf : WP u.1) : Met l yX3_untypable wsX3_untypable ({ frames := 4, cells := 0, slots := 0, locals := 88 } : Room) (va_Pc [.ref (b + 1)] (Pr D q b sz u)) (cI D q b sz (fun r u' => r = nI (dropD u.1) ∧ ∃ F : FT, u' = (u.1, F, u.2.2))) 0 0 (ts_A b 52 sz) := by
  refine ts_met (by decide) rfl (Nat.le_of_ble_eq_true rfl) ?_
  intro p e s m below meth c C0 hX ls hl
  obtain ⟨hsz, hW, hK, hN⟩ := hX
  subst hsz
  obtain ⟨hx, hb, hml, hown, hts, -, -, -⟩ := id C0
  have hW : ts_W D b 52 (cel q b u) s.heap := hW
  have hS : va_S (ts_A b 52 s.heap.size) s.heap s.heap [] := va_S.rf
  have hB : ∀ k, k < 52 → ts_A b 52 s.heap.size (b + k) := fun k hk => ts_Ain hk
  have hi3 : ∀ w ∈ wsX30, w ∈ wsX3_untypable := ts_lays 51 rfl
  have hl : lv_has ls 1 [(0, .ref (b + 1))] := hl
  have hs := hwf.sz
  refine lv_aload_n hx hb dX3_untypable_0 rfl (lv_at hl 0 rfl) ?_
  refine ts_get (C := RX3) (T := TX3) (N := 5) (v := .int (nI (u.1.1 2))) hx hb hts hi3 hown hK hW 1 (by decide) cel_pr rfl 3 (by decide) (List.mem_of_getElem? (i := 1) rfl) rfl dX3_untypable_1 ?_
  refine lv_aload_n hx hb dX3_untypable_4 rfl (lv_at hl 0 rfl) ?_
  refine ts_retI (va_runV (As := []) (rest := [.int (nI (u.1.1 2))]) ⟨hx, hb, hml, hown, hts⟩ (k_X3_typable l D q b s.heap.size u hwf) (cwV 0 hts gX3_untypable_X3_typable rfl rfl rfl (by decide +kernel) ⟨Nat.le_of_ble_eq_true rfl, Nat.le_of_ble_eq_true rfl⟩) (ts_preV hK hN hW 1 (by decide) cel_pr rfl) rfl rfl hl.1 rfl (lv_room (Nat.le_of_ble_eq_true rfl)) dX3_untypable_5 ⟨Nat.zero_le _, Nat.zero_le _⟩) hS (fun x h => ts_Aup hS.1 h) (fun r1 u2 H locs hp3 hW _ _ hS => ?_)
  obtain ⟨hp3r, F4, hp3u⟩ := hp3
  have hp3r : r1 = nI (typN u.1 (u.1.1 1)) := hp3r
  have hp3u : u2 = (u.1, F4, u.2.2.1, u.2.2.2) := hp3u
  rw [hp3r]
  rw [hp3u] at hW
  refine lv_iconst (v := (-1)) hx hb dX3_untypable_8 (by decide) ?_
  refine ts_ixor (v := (nI (typN u.1 (u.1.1 1))) ^^^ (-1)) hx hb dX3_untypable_9 rfl ?_
  refine ts_iand (v := nI (dropD u.1)) hx hb dX3_untypable_10 (ts_diff _ _) ?_
  exact ts_iret (u := (u.1, F4, u.2.2.1, u.2.2.2)) (v := nI (dropD u.1)) C0 hW hS (by exact ⟨rfl, _, rfl⟩) dX3_untypable_11
set_option maxHeartbeats 4000000 in
set_option maxRecDepth 100000 in
theorem k_X3_dropUntypable (l : Launch) (D : va_G) (q : CQ) (b sz : Nat) (u : ST)  (hwf : WP u.1) : Met l yX3_dropUntypable wsX3_dropUntypable ({ frames := 5, cells := 0, slots := 0, locals := 108 } : Room) (va_Pc [.ref (b + 1)] (Pr D q b sz u)) (cI D q b sz (fun r u' => r = nI (cntB (dropD u.1) 10) ∧ ∃ F : FT, u' = (dropP u.1, F, u.2.2))) 0 0 (ts_A b 52 sz) := by
  refine ts_met (by decide) rfl (Nat.le_of_ble_eq_true rfl) ?_
  intro p e s m below meth c C0 hX ls hl
  obtain ⟨hsz, hW, hK, hN⟩ := hX
  subst hsz
  obtain ⟨hx, hb, hml, hown, hts, -, -, -⟩ := id C0
  have hW : ts_W D b 52 (cel q b u) s.heap := hW
  have hS : va_S (ts_A b 52 s.heap.size) s.heap s.heap [] := va_S.rf
  have hB : ∀ k, k < 52 → ts_A b 52 s.heap.size (b + k) := fun k hk => ts_Ain hk
  have hi3 : ∀ w ∈ wsX30, w ∈ wsX3_dropUntypable := ts_lays 62 rfl
  have hl : lv_has ls 2 [(0, .ref (b + 1))] := hl
  have hs := hwf.sz
  have hty := hwf.ty
  have hd : dropD u.1 < 1024 := diffN_lt (n := 10) hty
  refine lv_aload_n hx hb dX3_dropUntypable_0 rfl (lv_at hl 0 rfl) ?_
  refine ts_retI (va_runV (As := []) (rest := []) ⟨hx, hb, hml, hown, hts⟩ (k_X3_untypable l D q b s.heap.size u hwf) (cwV 0 hts gX3_dropUntypable_X3_untypable rfl rfl rfl (by decide +kernel) ⟨Nat.le_of_ble_eq_true rfl, Nat.le_of_ble_eq_true rfl⟩) (ts_preV hK hN hW 1 (by decide) cel_pr rfl) rfl rfl hl.1 rfl (lv_room (Nat.le_of_ble_eq_true rfl)) dX3_dropUntypable_1 ⟨Nat.zero_le _, Nat.zero_le _⟩) hS (fun x h => ts_Aup hS.1 h) (fun r1 u2 H locs hp3 hW _ _ hS => ?_)
  obtain ⟨hp3r, F4, hp3u⟩ := hp3
  have hp3r : r1 = nI (dropD u.1) := hp3r
  have hp3u : u2 = (u.1, F4, u.2.2.1, u.2.2.2) := hp3u
  rw [hp3r]
  rw [hp3u] at hW
  refine lv_istore_n (lv' := [(1, .int (nI (dropD u.1))), (0, .ref (b + 1))]) hx hb dX3_dropUntypable_4 rfl hl (by decide) rfl (fun ls hl => ?_)
  refine lv_aload_n hx hb dX3_dropUntypable_5 rfl (lv_at hl 1 rfl) ?_
  refine lv_dup hx hb dX3_dropUntypable_6 rfl ?_
  refine ts_get (C := RX3) (T := TX3) (N := 5) (v := .int (nI (u.1.1 2))) hx hb hts hi3 hown hK hW 1 (by decide) cel_pr rfl 3 (by decide) (List.mem_of_getElem? (i := 1) rfl) rfl dX3_dropUntypable_7 ?_
  refine lv_iload_n hx hb dX3_dropUntypable_10 rfl (lv_at hl 0 rfl) ?_
  refine lv_iconst (v := (-1)) hx hb dX3_dropUntypable_11 (by decide) ?_
  refine ts_ixor (v := (nI (dropD u.1)) ^^^ (-1)) hx hb dX3_dropUntypable_12 rfl ?_
  refine ts_iand (v := nI (diffN (u.1.1 2) (dropD u.1))) hx hb dX3_dropUntypable_13 (ts_diff _ _) ?_
  refine ts_put (C := RX3) (T := TX3) (N := 5) (v := .int (nI (diffN (u.1.1 2) (dropD u.1)))) hx hb hts hi3 tyX3 tyX3_ok nmX3 hown hK hW hS hB 1 (by decide) cel_pr rfl 3 (by decide) (List.mem_of_getElem? (i := 1) rfl) rfl rfl rfl (Nat.le_of_ble_eq_true rfl) (cel q b ((va_up u.1.1 2 (diffN (u.1.1 2) (dropD u.1)), u.1.2), F4, u.2.2.1, u.2.2.2)) rfl (cel_oP rfl (fun i hi => va_up_ne _ _ (by omega)) rfl rfl) dX3_dropUntypable_14 (fun H locs _ _ hW hS => ?_)
  refine lv_iload_n hx hb dX3_dropUntypable_17 rfl (lv_at hl 0 rfl) ?_
  refine ts_retI (va_runS (As := [.int (nI (dropD u.1))]) (rest := []) ⟨hx, hb, hml, hown, hts⟩ (k_J6_bitCount_0f7a4 l D q b H.size ((va_up u.1.1 2 (diffN (u.1.1 2) (dropD u.1)), u.1.2), F4, u.2.2.1, u.2.2.2) (dropD u.1) (by omega)) (va_cwS 1 hts gX3_dropUntypable_J6_bitCount_0f7a4 rfl rfl rfl (by decide +kernel) ⟨Nat.le_of_ble_eq_true rfl, Nat.le_of_ble_eq_true rfl⟩) (ts_preS hK hN hW) rfl rfl hl.1 rfl (lv_room (Nat.le_of_ble_eq_true rfl)) dX3_dropUntypable_18 ⟨Nat.zero_le _, Nat.zero_le _⟩) hS (fun x h => ts_Aup hS.1 h) (fun r5 u6 H locs hp7 hW _ _ hS => ?_)
  have hp7r : r5 = nI (cntB (dropD u.1) 10) := hp7.1
  have hp7u : u6 = ((va_up u.1.1 2 (diffN (u.1.1 2) (dropD u.1)), u.1.2), F4, u.2.2.1, u.2.2.2) := hp7.2
  rw [hp7r]
  rw [hp7u] at hW
  exact ts_iret (u := ((va_up u.1.1 2 (diffN (u.1.1 2) (dropD u.1)), u.1.2), F4, u.2.2.1, u.2.2.2)) (v := nI (cntB (dropD u.1) 10)) C0 hW hS (by exact ⟨rfl, _, rfl⟩) dX3_dropUntypable_21
set_option maxHeartbeats 4000000 in
set_option maxRecDepth 100000 in
theorem k_X3_afterStepsChanged (l : Launch) (D : va_G) (q : CQ) (b sz : Nat) (u : ST)  (hwf : WP u.1) : Met l yX3_afterStepsChanged wsX3_afterStepsChanged ({ frames := 6, cells := 0, slots := 0, locals := 129 } : Room) (va_Pc [.ref (b + 1)] (Pr D q b sz u)) (cV D q b sz (fun u' => ∃ F : FT, u' = (dropP (chkP u.1 1), F, u.2.2))) 0 0 (ts_A b 52 sz) := by
  refine ts_met (by decide) rfl (Nat.le_of_ble_eq_true rfl) ?_
  intro p e s m below meth c C0 hX ls hl
  obtain ⟨hsz, hW, hK, hN⟩ := hX
  subst hsz
  obtain ⟨hx, hb, hml, hown, hts, -, -, -⟩ := id C0
  have hW : ts_W D b 52 (cel q b u) s.heap := hW
  have hS : va_S (ts_A b 52 s.heap.size) s.heap s.heap [] := va_S.rf
  have hB : ∀ k, k < 52 → ts_A b 52 s.heap.size (b + k) := fun k hk => ts_Ain hk
  have hi3 : ∀ w ∈ wsX30, w ∈ wsX3_afterStepsChanged := ts_lays 67 rfl
  have hl : lv_has ls 1 [(0, .ref (b + 1))] := hl
  have hs := hwf.sz
  refine lv_aload_n hx hb dX3_afterStepsChanged_0 rfl (lv_at hl 0 rfl) ?_
  refine lv_dup hx hb dX3_afterStepsChanged_1 rfl ?_
  refine ts_get (C := RX3) (T := TX3) (N := 5) (v := .int (nI (u.1.1 3))) hx hb hts hi3 hown hK hW 1 (by decide) cel_pr rfl 4 (by decide) (List.mem_of_getElem? (i := 1) rfl) rfl dX3_afterStepsChanged_2 ?_
  refine lv_iconst (v := nI 1) hx hb dX3_afterStepsChanged_5 (by decide) ?_
  refine ts_iadd (v := nI ((u.1.1 3) + 1)) hx hb dX3_afterStepsChanged_6 (nI_add _ _) ?_
  refine ts_put (C := RX3) (T := TX3) (N := 5) (v := .int (nI ((u.1.1 3) + 1))) hx hb hts hi3 tyX3 tyX3_ok nmX3 hown hK hW hS hB 1 (by decide) cel_pr rfl 4 (by decide) (List.mem_of_getElem? (i := 1) rfl) rfl rfl rfl (Nat.le_of_ble_eq_true rfl) (cel q b ((va_up u.1.1 3 ((u.1.1 3) + 1), u.1.2), u.2.1, u.2.2.1, u.2.2.2)) rfl (cel_oP rfl (fun i hi => va_up_ne _ _ (by omega)) rfl rfl) dX3_afterStepsChanged_7 (fun H locs _ _ hW hS => ?_)
  refine lv_aload_n hx hb dX3_afterStepsChanged_10 rfl (lv_at hl 0 rfl) ?_
  refine ts_retI (va_runV (As := []) (rest := []) ⟨hx, hb, hml, hown, hts⟩ (k_X3_dropUntypable l D q b H.size ((va_up u.1.1 3 ((u.1.1 3) + 1), u.1.2), u.2.1, u.2.2.1, u.2.2.2) (hwf.chk _)) (cwV 0 hts gX3_afterStepsChanged_X3_dropUntypable rfl rfl rfl (by decide +kernel) ⟨Nat.le_of_ble_eq_true rfl, Nat.le_of_ble_eq_true rfl⟩) (ts_preV hK hN hW 1 (by decide) cel_pr rfl) rfl rfl hl.1 rfl (lv_room (Nat.le_of_ble_eq_true rfl)) dX3_afterStepsChanged_11 ⟨Nat.zero_le _, Nat.zero_le _⟩) hS (fun x h => ts_Aup hS.1 h) (fun r1 u2 H locs hp3 hW _ _ hS => ?_)
  obtain ⟨hp3r, F4, hp3u⟩ := hp3
  have hp3r : r1 = nI (cntB (dropD (va_up u.1.1 3 ((u.1.1 3) + 1), u.1.2)) 10) := hp3r
  have hp3u : u2 = ((dropP (va_up u.1.1 3 ((u.1.1 3) + 1), u.1.2)), F4, u.2.2.1, u.2.2.2) := hp3u
  rw [hp3r]
  rw [hp3u] at hW
  refine lv_pop hx hb dX3_afterStepsChanged_14 rfl ?_
  exact ts_vret (u := ((dropP (va_up u.1.1 3 ((u.1.1 3) + 1), u.1.2)), F4, u.2.2.1, u.2.2.2)) C0 hW hS (by exact ⟨_, rfl⟩) dX3_afterStepsChanged_15
set_option maxHeartbeats 4000000 in
set_option maxRecDepth 100000 in
theorem k_X3_changeHints (l : Launch) (D : va_G) (q : CQ) (b sz : Nat) (u : ST) (f a o : Nat) (hwf : WP u.1) (hf : f < 10) (ha : a ≤ 3) (ho : o ≤ 3) : Met l yX3_changeHints wsX3_changeHints ({ frames := 2, cells := 0, slots := 0, locals := 45 } : Room) (va_Pc [.ref (b + 1), .int (nI f), .int (nI a), .int (nI o)] (Pr D q b sz u)) (cI D q b sz (fun r u' => r = nI (chgN u.1 f a o) ∧ u' = (hintC u.1 f a o, u.2))) 0 0 (ts_A b 52 sz) := by
  refine ts_met (by decide) rfl (Nat.le_of_ble_eq_true rfl) ?_
  intro p e s m below meth c C0 hX ls hl
  obtain ⟨hsz, hW, hK, hN⟩ := hX
  subst hsz
  obtain ⟨hx, hb, hml, hown, hts, -, -, -⟩ := id C0
  have hW : ts_W D b 52 (cel q b u) s.heap := hW
  have hS : va_S (ts_A b 52 s.heap.size) s.heap s.heap [] := va_S.rf
  have hB : ∀ k, k < 52 → ts_A b 52 s.heap.size (b + k) := fun k hk => ts_Ain hk
  have hi2 : ∀ w ∈ wsX20, w ∈ wsX3_changeHints := ts_lays 23 rfl
  have hi3 : ∀ w ∈ wsX30, w ∈ wsX3_changeHints := ts_lays 18 rfl
  have hl : lv_has ls 6 [(0, .ref (b + 1)), (1, .int (nI f)), (2, .int (nI a)), (3, .int (nI o))] := hl
  have hs := hwf.sz
  refine lv_aload_n hx hb dX3_changeHints_0 rfl (lv_at hl 0 rfl) ?_
  refine ts_get (C := RX3) (T := TX3) (N := 5) (v := .ref (b + 2)) hx hb hts hi3 hown hK hW 1 (by decide) cel_pr rfl 0 (by decide) (List.mem_of_getElem? (i := 1) rfl) rfl dX3_changeHints_1 ?_
  refine lv_iload_n hx hb dX3_changeHints_4 rfl (lv_at hl 1 rfl) ?_
  refine ts_aald (a := b + (3 + 2 * f)) hx hb hK hW 2 (by decide) 1 cel_fs rfl rfl (by omega) (by decide) rfl dX3_changeHints_5 ?_
  refine lv_astore (lv' := [(4, .ref (b + (3 + 2 * f))), (0, .ref (b + 1)), (1, .int (nI f)), (2, .int (nI a)), (3, .int (nI o))]) hx hb dX3_changeHints_6 hl (by decide) rfl (fun ls hl => ?_)
  refine lv_aload hx hb dX3_changeHints_8 (lv_at hl 0 rfl) ?_
  refine ts_get (C := RX2) (T := TX2) (N := 4) (v := .int (nI (u.1.1 (30 + f)))) hx hb hts hi2 hown hK hW (3 + 2 * f) (by omega) (cel_fn (by omega)) rfl 2 (by decide) (List.mem_of_getElem? (i := 2) rfl) rfl dX3_changeHints_10 ?_
  have hq1 := hwf.fin (i := f) (by omega)
  refine lv_iload_n hx hb dX3_changeHints_13 rfl (lv_at hl 3 rfl) ?_
  refine lv_icmp_ne (tgt := 21) hx hb dX3_changeHints_14 (by decide) (fun c2 => ?_) (fun c2 => ?_)
  · skip
    rw [nI_eq (by omega) (by omega)] at c2
    refine lv_iconst (v := nI 1) hx hb dX3_changeHints_21 (by decide) ?_
    refine lv_aload hx hb dX3_changeHints_22 (lv_at hl 0 rfl) ?_
    refine ts_get (C := RX2) (T := TX2) (N := 4) (v := .int (nI (u.1.1 (40 + f)))) hx hb hts hi2 hown hK hW (3 + 2 * f) (by omega) (cel_fn (by omega)) rfl 3 (by decide) (List.mem_of_getElem? (i := 3) rfl) rfl dX3_changeHints_24 ?_
    have hq3 := hwf.fout (i := f) (by omega)
    refine lv_iload_n hx hb dX3_changeHints_27 rfl (lv_at hl 4 rfl) ?_
    refine lv_icmp_ne (tgt := 35) hx hb dX3_changeHints_28 (by decide) (fun c4 => ?_) (fun c4 => ?_)
    · skip
      rw [nI_eq (by omega) (by omega)] at c4
      refine lv_iconst (v := nI 1) hx hb dX3_changeHints_35 (by decide) ?_
      refine ts_iadd (v := nI (1 + 1)) hx hb dX3_changeHints_36 (nI_add _ _) ?_
      refine lv_istore (lv' := [(5, .int (nI (1 + 1))), (4, .ref (b + (3 + 2 * f))), (0, .ref (b + 1)), (1, .int (nI f)), (2, .int (nI a)), (3, .int (nI o))]) hx hb dX3_changeHints_37 hl (by decide) rfl (fun ls hl => ?_)
      refine lv_aload hx hb dX3_changeHints_39 (lv_at hl 1 rfl) ?_
      refine lv_iload_n hx hb dX3_changeHints_41 rfl (lv_at hl 4 rfl) ?_
      refine ts_put (C := RX2) (T := TX2) (N := 4) (v := .int (nI a)) hx hb hts hi2 tyX2 tyX2_ok nmX2 hown hK hW hS hB (3 + 2 * f) (by omega) (cel_fn (by omega)) rfl 2 (by decide) (List.mem_of_getElem? (i := 2) rfl) rfl rfl rfl (Nat.le_of_ble_eq_true rfl) (cel q b ((va_up u.1.1 (30 + f) a, u.1.2), u.2.1, u.2.2.1, u.2.2.2)) (by rw [cel_fn (by omega)]; simp [va_up]) (cel_oFn (by omega) rfl (fun j h1 h2 h3 => va_up_ne _ _ (by omega)) rfl) dX3_changeHints_42 (fun H locs _ _ hW hS => ?_)
      refine lv_aload hx hb dX3_changeHints_45 (lv_at hl 1 rfl) ?_
      refine lv_iload_n hx hb dX3_changeHints_47 rfl (lv_at hl 5 rfl) ?_
      refine ts_put (C := RX2) (T := TX2) (N := 4) (v := .int (nI o)) hx hb hts hi2 tyX2 tyX2_ok nmX2 hown hK hW hS hB (3 + 2 * f) (by omega) (cel_fn (by omega)) rfl 3 (by decide) (List.mem_of_getElem? (i := 3) rfl) rfl rfl rfl (Nat.le_of_ble_eq_true rfl) (cel q b ((va_up (va_up u.1.1 (30 + f) a) (40 + f) o, u.1.2), u.2.1, u.2.2.1, u.2.2.2)) (by rw [cel_fn (by omega)]; simp [va_up]) (cel_oFn (by omega) rfl (fun j h1 h2 h3 => va_up_ne _ _ (by omega)) rfl) dX3_changeHints_48 (fun H locs _ _ hW hS => ?_)
      refine lv_iload hx hb dX3_changeHints_51 (lv_at hl 0 rfl) ?_
      refine lv_if_le (tgt := 72) hx hb dX3_changeHints_53 (by decide) (fun c5 => ?_) (fun c5 => ?_)
      · skip
        exfalso; revert c5; decide
      refine lv_aload_n hx hb dX3_changeHints_56 rfl (lv_at hl 2 rfl) ?_
      refine lv_dup hx hb dX3_changeHints_57 rfl ?_
      refine ts_get (C := RX3) (T := TX3) (N := 5) (v := .int (nI ((va_up (va_up u.1.1 (30 + f) a) (40 + f) o) 3))) hx hb hts hi3 hown hK hW 1 (by decide) cel_pr rfl 4 (by decide) (List.mem_of_getElem? (i := 4) rfl) rfl dX3_changeHints_58 ?_
      refine lv_iconst (v := nI 1) hx hb dX3_changeHints_61 (by decide) ?_
      refine lv_aload_n hx hb dX3_changeHints_62 rfl (lv_at hl 2 rfl) ?_
      refine lv_iload_n hx hb dX3_changeHints_63 rfl (lv_at hl 3 rfl) ?_
      refine ts_retI (va_runV (As := [.int (nI f)]) (rest := [.int (nI 1), .int (nI ((va_up (va_up u.1.1 (30 + f) a) (40 + f) o) 3)), .ref (b + 1)]) ⟨hx, hb, hml, hown, hts⟩ (k_X3_callersOf l D q b H.size ((va_up (va_up u.1.1 (30 + f) a) (40 + f) o, u.1.2), u.2.1, u.2.2.1, u.2.2.2) f (hwf.hint hf ha ho) (by omega)) (cwV 1 hts gX3_changeHints_X3_callersOf rfl rfl rfl (by decide +kernel) ⟨Nat.le_of_ble_eq_true rfl, Nat.le_of_ble_eq_true rfl⟩) (ts_preV hK hN hW 1 (by decide) cel_pr rfl) rfl rfl hl.1 rfl (lv_room (Nat.le_of_ble_eq_true rfl)) dX3_changeHints_64 ⟨Nat.zero_le _, Nat.zero_le _⟩) hS (fun x h => ts_Aup hS.1 h) (fun r6 u7 H locs hp8 hW _ _ hS => ?_)
      have hp8r : r6 = nI (calN (va_up (va_up u.1.1 (30 + f) a) (40 + f) o, u.1.2) f ((va_up (va_up u.1.1 (30 + f) a) (40 + f) o) 1)) := hp8.1
      have hp8u : u7 = ((va_up (va_up u.1.1 (30 + f) a) (40 + f) o, u.1.2), u.2.1, u.2.2.1, u.2.2.2) := hp8.2
      rw [hp8r]
      rw [hp8u] at hW
      refine ts_iadd (v := nI (1 + (calN (va_up (va_up u.1.1 (30 + f) a) (40 + f) o, u.1.2) f ((va_up (va_up u.1.1 (30 + f) a) (40 + f) o) 1)))) hx hb dX3_changeHints_67 (nI_add _ _) ?_
      refine ts_iadd (v := nI (((va_up (va_up u.1.1 (30 + f) a) (40 + f) o) 3) + (1 + (calN (va_up (va_up u.1.1 (30 + f) a) (40 + f) o, u.1.2) f ((va_up (va_up u.1.1 (30 + f) a) (40 + f) o) 1))))) hx hb dX3_changeHints_68 (nI_add _ _) ?_
      refine ts_put (C := RX3) (T := TX3) (N := 5) (v := .int (nI (((va_up (va_up u.1.1 (30 + f) a) (40 + f) o) 3) + (1 + (calN (va_up (va_up u.1.1 (30 + f) a) (40 + f) o, u.1.2) f ((va_up (va_up u.1.1 (30 + f) a) (40 + f) o) 1)))))) hx hb hts hi3 tyX3 tyX3_ok nmX3 hown hK hW hS hB 1 (by decide) cel_pr rfl 4 (by decide) (List.mem_of_getElem? (i := 4) rfl) rfl rfl rfl (Nat.le_of_ble_eq_true rfl) (cel q b ((va_up (va_up (va_up u.1.1 (30 + f) a) (40 + f) o) 3 (((va_up (va_up u.1.1 (30 + f) a) (40 + f) o) 3) + (1 + (calN (va_up (va_up u.1.1 (30 + f) a) (40 + f) o, u.1.2) f ((va_up (va_up u.1.1 (30 + f) a) (40 + f) o) 1)))), u.1.2), u.2.1, u.2.2.1, u.2.2.2)) rfl (cel_oP rfl (fun i hi => va_up_ne _ _ (by omega)) rfl rfl) dX3_changeHints_69 (fun H locs _ _ hW hS => ?_)
      refine lv_iload hx hb dX3_changeHints_72 (lv_at hl 0 rfl) ?_
      exact ts_iret (u := ((va_up (va_up (va_up u.1.1 (30 + f) a) (40 + f) o) 3 (((va_up (va_up u.1.1 (30 + f) a) (40 + f) o) 3) + (1 + (calN (va_up (va_up u.1.1 (30 + f) a) (40 + f) o, u.1.2) f ((va_up (va_up u.1.1 (30 + f) a) (40 + f) o) 1)))), u.1.2), u.2.1, u.2.2.1, u.2.2.2)) (v := nI (1 + 1)) C0 hW hS (by refine ⟨congrArg nI (by unfold chgN; simp [*]), ?_⟩; unfold hintC; simp [chgN, *]; rfl) dX3_changeHints_74
    rw [nI_eq (by omega) (by omega)] at c4
    refine lv_iconst (v := nI 0) hx hb dX3_changeHints_31 (by decide) ?_
    refine lv_goto (tgt := 36) hx hb dX3_changeHints_32 (by decide) ?_
    refine ts_iadd (v := nI (1 + 0)) hx hb dX3_changeHints_36 (nI_add _ _) ?_
    refine lv_istore (lv' := [(5, .int (nI (1 + 0))), (4, .ref (b + (3 + 2 * f))), (0, .ref (b + 1)), (1, .int (nI f)), (2, .int (nI a)), (3, .int (nI o))]) hx hb dX3_changeHints_37 hl (by decide) rfl (fun ls hl => ?_)
    refine lv_aload hx hb dX3_changeHints_39 (lv_at hl 1 rfl) ?_
    refine lv_iload_n hx hb dX3_changeHints_41 rfl (lv_at hl 4 rfl) ?_
    refine ts_put (C := RX2) (T := TX2) (N := 4) (v := .int (nI a)) hx hb hts hi2 tyX2 tyX2_ok nmX2 hown hK hW hS hB (3 + 2 * f) (by omega) (cel_fn (by omega)) rfl 2 (by decide) (List.mem_of_getElem? (i := 2) rfl) rfl rfl rfl (Nat.le_of_ble_eq_true rfl) (cel q b ((va_up u.1.1 (30 + f) a, u.1.2), u.2.1, u.2.2.1, u.2.2.2)) (by rw [cel_fn (by omega)]; simp [va_up]) (cel_oFn (by omega) rfl (fun j h1 h2 h3 => va_up_ne _ _ (by omega)) rfl) dX3_changeHints_42 (fun H locs _ _ hW hS => ?_)
    refine lv_aload hx hb dX3_changeHints_45 (lv_at hl 1 rfl) ?_
    refine lv_iload_n hx hb dX3_changeHints_47 rfl (lv_at hl 5 rfl) ?_
    refine ts_put (C := RX2) (T := TX2) (N := 4) (v := .int (nI o)) hx hb hts hi2 tyX2 tyX2_ok nmX2 hown hK hW hS hB (3 + 2 * f) (by omega) (cel_fn (by omega)) rfl 3 (by decide) (List.mem_of_getElem? (i := 3) rfl) rfl rfl rfl (Nat.le_of_ble_eq_true rfl) (cel q b ((va_up (va_up u.1.1 (30 + f) a) (40 + f) o, u.1.2), u.2.1, u.2.2.1, u.2.2.2)) (by rw [cel_fn (by omega)]; simp [va_up]) (cel_oFn (by omega) rfl (fun j h1 h2 h3 => va_up_ne _ _ (by omega)) rfl) dX3_changeHints_48 (fun H locs _ _ hW hS => ?_)
    refine lv_iload hx hb dX3_changeHints_51 (lv_at hl 0 rfl) ?_
    refine lv_if_le (tgt := 72) hx hb dX3_changeHints_53 (by decide) (fun c9 => ?_) (fun c9 => ?_)
    · skip
      exfalso; revert c9; decide
    refine lv_aload_n hx hb dX3_changeHints_56 rfl (lv_at hl 2 rfl) ?_
    refine lv_dup hx hb dX3_changeHints_57 rfl ?_
    refine ts_get (C := RX3) (T := TX3) (N := 5) (v := .int (nI ((va_up (va_up u.1.1 (30 + f) a) (40 + f) o) 3))) hx hb hts hi3 hown hK hW 1 (by decide) cel_pr rfl 4 (by decide) (List.mem_of_getElem? (i := 4) rfl) rfl dX3_changeHints_58 ?_
    refine lv_iconst (v := nI 1) hx hb dX3_changeHints_61 (by decide) ?_
    refine lv_aload_n hx hb dX3_changeHints_62 rfl (lv_at hl 2 rfl) ?_
    refine lv_iload_n hx hb dX3_changeHints_63 rfl (lv_at hl 3 rfl) ?_
    refine ts_retI (va_runV (As := [.int (nI f)]) (rest := [.int (nI 1), .int (nI ((va_up (va_up u.1.1 (30 + f) a) (40 + f) o) 3)), .ref (b + 1)]) ⟨hx, hb, hml, hown, hts⟩ (k_X3_callersOf l D q b H.size ((va_up (va_up u.1.1 (30 + f) a) (40 + f) o, u.1.2), u.2.1, u.2.2.1, u.2.2.2) f (hwf.hint hf ha ho) (by omega)) (cwV 1 hts gX3_changeHints_X3_callersOf rfl rfl rfl (by decide +kernel) ⟨Nat.le_of_ble_eq_true rfl, Nat.le_of_ble_eq_true rfl⟩) (ts_preV hK hN hW 1 (by decide) cel_pr rfl) rfl rfl hl.1 rfl (lv_room (Nat.le_of_ble_eq_true rfl)) dX3_changeHints_64 ⟨Nat.zero_le _, Nat.zero_le _⟩) hS (fun x h => ts_Aup hS.1 h) (fun r10 u11 H locs hp12 hW _ _ hS => ?_)
    have hp12r : r10 = nI (calN (va_up (va_up u.1.1 (30 + f) a) (40 + f) o, u.1.2) f ((va_up (va_up u.1.1 (30 + f) a) (40 + f) o) 1)) := hp12.1
    have hp12u : u11 = ((va_up (va_up u.1.1 (30 + f) a) (40 + f) o, u.1.2), u.2.1, u.2.2.1, u.2.2.2) := hp12.2
    rw [hp12r]
    rw [hp12u] at hW
    refine ts_iadd (v := nI (1 + (calN (va_up (va_up u.1.1 (30 + f) a) (40 + f) o, u.1.2) f ((va_up (va_up u.1.1 (30 + f) a) (40 + f) o) 1)))) hx hb dX3_changeHints_67 (nI_add _ _) ?_
    refine ts_iadd (v := nI (((va_up (va_up u.1.1 (30 + f) a) (40 + f) o) 3) + (1 + (calN (va_up (va_up u.1.1 (30 + f) a) (40 + f) o, u.1.2) f ((va_up (va_up u.1.1 (30 + f) a) (40 + f) o) 1))))) hx hb dX3_changeHints_68 (nI_add _ _) ?_
    refine ts_put (C := RX3) (T := TX3) (N := 5) (v := .int (nI (((va_up (va_up u.1.1 (30 + f) a) (40 + f) o) 3) + (1 + (calN (va_up (va_up u.1.1 (30 + f) a) (40 + f) o, u.1.2) f ((va_up (va_up u.1.1 (30 + f) a) (40 + f) o) 1)))))) hx hb hts hi3 tyX3 tyX3_ok nmX3 hown hK hW hS hB 1 (by decide) cel_pr rfl 4 (by decide) (List.mem_of_getElem? (i := 4) rfl) rfl rfl rfl (Nat.le_of_ble_eq_true rfl) (cel q b ((va_up (va_up (va_up u.1.1 (30 + f) a) (40 + f) o) 3 (((va_up (va_up u.1.1 (30 + f) a) (40 + f) o) 3) + (1 + (calN (va_up (va_up u.1.1 (30 + f) a) (40 + f) o, u.1.2) f ((va_up (va_up u.1.1 (30 + f) a) (40 + f) o) 1)))), u.1.2), u.2.1, u.2.2.1, u.2.2.2)) rfl (cel_oP rfl (fun i hi => va_up_ne _ _ (by omega)) rfl rfl) dX3_changeHints_69 (fun H locs _ _ hW hS => ?_)
    refine lv_iload hx hb dX3_changeHints_72 (lv_at hl 0 rfl) ?_
    exact ts_iret (u := ((va_up (va_up (va_up u.1.1 (30 + f) a) (40 + f) o) 3 (((va_up (va_up u.1.1 (30 + f) a) (40 + f) o) 3) + (1 + (calN (va_up (va_up u.1.1 (30 + f) a) (40 + f) o, u.1.2) f ((va_up (va_up u.1.1 (30 + f) a) (40 + f) o) 1)))), u.1.2), u.2.1, u.2.2.1, u.2.2.2)) (v := nI (1 + 0)) C0 hW hS (by refine ⟨congrArg nI (by unfold chgN; simp [*]), ?_⟩; unfold hintC; simp [chgN, *]; rfl) dX3_changeHints_74
  rw [nI_eq (by omega) (by omega)] at c2
  refine lv_iconst (v := nI 0) hx hb dX3_changeHints_17 (by decide) ?_
  refine lv_goto (tgt := 22) hx hb dX3_changeHints_18 (by decide) ?_
  refine lv_aload hx hb dX3_changeHints_22 (lv_at hl 0 rfl) ?_
  refine ts_get (C := RX2) (T := TX2) (N := 4) (v := .int (nI (u.1.1 (40 + f)))) hx hb hts hi2 hown hK hW (3 + 2 * f) (by omega) (cel_fn (by omega)) rfl 3 (by decide) (List.mem_of_getElem? (i := 3) rfl) rfl dX3_changeHints_24 ?_
  have hq13 := hwf.fout (i := f) (by omega)
  refine lv_iload_n hx hb dX3_changeHints_27 rfl (lv_at hl 4 rfl) ?_
  refine lv_icmp_ne (tgt := 35) hx hb dX3_changeHints_28 (by decide) (fun c14 => ?_) (fun c14 => ?_)
  · skip
    rw [nI_eq (by omega) (by omega)] at c14
    refine lv_iconst (v := nI 1) hx hb dX3_changeHints_35 (by decide) ?_
    refine ts_iadd (v := nI (0 + 1)) hx hb dX3_changeHints_36 (nI_add _ _) ?_
    refine lv_istore (lv' := [(5, .int (nI (0 + 1))), (4, .ref (b + (3 + 2 * f))), (0, .ref (b + 1)), (1, .int (nI f)), (2, .int (nI a)), (3, .int (nI o))]) hx hb dX3_changeHints_37 hl (by decide) rfl (fun ls hl => ?_)
    refine lv_aload hx hb dX3_changeHints_39 (lv_at hl 1 rfl) ?_
    refine lv_iload_n hx hb dX3_changeHints_41 rfl (lv_at hl 4 rfl) ?_
    refine ts_put (C := RX2) (T := TX2) (N := 4) (v := .int (nI a)) hx hb hts hi2 tyX2 tyX2_ok nmX2 hown hK hW hS hB (3 + 2 * f) (by omega) (cel_fn (by omega)) rfl 2 (by decide) (List.mem_of_getElem? (i := 2) rfl) rfl rfl rfl (Nat.le_of_ble_eq_true rfl) (cel q b ((va_up u.1.1 (30 + f) a, u.1.2), u.2.1, u.2.2.1, u.2.2.2)) (by rw [cel_fn (by omega)]; simp [va_up]) (cel_oFn (by omega) rfl (fun j h1 h2 h3 => va_up_ne _ _ (by omega)) rfl) dX3_changeHints_42 (fun H locs _ _ hW hS => ?_)
    refine lv_aload hx hb dX3_changeHints_45 (lv_at hl 1 rfl) ?_
    refine lv_iload_n hx hb dX3_changeHints_47 rfl (lv_at hl 5 rfl) ?_
    refine ts_put (C := RX2) (T := TX2) (N := 4) (v := .int (nI o)) hx hb hts hi2 tyX2 tyX2_ok nmX2 hown hK hW hS hB (3 + 2 * f) (by omega) (cel_fn (by omega)) rfl 3 (by decide) (List.mem_of_getElem? (i := 3) rfl) rfl rfl rfl (Nat.le_of_ble_eq_true rfl) (cel q b ((va_up (va_up u.1.1 (30 + f) a) (40 + f) o, u.1.2), u.2.1, u.2.2.1, u.2.2.2)) (by rw [cel_fn (by omega)]; simp [va_up]) (cel_oFn (by omega) rfl (fun j h1 h2 h3 => va_up_ne _ _ (by omega)) rfl) dX3_changeHints_48 (fun H locs _ _ hW hS => ?_)
    refine lv_iload hx hb dX3_changeHints_51 (lv_at hl 0 rfl) ?_
    refine lv_if_le (tgt := 72) hx hb dX3_changeHints_53 (by decide) (fun c15 => ?_) (fun c15 => ?_)
    · skip
      exfalso; revert c15; decide
    refine lv_aload_n hx hb dX3_changeHints_56 rfl (lv_at hl 2 rfl) ?_
    refine lv_dup hx hb dX3_changeHints_57 rfl ?_
    refine ts_get (C := RX3) (T := TX3) (N := 5) (v := .int (nI ((va_up (va_up u.1.1 (30 + f) a) (40 + f) o) 3))) hx hb hts hi3 hown hK hW 1 (by decide) cel_pr rfl 4 (by decide) (List.mem_of_getElem? (i := 4) rfl) rfl dX3_changeHints_58 ?_
    refine lv_iconst (v := nI 1) hx hb dX3_changeHints_61 (by decide) ?_
    refine lv_aload_n hx hb dX3_changeHints_62 rfl (lv_at hl 2 rfl) ?_
    refine lv_iload_n hx hb dX3_changeHints_63 rfl (lv_at hl 3 rfl) ?_
    refine ts_retI (va_runV (As := [.int (nI f)]) (rest := [.int (nI 1), .int (nI ((va_up (va_up u.1.1 (30 + f) a) (40 + f) o) 3)), .ref (b + 1)]) ⟨hx, hb, hml, hown, hts⟩ (k_X3_callersOf l D q b H.size ((va_up (va_up u.1.1 (30 + f) a) (40 + f) o, u.1.2), u.2.1, u.2.2.1, u.2.2.2) f (hwf.hint hf ha ho) (by omega)) (cwV 1 hts gX3_changeHints_X3_callersOf rfl rfl rfl (by decide +kernel) ⟨Nat.le_of_ble_eq_true rfl, Nat.le_of_ble_eq_true rfl⟩) (ts_preV hK hN hW 1 (by decide) cel_pr rfl) rfl rfl hl.1 rfl (lv_room (Nat.le_of_ble_eq_true rfl)) dX3_changeHints_64 ⟨Nat.zero_le _, Nat.zero_le _⟩) hS (fun x h => ts_Aup hS.1 h) (fun r16 u17 H locs hp18 hW _ _ hS => ?_)
    have hp18r : r16 = nI (calN (va_up (va_up u.1.1 (30 + f) a) (40 + f) o, u.1.2) f ((va_up (va_up u.1.1 (30 + f) a) (40 + f) o) 1)) := hp18.1
    have hp18u : u17 = ((va_up (va_up u.1.1 (30 + f) a) (40 + f) o, u.1.2), u.2.1, u.2.2.1, u.2.2.2) := hp18.2
    rw [hp18r]
    rw [hp18u] at hW
    refine ts_iadd (v := nI (1 + (calN (va_up (va_up u.1.1 (30 + f) a) (40 + f) o, u.1.2) f ((va_up (va_up u.1.1 (30 + f) a) (40 + f) o) 1)))) hx hb dX3_changeHints_67 (nI_add _ _) ?_
    refine ts_iadd (v := nI (((va_up (va_up u.1.1 (30 + f) a) (40 + f) o) 3) + (1 + (calN (va_up (va_up u.1.1 (30 + f) a) (40 + f) o, u.1.2) f ((va_up (va_up u.1.1 (30 + f) a) (40 + f) o) 1))))) hx hb dX3_changeHints_68 (nI_add _ _) ?_
    refine ts_put (C := RX3) (T := TX3) (N := 5) (v := .int (nI (((va_up (va_up u.1.1 (30 + f) a) (40 + f) o) 3) + (1 + (calN (va_up (va_up u.1.1 (30 + f) a) (40 + f) o, u.1.2) f ((va_up (va_up u.1.1 (30 + f) a) (40 + f) o) 1)))))) hx hb hts hi3 tyX3 tyX3_ok nmX3 hown hK hW hS hB 1 (by decide) cel_pr rfl 4 (by decide) (List.mem_of_getElem? (i := 4) rfl) rfl rfl rfl (Nat.le_of_ble_eq_true rfl) (cel q b ((va_up (va_up (va_up u.1.1 (30 + f) a) (40 + f) o) 3 (((va_up (va_up u.1.1 (30 + f) a) (40 + f) o) 3) + (1 + (calN (va_up (va_up u.1.1 (30 + f) a) (40 + f) o, u.1.2) f ((va_up (va_up u.1.1 (30 + f) a) (40 + f) o) 1)))), u.1.2), u.2.1, u.2.2.1, u.2.2.2)) rfl (cel_oP rfl (fun i hi => va_up_ne _ _ (by omega)) rfl rfl) dX3_changeHints_69 (fun H locs _ _ hW hS => ?_)
    refine lv_iload hx hb dX3_changeHints_72 (lv_at hl 0 rfl) ?_
    exact ts_iret (u := ((va_up (va_up (va_up u.1.1 (30 + f) a) (40 + f) o) 3 (((va_up (va_up u.1.1 (30 + f) a) (40 + f) o) 3) + (1 + (calN (va_up (va_up u.1.1 (30 + f) a) (40 + f) o, u.1.2) f ((va_up (va_up u.1.1 (30 + f) a) (40 + f) o) 1)))), u.1.2), u.2.1, u.2.2.1, u.2.2.2)) (v := nI (0 + 1)) C0 hW hS (by refine ⟨congrArg nI (by unfold chgN; simp [*]), ?_⟩; unfold hintC; simp [chgN, *]; rfl) dX3_changeHints_74
  rw [nI_eq (by omega) (by omega)] at c14
  refine lv_iconst (v := nI 0) hx hb dX3_changeHints_31 (by decide) ?_
  refine lv_goto (tgt := 36) hx hb dX3_changeHints_32 (by decide) ?_
  refine ts_iadd (v := nI (0 + 0)) hx hb dX3_changeHints_36 (nI_add _ _) ?_
  refine lv_istore (lv' := [(5, .int (nI (0 + 0))), (4, .ref (b + (3 + 2 * f))), (0, .ref (b + 1)), (1, .int (nI f)), (2, .int (nI a)), (3, .int (nI o))]) hx hb dX3_changeHints_37 hl (by decide) rfl (fun ls hl => ?_)
  refine lv_aload hx hb dX3_changeHints_39 (lv_at hl 1 rfl) ?_
  refine lv_iload_n hx hb dX3_changeHints_41 rfl (lv_at hl 4 rfl) ?_
  refine ts_put (C := RX2) (T := TX2) (N := 4) (v := .int (nI a)) hx hb hts hi2 tyX2 tyX2_ok nmX2 hown hK hW hS hB (3 + 2 * f) (by omega) (cel_fn (by omega)) rfl 2 (by decide) (List.mem_of_getElem? (i := 2) rfl) rfl rfl rfl (Nat.le_of_ble_eq_true rfl) (cel q b ((va_up u.1.1 (30 + f) a, u.1.2), u.2.1, u.2.2.1, u.2.2.2)) (by rw [cel_fn (by omega)]; simp [va_up]) (cel_oFn (by omega) rfl (fun j h1 h2 h3 => va_up_ne _ _ (by omega)) rfl) dX3_changeHints_42 (fun H locs _ _ hW hS => ?_)
  refine lv_aload hx hb dX3_changeHints_45 (lv_at hl 1 rfl) ?_
  refine lv_iload_n hx hb dX3_changeHints_47 rfl (lv_at hl 5 rfl) ?_
  refine ts_put (C := RX2) (T := TX2) (N := 4) (v := .int (nI o)) hx hb hts hi2 tyX2 tyX2_ok nmX2 hown hK hW hS hB (3 + 2 * f) (by omega) (cel_fn (by omega)) rfl 3 (by decide) (List.mem_of_getElem? (i := 3) rfl) rfl rfl rfl (Nat.le_of_ble_eq_true rfl) (cel q b ((va_up (va_up u.1.1 (30 + f) a) (40 + f) o, u.1.2), u.2.1, u.2.2.1, u.2.2.2)) (by rw [cel_fn (by omega)]; simp [va_up]) (cel_oFn (by omega) rfl (fun j h1 h2 h3 => va_up_ne _ _ (by omega)) rfl) dX3_changeHints_48 (fun H locs _ _ hW hS => ?_)
  refine lv_iload hx hb dX3_changeHints_51 (lv_at hl 0 rfl) ?_
  refine lv_if_le (tgt := 72) hx hb dX3_changeHints_53 (by decide) (fun c19 => ?_) (fun c19 => ?_)
  · skip
    refine lv_iload hx hb dX3_changeHints_72 (lv_at hl 0 rfl) ?_
    exact ts_iret (u := ((va_up (va_up u.1.1 (30 + f) a) (40 + f) o, u.1.2), u.2.1, u.2.2.1, u.2.2.2)) (v := nI (0 + 0)) C0 hW hS (by refine ⟨congrArg nI (by unfold chgN; simp [*]), ?_⟩; unfold hintC; simp [chgN, *]; rfl) dX3_changeHints_74
  exfalso; revert c19; decide
set_option maxHeartbeats 4000000 in
set_option maxRecDepth 100000 in
theorem k_X3_untypableWith (l : Launch) (D : va_G) (q : CQ) (b sz : Nat) (u : ST) (f a o : Nat) (hwf : WP u.1) (hf : f < 10) (ha : a ≤ 3) (ho : o ≤ 3) : Met l yX3_untypableWith wsX3_untypableWith ({ frames := 5, cells := 0, slots := 0, locals := 108 } : Room) (va_Pc [.ref (b + 1), .int (nI f), .int (nI a), .int (nI o)] (Pr D q b sz u)) (cI D q b sz (fun r u' => r = nI (dropD (hintP u.1 f a o)) ∧ ∃ F : FT, u' = (u.1, F, u.2.2))) 0 0 (ts_A b 52 sz) := by
  refine ts_met (by decide) rfl (Nat.le_of_ble_eq_true rfl) ?_
  intro p e s m below meth c C0 hX ls hl
  obtain ⟨hsz, hW, hK, hN⟩ := hX
  subst hsz
  obtain ⟨hx, hb, hml, hown, hts, -, -, -⟩ := id C0
  have hW : ts_W D b 52 (cel q b u) s.heap := hW
  have hS : va_S (ts_A b 52 s.heap.size) s.heap s.heap [] := va_S.rf
  have hB : ∀ k, k < 52 → ts_A b 52 s.heap.size (b + k) := fun k hk => ts_Ain hk
  have hi2 : ∀ w ∈ wsX20, w ∈ wsX3_untypableWith := ts_lays 60 rfl
  have hi3 : ∀ w ∈ wsX30, w ∈ wsX3_untypableWith := ts_lays 55 rfl
  have hl : lv_has ls 8 [(0, .ref (b + 1)), (1, .int (nI f)), (2, .int (nI a)), (3, .int (nI o))] := hl
  have hs := hwf.sz
  refine lv_aload_n hx hb dX3_untypableWith_0 rfl (lv_at hl 0 rfl) ?_
  refine ts_get (C := RX3) (T := TX3) (N := 5) (v := .ref (b + 2)) hx hb hts hi3 hown hK hW 1 (by decide) cel_pr rfl 0 (by decide) (List.mem_of_getElem? (i := 1) rfl) rfl dX3_untypableWith_1 ?_
  refine lv_iload_n hx hb dX3_untypableWith_4 rfl (lv_at hl 1 rfl) ?_
  refine ts_aald (a := b + (3 + 2 * f)) hx hb hK hW 2 (by decide) 1 cel_fs rfl rfl (by omega) (by decide) rfl dX3_untypableWith_5 ?_
  refine lv_astore (lv' := [(4, .ref (b + (3 + 2 * f))), (0, .ref (b + 1)), (1, .int (nI f)), (2, .int (nI a)), (3, .int (nI o))]) hx hb dX3_untypableWith_6 hl (by decide) rfl (fun ls hl => ?_)
  refine lv_aload hx hb dX3_untypableWith_8 (lv_at hl 0 rfl) ?_
  refine ts_get (C := RX2) (T := TX2) (N := 4) (v := .int (nI (u.1.1 (30 + f)))) hx hb hts hi2 hown hK hW (3 + 2 * f) (by omega) (cel_fn (by omega)) rfl 2 (by decide) (List.mem_of_getElem? (i := 2) rfl) rfl dX3_untypableWith_10 ?_
  have hq1 := hwf.fin (i := f) (by omega)
  refine lv_istore (lv' := [(5, .int (nI (u.1.1 (30 + f)))), (4, .ref (b + (3 + 2 * f))), (0, .ref (b + 1)), (1, .int (nI f)), (2, .int (nI a)), (3, .int (nI o))]) hx hb dX3_untypableWith_13 hl (by decide) rfl (fun ls hl => ?_)
  refine lv_aload hx hb dX3_untypableWith_15 (lv_at hl 1 rfl) ?_
  refine ts_get (C := RX2) (T := TX2) (N := 4) (v := .int (nI (u.1.1 (40 + f)))) hx hb hts hi2 hown hK hW (3 + 2 * f) (by omega) (cel_fn (by omega)) rfl 3 (by decide) (List.mem_of_getElem? (i := 3) rfl) rfl dX3_untypableWith_17 ?_
  have hq2 := hwf.fout (i := f) (by omega)
  refine lv_istore (lv' := [(6, .int (nI (u.1.1 (40 + f)))), (5, .int (nI (u.1.1 (30 + f)))), (4, .ref (b + (3 + 2 * f))), (0, .ref (b + 1)), (1, .int (nI f)), (2, .int (nI a)), (3, .int (nI o))]) hx hb dX3_untypableWith_20 hl (by decide) rfl (fun ls hl => ?_)
  refine lv_aload hx hb dX3_untypableWith_22 (lv_at hl 2 rfl) ?_
  refine lv_iload_n hx hb dX3_untypableWith_24 rfl (lv_at hl 5 rfl) ?_
  refine ts_put (C := RX2) (T := TX2) (N := 4) (v := .int (nI a)) hx hb hts hi2 tyX2 tyX2_ok nmX2 hown hK hW hS hB (3 + 2 * f) (by omega) (cel_fn (by omega)) rfl 2 (by decide) (List.mem_of_getElem? (i := 2) rfl) rfl rfl rfl (Nat.le_of_ble_eq_true rfl) (cel q b ((va_up u.1.1 (30 + f) a, u.1.2), u.2.1, u.2.2.1, u.2.2.2)) (by rw [cel_fn (by omega)]; simp [va_up]) (cel_oFn (by omega) rfl (fun j h1 h2 h3 => va_up_ne _ _ (by omega)) rfl) dX3_untypableWith_25 (fun H locs _ _ hW hS => ?_)
  refine lv_aload hx hb dX3_untypableWith_28 (lv_at hl 2 rfl) ?_
  refine lv_iload_n hx hb dX3_untypableWith_30 rfl (lv_at hl 6 rfl) ?_
  refine ts_put (C := RX2) (T := TX2) (N := 4) (v := .int (nI o)) hx hb hts hi2 tyX2 tyX2_ok nmX2 hown hK hW hS hB (3 + 2 * f) (by omega) (cel_fn (by omega)) rfl 3 (by decide) (List.mem_of_getElem? (i := 3) rfl) rfl rfl rfl (Nat.le_of_ble_eq_true rfl) (cel q b ((va_up (va_up u.1.1 (30 + f) a) (40 + f) o, u.1.2), u.2.1, u.2.2.1, u.2.2.2)) (by rw [cel_fn (by omega)]; simp [va_up]) (cel_oFn (by omega) rfl (fun j h1 h2 h3 => va_up_ne _ _ (by omega)) rfl) dX3_untypableWith_31 (fun H locs _ _ hW hS => ?_)
  refine lv_aload_n hx hb dX3_untypableWith_34 rfl (lv_at hl 3 rfl) ?_
  refine ts_retI (va_runV (As := []) (rest := []) ⟨hx, hb, hml, hown, hts⟩ (k_X3_untypable l D q b H.size ((va_up (va_up u.1.1 (30 + f) a) (40 + f) o, u.1.2), u.2.1, u.2.2.1, u.2.2.2) (hwf.hint hf ha ho)) (cwV 0 hts gX3_untypableWith_X3_untypable rfl rfl rfl (by decide +kernel) ⟨Nat.le_of_ble_eq_true rfl, Nat.le_of_ble_eq_true rfl⟩) (ts_preV hK hN hW 1 (by decide) cel_pr rfl) rfl rfl hl.1 rfl (lv_room (Nat.le_of_ble_eq_true rfl)) dX3_untypableWith_35 ⟨Nat.zero_le _, Nat.zero_le _⟩) hS (fun x h => ts_Aup hS.1 h) (fun r3 u4 H locs hp5 hW _ _ hS => ?_)
  obtain ⟨hp5r, F6, hp5u⟩ := hp5
  have hp5r : r3 = nI (dropD (va_up (va_up u.1.1 (30 + f) a) (40 + f) o, u.1.2)) := hp5r
  have hp5u : u4 = ((va_up (va_up u.1.1 (30 + f) a) (40 + f) o, u.1.2), F6, u.2.2.1, u.2.2.2) := hp5u
  rw [hp5r]
  rw [hp5u] at hW
  refine lv_istore (lv' := [(7, .int (nI (dropD (va_up (va_up u.1.1 (30 + f) a) (40 + f) o, u.1.2)))), (6, .int (nI (u.1.1 (40 + f)))), (5, .int (nI (u.1.1 (30 + f)))), (4, .ref (b + (3 + 2 * f))), (0, .ref (b + 1)), (1, .int (nI f)), (2, .int (nI a)), (3, .int (nI o))]) hx hb dX3_untypableWith_38 hl (by decide) rfl (fun ls hl => ?_)
  refine lv_aload hx hb dX3_untypableWith_40 (lv_at hl 3 rfl) ?_
  refine lv_iload hx hb dX3_untypableWith_42 (lv_at hl 2 rfl) ?_
  refine ts_put (C := RX2) (T := TX2) (N := 4) (v := .int (nI (u.1.1 (30 + f)))) hx hb hts hi2 tyX2 tyX2_ok nmX2 hown hK hW hS hB (3 + 2 * f) (by omega) (cel_fn (by omega)) rfl 2 (by decide) (List.mem_of_getElem? (i := 2) rfl) rfl rfl rfl (Nat.le_of_ble_eq_true rfl) (cel q b ((va_up (va_up (va_up u.1.1 (30 + f) a) (40 + f) o) (30 + f) (u.1.1 (30 + f)), u.1.2), F6, u.2.2.1, u.2.2.2)) (by rw [cel_fn (by omega)]; simp [va_up]) (cel_oFn (by omega) rfl (fun j h1 h2 h3 => va_up_ne _ _ (by omega)) rfl) dX3_untypableWith_44 (fun H locs _ _ hW hS => ?_)
  refine lv_aload hx hb dX3_untypableWith_47 (lv_at hl 3 rfl) ?_
  refine lv_iload hx hb dX3_untypableWith_49 (lv_at hl 1 rfl) ?_
  refine ts_put (C := RX2) (T := TX2) (N := 4) (v := .int (nI (u.1.1 (40 + f)))) hx hb hts hi2 tyX2 tyX2_ok nmX2 hown hK hW hS hB (3 + 2 * f) (by omega) (cel_fn (by omega)) rfl 3 (by decide) (List.mem_of_getElem? (i := 3) rfl) rfl rfl rfl (Nat.le_of_ble_eq_true rfl) (cel q b ((va_up (va_up (va_up (va_up u.1.1 (30 + f) a) (40 + f) o) (30 + f) (u.1.1 (30 + f))) (40 + f) (u.1.1 (40 + f)), u.1.2), F6, u.2.2.1, u.2.2.2)) (by rw [cel_fn (by omega)]; simp [va_up]) (cel_oFn (by omega) rfl (fun j h1 h2 h3 => va_up_ne _ _ (by omega)) rfl) dX3_untypableWith_51 (fun H locs _ _ hW hS => ?_)
  refine lv_iload hx hb dX3_untypableWith_54 (lv_at hl 0 rfl) ?_
  exact ts_iret (u := ((va_up (va_up (va_up (va_up u.1.1 (30 + f) a) (40 + f) o) (30 + f) (u.1.1 (30 + f))) (40 + f) (u.1.1 (40 + f)), u.1.2), F6, u.2.2.1, u.2.2.2)) (v := nI (dropD (va_up (va_up u.1.1 (30 + f) a) (40 + f) o, u.1.2))) C0 hW hS (by refine ⟨rfl, F6, ?_⟩; (rw [hint_back]) <;> rfl) dX3_untypableWith_56
set_option maxHeartbeats 4000000 in
set_option maxRecDepth 100000 in
theorem k_X3_guardsCall (l : Launch) (D : va_G) (q : CQ) (b sz : Nat) (u : ST) (r_ j s_ : Nat) (hwf : WP u.1) (hr : r_ < 31) (hj : j < 10) (hs_ : s_ < 1024) : Met l yX3_guardsCall wsX3_guardsCall ({ frames := 1, cells := 0, slots := 0, locals := 21 } : Room) (va_Pc [.ref (b + 1), .int (zI r_), .int (nI j), .int (nI s_)] (Pr D q b sz u)) (cI D q b sz (fun r u' => r = b2i (gcB u.1 r_ j s_) ∧ u' = u)) 0 0 (ts_A b 52 sz) := by
  refine ts_met (by decide) rfl (Nat.le_of_ble_eq_true rfl) ?_
  intro p e s m below meth c C0 hX ls hl
  obtain ⟨hsz, hW, hK, hN⟩ := hX
  subst hsz
  obtain ⟨hx, hb, hml, hown, hts, -, -, -⟩ := id C0
  have hW : ts_W D b 52 (cel q b u) s.heap := hW
  have hS : va_S (ts_A b 52 s.heap.size) s.heap s.heap [] := va_S.rf
  have hB : ∀ k, k < 52 → ts_A b 52 s.heap.size (b + k) := fun k hk => ts_Ain hk
  have hi2 : ∀ w ∈ wsX20, w ∈ wsX3_guardsCall := ts_lays 11 rfl
  have hi3 : ∀ w ∈ wsX30, w ∈ wsX3_guardsCall := ts_lays 6 rfl
  have hl : lv_has ls 4 [(0, .ref (b + 1)), (1, .int (zI r_)), (2, .int (nI j)), (3, .int (nI s_))] := hl
  have hs := hwf.sz
  refine lv_iload_n hx hb dX3_guardsCall_0 rfl (lv_at hl 3 rfl) ?_
  refine lv_iload_n hx hb dX3_guardsCall_1 rfl (lv_at hl 2 rfl) ?_
  refine ts_retI (va_runSN (As := [.int (nI s_), .int (nI j)]) (rest := []) ⟨hx, hb, hml, hown, hts⟩ (k_X5_has l D q b s.heap.size u s_ j (by omega) (by omega)) ⟨va_cnB 2 hts gX3_guardsCall_X5_has_n106 rfl rfl rfl (hN _ (List.mem_of_getElem? (i := 7) rfl)) (hts _ (List.mem_of_getElem? (i := 4) rfl)) (by decide +kernel) ⟨Nat.le_of_ble_eq_true rfl, Nat.le_of_ble_eq_true rfl⟩, hts _ (List.mem_of_getElem? (i := 3) rfl), trivial⟩ (ts_preS hK hN hW) rfl rfl hl.1 rfl (lv_room (Nat.le_of_ble_eq_true rfl)) dX3_guardsCall_2 ⟨Nat.zero_le _, Nat.zero_le _⟩) hS (fun x h => ts_Aup hS.1 h) (fun r1 u2 H locs hp3 hW _ _ hS => ?_)
  have hp3r : r1 = b2i (hasB s_ j) := hp3.1
  have hp3u : u2 = u := hp3.2
  rw [hp3r]
  rw [hp3u] at hW
  refine lv_if_eq (tgt := 33) hx hb dX3_guardsCall_5 (by decide) (fun c4 => ?_) (fun c4 => ?_)
  · skip
    have c4 := ts_bf c4
    refine lv_iconst (v := nI 0) hx hb dX3_guardsCall_33 (by decide) ?_
    exact ts_zret (u := u) (v := nI 0) C0 rfl hW hS (by refine ⟨?_, rfl⟩; rw [show gcB u.1 r_ j s_ = false from by first | (simp [gcB, *]; done) | (simp [gcB, *]; omega)]; rfl) dX3_guardsCall_34
  have c4 := ts_bt c4
  refine lv_iload_n hx hb dX3_guardsCall_8 rfl (lv_at hl 3 rfl) ?_
  refine lv_iload_n hx hb dX3_guardsCall_9 rfl (lv_at hl 1 rfl) ?_
  refine ts_retI (va_runSN (As := [.int (nI s_), .int (zI r_)]) (rest := []) ⟨hx, hb, hml, hown, hts⟩ (k_X5_hasR l D q b H.size u s_ (by omega) r_ (by omega)) ⟨va_cnB 2 hts gX3_guardsCall_X5_has_n106 rfl rfl rfl (hN _ (List.mem_of_getElem? (i := 7) rfl)) (hts _ (List.mem_of_getElem? (i := 4) rfl)) (by decide +kernel) ⟨Nat.le_of_ble_eq_true rfl, Nat.le_of_ble_eq_true rfl⟩, hts _ (List.mem_of_getElem? (i := 3) rfl), trivial⟩ (ts_preS hK hN hW) rfl rfl hl.1 rfl (lv_room (Nat.le_of_ble_eq_true rfl)) dX3_guardsCall_10 ⟨Nat.zero_le _, Nat.zero_le _⟩) hS (fun x h => ts_Aup hS.1 h) (fun r5 u6 H locs hp7 hW _ _ hS => ?_)
  have hp7r : r5 = b2i (hasR s_ r_) := hp7.1
  have hp7u : u6 = u := hp7.2
  rw [hp7r]
  rw [hp7u] at hW
  refine lv_if_ne (tgt := 33) hx hb dX3_guardsCall_13 (by decide) (fun c8 => ?_) (fun c8 => ?_)
  · skip
    have c8 := ts_bt c8
    refine lv_iconst (v := nI 0) hx hb dX3_guardsCall_33 (by decide) ?_
    exact ts_zret (u := u) (v := nI 0) C0 rfl hW hS (by refine ⟨?_, rfl⟩; rw [show gcB u.1 r_ j s_ = false from by first | (simp [gcB, *]; done) | (simp [gcB, *]; omega)]; rfl) dX3_guardsCall_34
  have c8 := ts_bf c8
  refine lv_aload_n hx hb dX3_guardsCall_16 rfl (lv_at hl 0 rfl) ?_
  refine ts_get (C := RX3) (T := TX3) (N := 5) (v := .ref (b + 2)) hx hb hts hi3 hown hK hW 1 (by decide) cel_pr rfl 0 (by decide) (List.mem_of_getElem? (i := 1) rfl) rfl dX3_guardsCall_17 ?_
  refine lv_iload_n hx hb dX3_guardsCall_20 rfl (lv_at hl 2 rfl) ?_
  refine ts_aald (a := b + (3 + 2 * j)) hx hb hK hW 2 (by decide) 1 cel_fs rfl rfl (by omega) (by decide) rfl dX3_guardsCall_21 ?_
  refine ts_get (C := RX2) (T := TX2) (N := 4) (v := .int (nI (u.1.1 (30 + j)))) hx hb hts hi2 hown hK hW (3 + 2 * j) (by omega) (cel_fn (by omega)) rfl 2 (by decide) (List.mem_of_getElem? (i := 2) rfl) rfl dX3_guardsCall_22 ?_
  have hq9 := hwf.fin (i := j) (by omega)
  refine lv_iconst (v := nI 3) hx hb dX3_guardsCall_25 (by decide) ?_
  refine lv_icmp_eq (tgt := 33) hx hb dX3_guardsCall_26 (by decide) (fun c10 => ?_) (fun c10 => ?_)
  · skip
    rw [nI_eq (by omega) (by omega)] at c10
    refine lv_iconst (v := nI 0) hx hb dX3_guardsCall_33 (by decide) ?_
    exact ts_zret (u := u) (v := nI 0) C0 rfl hW hS (by refine ⟨?_, rfl⟩; rw [show gcB u.1 r_ j s_ = false from by first | (simp [gcB, *]; done) | (simp [gcB, *]; omega)]; rfl) dX3_guardsCall_34
  rw [nI_eq (by omega) (by omega)] at c10
  refine lv_iconst (v := nI 1) hx hb dX3_guardsCall_29 (by decide) ?_
  refine lv_goto (tgt := 34) hx hb dX3_guardsCall_30 (by decide) ?_
  exact ts_zret (u := u) (v := nI 1) C0 rfl hW hS (by refine ⟨?_, rfl⟩; rw [show gcB u.1 r_ j s_ = true from by first | (simp [gcB, *]; done) | (simp [gcB, *]; omega)]; rfl) dX3_guardsCall_34
set_option maxHeartbeats 4000000 in
set_option maxRecDepth 100000 in
theorem k_X3_guardsGive (l : Launch) (D : va_G) (q : CQ) (b sz : Nat) (u : ST) (r_ j s_ : Nat) (hwf : WP u.1) (hr : r_ < 31) (hj : j < 10) (hs_ : s_ < 1024) : Met l yX3_guardsGive wsX3_guardsGive ({ frames := 1, cells := 0, slots := 0, locals := 21 } : Room) (va_Pc [.ref (b + 1), .int (zI r_), .int (nI j), .int (nI s_)] (Pr D q b sz u)) (cI D q b sz (fun r u' => r = b2i (ggB u.1 r_ j s_) ∧ u' = u)) 0 0 (ts_A b 52 sz) := by
  refine ts_met (by decide) rfl (Nat.le_of_ble_eq_true rfl) ?_
  intro p e s m below meth c C0 hX ls hl
  obtain ⟨hsz, hW, hK, hN⟩ := hX
  subst hsz
  obtain ⟨hx, hb, hml, hown, hts, -, -, -⟩ := id C0
  have hW : ts_W D b 52 (cel q b u) s.heap := hW
  have hS : va_S (ts_A b 52 s.heap.size) s.heap s.heap [] := va_S.rf
  have hB : ∀ k, k < 52 → ts_A b 52 s.heap.size (b + k) := fun k hk => ts_Ain hk
  have hi2 : ∀ w ∈ wsX20, w ∈ wsX3_guardsGive := ts_lays 11 rfl
  have hi3 : ∀ w ∈ wsX30, w ∈ wsX3_guardsGive := ts_lays 6 rfl
  have hl : lv_has ls 4 [(0, .ref (b + 1)), (1, .int (zI r_)), (2, .int (nI j)), (3, .int (nI s_))] := hl
  have hs := hwf.sz
  refine lv_iload_n hx hb dX3_guardsGive_0 rfl (lv_at hl 3 rfl) ?_
  refine lv_iload_n hx hb dX3_guardsGive_1 rfl (lv_at hl 1 rfl) ?_
  refine ts_retI (va_runSN (As := [.int (nI s_), .int (zI r_)]) (rest := []) ⟨hx, hb, hml, hown, hts⟩ (k_X5_hasR l D q b s.heap.size u s_ (by omega) r_ (by omega)) ⟨va_cnB 2 hts gX3_guardsGive_X5_has_n106 rfl rfl rfl (hN _ (List.mem_of_getElem? (i := 7) rfl)) (hts _ (List.mem_of_getElem? (i := 4) rfl)) (by decide +kernel) ⟨Nat.le_of_ble_eq_true rfl, Nat.le_of_ble_eq_true rfl⟩, hts _ (List.mem_of_getElem? (i := 3) rfl), trivial⟩ (ts_preS hK hN hW) rfl rfl hl.1 rfl (lv_room (Nat.le_of_ble_eq_true rfl)) dX3_guardsGive_2 ⟨Nat.zero_le _, Nat.zero_le _⟩) hS (fun x h => ts_Aup hS.1 h) (fun r1 u2 H locs hp3 hW _ _ hS => ?_)
  have hp3r : r1 = b2i (hasR s_ r_) := hp3.1
  have hp3u : u2 = u := hp3.2
  rw [hp3r]
  rw [hp3u] at hW
  refine lv_if_eq (tgt := 33) hx hb dX3_guardsGive_5 (by decide) (fun c4 => ?_) (fun c4 => ?_)
  · skip
    have c4 := ts_bf c4
    refine lv_iconst (v := nI 0) hx hb dX3_guardsGive_33 (by decide) ?_
    exact ts_zret (u := u) (v := nI 0) C0 rfl hW hS (by refine ⟨?_, rfl⟩; rw [show ggB u.1 r_ j s_ = false from by first | (simp [ggB, *]; done) | (simp [ggB, *]; omega)]; rfl) dX3_guardsGive_34
  have c4 := ts_bt c4
  refine lv_iload_n hx hb dX3_guardsGive_8 rfl (lv_at hl 3 rfl) ?_
  refine lv_iload_n hx hb dX3_guardsGive_9 rfl (lv_at hl 2 rfl) ?_
  refine ts_retI (va_runSN (As := [.int (nI s_), .int (nI j)]) (rest := []) ⟨hx, hb, hml, hown, hts⟩ (k_X5_has l D q b H.size u s_ j (by omega) (by omega)) ⟨va_cnB 2 hts gX3_guardsGive_X5_has_n106 rfl rfl rfl (hN _ (List.mem_of_getElem? (i := 7) rfl)) (hts _ (List.mem_of_getElem? (i := 4) rfl)) (by decide +kernel) ⟨Nat.le_of_ble_eq_true rfl, Nat.le_of_ble_eq_true rfl⟩, hts _ (List.mem_of_getElem? (i := 3) rfl), trivial⟩ (ts_preS hK hN hW) rfl rfl hl.1 rfl (lv_room (Nat.le_of_ble_eq_true rfl)) dX3_guardsGive_10 ⟨Nat.zero_le _, Nat.zero_le _⟩) hS (fun x h => ts_Aup hS.1 h) (fun r5 u6 H locs hp7 hW _ _ hS => ?_)
  have hp7r : r5 = b2i (hasB s_ j) := hp7.1
  have hp7u : u6 = u := hp7.2
  rw [hp7r]
  rw [hp7u] at hW
  refine lv_if_ne (tgt := 33) hx hb dX3_guardsGive_13 (by decide) (fun c8 => ?_) (fun c8 => ?_)
  · skip
    have c8 := ts_bt c8
    refine lv_iconst (v := nI 0) hx hb dX3_guardsGive_33 (by decide) ?_
    exact ts_zret (u := u) (v := nI 0) C0 rfl hW hS (by refine ⟨?_, rfl⟩; rw [show ggB u.1 r_ j s_ = false from by first | (simp [ggB, *]; done) | (simp [ggB, *]; omega)]; rfl) dX3_guardsGive_34
  have c8 := ts_bf c8
  refine lv_aload_n hx hb dX3_guardsGive_16 rfl (lv_at hl 0 rfl) ?_
  refine ts_get (C := RX3) (T := TX3) (N := 5) (v := .ref (b + 2)) hx hb hts hi3 hown hK hW 1 (by decide) cel_pr rfl 0 (by decide) (List.mem_of_getElem? (i := 1) rfl) rfl dX3_guardsGive_17 ?_
  refine lv_iload_n hx hb dX3_guardsGive_20 rfl (lv_at hl 2 rfl) ?_
  refine ts_aald (a := b + (3 + 2 * j)) hx hb hK hW 2 (by decide) 1 cel_fs rfl rfl (by omega) (by decide) rfl dX3_guardsGive_21 ?_
  refine ts_get (C := RX2) (T := TX2) (N := 4) (v := .int (nI (u.1.1 (40 + j)))) hx hb hts hi2 hown hK hW (3 + 2 * j) (by omega) (cel_fn (by omega)) rfl 3 (by decide) (List.mem_of_getElem? (i := 2) rfl) rfl dX3_guardsGive_22 ?_
  have hq9 := hwf.fout (i := j) (by omega)
  refine lv_iconst (v := nI 3) hx hb dX3_guardsGive_25 (by decide) ?_
  refine lv_icmp_eq (tgt := 33) hx hb dX3_guardsGive_26 (by decide) (fun c10 => ?_) (fun c10 => ?_)
  · skip
    rw [nI_eq (by omega) (by omega)] at c10
    refine lv_iconst (v := nI 0) hx hb dX3_guardsGive_33 (by decide) ?_
    exact ts_zret (u := u) (v := nI 0) C0 rfl hW hS (by refine ⟨?_, rfl⟩; rw [show ggB u.1 r_ j s_ = false from by first | (simp [ggB, *]; done) | (simp [ggB, *]; omega)]; rfl) dX3_guardsGive_34
  rw [nI_eq (by omega) (by omega)] at c10
  refine lv_iconst (v := nI 1) hx hb dX3_guardsGive_29 (by decide) ?_
  refine lv_goto (tgt := 34) hx hb dX3_guardsGive_30 (by decide) ?_
  exact ts_zret (u := u) (v := nI 1) C0 rfl hW hS (by refine ⟨?_, rfl⟩; rw [show ggB u.1 r_ j s_ = true from by first | (simp [ggB, *]; done) | (simp [ggB, *]; omega)]; rfl) dX3_guardsGive_34
end
section
/-! The trial in numbers. T.1: 0 budget, 1 type, 2 begun, 3 looked, 4 skipped, 5 deepest, 6 failure, 7 hasSuspect, 8 blame (0 nobody, k + 1 the function k), 9 suspect; T.2.1 0 the number; T.2.2 the calls by who calls and who is called -/
def T0 (bud ty : Nat) (num : Int32) : TT := (fun k => if k = 0 then bud else if k = 1 then ty else 0, fun _ => num, fun _ _ => 0)
def failT (fl rw_ : Nat) (T : TT) : TT := (va_up (va_up T.1 6 fl) 8 rw_, T.2)
def lookT (T : TT) : TT := (va_up T.1 3 (T.1 3 + 1), T.2)
def skipT (T : TT) : TT := (va_up T.1 4 (T.1 4 + 1), T.2)
def suspT (rw_ : Nat) (T : TT) : TT := (va_up (va_up T.1 7 1) 9 rw_, T.2)
def guardT (nd fl rw_ : Nat) (T : TT) : TT := if T.1 3 < T.1 0 then (if nd = T.1 1 then lookT T else failT fl rw_ (lookT T)) else (if nd = T.1 1 then skipT T else if T.1 7 = 0 then suspT rw_ (skipT T) else skipT T)
def maxI (x y : Int32) : Int32 := if x < y then y else x
def minI (x y : Int32) : Int32 := if y < x then y else x
def absI (x : Int32) : Int32 := if 0 ≤ x then x else 0 - x
def maxN (a b : Nat) : Nat := if a < b then b else a
theorem ts_maxN {a b : Nat} (ha : a < 2 ^ 31) (hb : b < 2 ^ 31) : (if nI a < nI b then nI b else nI a) = nI (maxN a b) := by
  unfold maxN
  by_cases h : a < b
  · rw [if_pos h, if_pos (nI_lt h hb)]
  · rw [if_neg h, if_neg (nI_nlt (by omega) ha)]
def deepT (d : Nat) (T : TT) : TT := (va_up T.1 5 (maxN (T.1 5) d), T.2)
def cntT (r c : Nat) (T : TT) : TT := (T.1, T.2.1, ts_u2 T.2.2 r c (T.2.2 r c + 1))
def begT (T : TT) : TT := (va_up T.1 2 (T.1 2 + 1), T.2)
def digI (x : Int32) : Int32 := if nI 10 ≤ absI x then (if nI 100 ≤ absI x then nI 3 else nI 2) else nI 1
def shownI (ty : Nat) (x : Int32) : Int32 := if ty = 1 then x else if ty = 2 then (if x = nI 1 then nI 4 else nI 5) else if 0 ≤ x then digI x else digI x + nI 1
def madeI (ty v : Nat) (x : Int32) : Int32 := if v = 20 then x else if v = 21 then shownI ty x else if v = 22 then (if x ≤ 0 then nI 0 else nI 1) else if v = 23 then nI 1 - x else if v = 24 then maxI (-999) (x - nI 5) else minI (nI 999) (x + nI v)
def madeT (v : Nat) (T : TT) : TT := (va_up T.1 1 (plainG v), va_up T.2.1 0 (madeI (T.1 1) v (T.2.1 0)), T.2.2)
def beginT (P : PT) (E : Nat → Nat → TT → TT) (f v : Nat) (T : TT) : TT :=
  if 200 ≤ T.1 2 then failT 5 0 T
  else if 40 ≤ v then E (f + 1) (v - 40) (begT T)
  else if plainN v = 3 ∨ plainN v = T.1 1 then madeT v (begT T)
  else failT 1 (if hasB (P.1 2) f = true then T.1 9 else f + 1) (begT T)
def goT (P : PT) (E : Nat → Nat → TT → TT) (f : Nat) : Nat → TT → TT
  | 0, T => T
  | k + 1, T => if (goT P E f k T).1 6 = 0 then beginT P E f (P.2 f k) (goT P E f k T) else goT P E f k T
def firstT (P : PT) (r c : Nat) (T : TT) : TT := if gcB P r c (P.1 2) = true then guardT (P.1 (30 + c)) 2 r T else T
def lastT (P : PT) (r c : Nat) (T : TT) : TT := if T.1 6 = 0 ∧ ggB P r c (P.1 2) = true then guardT (P.1 (40 + c)) 3 (c + 1) T else T
def enterT (P : PT) : Nat → Nat → Nat → TT → TT
  | 0, _, _, T => failT 4 0 T
  | n + 1, r, c, T => lastT P r c (goT P (enterT P n) c (P.1 (20 + c)) (firstT P r c (cntT r c (deepT (12 - n) T))))
def runT (P : PT) (f ty : Nat) (num : Int32) (bud : Nat) : TT := enterT P 12 0 f (T0 bud ty num)
def costT (T : TT) : Nat := T.1 2 + 2 * T.1 3
def WT (T : TT) : Prop := T.1 0 ≤ 20 ∧ T.1 1 ≤ 2 ∧ T.1 2 ≤ 200 ∧ T.1 3 ≤ 20 ∧ T.1 5 ≤ 12 ∧ T.1 6 ≤ 5 ∧ T.1 7 ≤ 1 ∧ T.1 8 ≤ 10 ∧ T.1 9 ≤ 10
theorem WT.t0 {bud ty : Nat} {num : Int32} (h1 : bud ≤ 20) (h2 : ty ≤ 2) : WT (T0 bud ty num) := by simp [WT, T0]; omega
theorem WT.fail {T : TT} (h : WT T) {fl r : Nat} (h1 : fl ≤ 5) (h2 : r ≤ 10) : WT (failT fl r T) := by simp [WT, failT, va_up] at *; omega
theorem WT.guard {T : TT} (h : WT T) {nd fl r : Nat} (h1 : fl ≤ 5) (h2 : r ≤ 10) : WT (guardT nd fl r T) := by
  unfold guardT
  split
  · split <;> (simp [WT, failT, lookT, va_up] at *; omega)
  · split
    · simp [WT, skipT, va_up] at *; omega
    · split <;> (simp [WT, suspT, skipT, va_up] at *; omega)
theorem WT.deep {T : TT} (h : WT T) {d : Nat} (h1 : d ≤ 12) : WT (deepT d T) := by
  simp [WT, deepT, va_up, maxN] at *
  split <;> omega
theorem WT.cnt {T : TT} (h : WT T) (r c : Nat) : WT (cntT r c T) := h
theorem WT.beg {T : TT} (h : WT T) (h1 : T.1 2 < 200) : WT (begT T) := by simp [WT, begT, va_up] at *; omega
theorem WT.made {T : TT} (h : WT T) (v : Nat) : WT (madeT v T) := by
  have := plainG_le v
  simp [WT, madeT, va_up] at *
  omega
theorem WT.begin {P : PT} (hP : WP P) {E : Nat → Nat → TT → TT} (hE : ∀ r c T, r ≤ 10 → c < P.1 1 → WT T → WT (E r c T)) {f v : Nat} (hf : f < 10) (hv : okS P v) {T : TT} (h : WT T) : WT (beginT P E f v T) := by
  unfold beginT
  unfold okS at hv
  split
  · exact h.fail (by omega) (by omega)
  · split
    · exact hE _ _ _ (by omega) (by omega) (h.beg (by omega))
    · split
      · exact (h.beg (by omega)).made v
      · refine (h.beg (by omega)).fail (by omega) ?_
        split
        · exact h.2.2.2.2.2.2.2.2
        · omega
theorem WT.go {P : PT} (hP : WP P) {E : Nat → Nat → TT → TT} (hE : ∀ r c T, r ≤ 10 → c < P.1 1 → WT T → WT (E r c T)) {f : Nat} (hf : f < 10) {T : TT} (h : WT T) : ∀ k, k ≤ P.1 (20 + f) → WT (goT P E f k T)
  | 0, _ => h
  | k + 1, hk => by
    have ih := WT.go hP hE hf h k (by omega)
    unfold goT
    split
    · exact WT.begin hP hE hf (hP.stp hf (by omega)) ih
    · exact ih
theorem WT.first {P : PT} {r c : Nat} (hr : r ≤ 10) {T : TT} (h : WT T) : WT (firstT P r c T) := by
  unfold firstT
  split
  · exact h.guard (by omega) hr
  · exact h
theorem WT.last {P : PT} {r c : Nat} (hc : c < 10) {T : TT} (h : WT T) : WT (lastT P r c T) := by
  unfold lastT
  split
  · exact h.guard (by omega) (by omega)
  · exact h
theorem WT.enter {P : PT} (hP : WP P) : ∀ (n r c : Nat) (T : TT), n ≤ 13 → r ≤ 10 → c < P.1 1 → WT T → WT (enterT P n r c T)
  | 0, _, _, _, _, _, _, h => h.fail (by omega) (by omega)
  | n + 1, r, c, T, hn, hr, hc, h => by
    have hs := hP.sz
    unfold enterT
    exact WT.last (by omega) (WT.go hP (fun r c T h1 h2 h3 => WT.enter hP n r c T (by omega) h1 h2 h3) (by omega) (WT.first hr ((h.deep (by omega)).cnt r c)) _ (Nat.le_refl _))
theorem goT_stop {P : PT} {E : Nat → Nat → TT → TT} {f : Nat} {T : TT} {k : Nat} (h : (goT P E f k T).1 6 ≠ 0) : ∀ j, goT P E f (k + j) T = goT P E f k T
  | 0 => rfl
  | j + 1 => by
    have ih := goT_stop h j
    show (if (goT P E f (k + j) T).1 6 = 0 then _ else goT P E f (k + j) T) = _
    rw [ih, if_neg h]
/-- the world tells no difference between trials that agree where it looks -/
theorem ts_eqv {D : va_G} {q : CQ} {b : Nat} {u u' : ST} {H : Heap} (hP : u'.1 = u.1) (hF : u'.2.1 = u.2.1) (hB : u'.2.2.2 = u.2.2.2) (h1 : ∀ k, k < 10 → u'.2.2.1.1 k = u.2.2.1.1 k) (h2 : u'.2.2.1.2.1 0 = u.2.2.1.2.1 0) (h3 : ∀ r c, r < 11 → c < 10 → u'.2.2.1.2.2 r c = u.2.2.1.2.2 r c) (hW : ts_W D b 52 (cel q b u) H) : ts_W D b 52 (cel q b u') H := by
  intro k hk
  have h := hW k hk
  by_cases e : k = 24
  · subst e
    rw [cel_tr] at h ⊢
    rw [h1 0 (by decide), h1 1 (by decide), h1 2 (by decide), h1 3 (by decide), h1 4 (by decide), h1 5 (by decide), h1 6 (by decide), h1 7 (by decide), h1 8 (by decide), h1 9 (by decide), h2]
    exact h
  · by_cases e2 : 26 ≤ k ∧ k < 37
    · obtain ⟨i, rfl⟩ : ∃ i, k = 26 + i := ⟨k - 26, by omega⟩
      rw [cel_tw (by omega)] at h ⊢
      have h4 : H[b + (26 + i)]? = some (arrV q.1 10 (fun j => .int (fnat (u.2.2.1.2.2 i) j))) := h
      show H[b + (26 + i)]? = some (arrV q.1 10 (fun j => .int (fnat (u'.2.2.1.2.2 i) j)))
      rw [h4]
      congr 1
      apply ts_arr
      intro j hj
      show Value.int (nI _) = Value.int (nI _)
      rw [h3 i j (by omega) hj]
    · have e3 : cel q b u' k = cel q b u k := by
        unfold cel
        rw [hP, hF, hB]
        have : k = 0 ∨ k = 1 ∨ k = 2 ∨ k < 23 ∨ k = 23 ∨ k = 25 ∨ ¬ k < 37 := by omega
        rcases this with c | c | c | c | c | c | c
        · simp [c]
        · simp [c]
        · simp [c]
        · simp [c]
        · simp [c]
        · simp [c]
        · rw [if_neg (show ¬ k = 24 by omega), if_neg (show ¬ k = 24 by omega), if_neg c, if_neg c]
      rw [e3]
      exact h
def clrN (a : Nat → Nat → Nat) (k j : Nat) : Nat → Nat → Nat := fun r c => if (r < k ∧ c < 10) ∨ (r = k ∧ c < j) then 0 else a r c
theorem clrN_0 (a : Nat → Nat → Nat) : clrN a 0 0 = a := by
  funext r c
  unfold clrN
  rw [if_neg (by omega)]
theorem clrN_s (a : Nat → Nat → Nat) (k j : Nat) : ts_u2 (clrN a k j) k j 0 = clrN a k (j + 1) := by
  funext r c
  by_cases h : r = k
  · subst h
    rw [ts_u2_self]
    by_cases hc : c = j
    · subst hc
      rw [va_up_self]
      unfold clrN
      rw [if_pos (by omega)]
    · rw [va_up_ne _ _ hc]
      unfold clrN
      by_cases hq : c < j
      · rw [if_pos (by omega), if_pos (by omega)]
      · rw [if_neg (by omega), if_neg (by omega)]
  · rw [ts_u2_ne _ _ _ h]
    unfold clrN
    by_cases hq : r < k ∧ c < 10
    · rw [if_pos (by omega), if_pos (by omega)]
    · rw [if_neg (by omega), if_neg (by omega)]
theorem clrN_n (a : Nat → Nat → Nat) (k : Nat) : clrN a k 10 = clrN a (k + 1) 0 := by
  funext r c
  unfold clrN
  by_cases hq : r < k + 1 ∧ c < 10
  · rw [if_pos (by omega), if_pos (by omega)]
  · rw [if_neg (by omega), if_neg (by omega)]
/-- the room of a nested entry -/
def rE (n : Nat) : Room := { frames := 3 * n + 5, cells := 0, slots := 0, locals := 71 * n + 200 }
def EnterOK (l : Launch) (D : va_G) (q : CQ) (b n : Nat) : Prop := ∀ (sz : Nat) (u : ST) (r c d : Nat), WP u.1 → WT u.2.2.1 → r ≤ 10 → c < u.1.1 1 → d + n = 13 →
  Met l yX4_enter wsX4_enter (rE n) (va_Pc [.ref (b + 24), .int (zI r), .int (nI c), .int (nI d)] (Pr D q b sz u)) (cV D q b sz (fun u' => u' = (u.1, u.2.1, enterT u.1 n r c u.2.2.1, u.2.2.2))) 0 0 (ts_A b 52 sz)
end
section
set_option maxHeartbeats 4000000 in
set_option maxRecDepth 100000 in
theorem k_X4_cost (l : Launch) (D : va_G) (q : CQ) (b sz : Nat) (u : ST)   : Met l yX4_cost wsX4_cost ({ frames := 0, cells := 0, slots := 0, locals := 0 } : Room) (va_Pc [.ref (b + 24)] (Pr D q b sz u)) (cI D q b sz (fun r u' => r = nI (costT u.2.2.1) ∧ u' = u)) 0 0 (ts_A b 52 sz) := by
  refine ts_met (by decide) rfl (Nat.le_of_ble_eq_true rfl) ?_
  intro p e s m below meth c C0 hX ls hl
  obtain ⟨hsz, hW, hK, hN⟩ := hX
  subst hsz
  obtain ⟨hx, hb, hml, hown, hts, -, -, -⟩ := id C0
  have hW : ts_W D b 52 (cel q b u) s.heap := hW
  have hS : va_S (ts_A b 52 s.heap.size) s.heap s.heap [] := va_S.rf
  have hB : ∀ k, k < 52 → ts_A b 52 s.heap.size (b + k) := fun k hk => ts_Ain hk
  have hi4 : ∀ w ∈ wsX40, w ∈ wsX4_cost := ts_lays 3 rfl
  have hl : lv_has ls 1 [(0, .ref (b + 24))] := hl
  refine lv_aload_n hx hb dX4_cost_0 rfl (lv_at hl 0 rfl) ?_
  refine ts_get (C := RX4) (T := TX4) (N := 13) (v := .int (nI (u.2.2.1.1 2))) hx hb hts hi4 hown hK hW 24 (by decide) cel_tr rfl 5 (by decide) (List.mem_of_getElem? (i := 1) rfl) rfl dX4_cost_1 ?_
  refine lv_iconst (v := nI 2) hx hb dX4_cost_4 (by decide) ?_
  refine lv_aload_n hx hb dX4_cost_5 rfl (lv_at hl 0 rfl) ?_
  refine ts_get (C := RX4) (T := TX4) (N := 13) (v := .int (nI (u.2.2.1.1 3))) hx hb hts hi4 hown hK hW 24 (by decide) cel_tr rfl 6 (by decide) (List.mem_of_getElem? (i := 2) rfl) rfl dX4_cost_6 ?_
  refine ts_imul (v := nI (2 * (u.2.2.1.1 3))) hx hb dX4_cost_9 (pk_mul _ _) ?_
  refine ts_iadd (v := nI ((u.2.2.1.1 2) + (2 * (u.2.2.1.1 3)))) hx hb dX4_cost_10 (nI_add _ _) ?_
  exact ts_iret (u := u) (v := nI ((u.2.2.1.1 2) + (2 * (u.2.2.1.1 3)))) C0 hW hS (by exact ⟨rfl, rfl⟩) dX4_cost_11
set_option maxHeartbeats 4000000 in
set_option maxRecDepth 100000 in
theorem k_X4_fail (l : Launch) (D : va_G) (q : CQ) (b sz : Nat) (u : ST) (fl rw_ : Nat)  : Met l yX4_fail wsX4_fail ({ frames := 0, cells := 0, slots := 0, locals := 0 } : Room) (va_Pc [.ref (b + 24), .int (nI fl), .int (zI rw_)] (Pr D q b sz u)) (cV D q b sz (fun u' => u' = (u.1, u.2.1, failT fl rw_ u.2.2.1, u.2.2.2))) 0 0 (ts_A b 52 sz) := by
  refine ts_met (by decide) rfl (Nat.le_of_ble_eq_true rfl) ?_
  intro p e s m below meth c C0 hX ls hl
  obtain ⟨hsz, hW, hK, hN⟩ := hX
  subst hsz
  obtain ⟨hx, hb, hml, hown, hts, -, -, -⟩ := id C0
  have hW : ts_W D b 52 (cel q b u) s.heap := hW
  have hS : va_S (ts_A b 52 s.heap.size) s.heap s.heap [] := va_S.rf
  have hB : ∀ k, k < 52 → ts_A b 52 s.heap.size (b + k) := fun k hk => ts_Ain hk
  have hi4 : ∀ w ∈ wsX40, w ∈ wsX4_fail := ts_lays 3 rfl
  have hl : lv_has ls 3 [(0, .ref (b + 24)), (1, .int (nI fl)), (2, .int (zI rw_))] := hl
  refine lv_aload_n hx hb dX4_fail_0 rfl (lv_at hl 0 rfl) ?_
  refine lv_iload_n hx hb dX4_fail_1 rfl (lv_at hl 1 rfl) ?_
  refine ts_put (C := RX4) (T := TX4) (N := 13) (v := .int (nI fl)) hx hb hts hi4 tyX4 tyX4_ok nmX4 hown hK hW hS hB 24 (by decide) cel_tr rfl 9 (by decide) (List.mem_of_getElem? (i := 1) rfl) rfl rfl rfl (Nat.le_of_ble_eq_true rfl) (cel q b (u.1, u.2.1, (va_up u.2.2.1.1 6 fl, u.2.2.1.2.1, u.2.2.1.2.2), u.2.2.2)) rfl (cel_oT rfl rfl rfl rfl) dX4_fail_2 (fun H locs _ _ hW hS => ?_)
  refine lv_aload_n hx hb dX4_fail_5 rfl (lv_at hl 0 rfl) ?_
  refine lv_iload_n hx hb dX4_fail_6 rfl (lv_at hl 2 rfl) ?_
  refine ts_put (C := RX4) (T := TX4) (N := 13) (v := .int (zI rw_)) hx hb hts hi4 tyX4 tyX4_ok nmX4 hown hK hW hS hB 24 (by decide) cel_tr rfl 10 (by decide) (List.mem_of_getElem? (i := 2) rfl) rfl rfl rfl (Nat.le_of_ble_eq_true rfl) (cel q b (u.1, u.2.1, (va_up (va_up u.2.2.1.1 6 fl) 8 rw_, u.2.2.1.2.1, u.2.2.1.2.2), u.2.2.2)) rfl (cel_oT rfl rfl rfl rfl) dX4_fail_7 (fun H locs _ _ hW hS => ?_)
  exact ts_vret (u := (u.1, u.2.1, (va_up (va_up u.2.2.1.1 6 fl) 8 rw_, u.2.2.1.2.1, u.2.2.1.2.2), u.2.2.2)) C0 hW hS (by exact rfl) dX4_fail_10
set_option maxHeartbeats 4000000 in
set_option maxRecDepth 100000 in
theorem k_X4_guard (l : Launch) (D : va_G) (q : CQ) (b sz : Nat) (u : ST) (nd fl rw_ : Nat) (hwt : WT u.2.2.1) (hnd : nd ≤ 3) : Met l yX4_guard wsX4_guard ({ frames := 1, cells := 0, slots := 0, locals := 22 } : Room) (va_Pc [.ref (b + 24), .int (nI nd), .int (nI fl), .int (zI rw_)] (Pr D q b sz u)) (cV D q b sz (fun u' => u' = (u.1, u.2.1, guardT nd fl rw_ u.2.2.1, u.2.2.2))) 0 0 (ts_A b 52 sz) := by
  refine ts_met (by decide) rfl (Nat.le_of_ble_eq_true rfl) ?_
  intro p e s m below meth c C0 hX ls hl
  obtain ⟨hsz, hW, hK, hN⟩ := hX
  subst hsz
  obtain ⟨hx, hb, hml, hown, hts, -, -, -⟩ := id C0
  have hW : ts_W D b 52 (cel q b u) s.heap := hW
  have hS : va_S (ts_A b 52 s.heap.size) s.heap s.heap [] := va_S.rf
  have hB : ∀ k, k < 52 → ts_A b 52 s.heap.size (b + k) := fun k hk => ts_Ain hk
  have hi4 : ∀ w ∈ wsX40, w ∈ wsX4_guard := ts_lays 14 rfl
  have hl : lv_has ls 5 [(0, .ref (b + 24)), (1, .int (nI nd)), (2, .int (nI fl)), (3, .int (zI rw_))] := hl
  obtain ⟨w0, w1, w2, w3, w5, w6, w7, w8, w9⟩ := id hwt
  refine lv_iload_n hx hb dX4_guard_0 rfl (lv_at hl 1 rfl) ?_
  refine lv_aload_n hx hb dX4_guard_1 rfl (lv_at hl 0 rfl) ?_
  refine ts_get (C := RX4) (T := TX4) (N := 13) (v := .int (nI (u.2.2.1.1 1))) hx hb hts hi4 hown hK hW 24 (by decide) cel_tr rfl 3 (by decide) (List.mem_of_getElem? (i := 1) rfl) rfl dX4_guard_2 ?_
  refine lv_icmp_ne (tgt := 12) hx hb dX4_guard_5 (by decide) (fun c1 => ?_) (fun c1 => ?_)
  · skip
    rw [nI_eq (by omega) (by omega)] at c1
    refine lv_iconst (v := nI 0) hx hb dX4_guard_12 (by decide) ?_
    refine lv_istore (lv' := [(4, .int (nI 0)), (0, .ref (b + 24)), (1, .int (nI nd)), (2, .int (nI fl)), (3, .int (zI rw_))]) hx hb dX4_guard_13 hl (by decide) rfl (fun ls hl => ?_)
    refine lv_aload_n hx hb dX4_guard_15 rfl (lv_at hl 1 rfl) ?_
    refine ts_get (C := RX4) (T := TX4) (N := 13) (v := .int (nI (u.2.2.1.1 3))) hx hb hts hi4 hown hK hW 24 (by decide) cel_tr rfl 6 (by decide) (List.mem_of_getElem? (i := 2) rfl) rfl dX4_guard_16 ?_
    refine lv_aload_n hx hb dX4_guard_19 rfl (lv_at hl 1 rfl) ?_
    refine ts_get (C := RX4) (T := TX4) (N := 13) (v := .int (nI (u.2.2.1.1 0))) hx hb hts hi4 hown hK hW 24 (by decide) cel_tr rfl 2 (by decide) (List.mem_of_getElem? (i := 3) rfl) rfl dX4_guard_20 ?_
    refine lv_icmp_ge (tgt := 48) hx hb dX4_guard_23 (by decide) (fun c2 => ?_) (fun c2 => ?_)
    · skip
      rw [nI_leI (by omega) (by omega)] at c2
      refine lv_aload_n hx hb dX4_guard_48 rfl (lv_at hl 1 rfl) ?_
      refine lv_dup hx hb dX4_guard_49 rfl ?_
      refine ts_get (C := RX4) (T := TX4) (N := 13) (v := .int (nI (u.2.2.1.1 4))) hx hb hts hi4 hown hK hW 24 (by decide) cel_tr rfl 7 (by decide) (List.mem_of_getElem? (i := 4) rfl) rfl dX4_guard_50 ?_
      refine lv_iconst (v := nI 1) hx hb dX4_guard_53 (by decide) ?_
      refine ts_iadd (v := nI ((u.2.2.1.1 4) + 1)) hx hb dX4_guard_54 (nI_add _ _) ?_
      refine ts_put (C := RX4) (T := TX4) (N := 13) (v := .int (nI ((u.2.2.1.1 4) + 1))) hx hb hts hi4 tyX4 tyX4_ok nmX4 hown hK hW hS hB 24 (by decide) cel_tr rfl 7 (by decide) (List.mem_of_getElem? (i := 4) rfl) rfl rfl rfl (Nat.le_of_ble_eq_true rfl) (cel q b (u.1, u.2.1, (va_up u.2.2.1.1 4 ((u.2.2.1.1 4) + 1), u.2.2.1.2.1, u.2.2.1.2.2), u.2.2.2)) rfl (cel_oT rfl rfl rfl rfl) dX4_guard_55 (fun H locs _ _ hW hS => ?_)
      refine lv_iload hx hb dX4_guard_58 (lv_at hl 0 rfl) ?_
      refine lv_if_ne (tgt := 80) hx hb dX4_guard_60 (by decide) (fun c3 => ?_) (fun c3 => ?_)
      · skip
        exfalso; revert c3; decide
      refine lv_aload_n hx hb dX4_guard_63 rfl (lv_at hl 1 rfl) ?_
      refine ts_get (C := RX4) (T := TX4) (N := 13) (v := .int (nI (u.2.2.1.1 7))) hx hb hts hi4 hown hK hW 24 (by decide) cel_tr rfl 11 (by decide) (List.mem_of_getElem? (i := 5) rfl) rfl dX4_guard_64 ?_
      refine lv_if_ne (tgt := 80) hx hb dX4_guard_67 (by decide) (fun c4 => ?_) (fun c4 => ?_)
      · skip
        rw [ts_eq0 (by omega)] at c4
        exact ts_vret (u := (u.1, u.2.1, (va_up u.2.2.1.1 4 ((u.2.2.1.1 4) + 1), u.2.2.1.2.1, u.2.2.1.2.2), u.2.2.2)) C0 hW hS (by (show _ = (u.1, u.2.1, guardT nd fl rw_ u.2.2.1, u.2.2.2)); unfold guardT; (repeat' split) <;> first | rfl | contradiction | (exfalso; omega) | (exfalso; simp_all; done)) dX4_guard_80
      rw [ts_eq0 (by omega)] at c4
      refine lv_aload_n hx hb dX4_guard_70 rfl (lv_at hl 1 rfl) ?_
      refine lv_iconst (v := nI 1) hx hb dX4_guard_71 (by decide) ?_
      refine ts_put (C := RX4) (T := TX4) (N := 13) (v := .int (nI 1)) hx hb hts hi4 tyX4 tyX4_ok nmX4 hown hK hW hS hB 24 (by decide) cel_tr rfl 11 (by decide) (List.mem_of_getElem? (i := 5) rfl) rfl rfl rfl (Nat.le_of_ble_eq_true rfl) (cel q b (u.1, u.2.1, (va_up (va_up u.2.2.1.1 4 ((u.2.2.1.1 4) + 1)) 7 1, u.2.2.1.2.1, u.2.2.1.2.2), u.2.2.2)) rfl (cel_oT rfl rfl rfl rfl) dX4_guard_72 (fun H locs _ _ hW hS => ?_)
      refine lv_aload_n hx hb dX4_guard_75 rfl (lv_at hl 1 rfl) ?_
      refine lv_iload_n hx hb dX4_guard_76 rfl (lv_at hl 4 rfl) ?_
      refine ts_put (C := RX4) (T := TX4) (N := 13) (v := .int (zI rw_)) hx hb hts hi4 tyX4 tyX4_ok nmX4 hown hK hW hS hB 24 (by decide) cel_tr rfl 12 (by decide) (List.mem_of_getElem? (i := 6) rfl) rfl rfl rfl (Nat.le_of_ble_eq_true rfl) (cel q b (u.1, u.2.1, (va_up (va_up (va_up u.2.2.1.1 4 ((u.2.2.1.1 4) + 1)) 7 1) 9 rw_, u.2.2.1.2.1, u.2.2.1.2.2), u.2.2.2)) rfl (cel_oT rfl rfl rfl rfl) dX4_guard_77 (fun H locs _ _ hW hS => ?_)
      exact ts_vret (u := (u.1, u.2.1, (va_up (va_up (va_up u.2.2.1.1 4 ((u.2.2.1.1 4) + 1)) 7 1) 9 rw_, u.2.2.1.2.1, u.2.2.1.2.2), u.2.2.2)) C0 hW hS (by (show _ = (u.1, u.2.1, guardT nd fl rw_ u.2.2.1, u.2.2.2)); unfold guardT; (repeat' split) <;> first | rfl | contradiction | (exfalso; omega) | (exfalso; simp_all; done)) dX4_guard_80
    rw [nI_leI (by omega) (by omega)] at c2
    refine lv_aload_n hx hb dX4_guard_26 rfl (lv_at hl 1 rfl) ?_
    refine lv_dup hx hb dX4_guard_27 rfl ?_
    refine ts_get (C := RX4) (T := TX4) (N := 13) (v := .int (nI (u.2.2.1.1 3))) hx hb hts hi4 hown hK hW 24 (by decide) cel_tr rfl 6 (by decide) (List.mem_of_getElem? (i := 2) rfl) rfl dX4_guard_28 ?_
    refine lv_iconst (v := nI 1) hx hb dX4_guard_31 (by decide) ?_
    refine ts_iadd (v := nI ((u.2.2.1.1 3) + 1)) hx hb dX4_guard_32 (nI_add _ _) ?_
    refine ts_put (C := RX4) (T := TX4) (N := 13) (v := .int (nI ((u.2.2.1.1 3) + 1))) hx hb hts hi4 tyX4 tyX4_ok nmX4 hown hK hW hS hB 24 (by decide) cel_tr rfl 6 (by decide) (List.mem_of_getElem? (i := 2) rfl) rfl rfl rfl (Nat.le_of_ble_eq_true rfl) (cel q b (u.1, u.2.1, (va_up u.2.2.1.1 3 ((u.2.2.1.1 3) + 1), u.2.2.1.2.1, u.2.2.1.2.2), u.2.2.2)) rfl (cel_oT rfl rfl rfl rfl) dX4_guard_33 (fun H locs _ _ hW hS => ?_)
    refine lv_iload hx hb dX4_guard_36 (lv_at hl 0 rfl) ?_
    refine lv_if_ne (tgt := 47) hx hb dX4_guard_38 (by decide) (fun c5 => ?_) (fun c5 => ?_)
    · skip
      exfalso; revert c5; decide
    refine lv_aload_n hx hb dX4_guard_41 rfl (lv_at hl 1 rfl) ?_
    refine lv_iload_n hx hb dX4_guard_42 rfl (lv_at hl 3 rfl) ?_
    refine lv_iload_n hx hb dX4_guard_43 rfl (lv_at hl 4 rfl) ?_
    refine ts_retV (va_runV (As := [.int (nI fl), .int (zI rw_)]) (rest := []) ⟨hx, hb, hml, hown, hts⟩ (k_X4_fail l D q b H.size (u.1, u.2.1, (va_up u.2.2.1.1 3 ((u.2.2.1.1 3) + 1), u.2.2.1.2.1, u.2.2.1.2.2), u.2.2.2) fl rw_) (cwV 2 hts gX4_guard_X4_fail rfl rfl rfl (by decide +kernel) ⟨Nat.le_of_ble_eq_true rfl, Nat.le_of_ble_eq_true rfl⟩) (ts_preV hK hN hW 24 (by decide) cel_tr rfl) rfl rfl hl.1 rfl (lv_room (Nat.le_of_ble_eq_true rfl)) dX4_guard_44 ⟨Nat.zero_le _, Nat.zero_le _⟩) hS (fun x h => ts_Aup hS.1 h) (fun u7 H locs hp8 hW _ _ hS => ?_)
    have hp8u : u7 = (u.1, u.2.1, (failT fl rw_ (va_up u.2.2.1.1 3 ((u.2.2.1.1 3) + 1), u.2.2.1.2.1, u.2.2.1.2.2)), u.2.2.2) := hp8
    rw [hp8u] at hW
    exact ts_vret (u := (u.1, u.2.1, (failT fl rw_ (va_up u.2.2.1.1 3 ((u.2.2.1.1 3) + 1), u.2.2.1.2.1, u.2.2.1.2.2)), u.2.2.2)) C0 hW hS (by (show _ = (u.1, u.2.1, guardT nd fl rw_ u.2.2.1, u.2.2.2)); unfold guardT; (repeat' split) <;> first | rfl | contradiction | (exfalso; omega) | (exfalso; simp_all; done)) dX4_guard_47
  rw [nI_eq (by omega) (by omega)] at c1
  refine lv_iconst (v := nI 1) hx hb dX4_guard_8 (by decide) ?_
  refine lv_goto (tgt := 13) hx hb dX4_guard_9 (by decide) ?_
  refine lv_istore (lv' := [(4, .int (nI 1)), (0, .ref (b + 24)), (1, .int (nI nd)), (2, .int (nI fl)), (3, .int (zI rw_))]) hx hb dX4_guard_13 hl (by decide) rfl (fun ls hl => ?_)
  refine lv_aload_n hx hb dX4_guard_15 rfl (lv_at hl 1 rfl) ?_
  refine ts_get (C := RX4) (T := TX4) (N := 13) (v := .int (nI (u.2.2.1.1 3))) hx hb hts hi4 hown hK hW 24 (by decide) cel_tr rfl 6 (by decide) (List.mem_of_getElem? (i := 2) rfl) rfl dX4_guard_16 ?_
  refine lv_aload_n hx hb dX4_guard_19 rfl (lv_at hl 1 rfl) ?_
  refine ts_get (C := RX4) (T := TX4) (N := 13) (v := .int (nI (u.2.2.1.1 0))) hx hb hts hi4 hown hK hW 24 (by decide) cel_tr rfl 2 (by decide) (List.mem_of_getElem? (i := 3) rfl) rfl dX4_guard_20 ?_
  refine lv_icmp_ge (tgt := 48) hx hb dX4_guard_23 (by decide) (fun c9 => ?_) (fun c9 => ?_)
  · skip
    rw [nI_leI (by omega) (by omega)] at c9
    refine lv_aload_n hx hb dX4_guard_48 rfl (lv_at hl 1 rfl) ?_
    refine lv_dup hx hb dX4_guard_49 rfl ?_
    refine ts_get (C := RX4) (T := TX4) (N := 13) (v := .int (nI (u.2.2.1.1 4))) hx hb hts hi4 hown hK hW 24 (by decide) cel_tr rfl 7 (by decide) (List.mem_of_getElem? (i := 4) rfl) rfl dX4_guard_50 ?_
    refine lv_iconst (v := nI 1) hx hb dX4_guard_53 (by decide) ?_
    refine ts_iadd (v := nI ((u.2.2.1.1 4) + 1)) hx hb dX4_guard_54 (nI_add _ _) ?_
    refine ts_put (C := RX4) (T := TX4) (N := 13) (v := .int (nI ((u.2.2.1.1 4) + 1))) hx hb hts hi4 tyX4 tyX4_ok nmX4 hown hK hW hS hB 24 (by decide) cel_tr rfl 7 (by decide) (List.mem_of_getElem? (i := 4) rfl) rfl rfl rfl (Nat.le_of_ble_eq_true rfl) (cel q b (u.1, u.2.1, (va_up u.2.2.1.1 4 ((u.2.2.1.1 4) + 1), u.2.2.1.2.1, u.2.2.1.2.2), u.2.2.2)) rfl (cel_oT rfl rfl rfl rfl) dX4_guard_55 (fun H locs _ _ hW hS => ?_)
    refine lv_iload hx hb dX4_guard_58 (lv_at hl 0 rfl) ?_
    refine lv_if_ne (tgt := 80) hx hb dX4_guard_60 (by decide) (fun c10 => ?_) (fun c10 => ?_)
    · skip
      exact ts_vret (u := (u.1, u.2.1, (va_up u.2.2.1.1 4 ((u.2.2.1.1 4) + 1), u.2.2.1.2.1, u.2.2.1.2.2), u.2.2.2)) C0 hW hS (by (show _ = (u.1, u.2.1, guardT nd fl rw_ u.2.2.1, u.2.2.2)); unfold guardT; (repeat' split) <;> first | rfl | contradiction | (exfalso; omega) | (exfalso; simp_all; done)) dX4_guard_80
    exfalso; revert c10; decide
  rw [nI_leI (by omega) (by omega)] at c9
  refine lv_aload_n hx hb dX4_guard_26 rfl (lv_at hl 1 rfl) ?_
  refine lv_dup hx hb dX4_guard_27 rfl ?_
  refine ts_get (C := RX4) (T := TX4) (N := 13) (v := .int (nI (u.2.2.1.1 3))) hx hb hts hi4 hown hK hW 24 (by decide) cel_tr rfl 6 (by decide) (List.mem_of_getElem? (i := 2) rfl) rfl dX4_guard_28 ?_
  refine lv_iconst (v := nI 1) hx hb dX4_guard_31 (by decide) ?_
  refine ts_iadd (v := nI ((u.2.2.1.1 3) + 1)) hx hb dX4_guard_32 (nI_add _ _) ?_
  refine ts_put (C := RX4) (T := TX4) (N := 13) (v := .int (nI ((u.2.2.1.1 3) + 1))) hx hb hts hi4 tyX4 tyX4_ok nmX4 hown hK hW hS hB 24 (by decide) cel_tr rfl 6 (by decide) (List.mem_of_getElem? (i := 2) rfl) rfl rfl rfl (Nat.le_of_ble_eq_true rfl) (cel q b (u.1, u.2.1, (va_up u.2.2.1.1 3 ((u.2.2.1.1 3) + 1), u.2.2.1.2.1, u.2.2.1.2.2), u.2.2.2)) rfl (cel_oT rfl rfl rfl rfl) dX4_guard_33 (fun H locs _ _ hW hS => ?_)
  refine lv_iload hx hb dX4_guard_36 (lv_at hl 0 rfl) ?_
  refine lv_if_ne (tgt := 47) hx hb dX4_guard_38 (by decide) (fun c11 => ?_) (fun c11 => ?_)
  · skip
    exact ts_vret (u := (u.1, u.2.1, (va_up u.2.2.1.1 3 ((u.2.2.1.1 3) + 1), u.2.2.1.2.1, u.2.2.1.2.2), u.2.2.2)) C0 hW hS (by (show _ = (u.1, u.2.1, guardT nd fl rw_ u.2.2.1, u.2.2.2)); unfold guardT; (repeat' split) <;> first | rfl | contradiction | (exfalso; omega) | (exfalso; simp_all; done)) dX4_guard_47
  exfalso; revert c11; decide
set_option maxHeartbeats 4000000 in
set_option maxRecDepth 100000 in
theorem k_X4_shownLength (l : Launch) (D : va_G) (q : CQ) (b sz : Nat) (u : ST)  (hwt : WT u.2.2.1) : Met l yX4_shownLength wsX4_shownLength ({ frames := 1, cells := 0, slots := 0, locals := 24 } : Room) (va_Pc [.ref (b + 24)] (Pr D q b sz u)) (cI D q b sz (fun r u' => r = shownI (u.2.2.1.1 1) (u.2.2.1.2.1 0) ∧ u' = u)) 0 0 (ts_A b 52 sz) := by
  refine ts_met (by decide) rfl (Nat.le_of_ble_eq_true rfl) ?_
  intro p e s m below meth c C0 hX ls hl
  obtain ⟨hsz, hW, hK, hN⟩ := hX
  subst hsz
  obtain ⟨hx, hb, hml, hown, hts, -, -, -⟩ := id C0
  have hW : ts_W D b 52 (cel q b u) s.heap := hW
  have hS : va_S (ts_A b 52 s.heap.size) s.heap s.heap [] := va_S.rf
  have hB : ∀ k, k < 52 → ts_A b 52 s.heap.size (b + k) := fun k hk => ts_Ain hk
  have hi4 : ∀ w ∈ wsX40, w ∈ wsX4_shownLength := ts_lays 7 rfl
  have hl : lv_has ls 2 [(0, .ref (b + 24))] := hl
  obtain ⟨w0, w1, w2, w3, w5, w6, w7, w8, w9⟩ := id hwt
  refine lv_aload_n hx hb dX4_shownLength_0 rfl (lv_at hl 0 rfl) ?_
  refine ts_get (C := RX4) (T := TX4) (N := 13) (v := .int (nI (u.2.2.1.1 1))) hx hb hts hi4 hown hK hW 24 (by decide) cel_tr rfl 3 (by decide) (List.mem_of_getElem? (i := 1) rfl) rfl dX4_shownLength_1 ?_
  refine lv_iconst (v := nI 1) hx hb dX4_shownLength_4 (by decide) ?_
  refine lv_icmp_ne (tgt := 13) hx hb dX4_shownLength_5 (by decide) (fun c1 => ?_) (fun c1 => ?_)
  · skip
    rw [nI_eq (by omega) (by omega)] at c1
    refine lv_aload_n hx hb dX4_shownLength_13 rfl (lv_at hl 0 rfl) ?_
    refine ts_get (C := RX4) (T := TX4) (N := 13) (v := .int (nI (u.2.2.1.1 1))) hx hb hts hi4 hown hK hW 24 (by decide) cel_tr rfl 3 (by decide) (List.mem_of_getElem? (i := 1) rfl) rfl dX4_shownLength_14 ?_
    refine lv_iconst (v := nI 2) hx hb dX4_shownLength_17 (by decide) ?_
    refine lv_icmp_ne (tgt := 35) hx hb dX4_shownLength_18 (by decide) (fun c2 => ?_) (fun c2 => ?_)
    · skip
      rw [nI_eq (by omega) (by omega)] at c2
      refine lv_aload_n hx hb dX4_shownLength_35 rfl (lv_at hl 0 rfl) ?_
      refine ts_get (C := RX4) (T := TX4) (N := 13) (v := .int (u.2.2.1.2.1 0)) hx hb hts hi4 hown hK hW 24 (by decide) cel_tr rfl 4 (by decide) (List.mem_of_getElem? (i := 2) rfl) rfl dX4_shownLength_36 ?_
      refine va_mabs hx hb (hml.trans hl.1.symm) hown (hts _ (List.mem_of_getElem? (i := 3) rfl)) (hts _ (List.mem_of_getElem? (i := 4) rfl)) (hts _ (List.mem_of_getElem? (i := 5) rfl)) (hts _ (List.mem_of_getElem? (i := 6) rfl)) (Nat.le_of_ble_eq_true rfl) (Nat.le_of_ble_eq_true rfl) (Nat.zero_le _) (Nat.zero_le _) dX4_shownLength_39 ?_
      refine ts_int (y := absI (u.2.2.1.2.1 0)) rfl ?_
      refine lv_bipush (v := nI 10) hx hb dX4_shownLength_42 (by decide) ?_
      refine lv_icmp_ge (tgt := 51) hx hb dX4_shownLength_44 (by decide) (fun c3 => ?_) (fun c3 => ?_)
      · skip
        refine lv_aload_n hx hb dX4_shownLength_51 rfl (lv_at hl 0 rfl) ?_
        refine ts_get (C := RX4) (T := TX4) (N := 13) (v := .int (u.2.2.1.2.1 0)) hx hb hts hi4 hown hK hW 24 (by decide) cel_tr rfl 4 (by decide) (List.mem_of_getElem? (i := 2) rfl) rfl dX4_shownLength_52 ?_
        refine va_mabs hx hb (hml.trans hl.1.symm) hown (hts _ (List.mem_of_getElem? (i := 3) rfl)) (hts _ (List.mem_of_getElem? (i := 4) rfl)) (hts _ (List.mem_of_getElem? (i := 5) rfl)) (hts _ (List.mem_of_getElem? (i := 6) rfl)) (Nat.le_of_ble_eq_true rfl) (Nat.le_of_ble_eq_true rfl) (Nat.zero_le _) (Nat.zero_le _) dX4_shownLength_55 ?_
        refine ts_int (y := absI (u.2.2.1.2.1 0)) rfl ?_
        refine lv_bipush (v := nI 100) hx hb dX4_shownLength_58 (by decide) ?_
        refine lv_icmp_ge (tgt := 67) hx hb dX4_shownLength_60 (by decide) (fun c4 => ?_) (fun c4 => ?_)
        · skip
          refine lv_iconst (v := nI 3) hx hb dX4_shownLength_67 (by decide) ?_
          refine lv_istore_n (lv' := [(1, .int (nI 3)), (0, .ref (b + 24))]) hx hb dX4_shownLength_68 rfl hl (by decide) rfl (fun ls hl => ?_)
          refine lv_aload_n hx hb dX4_shownLength_69 rfl (lv_at hl 1 rfl) ?_
          refine ts_get (C := RX4) (T := TX4) (N := 13) (v := .int (u.2.2.1.2.1 0)) hx hb hts hi4 hown hK hW 24 (by decide) cel_tr rfl 4 (by decide) (List.mem_of_getElem? (i := 2) rfl) rfl dX4_shownLength_70 ?_
          refine lv_if_ge (tgt := 82) hx hb dX4_shownLength_73 (by decide) (fun c5 => ?_) (fun c5 => ?_)
          · skip
            refine lv_iload_n hx hb dX4_shownLength_82 rfl (lv_at hl 0 rfl) ?_
            exact ts_iret (u := u) (v := nI 3) C0 hW hS (by refine ⟨?_, rfl⟩; unfold shownI digI; (repeat' split) <;> first | rfl | contradiction | (exfalso; omega) | (exfalso; simp_all; done)) dX4_shownLength_83
          refine lv_iload_n hx hb dX4_shownLength_76 rfl (lv_at hl 0 rfl) ?_
          refine lv_iconst (v := nI 1) hx hb dX4_shownLength_77 (by decide) ?_
          refine ts_iadd (v := (nI 3) + nI 1) hx hb dX4_shownLength_78 rfl ?_
          refine lv_goto (tgt := 83) hx hb dX4_shownLength_79 (by decide) ?_
          exact ts_iret (u := u) (v := (nI 3) + nI 1) C0 hW hS (by refine ⟨?_, rfl⟩; unfold shownI digI; (repeat' split) <;> first | rfl | contradiction | (exfalso; omega) | (exfalso; simp_all; done)) dX4_shownLength_83
        refine lv_iconst (v := nI 2) hx hb dX4_shownLength_63 (by decide) ?_
        refine lv_goto (tgt := 68) hx hb dX4_shownLength_64 (by decide) ?_
        refine lv_istore_n (lv' := [(1, .int (nI 2)), (0, .ref (b + 24))]) hx hb dX4_shownLength_68 rfl hl (by decide) rfl (fun ls hl => ?_)
        refine lv_aload_n hx hb dX4_shownLength_69 rfl (lv_at hl 1 rfl) ?_
        refine ts_get (C := RX4) (T := TX4) (N := 13) (v := .int (u.2.2.1.2.1 0)) hx hb hts hi4 hown hK hW 24 (by decide) cel_tr rfl 4 (by decide) (List.mem_of_getElem? (i := 2) rfl) rfl dX4_shownLength_70 ?_
        refine lv_if_ge (tgt := 82) hx hb dX4_shownLength_73 (by decide) (fun c6 => ?_) (fun c6 => ?_)
        · skip
          refine lv_iload_n hx hb dX4_shownLength_82 rfl (lv_at hl 0 rfl) ?_
          exact ts_iret (u := u) (v := nI 2) C0 hW hS (by refine ⟨?_, rfl⟩; unfold shownI digI; (repeat' split) <;> first | rfl | contradiction | (exfalso; omega) | (exfalso; simp_all; done)) dX4_shownLength_83
        refine lv_iload_n hx hb dX4_shownLength_76 rfl (lv_at hl 0 rfl) ?_
        refine lv_iconst (v := nI 1) hx hb dX4_shownLength_77 (by decide) ?_
        refine ts_iadd (v := (nI 2) + nI 1) hx hb dX4_shownLength_78 rfl ?_
        refine lv_goto (tgt := 83) hx hb dX4_shownLength_79 (by decide) ?_
        exact ts_iret (u := u) (v := (nI 2) + nI 1) C0 hW hS (by refine ⟨?_, rfl⟩; unfold shownI digI; (repeat' split) <;> first | rfl | contradiction | (exfalso; omega) | (exfalso; simp_all; done)) dX4_shownLength_83
      refine lv_iconst (v := nI 1) hx hb dX4_shownLength_47 (by decide) ?_
      refine lv_goto (tgt := 68) hx hb dX4_shownLength_48 (by decide) ?_
      refine lv_istore_n (lv' := [(1, .int (nI 1)), (0, .ref (b + 24))]) hx hb dX4_shownLength_68 rfl hl (by decide) rfl (fun ls hl => ?_)
      refine lv_aload_n hx hb dX4_shownLength_69 rfl (lv_at hl 1 rfl) ?_
      refine ts_get (C := RX4) (T := TX4) (N := 13) (v := .int (u.2.2.1.2.1 0)) hx hb hts hi4 hown hK hW 24 (by decide) cel_tr rfl 4 (by decide) (List.mem_of_getElem? (i := 2) rfl) rfl dX4_shownLength_70 ?_
      refine lv_if_ge (tgt := 82) hx hb dX4_shownLength_73 (by decide) (fun c7 => ?_) (fun c7 => ?_)
      · skip
        refine lv_iload_n hx hb dX4_shownLength_82 rfl (lv_at hl 0 rfl) ?_
        exact ts_iret (u := u) (v := nI 1) C0 hW hS (by refine ⟨?_, rfl⟩; unfold shownI digI; (repeat' split) <;> first | rfl | contradiction | (exfalso; omega) | (exfalso; simp_all; done)) dX4_shownLength_83
      refine lv_iload_n hx hb dX4_shownLength_76 rfl (lv_at hl 0 rfl) ?_
      refine lv_iconst (v := nI 1) hx hb dX4_shownLength_77 (by decide) ?_
      refine ts_iadd (v := (nI 1) + nI 1) hx hb dX4_shownLength_78 rfl ?_
      refine lv_goto (tgt := 83) hx hb dX4_shownLength_79 (by decide) ?_
      exact ts_iret (u := u) (v := (nI 1) + nI 1) C0 hW hS (by refine ⟨?_, rfl⟩; unfold shownI digI; (repeat' split) <;> first | rfl | contradiction | (exfalso; omega) | (exfalso; simp_all; done)) dX4_shownLength_83
    rw [nI_eq (by omega) (by omega)] at c2
    refine lv_aload_n hx hb dX4_shownLength_21 rfl (lv_at hl 0 rfl) ?_
    refine ts_get (C := RX4) (T := TX4) (N := 13) (v := .int (u.2.2.1.2.1 0)) hx hb hts hi4 hown hK hW 24 (by decide) cel_tr rfl 4 (by decide) (List.mem_of_getElem? (i := 2) rfl) rfl dX4_shownLength_22 ?_
    refine lv_iconst (v := nI 1) hx hb dX4_shownLength_25 (by decide) ?_
    refine lv_icmp_ne (tgt := 33) hx hb dX4_shownLength_26 (by decide) (fun c8 => ?_) (fun c8 => ?_)
    · skip
      refine lv_iconst (v := nI 5) hx hb dX4_shownLength_33 (by decide) ?_
      exact ts_iret (u := u) (v := nI 5) C0 hW hS (by refine ⟨?_, rfl⟩; unfold shownI digI; (repeat' split) <;> first | rfl | contradiction | (exfalso; omega) | (exfalso; simp_all; done)) dX4_shownLength_34
    refine lv_iconst (v := nI 4) hx hb dX4_shownLength_29 (by decide) ?_
    refine lv_goto (tgt := 34) hx hb dX4_shownLength_30 (by decide) ?_
    exact ts_iret (u := u) (v := nI 4) C0 hW hS (by refine ⟨?_, rfl⟩; unfold shownI digI; (repeat' split) <;> first | rfl | contradiction | (exfalso; omega) | (exfalso; simp_all; done)) dX4_shownLength_34
  rw [nI_eq (by omega) (by omega)] at c1
  refine lv_aload_n hx hb dX4_shownLength_8 rfl (lv_at hl 0 rfl) ?_
  refine ts_get (C := RX4) (T := TX4) (N := 13) (v := .int (u.2.2.1.2.1 0)) hx hb hts hi4 hown hK hW 24 (by decide) cel_tr rfl 4 (by decide) (List.mem_of_getElem? (i := 2) rfl) rfl dX4_shownLength_9 ?_
  exact ts_iret (u := u) (v := u.2.2.1.2.1 0) C0 hW hS (by refine ⟨?_, rfl⟩; unfold shownI digI; (repeat' split) <;> first | rfl | contradiction | (exfalso; omega) | (exfalso; simp_all; done)) dX4_shownLength_12
set_option maxHeartbeats 4000000 in
set_option maxRecDepth 100000 in
theorem k_X4_made (l : Launch) (D : va_G) (q : CQ) (b sz : Nat) (u : ST) (v : Nat) (hwt : WT u.2.2.1) (hv : v < 1000) : Met l yX4_made wsX4_made ({ frames := 2, cells := 0, slots := 0, locals := 45 } : Room) (va_Pc [.ref (b + 24), .int (nI v)] (Pr D q b sz u)) (cI D q b sz (fun r u' => r = madeI (u.2.2.1.1 1) v (u.2.2.1.2.1 0) ∧ u' = u)) 0 0 (ts_A b 52 sz) := by
  refine ts_met (by decide) rfl (Nat.le_of_ble_eq_true rfl) ?_
  intro p e s m below meth c C0 hX ls hl
  obtain ⟨hsz, hW, hK, hN⟩ := hX
  subst hsz
  obtain ⟨hx, hb, hml, hown, hts, -, -, -⟩ := id C0
  have hW : ts_W D b 52 (cel q b u) s.heap := hW
  have hS : va_S (ts_A b 52 s.heap.size) s.heap s.heap [] := va_S.rf
  have hB : ∀ k, k < 52 → ts_A b 52 s.heap.size (b + k) := fun k hk => ts_Ain hk
  have hi4 : ∀ w ∈ wsX40, w ∈ wsX4_made := ts_lays 18 rfl
  have hl : lv_has ls 2 [(0, .ref (b + 24)), (1, .int (nI v))] := hl
  obtain ⟨w0, w1, w2, w3, w5, w6, w7, w8, w9⟩ := id hwt
  refine lv_iload_n hx hb dX4_made_0 rfl (lv_at hl 1 rfl) ?_
  by_cases c1 : v = 20
  · skip
    refine lv_tableIn (tgt := 36) hx hb dX4_made_1 (by rw [c1]; decide) (by rw [c1]; decide) (by rw [c1]; rfl) (by decide) ?_
    refine lv_aload_n hx hb dX4_made_36 rfl (lv_at hl 0 rfl) ?_
    refine ts_get (C := RX4) (T := TX4) (N := 13) (v := .int (u.2.2.1.2.1 0)) hx hb hts hi4 hown hK hW 24 (by decide) cel_tr rfl 4 (by decide) (List.mem_of_getElem? (i := 1) rfl) rfl dX4_made_37 ?_
    exact ts_iret (u := u) (v := u.2.2.1.2.1 0) C0 hW hS (by refine ⟨?_, rfl⟩; unfold madeI; (repeat' split) <;> first | rfl | contradiction | (exfalso; omega) | (exfalso; simp_all; done)) dX4_made_40
  by_cases c2 : v = 21
  · skip
    refine lv_tableIn (tgt := 41) hx hb dX4_made_1 (by rw [c2]; decide) (by rw [c2]; decide) (by rw [c2]; rfl) (by decide) ?_
    refine lv_aload_n hx hb dX4_made_41 rfl (lv_at hl 0 rfl) ?_
    refine ts_retI (va_runV (As := []) (rest := []) ⟨hx, hb, hml, hown, hts⟩ (k_X4_shownLength l D q b s.heap.size u hwt) (cwV 0 hts gX4_made_X4_shownLength rfl rfl rfl (by decide +kernel) ⟨Nat.le_of_ble_eq_true rfl, Nat.le_of_ble_eq_true rfl⟩) (ts_preV hK hN hW 24 (by decide) cel_tr rfl) rfl rfl hl.1 rfl (lv_room (Nat.le_of_ble_eq_true rfl)) dX4_made_42 ⟨Nat.zero_le _, Nat.zero_le _⟩) hS (fun x h => ts_Aup hS.1 h) (fun r3 u4 H locs hp5 hW _ _ hS => ?_)
    have hp5r : r3 = shownI (u.2.2.1.1 1) (u.2.2.1.2.1 0) := hp5.1
    have hp5u : u4 = u := hp5.2
    rw [hp5r]
    rw [hp5u] at hW
    exact ts_iret (u := u) (v := shownI (u.2.2.1.1 1) (u.2.2.1.2.1 0)) C0 hW hS (by refine ⟨?_, rfl⟩; unfold madeI; (repeat' split) <;> first | rfl | contradiction | (exfalso; omega) | (exfalso; simp_all; done)) dX4_made_45
  by_cases c6 : v = 22
  · skip
    refine lv_tableIn (tgt := 46) hx hb dX4_made_1 (by rw [c6]; decide) (by rw [c6]; decide) (by rw [c6]; rfl) (by decide) ?_
    refine lv_aload_n hx hb dX4_made_46 rfl (lv_at hl 0 rfl) ?_
    refine ts_get (C := RX4) (T := TX4) (N := 13) (v := .int (u.2.2.1.2.1 0)) hx hb hts hi4 hown hK hW 24 (by decide) cel_tr rfl 4 (by decide) (List.mem_of_getElem? (i := 1) rfl) rfl dX4_made_47 ?_
    refine lv_if_le (tgt := 57) hx hb dX4_made_50 (by decide) (fun c7 => ?_) (fun c7 => ?_)
    · skip
      refine lv_iconst (v := nI 0) hx hb dX4_made_57 (by decide) ?_
      exact ts_iret (u := u) (v := nI 0) C0 hW hS (by refine ⟨?_, rfl⟩; unfold madeI; (repeat' split) <;> first | rfl | contradiction | (exfalso; omega) | (exfalso; simp_all; done)) dX4_made_58
    refine lv_iconst (v := nI 1) hx hb dX4_made_53 (by decide) ?_
    refine lv_goto (tgt := 58) hx hb dX4_made_54 (by decide) ?_
    exact ts_iret (u := u) (v := nI 1) C0 hW hS (by refine ⟨?_, rfl⟩; unfold madeI; (repeat' split) <;> first | rfl | contradiction | (exfalso; omega) | (exfalso; simp_all; done)) dX4_made_58
  by_cases c8 : v = 23
  · skip
    refine lv_tableIn (tgt := 59) hx hb dX4_made_1 (by rw [c8]; decide) (by rw [c8]; decide) (by rw [c8]; rfl) (by decide) ?_
    refine lv_iconst (v := nI 1) hx hb dX4_made_59 (by decide) ?_
    refine lv_aload_n hx hb dX4_made_60 rfl (lv_at hl 0 rfl) ?_
    refine ts_get (C := RX4) (T := TX4) (N := 13) (v := .int (u.2.2.1.2.1 0)) hx hb hts hi4 hown hK hW 24 (by decide) cel_tr rfl 4 (by decide) (List.mem_of_getElem? (i := 1) rfl) rfl dX4_made_61 ?_
    refine ts_isub (v := (nI 1) - (u.2.2.1.2.1 0)) hx hb dX4_made_64 rfl ?_
    exact ts_iret (u := u) (v := (nI 1) - (u.2.2.1.2.1 0)) C0 hW hS (by refine ⟨?_, rfl⟩; unfold madeI; (repeat' split) <;> first | rfl | contradiction | (exfalso; omega) | (exfalso; simp_all; done)) dX4_made_65
  by_cases c9 : v = 24
  · skip
    refine lv_tableIn (tgt := 66) hx hb dX4_made_1 (by rw [c9]; decide) (by rw [c9]; decide) (by rw [c9]; rfl) (by decide) ?_
    refine lv_sipush (v := (-999)) hx hb dX4_made_66 (by decide) ?_
    refine lv_aload_n hx hb dX4_made_69 rfl (lv_at hl 0 rfl) ?_
    refine ts_get (C := RX4) (T := TX4) (N := 13) (v := .int (u.2.2.1.2.1 0)) hx hb hts hi4 hown hK hW 24 (by decide) cel_tr rfl 4 (by decide) (List.mem_of_getElem? (i := 1) rfl) rfl dX4_made_70 ?_
    refine lv_iconst (v := nI 5) hx hb dX4_made_73 (by decide) ?_
    refine ts_isub (v := (u.2.2.1.2.1 0) - (nI 5)) hx hb dX4_made_74 rfl ?_
    refine va_mmax hx hb (hml.trans hl.1.symm) hown (hts _ (List.mem_of_getElem? (i := 2) rfl)) (hts _ (List.mem_of_getElem? (i := 3) rfl)) (hts _ (List.mem_of_getElem? (i := 4) rfl)) (hts _ (List.mem_of_getElem? (i := 5) rfl)) (Nat.le_of_ble_eq_true rfl) (Nat.le_of_ble_eq_true rfl) (Nat.zero_le _) (Nat.zero_le _) dX4_made_75 ?_
    refine ts_int (y := maxI (-999) ((u.2.2.1.2.1 0) - (nI 5))) rfl ?_
    exact ts_iret (u := u) (v := maxI (-999) ((u.2.2.1.2.1 0) - (nI 5))) C0 hW hS (by refine ⟨?_, rfl⟩; unfold madeI; (repeat' split) <;> first | rfl | contradiction | (exfalso; omega) | (exfalso; simp_all; done)) dX4_made_78
  refine lv_tableOut (tgt := 79) hx hb dX4_made_1 (by rw [nI_toInt (by omega)]; omega) (by decide) ?_
  refine lv_sipush (v := nI 999) hx hb dX4_made_79 (by decide) ?_
  refine lv_aload_n hx hb dX4_made_82 rfl (lv_at hl 0 rfl) ?_
  refine ts_get (C := RX4) (T := TX4) (N := 13) (v := .int (u.2.2.1.2.1 0)) hx hb hts hi4 hown hK hW 24 (by decide) cel_tr rfl 4 (by decide) (List.mem_of_getElem? (i := 1) rfl) rfl dX4_made_83 ?_
  refine lv_iload_n hx hb dX4_made_86 rfl (lv_at hl 1 rfl) ?_
  refine ts_iadd (v := (u.2.2.1.2.1 0) + (nI v)) hx hb dX4_made_87 rfl ?_
  refine va_mmin hx hb (hml.trans hl.1.symm) hown (hts _ (List.mem_of_getElem? (i := 6) rfl)) (hts _ (List.mem_of_getElem? (i := 7) rfl)) (hts _ (List.mem_of_getElem? (i := 4) rfl)) (hts _ (List.mem_of_getElem? (i := 8) rfl)) (Nat.le_of_ble_eq_true rfl) (Nat.le_of_ble_eq_true rfl) (Nat.zero_le _) (Nat.zero_le _) dX4_made_88 ?_
  refine ts_int (y := minI (nI 999) ((u.2.2.1.2.1 0) + (nI v))) rfl ?_
  exact ts_iret (u := u) (v := minI (nI 999) ((u.2.2.1.2.1 0) + (nI v))) C0 hW hS (by refine ⟨?_, rfl⟩; unfold madeI; (repeat' split) <;> first | rfl | contradiction | (exfalso; omega) | (exfalso; simp_all; done)) dX4_made_91
set_option maxHeartbeats 4000000 in
set_option maxRecDepth 100000 in
theorem k_X4_begin (l : Launch) (D : va_G) (q : CQ) (b sz : Nat) (u : ST) (n : Nat) (hE : EnterOK l D q b n) (f : Nat) (v : Nat) (d : Nat) (hwf : WP u.1) (hwt : WT u.2.2.1) (hf : f < 10) (hv : v ≤ 9 ∨ (20 ≤ v ∧ v ≤ 24) ∨ (40 ≤ v ∧ v < 40 + u.1.1 1)) (hd : d + 1 + n = 13) : Met l yX4_begin wsX4_begin ({ frames := 3 * n + 6, cells := 0, slots := 0, locals := 71 * n + 223 } : Room) (va_Pc [.ref (b + 24), .int (nI f), .int (nI v), .int (nI d)] (Pr D q b sz u)) (cV D q b sz (fun u' => u' = (u.1, u.2.1, beginT u.1 (enterT u.1 n) f v u.2.2.1, u.2.2.2))) 0 0 (ts_A b 52 sz) := by
  refine ts_met (by decide) rfl (Nat.le_of_ble_eq_true rfl) ?_
  intro p e s m below meth c C0 hX ls hl
  obtain ⟨hsz, hW, hK, hN⟩ := hX
  subst hsz
  obtain ⟨hx, hb, hml, hown, hts, -, -, -⟩ := id C0
  have hW : ts_W D b 52 (cel q b u) s.heap := hW
  have hS : va_S (ts_A b 52 s.heap.size) s.heap s.heap [] := va_S.rf
  have hB : ∀ k, k < 52 → ts_A b 52 s.heap.size (b + k) := fun k hk => ts_Ain hk
  have hi3 : ∀ w ∈ wsX30, w ∈ wsX4_begin := ts_lays 94 rfl
  have hi4 : ∀ w ∈ wsX40, w ∈ wsX4_begin := ts_lays 81 rfl
  have hl : lv_has ls 5 [(0, .ref (b + 24)), (1, .int (nI f)), (2, .int (nI v)), (3, .int (nI d))] := hl
  have hs := hwf.sz
  have hty := hwf.ty
  obtain ⟨w0, w1, w2, w3, w5, w6, w7, w8, w9⟩ := id hwt
  refine lv_aload_n hx hb dX4_begin_0 rfl (lv_at hl 0 rfl) ?_
  refine ts_get (C := RX4) (T := TX4) (N := 13) (v := .int (nI (u.2.2.1.1 2))) hx hb hts hi4 hown hK hW 24 (by decide) cel_tr rfl 5 (by decide) (List.mem_of_getElem? (i := 1) rfl) rfl dX4_begin_1 ?_
  refine lv_sipush (v := nI 200) hx hb dX4_begin_4 (by decide) ?_
  refine lv_icmp_lt (tgt := 17) hx hb dX4_begin_7 (by decide) (fun c1 => ?_) (fun c1 => ?_)
  · skip
    rw [nI_ltI (by omega) (by omega)] at c1
    refine lv_aload_n hx hb dX4_begin_17 rfl (lv_at hl 0 rfl) ?_
    refine lv_dup hx hb dX4_begin_18 rfl ?_
    refine ts_get (C := RX4) (T := TX4) (N := 13) (v := .int (nI (u.2.2.1.1 2))) hx hb hts hi4 hown hK hW 24 (by decide) cel_tr rfl 5 (by decide) (List.mem_of_getElem? (i := 1) rfl) rfl dX4_begin_19 ?_
    refine lv_iconst (v := nI 1) hx hb dX4_begin_22 (by decide) ?_
    refine ts_iadd (v := nI ((u.2.2.1.1 2) + 1)) hx hb dX4_begin_23 (nI_add _ _) ?_
    refine ts_put (C := RX4) (T := TX4) (N := 13) (v := .int (nI ((u.2.2.1.1 2) + 1))) hx hb hts hi4 tyX4 tyX4_ok nmX4 hown hK hW hS hB 24 (by decide) cel_tr rfl 5 (by decide) (List.mem_of_getElem? (i := 1) rfl) rfl rfl rfl (Nat.le_of_ble_eq_true rfl) (cel q b (u.1, u.2.1, (va_up u.2.2.1.1 2 ((u.2.2.1.1 2) + 1), u.2.2.1.2.1, u.2.2.1.2.2), u.2.2.2)) rfl (cel_oT rfl rfl rfl rfl) dX4_begin_24 (fun H locs _ _ hW hS => ?_)
    refine lv_iload_n hx hb dX4_begin_27 rfl (lv_at hl 2 rfl) ?_
    refine ts_retI (va_runSN (As := [.int (nI v)]) (rest := []) ⟨hx, hb, hml, hown, hts⟩ (k_X5_isCall l D q b H.size (u.1, u.2.1, (va_up u.2.2.1.1 2 ((u.2.2.1.1 2) + 1), u.2.2.1.2.1, u.2.2.1.2.2), u.2.2.2) v (by omega)) ⟨va_cnB 1 hts gX4_begin_X5_isCall_n119 rfl rfl rfl (hN _ (List.mem_of_getElem? (i := 9) rfl)) (hts _ (List.mem_of_getElem? (i := 15) rfl)) (by decide +kernel) ⟨by show _ ≤ _; dsimp only [rE]; omega, by show _ ≤ _; dsimp only [rE]; omega⟩, hts _ (List.mem_of_getElem? (i := 14) rfl), trivial⟩ (ts_preS hK hN hW) rfl rfl hl.1 rfl (lv_room (Nat.le_of_ble_eq_true rfl)) dX4_begin_28 ⟨Nat.zero_le _, Nat.zero_le _⟩) hS (fun x h => ts_Aup hS.1 h) (fun r2 u3 H locs hp4 hW _ _ hS => ?_)
    have hp4r : r2 = b2i (decide (40 ≤ v)) := hp4.1
    have hp4u : u3 = (u.1, u.2.1, (va_up u.2.2.1.1 2 ((u.2.2.1.1 2) + 1), u.2.2.1.2.1, u.2.2.1.2.2), u.2.2.2) := hp4.2
    rw [hp4r]
    rw [hp4u] at hW
    refine lv_if_eq (tgt := 47) hx hb dX4_begin_31 (by decide) (fun c5 => ?_) (fun c5 => ?_)
    · skip
      have c5 := ts_df c5
      refine lv_iload_n hx hb dX4_begin_47 rfl (lv_at hl 2 rfl) ?_
      refine ts_retI (va_runSN (As := [.int (nI v)]) (rest := []) ⟨hx, hb, hml, hown, hts⟩ (k_X5_plainNeed l D q b H.size (u.1, u.2.1, (va_up u.2.2.1.1 2 ((u.2.2.1.1 2) + 1), u.2.2.1.2.1, u.2.2.1.2.2), u.2.2.2) v (by omega)) ⟨va_cnB 1 hts gX4_begin_X5_plainNeed_n123 rfl rfl rfl (hN _ (List.mem_of_getElem? (i := 10) rfl)) (hts _ (List.mem_of_getElem? (i := 15) rfl)) (by decide +kernel) ⟨by show _ ≤ _; dsimp only [rE]; omega, by show _ ≤ _; dsimp only [rE]; omega⟩, hts _ (List.mem_of_getElem? (i := 20) rfl), trivial⟩ (ts_preS hK hN hW) rfl rfl hl.1 rfl (lv_room (Nat.le_of_ble_eq_true rfl)) dX4_begin_48 ⟨Nat.zero_le _, Nat.zero_le _⟩) hS (fun x h => ts_Aup hS.1 h) (fun r6 u7 H locs hp8 hW _ _ hS => ?_)
      have hp8r : r6 = nI (plainN v) := hp8.1
      have hp8u : u7 = (u.1, u.2.1, (va_up u.2.2.1.1 2 ((u.2.2.1.1 2) + 1), u.2.2.1.2.1, u.2.2.1.2.2), u.2.2.2) := hp8.2
      rw [hp8r]
      rw [hp8u] at hW
      have hq9 := plainN_le v
      refine lv_istore (lv' := [(4, .int (nI (plainN v))), (0, .ref (b + 24)), (1, .int (nI f)), (2, .int (nI v)), (3, .int (nI d))]) hx hb dX4_begin_51 hl (by decide) rfl (fun ls hl => ?_)
      refine lv_iload hx hb dX4_begin_53 (lv_at hl 0 rfl) ?_
      refine lv_iconst (v := nI 3) hx hb dX4_begin_55 (by decide) ?_
      refine lv_icmp_eq (tgt := 96) hx hb dX4_begin_56 (by decide) (fun c10 => ?_) (fun c10 => ?_)
      · skip
        rw [nI_eq (by omega) (by omega)] at c10
        refine lv_aload_n hx hb dX4_begin_96 rfl (lv_at hl 1 rfl) ?_
        refine lv_aload_n hx hb dX4_begin_97 rfl (lv_at hl 1 rfl) ?_
        refine lv_iload_n hx hb dX4_begin_98 rfl (lv_at hl 3 rfl) ?_
        refine ts_retI (va_runV (As := [.int (nI v)]) (rest := [.ref (b + 24)]) ⟨hx, hb, hml, hown, hts⟩ (k_X4_made l D q b H.size (u.1, u.2.1, (va_up u.2.2.1.1 2 ((u.2.2.1.1 2) + 1), u.2.2.1.2.1, u.2.2.1.2.2), u.2.2.2) v (hwt.beg (by omega)) (by omega)) (cwV 1 hts gX4_begin_X4_made rfl rfl rfl (by decide +kernel) ⟨by show _ ≤ _; dsimp only [rE]; omega, by show _ ≤ _; dsimp only [rE]; omega⟩) (ts_preV hK hN hW 24 (by decide) cel_tr rfl) rfl rfl hl.1 rfl (lv_room (Nat.le_of_ble_eq_true rfl)) dX4_begin_99 ⟨Nat.zero_le _, Nat.zero_le _⟩) hS (fun x h => ts_Aup hS.1 h) (fun r11 u12 H locs hp13 hW _ _ hS => ?_)
        have hp13r : r11 = madeI (u.2.2.1.1 1) v (u.2.2.1.2.1 0) := hp13.1
        have hp13u : u12 = (u.1, u.2.1, (va_up u.2.2.1.1 2 ((u.2.2.1.1 2) + 1), u.2.2.1.2.1, u.2.2.1.2.2), u.2.2.2) := hp13.2
        rw [hp13r]
        rw [hp13u] at hW
        refine ts_put (C := RX4) (T := TX4) (N := 13) (v := .int (madeI (u.2.2.1.1 1) v (u.2.2.1.2.1 0))) hx hb hts hi4 tyX4 tyX4_ok nmX4 hown hK hW hS hB 24 (by decide) cel_tr rfl 4 (by decide) (List.mem_of_getElem? (i := 6) rfl) rfl rfl rfl (Nat.le_of_ble_eq_true rfl) (cel q b (u.1, u.2.1, (va_up u.2.2.1.1 2 ((u.2.2.1.1 2) + 1), va_up u.2.2.1.2.1 0 (madeI (u.2.2.1.1 1) v (u.2.2.1.2.1 0)), u.2.2.1.2.2), u.2.2.2)) rfl (cel_oT rfl rfl rfl rfl) dX4_begin_102 (fun H locs _ _ hW hS => ?_)
        refine lv_aload_n hx hb dX4_begin_105 rfl (lv_at hl 1 rfl) ?_
        refine lv_iload_n hx hb dX4_begin_106 rfl (lv_at hl 3 rfl) ?_
        refine ts_retI (va_runSN (As := [.int (nI v)]) (rest := [.ref (b + 24)]) ⟨hx, hb, hml, hown, hts⟩ (k_X5_plainGift l D q b H.size (u.1, u.2.1, (va_up u.2.2.1.1 2 ((u.2.2.1.1 2) + 1), va_up u.2.2.1.2.1 0 (madeI (u.2.2.1.1 1) v (u.2.2.1.2.1 0)), u.2.2.1.2.2), u.2.2.2) v (by omega)) ⟨va_cnB 1 hts gX4_begin_X5_plainGift_n133 rfl rfl rfl (hN _ (List.mem_of_getElem? (i := 12) rfl)) (hts _ (List.mem_of_getElem? (i := 15) rfl)) (by decide +kernel) ⟨by show _ ≤ _; dsimp only [rE]; omega, by show _ ≤ _; dsimp only [rE]; omega⟩, hts _ (List.mem_of_getElem? (i := 42) rfl), trivial⟩ (ts_preS hK hN hW) rfl rfl hl.1 rfl (lv_room (Nat.le_of_ble_eq_true rfl)) dX4_begin_107 ⟨Nat.zero_le _, Nat.zero_le _⟩) hS (fun x h => ts_Aup hS.1 h) (fun r14 u15 H locs hp16 hW _ _ hS => ?_)
        have hp16r : r14 = nI (plainG v) := hp16.1
        have hp16u : u15 = (u.1, u.2.1, (va_up u.2.2.1.1 2 ((u.2.2.1.1 2) + 1), va_up u.2.2.1.2.1 0 (madeI (u.2.2.1.1 1) v (u.2.2.1.2.1 0)), u.2.2.1.2.2), u.2.2.2) := hp16.2
        rw [hp16r]
        rw [hp16u] at hW
        have hq17 := plainG_le v
        refine ts_put (C := RX4) (T := TX4) (N := 13) (v := .int (nI (plainG v))) hx hb hts hi4 tyX4 tyX4_ok nmX4 hown hK hW hS hB 24 (by decide) cel_tr rfl 3 (by decide) (List.mem_of_getElem? (i := 2) rfl) rfl rfl rfl (Nat.le_of_ble_eq_true rfl) (cel q b (u.1, u.2.1, (va_up (va_up u.2.2.1.1 2 ((u.2.2.1.1 2) + 1)) 1 (plainG v), va_up u.2.2.1.2.1 0 (madeI (u.2.2.1.1 1) v (u.2.2.1.2.1 0)), u.2.2.1.2.2), u.2.2.2)) rfl (cel_oT rfl rfl rfl rfl) dX4_begin_110 (fun H locs _ _ hW hS => ?_)
        exact ts_vret (u := (u.1, u.2.1, (va_up (va_up u.2.2.1.1 2 ((u.2.2.1.1 2) + 1)) 1 (plainG v), va_up u.2.2.1.2.1 0 (madeI (u.2.2.1.1 1) v (u.2.2.1.2.1 0)), u.2.2.1.2.2), u.2.2.2)) C0 hW hS (by (show _ = (u.1, u.2.1, beginT u.1 (enterT u.1 n) f v u.2.2.1, u.2.2.2)); unfold beginT; (repeat' split) <;> first | rfl | contradiction | (exfalso; omega) | (exfalso; simp_all; done)) dX4_begin_113
      rw [nI_eq (by omega) (by omega)] at c10
      refine lv_iload hx hb dX4_begin_59 (lv_at hl 0 rfl) ?_
      refine lv_aload_n hx hb dX4_begin_61 rfl (lv_at hl 1 rfl) ?_
      refine ts_get (C := RX4) (T := TX4) (N := 13) (v := .int (nI (u.2.2.1.1 1))) hx hb hts hi4 hown hK hW 24 (by decide) cel_tr rfl 3 (by decide) (List.mem_of_getElem? (i := 2) rfl) rfl dX4_begin_62 ?_
      refine lv_icmp_eq (tgt := 96) hx hb dX4_begin_65 (by decide) (fun c18 => ?_) (fun c18 => ?_)
      · skip
        rw [nI_eq (by omega) (by omega)] at c18
        refine lv_aload_n hx hb dX4_begin_96 rfl (lv_at hl 1 rfl) ?_
        refine lv_aload_n hx hb dX4_begin_97 rfl (lv_at hl 1 rfl) ?_
        refine lv_iload_n hx hb dX4_begin_98 rfl (lv_at hl 3 rfl) ?_
        refine ts_retI (va_runV (As := [.int (nI v)]) (rest := [.ref (b + 24)]) ⟨hx, hb, hml, hown, hts⟩ (k_X4_made l D q b H.size (u.1, u.2.1, (va_up u.2.2.1.1 2 ((u.2.2.1.1 2) + 1), u.2.2.1.2.1, u.2.2.1.2.2), u.2.2.2) v (hwt.beg (by omega)) (by omega)) (cwV 1 hts gX4_begin_X4_made rfl rfl rfl (by decide +kernel) ⟨by show _ ≤ _; dsimp only [rE]; omega, by show _ ≤ _; dsimp only [rE]; omega⟩) (ts_preV hK hN hW 24 (by decide) cel_tr rfl) rfl rfl hl.1 rfl (lv_room (Nat.le_of_ble_eq_true rfl)) dX4_begin_99 ⟨Nat.zero_le _, Nat.zero_le _⟩) hS (fun x h => ts_Aup hS.1 h) (fun r19 u20 H locs hp21 hW _ _ hS => ?_)
        have hp21r : r19 = madeI (u.2.2.1.1 1) v (u.2.2.1.2.1 0) := hp21.1
        have hp21u : u20 = (u.1, u.2.1, (va_up u.2.2.1.1 2 ((u.2.2.1.1 2) + 1), u.2.2.1.2.1, u.2.2.1.2.2), u.2.2.2) := hp21.2
        rw [hp21r]
        rw [hp21u] at hW
        refine ts_put (C := RX4) (T := TX4) (N := 13) (v := .int (madeI (u.2.2.1.1 1) v (u.2.2.1.2.1 0))) hx hb hts hi4 tyX4 tyX4_ok nmX4 hown hK hW hS hB 24 (by decide) cel_tr rfl 4 (by decide) (List.mem_of_getElem? (i := 6) rfl) rfl rfl rfl (Nat.le_of_ble_eq_true rfl) (cel q b (u.1, u.2.1, (va_up u.2.2.1.1 2 ((u.2.2.1.1 2) + 1), va_up u.2.2.1.2.1 0 (madeI (u.2.2.1.1 1) v (u.2.2.1.2.1 0)), u.2.2.1.2.2), u.2.2.2)) rfl (cel_oT rfl rfl rfl rfl) dX4_begin_102 (fun H locs _ _ hW hS => ?_)
        refine lv_aload_n hx hb dX4_begin_105 rfl (lv_at hl 1 rfl) ?_
        refine lv_iload_n hx hb dX4_begin_106 rfl (lv_at hl 3 rfl) ?_
        refine ts_retI (va_runSN (As := [.int (nI v)]) (rest := [.ref (b + 24)]) ⟨hx, hb, hml, hown, hts⟩ (k_X5_plainGift l D q b H.size (u.1, u.2.1, (va_up u.2.2.1.1 2 ((u.2.2.1.1 2) + 1), va_up u.2.2.1.2.1 0 (madeI (u.2.2.1.1 1) v (u.2.2.1.2.1 0)), u.2.2.1.2.2), u.2.2.2) v (by omega)) ⟨va_cnB 1 hts gX4_begin_X5_plainGift_n133 rfl rfl rfl (hN _ (List.mem_of_getElem? (i := 12) rfl)) (hts _ (List.mem_of_getElem? (i := 15) rfl)) (by decide +kernel) ⟨by show _ ≤ _; dsimp only [rE]; omega, by show _ ≤ _; dsimp only [rE]; omega⟩, hts _ (List.mem_of_getElem? (i := 42) rfl), trivial⟩ (ts_preS hK hN hW) rfl rfl hl.1 rfl (lv_room (Nat.le_of_ble_eq_true rfl)) dX4_begin_107 ⟨Nat.zero_le _, Nat.zero_le _⟩) hS (fun x h => ts_Aup hS.1 h) (fun r22 u23 H locs hp24 hW _ _ hS => ?_)
        have hp24r : r22 = nI (plainG v) := hp24.1
        have hp24u : u23 = (u.1, u.2.1, (va_up u.2.2.1.1 2 ((u.2.2.1.1 2) + 1), va_up u.2.2.1.2.1 0 (madeI (u.2.2.1.1 1) v (u.2.2.1.2.1 0)), u.2.2.1.2.2), u.2.2.2) := hp24.2
        rw [hp24r]
        rw [hp24u] at hW
        have hq25 := plainG_le v
        refine ts_put (C := RX4) (T := TX4) (N := 13) (v := .int (nI (plainG v))) hx hb hts hi4 tyX4 tyX4_ok nmX4 hown hK hW hS hB 24 (by decide) cel_tr rfl 3 (by decide) (List.mem_of_getElem? (i := 2) rfl) rfl rfl rfl (Nat.le_of_ble_eq_true rfl) (cel q b (u.1, u.2.1, (va_up (va_up u.2.2.1.1 2 ((u.2.2.1.1 2) + 1)) 1 (plainG v), va_up u.2.2.1.2.1 0 (madeI (u.2.2.1.1 1) v (u.2.2.1.2.1 0)), u.2.2.1.2.2), u.2.2.2)) rfl (cel_oT rfl rfl rfl rfl) dX4_begin_110 (fun H locs _ _ hW hS => ?_)
        exact ts_vret (u := (u.1, u.2.1, (va_up (va_up u.2.2.1.1 2 ((u.2.2.1.1 2) + 1)) 1 (plainG v), va_up u.2.2.1.2.1 0 (madeI (u.2.2.1.1 1) v (u.2.2.1.2.1 0)), u.2.2.1.2.2), u.2.2.2)) C0 hW hS (by (show _ = (u.1, u.2.1, beginT u.1 (enterT u.1 n) f v u.2.2.1, u.2.2.2)); unfold beginT; (repeat' split) <;> first | rfl | contradiction | (exfalso; omega) | (exfalso; simp_all; done)) dX4_begin_113
      rw [nI_eq (by omega) (by omega)] at c18
      refine lv_aload_n hx hb dX4_begin_68 rfl (lv_at hl 1 rfl) ?_
      refine lv_iconst (v := nI 1) hx hb dX4_begin_69 (by decide) ?_
      refine lv_aload_n hx hb dX4_begin_70 rfl (lv_at hl 1 rfl) ?_
      refine ts_get (C := RX4) (T := TX4) (N := 13) (v := .ref (b + 1)) hx hb hts hi4 hown hK hW 24 (by decide) cel_tr rfl 0 (by decide) (List.mem_of_getElem? (i := 3) rfl) rfl dX4_begin_71 ?_
      refine ts_get (C := RX3) (T := TX3) (N := 5) (v := .int (nI (u.1.1 2))) hx hb hts hi3 hown hK hW 1 (by decide) cel_pr rfl 3 (by decide) (List.mem_of_getElem? (i := 4) rfl) rfl dX4_begin_74 ?_
      refine lv_iload_n hx hb dX4_begin_77 rfl (lv_at hl 2 rfl) ?_
      refine ts_retI (va_runSN (As := [.int (nI (u.1.1 2)), .int (nI f)]) (rest := [.int (nI 1), .ref (b + 24)]) ⟨hx, hb, hml, hown, hts⟩ (k_X5_has l D q b H.size (u.1, u.2.1, (va_up u.2.2.1.1 2 ((u.2.2.1.1 2) + 1), u.2.2.1.2.1, u.2.2.1.2.2), u.2.2.2) (u.1.1 2) f (by omega) (by omega)) ⟨va_cnB 2 hts gX4_begin_X5_has_n126 rfl rfl rfl (hN _ (List.mem_of_getElem? (i := 11) rfl)) (hts _ (List.mem_of_getElem? (i := 15) rfl)) (by decide +kernel) ⟨by show _ ≤ _; dsimp only [rE]; omega, by show _ ≤ _; dsimp only [rE]; omega⟩, hts _ (List.mem_of_getElem? (i := 22) rfl), trivial⟩ (ts_preS hK hN hW) rfl rfl hl.1 rfl (lv_room (Nat.le_of_ble_eq_true rfl)) dX4_begin_78 ⟨Nat.zero_le _, Nat.zero_le _⟩) hS (fun x h => ts_Aup hS.1 h) (fun r26 u27 H locs hp28 hW _ _ hS => ?_)
      have hp28r : r26 = b2i (hasB (u.1.1 2) f) := hp28.1
      have hp28u : u27 = (u.1, u.2.1, (va_up u.2.2.1.1 2 ((u.2.2.1.1 2) + 1), u.2.2.1.2.1, u.2.2.1.2.2), u.2.2.2) := hp28.2
      rw [hp28r]
      rw [hp28u] at hW
      refine lv_if_eq (tgt := 91) hx hb dX4_begin_81 (by decide) (fun c29 => ?_) (fun c29 => ?_)
      · skip
        have c29 := ts_bf c29
        refine lv_iload_n hx hb dX4_begin_91 rfl (lv_at hl 2 rfl) ?_
        refine ts_retV (va_runV (As := [.int (nI 1), .int (nI f)]) (rest := []) ⟨hx, hb, hml, hown, hts⟩ (k_X4_fail l D q b H.size (u.1, u.2.1, (va_up u.2.2.1.1 2 ((u.2.2.1.1 2) + 1), u.2.2.1.2.1, u.2.2.1.2.2), u.2.2.2) 1 (f + 1)) (cwV 2 hts gX4_begin_X4_fail rfl rfl rfl (by decide +kernel) ⟨by show _ ≤ _; dsimp only [rE]; omega, by show _ ≤ _; dsimp only [rE]; omega⟩) (ts_preV hK hN hW 24 (by decide) cel_tr rfl) rfl rfl hl.1 rfl (lv_room (Nat.le_of_ble_eq_true rfl)) dX4_begin_92 ⟨Nat.zero_le _, Nat.zero_le _⟩) hS (fun x h => ts_Aup hS.1 h) (fun u31 H locs hp32 hW _ _ hS => ?_)
        have hp32u : u31 = (u.1, u.2.1, (failT 1 (f + 1) (va_up u.2.2.1.1 2 ((u.2.2.1.1 2) + 1), u.2.2.1.2.1, u.2.2.1.2.2)), u.2.2.2) := hp32
        rw [hp32u] at hW
        exact ts_vret (u := (u.1, u.2.1, (failT 1 (f + 1) (va_up u.2.2.1.1 2 ((u.2.2.1.1 2) + 1), u.2.2.1.2.1, u.2.2.1.2.2)), u.2.2.2)) C0 hW hS (by (show _ = (u.1, u.2.1, beginT u.1 (enterT u.1 n) f v u.2.2.1, u.2.2.2)); unfold beginT; (repeat' split) <;> first | rfl | contradiction | (exfalso; omega) | (exfalso; simp_all; done)) dX4_begin_95
      have c29 := ts_bt c29
      refine lv_aload_n hx hb dX4_begin_84 rfl (lv_at hl 1 rfl) ?_
      refine ts_get (C := RX4) (T := TX4) (N := 13) (v := .int (zI (u.2.2.1.1 9))) hx hb hts hi4 hown hK hW 24 (by decide) cel_tr rfl 12 (by decide) (List.mem_of_getElem? (i := 5) rfl) rfl dX4_begin_85 ?_
      refine lv_goto (tgt := 92) hx hb dX4_begin_88 (by decide) ?_
      refine ts_retV (va_runV (As := [.int (nI 1), .int (zI (u.2.2.1.1 9))]) (rest := []) ⟨hx, hb, hml, hown, hts⟩ (k_X4_fail l D q b H.size (u.1, u.2.1, (va_up u.2.2.1.1 2 ((u.2.2.1.1 2) + 1), u.2.2.1.2.1, u.2.2.1.2.2), u.2.2.2) 1 (u.2.2.1.1 9)) (cwV 2 hts gX4_begin_X4_fail rfl rfl rfl (by decide +kernel) ⟨by show _ ≤ _; dsimp only [rE]; omega, by show _ ≤ _; dsimp only [rE]; omega⟩) (ts_preV hK hN hW 24 (by decide) cel_tr rfl) rfl rfl hl.1 rfl (lv_room (Nat.le_of_ble_eq_true rfl)) dX4_begin_92 ⟨Nat.zero_le _, Nat.zero_le _⟩) hS (fun x h => ts_Aup hS.1 h) (fun u34 H locs hp35 hW _ _ hS => ?_)
      have hp35u : u34 = (u.1, u.2.1, (failT 1 (u.2.2.1.1 9) (va_up u.2.2.1.1 2 ((u.2.2.1.1 2) + 1), u.2.2.1.2.1, u.2.2.1.2.2)), u.2.2.2) := hp35
      rw [hp35u] at hW
      exact ts_vret (u := (u.1, u.2.1, (failT 1 (u.2.2.1.1 9) (va_up u.2.2.1.1 2 ((u.2.2.1.1 2) + 1), u.2.2.1.2.1, u.2.2.1.2.2)), u.2.2.2)) C0 hW hS (by (show _ = (u.1, u.2.1, beginT u.1 (enterT u.1 n) f v u.2.2.1, u.2.2.2)); unfold beginT; (repeat' split) <;> first | rfl | contradiction | (exfalso; omega) | (exfalso; simp_all; done)) dX4_begin_95
    have c5 := ts_dt c5
    refine lv_aload_n hx hb dX4_begin_34 rfl (lv_at hl 0 rfl) ?_
    refine lv_iload_n hx hb dX4_begin_35 rfl (lv_at hl 1 rfl) ?_
    refine lv_iload_n hx hb dX4_begin_36 rfl (lv_at hl 2 rfl) ?_
    refine lv_bipush (v := nI 40) hx hb dX4_begin_37 (by decide) ?_
    refine ts_isub (v := nI (v - 40)) hx hb dX4_begin_39 (pk_sub (by omega)) ?_
    refine lv_iload_n hx hb dX4_begin_40 rfl (lv_at hl 3 rfl) ?_
    refine lv_iconst (v := nI 1) hx hb dX4_begin_41 (by decide) ?_
    refine ts_iadd (v := nI (d + 1)) hx hb dX4_begin_42 (nI_add _ _) ?_
    refine ts_retV (va_runV (As := [.int (nI f), .int (nI (v - 40)), .int (nI (d + 1))]) (rest := []) ⟨hx, hb, hml, hown, hts⟩ (hE H.size (u.1, u.2.1, (va_up u.2.2.1.1 2 ((u.2.2.1.1 2) + 1), u.2.2.1.2.1, u.2.2.1.2.2), u.2.2.2) (f + 1) (v - 40) (d + 1) hwf (hwt.beg (by omega)) (by omega) (by show v - 40 < u.1.1 1; omega) (by omega)) (cwV 3 hts gX4_begin_X4_enter rfl rfl rfl (by decide +kernel) ⟨by show _ ≤ _; dsimp only [rE]; omega, by show _ ≤ _; dsimp only [rE]; omega⟩) (ts_preV hK hN hW 24 (by decide) cel_tr rfl) rfl rfl hl.1 rfl (lv_room (Nat.le_of_ble_eq_true rfl)) dX4_begin_43 ⟨Nat.zero_le _, Nat.zero_le _⟩) hS (fun x h => ts_Aup hS.1 h) (fun u37 H locs hp38 hW _ _ hS => ?_)
    have hp38u : u37 = (u.1, u.2.1, (enterT u.1 n (f + 1) (v - 40) (va_up u.2.2.1.1 2 ((u.2.2.1.1 2) + 1), u.2.2.1.2.1, u.2.2.1.2.2)), u.2.2.2) := hp38
    rw [hp38u] at hW
    exact ts_vret (u := (u.1, u.2.1, (enterT u.1 n (f + 1) (v - 40) (va_up u.2.2.1.1 2 ((u.2.2.1.1 2) + 1), u.2.2.1.2.1, u.2.2.1.2.2)), u.2.2.2)) C0 hW hS (by (show _ = (u.1, u.2.1, beginT u.1 (enterT u.1 n) f v u.2.2.1, u.2.2.2)); unfold beginT; (repeat' split) <;> first | rfl | contradiction | (exfalso; omega) | (exfalso; simp_all; done)) dX4_begin_46
  rw [nI_ltI (by omega) (by omega)] at c1
  refine lv_aload_n hx hb dX4_begin_10 rfl (lv_at hl 0 rfl) ?_
  refine lv_iconst (v := nI 5) hx hb dX4_begin_11 (by decide) ?_
  refine lv_iconst (v := (-1)) hx hb dX4_begin_12 (by decide) ?_
  refine ts_retV (va_runV (As := [.int (nI 5), .int (-1)]) (rest := []) ⟨hx, hb, hml, hown, hts⟩ (k_X4_fail l D q b s.heap.size u 5 0) (cwV 2 hts gX4_begin_X4_fail rfl rfl rfl (by decide +kernel) ⟨by show _ ≤ _; dsimp only [rE]; omega, by show _ ≤ _; dsimp only [rE]; omega⟩) (ts_preV hK hN hW 24 (by decide) cel_tr rfl) rfl rfl hl.1 rfl (lv_room (Nat.le_of_ble_eq_true rfl)) dX4_begin_13 ⟨Nat.zero_le _, Nat.zero_le _⟩) hS (fun x h => ts_Aup hS.1 h) (fun u40 H locs hp41 hW _ _ hS => ?_)
  have hp41u : u40 = (u.1, u.2.1, (failT 5 0 u.2.2.1), u.2.2.2) := hp41
  rw [hp41u] at hW
  exact ts_vret (u := (u.1, u.2.1, (failT 5 0 u.2.2.1), u.2.2.2)) C0 hW hS (by (show _ = (u.1, u.2.1, beginT u.1 (enterT u.1 n) f v u.2.2.1, u.2.2.2)); unfold beginT; (repeat' split) <;> first | rfl | contradiction | (exfalso; omega) | (exfalso; simp_all; done)) dX4_begin_16
set_option maxHeartbeats 4000000 in
set_option maxRecDepth 100000 in
theorem k_X4_goThrough (l : Launch) (D : va_G) (q : CQ) (b sz : Nat) (u : ST) (n : Nat) (hE : EnterOK l D q b n) (f : Nat) (d : Nat) (hwf : WP u.1) (hwt : WT u.2.2.1) (hf : f < 10) (hd : d + 1 + n = 13) : Met l yX4_goThrough wsX4_goThrough ({ frames := 3 * n + 7, cells := 0, slots := 0, locals := 71 * n + 247 } : Room) (va_Pc [.ref (b + 24), .int (nI f), .int (nI d)] (Pr D q b sz u)) (cV D q b sz (fun u' => u' = (u.1, u.2.1, goT u.1 (enterT u.1 n) f (u.1.1 (20 + f)) u.2.2.1, u.2.2.2))) 0 0 (ts_A b 52 sz) := by
  refine ts_met (by decide) rfl (Nat.le_of_ble_eq_true rfl) ?_
  intro p e s m below meth c C0 hX ls hl
  obtain ⟨hsz, hW, hK, hN⟩ := hX
  subst hsz
  obtain ⟨hx, hb, hml, hown, hts, -, -, -⟩ := id C0
  have hW : ts_W D b 52 (cel q b u) s.heap := hW
  have hS : va_S (ts_A b 52 s.heap.size) s.heap s.heap [] := va_S.rf
  have hB : ∀ k, k < 52 → ts_A b 52 s.heap.size (b + k) := fun k hk => ts_Ain hk
  have hi2 : ∀ w ∈ wsX20, w ∈ wsX4_goThrough := ts_lays 99 rfl
  have hi3 : ∀ w ∈ wsX30, w ∈ wsX4_goThrough := ts_lays 94 rfl
  have hi4 : ∀ w ∈ wsX40, w ∈ wsX4_goThrough := ts_lays 81 rfl
  have hl : lv_has ls 5 [(0, .ref (b + 24)), (1, .int (nI f)), (2, .int (nI d))] := hl
  have hs := hwf.sz
  have hEW : ∀ r c T, r ≤ 10 → c < u.1.1 1 → WT T → WT (enterT u.1 n r c T) := fun r c T h1 h2 h3 => WT.enter hwf n r c T (by omega) h1 h2 h3
  refine lv_aload_n hx hb dX4_goThrough_0 rfl (lv_at hl 0 rfl) ?_
  refine ts_get (C := RX4) (T := TX4) (N := 13) (v := .ref (b + 1)) hx hb hts hi4 hown hK hW 24 (by decide) cel_tr rfl 0 (by decide) (List.mem_of_getElem? (i := 1) rfl) rfl dX4_goThrough_1 ?_
  refine ts_get (C := RX3) (T := TX3) (N := 5) (v := .ref (b + 2)) hx hb hts hi3 hown hK hW 1 (by decide) cel_pr rfl 0 (by decide) (List.mem_of_getElem? (i := 2) rfl) rfl dX4_goThrough_4 ?_
  refine lv_iload_n hx hb dX4_goThrough_7 rfl (lv_at hl 1 rfl) ?_
  refine ts_aald (a := b + (3 + 2 * f)) hx hb hK hW 2 (by decide) 1 cel_fs rfl rfl (by omega) (by decide) rfl dX4_goThrough_8 ?_
  refine lv_astore_n (lv' := [(3, .ref (b + (3 + 2 * f))), (0, .ref (b + 24)), (1, .int (nI f)), (2, .int (nI d))]) hx hb dX4_goThrough_9 rfl hl (by decide) rfl (fun ls hl => ?_)
  refine lv_iconst (v := nI 0) hx hb dX4_goThrough_10 (by decide) ?_
  refine lv_istore (lv' := [(4, .int (nI 0)), (3, .ref (b + (3 + 2 * f))), (0, .ref (b + 24)), (1, .int (nI f)), (2, .int (nI d))]) hx hb dX4_goThrough_11 hl (by decide) rfl (fun ls hl => ?_)
  have key1 : ∀ (fu : Nat) (k : Nat), (k ≤ u.1.1 (20 + f)) → (u.1.1 (20 + f) - k) < fu → ∀ (H : Heap) (locs : List Loc), ts_W D b 52 (cel q b (u.1, u.2.1, (goT u.1 (enterT u.1 n) f k u.2.2.1), u.2.2.2)) H → va_S (ts_A b 52 s.heap.size) s.heap H locs → ∀ ls : Array Slot, lv_has ls 5 [(4, .int (nI k)), (3, .ref (b + (3 + 2 * f))), (0, .ref (b + 24)), (1, .int (nI f)), (2, .int (nI d))] → W p l e ({ frames := 3 * n + 7, cells := 0, slots := 0, locals := 71 * n + 247 } : Room) s m [.ref (b + 24), .int (nI f), .int (nI d)].toArray below meth c H locs 0 0 (MQ below (cV D q b s.heap.size (fun u' => u' = (u.1, u.2.1, goT u.1 (enterT u.1 n) f (u.1.1 (20 + f)) u.2.2.1, u.2.2.2))) [.ref (b + 24), .int (nI f), .int (nI d)].toArray s 0 0 (ts_A b 52 s.heap.size)) (F0 m 13 ls []) := by
    intro fu
    induction fu with
    | zero => intro k _ hn; exact absurd hn (Nat.not_lt_zero _)
    | succ fu ih2 =>
      intro k hk hn H locs hW hS ls hl
      have hwk := WT.go hwf hEW hf hwt k hk
      have hw6 := hwk.2.2.2.2.2.1
      have hq1 := hwf.fsz hf
      refine lv_iload hx hb dX4_goThrough_13 (lv_at hl 0 rfl) ?_
      refine lv_aload_n hx hb dX4_goThrough_15 rfl (lv_at hl 1 rfl) ?_
      refine ts_get (C := RX2) (T := TX2) (N := 4) (v := .int (nI (u.1.1 (20 + f)))) hx hb hts hi2 hown hK hW (3 + 2 * f) (by omega) (cel_fn (by omega)) rfl 1 (by decide) (List.mem_of_getElem? (i := 3) rfl) rfl dX4_goThrough_16 ?_
      have hq3 := hwf.fsz (i := f) (by omega)
      refine lv_icmp_ge (tgt := 48) hx hb dX4_goThrough_19 (by decide) (fun c4 => ?_) (fun c4 => ?_)
      · skip
        rw [nI_leI (by omega) (by omega)] at c4
        exact ts_vret (u := (u.1, u.2.1, (goT u.1 (enterT u.1 n) f k u.2.2.1), u.2.2.2)) C0 hW hS (by first | (rw [show u.1.1 (20 + f) = k by omega]; done) | (rw [show u.1.1 (20 + f) = k + (u.1.1 (20 + f) - k) by omega, goT_stop (by omega)])) dX4_goThrough_48
      rw [nI_leI (by omega) (by omega)] at c4
      refine lv_aload_n hx hb dX4_goThrough_22 rfl (lv_at hl 2 rfl) ?_
      refine ts_get (C := RX4) (T := TX4) (N := 13) (v := .int (nI (((goT u.1 (enterT u.1 n) f k u.2.2.1)).1 6))) hx hb hts hi4 hown hK hW 24 (by decide) cel_tr rfl 9 (by decide) (List.mem_of_getElem? (i := 4) rfl) rfl dX4_goThrough_23 ?_
      refine lv_if_ne (tgt := 48) hx hb dX4_goThrough_26 (by decide) (fun c5 => ?_) (fun c5 => ?_)
      · skip
        rw [ts_eq0 (by omega)] at c5
        exact ts_vret (u := (u.1, u.2.1, (goT u.1 (enterT u.1 n) f k u.2.2.1), u.2.2.2)) C0 hW hS (by first | (rw [show u.1.1 (20 + f) = k by omega]; done) | (rw [show u.1.1 (20 + f) = k + (u.1.1 (20 + f) - k) by omega, goT_stop (by omega)])) dX4_goThrough_48
      rw [ts_eq0 (by omega)] at c5
      refine lv_aload_n hx hb dX4_goThrough_29 rfl (lv_at hl 2 rfl) ?_
      refine lv_iload_n hx hb dX4_goThrough_30 rfl (lv_at hl 3 rfl) ?_
      refine lv_aload_n hx hb dX4_goThrough_31 rfl (lv_at hl 1 rfl) ?_
      refine ts_get (C := RX2) (T := TX2) (N := 4) (v := .ref (b + (4 + 2 * f))) hx hb hts hi2 hown hK hW (3 + 2 * f) (by omega) (cel_fn (by omega)) rfl 0 (by decide) (List.mem_of_getElem? (i := 5) rfl) rfl dX4_goThrough_32 ?_
      refine lv_iload hx hb dX4_goThrough_35 (lv_at hl 0 rfl) ?_
      refine ts_iald (v := nI (u.1.2 f k)) hx hb hK hW (4 + 2 * f) (by omega) 0 (cel_sp (by omega)) rfl (by omega) (by decide) rfl dX4_goThrough_37 ?_
      have hq6 := hwf.stp (i := f) (j := k) (by omega) (by omega)
      refine lv_iload_n hx hb dX4_goThrough_38 rfl (lv_at hl 4 rfl) ?_
      refine ts_retV (va_runV (As := [.int (nI f), .int (nI (u.1.2 f k)), .int (nI d)]) (rest := []) ⟨hx, hb, hml, hown, hts⟩ (k_X4_begin l D q b H.size (u.1, u.2.1, (goT u.1 (enterT u.1 n) f k u.2.2.1), u.2.2.2) n hE f (u.1.2 f k) d hwf hwk (by omega) (by omega) (by omega)) (cwV 3 hts gX4_goThrough_X4_begin rfl rfl rfl (by decide +kernel) ⟨by show _ ≤ _; dsimp only [rE]; omega, by show _ ≤ _; dsimp only [rE]; omega⟩) (ts_preV hK hN hW 24 (by decide) cel_tr rfl) rfl rfl hl.1 rfl (lv_room (Nat.le_of_ble_eq_true rfl)) dX4_goThrough_39 ⟨Nat.zero_le _, Nat.zero_le _⟩) hS (fun x h => ts_Aup hS.1 h) (fun u8 H locs hp9 hW _ _ hS => ?_)
      have hp9u : u8 = (u.1, u.2.1, (beginT u.1 (enterT u.1 n) f (u.1.2 f k) (goT u.1 (enterT u.1 n) f k u.2.2.1)), u.2.2.2) := hp9
      rw [hp9u] at hW
      refine lv_iinc (v := nI (k + 1)) (lv' := [(4, .int (nI (k + 1))), (3, .ref (b + (3 + 2 * f))), (0, .ref (b + 24)), (1, .int (nI f)), (2, .int (nI d))]) hx hb dX4_goThrough_42 hl (k := 0) rfl (nI_add k 1) (by decide) rfl (fun ls hl => ?_)
      refine lv_goto (tgt := 13) hx hb dX4_goThrough_45 (by decide) ?_
      have e10 : (u.1, u.2.1, (goT u.1 (enterT u.1 n) f (k + 1) u.2.2.1), u.2.2.2) = (u.1, u.2.1, (beginT u.1 (enterT u.1 n) f (u.1.2 f k) (goT u.1 (enterT u.1 n) f k u.2.2.1)), u.2.2.2) := by rw [show goT u.1 (enterT u.1 n) f (k + 1) u.2.2.1 = beginT u.1 (enterT u.1 n) f (u.1.2 f k) (goT u.1 (enterT u.1 n) f k u.2.2.1) from if_pos (by omega)]
      exact ih2 (k + 1) (by omega) (by omega) H locs (by rw [e10]; exact hW) hS ls (lv_sub hl [0, 1, 2, 3, 4] rfl)
  exact key1 _ 0 (by omega) (Nat.lt_succ_self _) _ _ hW hS ls (lv_sub hl [0, 1, 2, 3, 4] rfl)
set_option maxHeartbeats 4000000 in
set_option maxRecDepth 100000 in
theorem k_X4_enter0 (l : Launch) (D : va_G) (q : CQ) (b sz : Nat) (u : ST) (r_ c_ d : Nat) (hd : d = 13) : Met l yX4_enter wsX4_enter (rE 0) (va_Pc [.ref (b + 24), .int (zI r_), .int (nI c_), .int (nI d)] (Pr D q b sz u)) (cV D q b sz (fun u' => u' = (u.1, u.2.1, failT 4 0 u.2.2.1, u.2.2.2))) 0 0 (ts_A b 52 sz) := by
  refine ts_met (by decide) rfl (Nat.le_of_ble_eq_true rfl) ?_
  intro p e s m below meth c C0 hX ls hl
  obtain ⟨hsz, hW, hK, hN⟩ := hX
  subst hsz
  obtain ⟨hx, hb, hml, hown, hts, -, -, -⟩ := id C0
  have hW : ts_W D b 52 (cel q b u) s.heap := hW
  have hS : va_S (ts_A b 52 s.heap.size) s.heap s.heap [] := va_S.rf
  have hB : ∀ k, k < 52 → ts_A b 52 s.heap.size (b + k) := fun k hk => ts_Ain hk
  have hl : lv_has ls 4 [(0, .ref (b + 24)), (1, .int (zI r_)), (2, .int (nI c_)), (3, .int (nI d))] := hl
  refine lv_iload_n hx hb dX4_enter_0 rfl (lv_at hl 3 rfl) ?_
  refine lv_bipush (v := nI 12) hx hb dX4_enter_1 (by decide) ?_
  refine lv_icmp_le (tgt := 13) hx hb dX4_enter_3 (by decide) (fun c1 => ?_) (fun c1 => ?_)
  · skip
    rw [nI_leI (by omega) (by omega)] at c1
    exfalso; omega
  rw [nI_leI (by omega) (by omega)] at c1
  refine lv_aload_n hx hb dX4_enter_6 rfl (lv_at hl 0 rfl) ?_
  refine lv_iconst (v := nI 4) hx hb dX4_enter_7 (by decide) ?_
  refine lv_iconst (v := (-1)) hx hb dX4_enter_8 (by decide) ?_
  refine ts_retV (va_runV (As := [.int (nI 4), .int (-1)]) (rest := []) ⟨hx, hb, hml, hown, hts⟩ (k_X4_fail l D q b s.heap.size u 4 0) (cwV 2 hts gX4_enter_X4_fail rfl rfl rfl (by decide +kernel) ⟨by show _ ≤ _; dsimp only [rE]; omega, by show _ ≤ _; dsimp only [rE]; omega⟩) (ts_preV hK hN hW 24 (by decide) cel_tr rfl) rfl rfl hl.1 rfl (lv_room (Nat.le_of_ble_eq_true rfl)) dX4_enter_9 ⟨Nat.zero_le _, Nat.zero_le _⟩) hS (fun x h => ts_Aup hS.1 h) (fun u3 H locs hp4 hW _ _ hS => ?_)
  have hp4u : u3 = (u.1, u.2.1, (failT 4 0 u.2.2.1), u.2.2.2) := hp4
  rw [hp4u] at hW
  exact ts_vret (u := (u.1, u.2.1, (failT 4 0 u.2.2.1), u.2.2.2)) C0 hW hS (by exact rfl) dX4_enter_12
set_option maxHeartbeats 4000000 in
set_option maxRecDepth 100000 in
theorem k_X4_enterS (l : Launch) (D : va_G) (q : CQ) (b sz : Nat) (u : ST) (n : Nat) (hE : EnterOK l D q b n) (r_ : Nat) (c_ : Nat) (d : Nat) (hwf : WP u.1) (hwt : WT u.2.2.1) (hr : r_ ≤ 10) (hc : c_ < u.1.1 1) (hd : d + (n + 1) = 13) : Met l yX4_enter wsX4_enter (rE (n + 1)) (va_Pc [.ref (b + 24), .int (zI r_), .int (nI c_), .int (nI d)] (Pr D q b sz u)) (cV D q b sz (fun u' => u' = (u.1, u.2.1, enterT u.1 (n + 1) r_ c_ u.2.2.1, u.2.2.2))) 0 0 (ts_A b 52 sz) := by
  refine ts_met (by decide) rfl (Nat.le_of_ble_eq_true rfl) ?_
  intro p e s m below meth c C0 hX ls hl
  obtain ⟨hsz, hW, hK, hN⟩ := hX
  subst hsz
  obtain ⟨hx, hb, hml, hown, hts, -, -, -⟩ := id C0
  have hW : ts_W D b 52 (cel q b u) s.heap := hW
  have hS : va_S (ts_A b 52 s.heap.size) s.heap s.heap [] := va_S.rf
  have hB : ∀ k, k < 52 → ts_A b 52 s.heap.size (b + k) := fun k hk => ts_Ain hk
  have hi2 : ∀ w ∈ wsX20, w ∈ wsX4_enter := ts_lays 99 rfl
  have hi3 : ∀ w ∈ wsX30, w ∈ wsX4_enter := ts_lays 94 rfl
  have hi4 : ∀ w ∈ wsX40, w ∈ wsX4_enter := ts_lays 81 rfl
  have hl : lv_has ls 4 [(0, .ref (b + 24)), (1, .int (zI r_)), (2, .int (nI c_)), (3, .int (nI d))] := hl
  have hs := hwf.sz
  have hty := hwf.ty
  obtain ⟨w0, w1, w2, w3, w5, w6, w7, w8, w9⟩ := id hwt
  have hEW : ∀ r c T, r ≤ 10 → c < u.1.1 1 → WT T → WT (enterT u.1 n r c T) := fun r c T h1 h2 h3 => WT.enter hwf n r c T (by omega) h1 h2 h3
  refine lv_iload_n hx hb dX4_enter_0 rfl (lv_at hl 3 rfl) ?_
  refine lv_bipush (v := nI 12) hx hb dX4_enter_1 (by decide) ?_
  refine lv_icmp_le (tgt := 13) hx hb dX4_enter_3 (by decide) (fun c1 => ?_) (fun c1 => ?_)
  · skip
    rw [nI_leI (by omega) (by omega)] at c1
    refine lv_aload_n hx hb dX4_enter_13 rfl (lv_at hl 0 rfl) ?_
    refine lv_aload_n hx hb dX4_enter_14 rfl (lv_at hl 0 rfl) ?_
    refine ts_get (C := RX4) (T := TX4) (N := 13) (v := .int (nI (u.2.2.1.1 5))) hx hb hts hi4 hown hK hW 24 (by decide) cel_tr rfl 8 (by decide) (List.mem_of_getElem? (i := 1) rfl) rfl dX4_enter_15 ?_
    refine lv_iload_n hx hb dX4_enter_18 rfl (lv_at hl 3 rfl) ?_
    refine va_mmax hx hb (hml.trans hl.1.symm) hown (hts _ (List.mem_of_getElem? (i := 2) rfl)) (hts _ (List.mem_of_getElem? (i := 3) rfl)) (hts _ (List.mem_of_getElem? (i := 4) rfl)) (hts _ (List.mem_of_getElem? (i := 5) rfl)) (by show _ ≤ _; dsimp only [rE]; omega) (by show _ ≤ _; dsimp only [rE]; first | (simp [Value.category]; done) | (simp [Value.category]; omega)) (Nat.zero_le _) (Nat.zero_le _) dX4_enter_19 ?_
    refine ts_int (y := nI (maxN (u.2.2.1.1 5) d)) (ts_maxN (by omega) (by omega)) ?_
    refine ts_put (C := RX4) (T := TX4) (N := 13) (v := .int (nI (maxN (u.2.2.1.1 5) d))) hx hb hts hi4 tyX4 tyX4_ok nmX4 hown hK hW hS hB 24 (by decide) cel_tr rfl 8 (by decide) (List.mem_of_getElem? (i := 1) rfl) rfl rfl rfl (Nat.le_of_ble_eq_true rfl) (cel q b (u.1, u.2.1, (va_up u.2.2.1.1 5 (maxN (u.2.2.1.1 5) d), u.2.2.1.2.1, u.2.2.1.2.2), u.2.2.2)) rfl (cel_oT rfl rfl rfl rfl) dX4_enter_22 (fun H locs _ _ hW hS => ?_)
    refine lv_aload_n hx hb dX4_enter_25 rfl (lv_at hl 0 rfl) ?_
    refine ts_get (C := RX4) (T := TX4) (N := 13) (v := .ref (b + 25)) hx hb hts hi4 hown hK hW 24 (by decide) cel_tr rfl 1 (by decide) (List.mem_of_getElem? (i := 6) rfl) rfl dX4_enter_26 ?_
    refine lv_iload_n hx hb dX4_enter_29 rfl (lv_at hl 1 rfl) ?_
    refine ts_retI (va_runSN (As := [.int (zI r_)]) (rest := [.ref (b + 25)]) ⟨hx, hb, hml, hown, hts⟩ (k_X5_rowOf l D q b H.size (u.1, u.2.1, (va_up u.2.2.1.1 5 (maxN (u.2.2.1.1 5) d), u.2.2.1.2.1, u.2.2.1.2.2), u.2.2.2) r_) ⟨va_cnB 1 hts gX4_enter_X5_rowOf_n75 rfl rfl rfl (hN _ (List.mem_of_getElem? (i := 8) rfl)) (hts _ (List.mem_of_getElem? (i := 20) rfl)) (by decide +kernel) ⟨by show _ ≤ _; dsimp only [rE]; omega, by show _ ≤ _; dsimp only [rE]; omega⟩, hts _ (List.mem_of_getElem? (i := 19) rfl), trivial⟩ (ts_preS hK hN hW) rfl rfl hl.1 rfl (lv_room (Nat.le_of_ble_eq_true rfl)) dX4_enter_30 ⟨Nat.zero_le _, Nat.zero_le _⟩) hS (fun x h => ts_Aup hS.1 h) (fun r2 u3 H locs hp4 hW _ _ hS => ?_)
    have hp4r : r2 = nI r_ := hp4.1
    have hp4u : u3 = (u.1, u.2.1, (va_up u.2.2.1.1 5 (maxN (u.2.2.1.1 5) d), u.2.2.1.2.1, u.2.2.1.2.2), u.2.2.2) := hp4.2
    rw [hp4r]
    rw [hp4u] at hW
    refine ts_aald (a := b + (26 + r_)) hx hb hK hW 25 (by decide) 2 cel_tc rfl rfl (by omega) (by decide) rfl dX4_enter_33 ?_
    refine lv_iload_n hx hb dX4_enter_34 rfl (lv_at hl 2 rfl) ?_
    refine lv_dup2_11 hx hb dX4_enter_35 rfl rfl ?_
    refine ts_iald (v := nI (u.2.2.1.2.2 r_ c_)) hx hb hK hW (26 + r_) (by omega) 0 (cel_tw (by omega)) rfl (by omega) (by decide) rfl dX4_enter_36 ?_
    refine lv_iconst (v := nI 1) hx hb dX4_enter_37 (by decide) ?_
    refine ts_iadd (v := nI ((u.2.2.1.2.2 r_ c_) + 1)) hx hb dX4_enter_38 (nI_add _ _) ?_
    refine ts_iast (v := nI ((u.2.2.1.2.2 r_ c_) + 1)) hx hb hK hW hS hB (26 + r_) (by omega) 0 (cel_tw (by omega)) rfl (by omega) (by decide) (cel q b (u.1, u.2.1, (va_up u.2.2.1.1 5 (maxN (u.2.2.1.1 5) d), u.2.2.1.2.1, ts_u2 u.2.2.1.2.2 r_ c_ ((u.2.2.1.2.2 r_ c_) + 1)), u.2.2.2)) (cel_tw (by omega)) (fun j _ => ts_u2_row _ _ _ _ _) (cel_oTw (by omega) rfl rfl rfl rfl (fun j hj => ts_u2_ne _ _ _ hj) rfl) dX4_enter_39 (fun H locs _ _ hW hS => ?_)
    refine lv_aload_n hx hb dX4_enter_40 rfl (lv_at hl 0 rfl) ?_
    refine ts_get (C := RX4) (T := TX4) (N := 13) (v := .ref (b + 1)) hx hb hts hi4 hown hK hW 24 (by decide) cel_tr rfl 0 (by decide) (List.mem_of_getElem? (i := 7) rfl) rfl dX4_enter_41 ?_
    refine lv_iload_n hx hb dX4_enter_44 rfl (lv_at hl 1 rfl) ?_
    refine lv_iload_n hx hb dX4_enter_45 rfl (lv_at hl 2 rfl) ?_
    refine lv_aload_n hx hb dX4_enter_46 rfl (lv_at hl 0 rfl) ?_
    refine ts_get (C := RX4) (T := TX4) (N := 13) (v := .ref (b + 1)) hx hb hts hi4 hown hK hW 24 (by decide) cel_tr rfl 0 (by decide) (List.mem_of_getElem? (i := 7) rfl) rfl dX4_enter_47 ?_
    refine ts_get (C := RX3) (T := TX3) (N := 5) (v := .int (nI (u.1.1 2))) hx hb hts hi3 hown hK hW 1 (by decide) cel_pr rfl 3 (by decide) (List.mem_of_getElem? (i := 8) rfl) rfl dX4_enter_50 ?_
    refine ts_retI (va_runV (As := [.int (zI r_), .int (nI c_), .int (nI (u.1.1 2))]) (rest := []) ⟨hx, hb, hml, hown, hts⟩ (k_X3_guardsCall l D q b H.size (u.1, u.2.1, (va_up u.2.2.1.1 5 (maxN (u.2.2.1.1 5) d), u.2.2.1.2.1, ts_u2 u.2.2.1.2.2 r_ c_ ((u.2.2.1.2.2 r_ c_) + 1)), u.2.2.2) r_ c_ (u.1.1 2) hwf (by omega) (by omega) (by omega)) (cwV 3 hts gX4_enter_X3_guardsCall rfl rfl rfl (by decide +kernel) ⟨by show _ ≤ _; dsimp only [rE]; omega, by show _ ≤ _; dsimp only [rE]; omega⟩) (ts_preV hK hN hW 1 (by decide) cel_pr rfl) rfl rfl hl.1 rfl (lv_room (Nat.le_of_ble_eq_true rfl)) dX4_enter_53 ⟨Nat.zero_le _, Nat.zero_le _⟩) hS (fun x h => ts_Aup hS.1 h) (fun r5 u6 H locs hp7 hW _ _ hS => ?_)
    have hp7r : r5 = b2i (gcB u.1 r_ c_ (u.1.1 2)) := hp7.1
    have hp7u : u6 = (u.1, u.2.1, (va_up u.2.2.1.1 5 (maxN (u.2.2.1.1 5) d), u.2.2.1.2.1, ts_u2 u.2.2.1.2.2 r_ c_ ((u.2.2.1.2.2 r_ c_) + 1)), u.2.2.2) := hp7.2
    rw [hp7r]
    rw [hp7u] at hW
    refine lv_if_eq (tgt := 77) hx hb dX4_enter_56 (by decide) (fun c8 => ?_) (fun c8 => ?_)
    · skip
      have c8 := ts_bf c8
      have hg1 := c8
      have hwf1 : WT (va_up u.2.2.1.1 5 (maxN (u.2.2.1.1 5) d), u.2.2.1.2.1, ts_u2 u.2.2.1.2.2 r_ c_ ((u.2.2.1.2.2 r_ c_) + 1)) := (hwt.deep (by omega)).cnt r_ c_
      refine lv_aload_n hx hb dX4_enter_77 rfl (lv_at hl 0 rfl) ?_
      refine lv_iload_n hx hb dX4_enter_78 rfl (lv_at hl 2 rfl) ?_
      refine lv_iload_n hx hb dX4_enter_79 rfl (lv_at hl 3 rfl) ?_
      refine ts_retV (va_runV (As := [.int (nI c_), .int (nI d)]) (rest := []) ⟨hx, hb, hml, hown, hts⟩ (k_X4_goThrough l D q b H.size (u.1, u.2.1, (va_up u.2.2.1.1 5 (maxN (u.2.2.1.1 5) d), u.2.2.1.2.1, ts_u2 u.2.2.1.2.2 r_ c_ ((u.2.2.1.2.2 r_ c_) + 1)), u.2.2.2) n hE c_ d hwf hwf1 (by omega) (by omega)) (cwV 2 hts gX4_enter_X4_goThrough rfl rfl rfl (by decide +kernel) ⟨by show _ ≤ _; dsimp only [rE]; omega, by show _ ≤ _; dsimp only [rE]; omega⟩) (ts_preV hK hN hW 24 (by decide) cel_tr rfl) rfl rfl hl.1 rfl (lv_room (Nat.le_of_ble_eq_true rfl)) dX4_enter_80 ⟨Nat.zero_le _, Nat.zero_le _⟩) hS (fun x h => ts_Aup hS.1 h) (fun u10 H locs hp11 hW _ _ hS => ?_)
      have hp11u : u10 = (u.1, u.2.1, (goT u.1 (enterT u.1 n) c_ (u.1.1 (20 + c_)) (va_up u.2.2.1.1 5 (maxN (u.2.2.1.1 5) d), u.2.2.1.2.1, ts_u2 u.2.2.1.2.2 r_ c_ ((u.2.2.1.2.2 r_ c_) + 1))), u.2.2.2) := hp11
      rw [hp11u] at hW
      have hwg : WT (goT u.1 (enterT u.1 n) c_ (u.1.1 (20 + c_)) (va_up u.2.2.1.1 5 (maxN (u.2.2.1.1 5) d), u.2.2.1.2.1, ts_u2 u.2.2.1.2.2 r_ c_ ((u.2.2.1.2.2 r_ c_) + 1))) := WT.go hwf hEW (by omega) hwf1 _ (Nat.le_refl _)
      have hw6 := hwg.2.2.2.2.2.1
      refine lv_aload_n hx hb dX4_enter_83 rfl (lv_at hl 0 rfl) ?_
      refine ts_get (C := RX4) (T := TX4) (N := 13) (v := .int (nI (((goT u.1 (enterT u.1 n) c_ (u.1.1 (20 + c_)) (va_up u.2.2.1.1 5 (maxN (u.2.2.1.1 5) d), u.2.2.1.2.1, ts_u2 u.2.2.1.2.2 r_ c_ ((u.2.2.1.2.2 r_ c_) + 1)))).1 6))) hx hb hts hi4 hown hK hW 24 (by decide) cel_tr rfl 9 (by decide) (List.mem_of_getElem? (i := 11) rfl) rfl dX4_enter_84 ?_
      refine lv_if_ne (tgt := 127) hx hb dX4_enter_87 (by decide) (fun c12 => ?_) (fun c12 => ?_)
      · skip
        rw [ts_eq0 (by omega)] at c12
        have hq6 := c12
        exact ts_vret (u := (u.1, u.2.1, (goT u.1 (enterT u.1 n) c_ (u.1.1 (20 + c_)) (va_up u.2.2.1.1 5 (maxN (u.2.2.1.1 5) d), u.2.2.1.2.1, ts_u2 u.2.2.1.2.2 r_ c_ ((u.2.2.1.2.2 r_ c_) + 1))), u.2.2.2)) C0 hW hS (by (show _ = (u.1, u.2.1, enterT u.1 (n + 1) r_ c_ u.2.2.1, u.2.2.2)); rw [show enterT u.1 (n + 1) r_ c_ u.2.2.1 = lastT u.1 r_ c_ (goT u.1 (enterT u.1 n) c_ (u.1.1 (20 + c_)) (firstT u.1 r_ c_ (cntT r_ c_ (deepT (12 - n) u.2.2.1)))) from rfl, show 12 - n = d by omega]; rw [show firstT u.1 r_ c_ (cntT r_ c_ (deepT d u.2.2.1)) = cntT r_ c_ (deepT d u.2.2.1) from if_neg (by rw [hg1]; decide)]; unfold lastT; first | (rw [if_neg (fun h => hq6 h.1)]; rfl) | (rw [if_neg (fun h => by rw [hg2] at h; exact absurd h.2 (by decide))]; rfl)) dX4_enter_127
      rw [ts_eq0 (by omega)] at c12
      have hq6 := c12
      refine lv_aload_n hx hb dX4_enter_90 rfl (lv_at hl 0 rfl) ?_
      refine ts_get (C := RX4) (T := TX4) (N := 13) (v := .ref (b + 1)) hx hb hts hi4 hown hK hW 24 (by decide) cel_tr rfl 0 (by decide) (List.mem_of_getElem? (i := 7) rfl) rfl dX4_enter_91 ?_
      refine lv_iload_n hx hb dX4_enter_94 rfl (lv_at hl 1 rfl) ?_
      refine lv_iload_n hx hb dX4_enter_95 rfl (lv_at hl 2 rfl) ?_
      refine lv_aload_n hx hb dX4_enter_96 rfl (lv_at hl 0 rfl) ?_
      refine ts_get (C := RX4) (T := TX4) (N := 13) (v := .ref (b + 1)) hx hb hts hi4 hown hK hW 24 (by decide) cel_tr rfl 0 (by decide) (List.mem_of_getElem? (i := 7) rfl) rfl dX4_enter_97 ?_
      refine ts_get (C := RX3) (T := TX3) (N := 5) (v := .int (nI (u.1.1 2))) hx hb hts hi3 hown hK hW 1 (by decide) cel_pr rfl 3 (by decide) (List.mem_of_getElem? (i := 8) rfl) rfl dX4_enter_100 ?_
      refine ts_retI (va_runV (As := [.int (zI r_), .int (nI c_), .int (nI (u.1.1 2))]) (rest := []) ⟨hx, hb, hml, hown, hts⟩ (k_X3_guardsGive l D q b H.size (u.1, u.2.1, (goT u.1 (enterT u.1 n) c_ (u.1.1 (20 + c_)) (va_up u.2.2.1.1 5 (maxN (u.2.2.1.1 5) d), u.2.2.1.2.1, ts_u2 u.2.2.1.2.2 r_ c_ ((u.2.2.1.2.2 r_ c_) + 1))), u.2.2.2) r_ c_ (u.1.1 2) hwf (by omega) (by omega) (by omega)) (cwV 3 hts gX4_enter_X3_guardsGive rfl rfl rfl (by decide +kernel) ⟨by show _ ≤ _; dsimp only [rE]; omega, by show _ ≤ _; dsimp only [rE]; omega⟩) (ts_preV hK hN hW 1 (by decide) cel_pr rfl) rfl rfl hl.1 rfl (lv_room (Nat.le_of_ble_eq_true rfl)) dX4_enter_103 ⟨Nat.zero_le _, Nat.zero_le _⟩) hS (fun x h => ts_Aup hS.1 h) (fun r13 u14 H locs hp15 hW _ _ hS => ?_)
      have hp15r : r13 = b2i (ggB u.1 r_ c_ (u.1.1 2)) := hp15.1
      have hp15u : u14 = (u.1, u.2.1, (goT u.1 (enterT u.1 n) c_ (u.1.1 (20 + c_)) (va_up u.2.2.1.1 5 (maxN (u.2.2.1.1 5) d), u.2.2.1.2.1, ts_u2 u.2.2.1.2.2 r_ c_ ((u.2.2.1.2.2 r_ c_) + 1))), u.2.2.2) := hp15.2
      rw [hp15r]
      rw [hp15u] at hW
      refine lv_if_eq (tgt := 127) hx hb dX4_enter_106 (by decide) (fun c16 => ?_) (fun c16 => ?_)
      · skip
        have c16 := ts_bf c16
        have hg2 := c16
        exact ts_vret (u := (u.1, u.2.1, (goT u.1 (enterT u.1 n) c_ (u.1.1 (20 + c_)) (va_up u.2.2.1.1 5 (maxN (u.2.2.1.1 5) d), u.2.2.1.2.1, ts_u2 u.2.2.1.2.2 r_ c_ ((u.2.2.1.2.2 r_ c_) + 1))), u.2.2.2)) C0 hW hS (by (show _ = (u.1, u.2.1, enterT u.1 (n + 1) r_ c_ u.2.2.1, u.2.2.2)); rw [show enterT u.1 (n + 1) r_ c_ u.2.2.1 = lastT u.1 r_ c_ (goT u.1 (enterT u.1 n) c_ (u.1.1 (20 + c_)) (firstT u.1 r_ c_ (cntT r_ c_ (deepT (12 - n) u.2.2.1)))) from rfl, show 12 - n = d by omega]; rw [show firstT u.1 r_ c_ (cntT r_ c_ (deepT d u.2.2.1)) = cntT r_ c_ (deepT d u.2.2.1) from if_neg (by rw [hg1]; decide)]; unfold lastT; first | (rw [if_neg (fun h => hq6 h.1)]; rfl) | (rw [if_neg (fun h => by rw [hg2] at h; exact absurd h.2 (by decide))]; rfl)) dX4_enter_127
      have c16 := ts_bt c16
      have hg2 := c16
      refine lv_aload_n hx hb dX4_enter_109 rfl (lv_at hl 0 rfl) ?_
      refine lv_aload_n hx hb dX4_enter_110 rfl (lv_at hl 0 rfl) ?_
      refine ts_get (C := RX4) (T := TX4) (N := 13) (v := .ref (b + 1)) hx hb hts hi4 hown hK hW 24 (by decide) cel_tr rfl 0 (by decide) (List.mem_of_getElem? (i := 7) rfl) rfl dX4_enter_111 ?_
      refine ts_get (C := RX3) (T := TX3) (N := 5) (v := .ref (b + 2)) hx hb hts hi3 hown hK hW 1 (by decide) cel_pr rfl 0 (by decide) (List.mem_of_getElem? (i := 9) rfl) rfl dX4_enter_114 ?_
      refine lv_iload_n hx hb dX4_enter_117 rfl (lv_at hl 2 rfl) ?_
      refine ts_aald (a := b + (3 + 2 * c_)) hx hb hK hW 2 (by decide) 1 cel_fs rfl rfl (by omega) (by decide) rfl dX4_enter_118 ?_
      refine ts_get (C := RX2) (T := TX2) (N := 4) (v := .int (nI (u.1.1 (40 + c_)))) hx hb hts hi2 hown hK hW (3 + 2 * c_) (by omega) (cel_fn (by omega)) rfl 3 (by decide) (List.mem_of_getElem? (i := 12) rfl) rfl dX4_enter_119 ?_
      have hq17 := hwf.fout (i := c_) (by omega)
      refine lv_iconst (v := nI 3) hx hb dX4_enter_122 (by decide) ?_
      refine lv_iload_n hx hb dX4_enter_123 rfl (lv_at hl 2 rfl) ?_
      refine ts_retV (va_runV (As := [.int (nI (u.1.1 (40 + c_))), .int (nI 3), .int (nI c_)]) (rest := []) ⟨hx, hb, hml, hown, hts⟩ (k_X4_guard l D q b H.size (u.1, u.2.1, (goT u.1 (enterT u.1 n) c_ (u.1.1 (20 + c_)) (va_up u.2.2.1.1 5 (maxN (u.2.2.1.1 5) d), u.2.2.1.2.1, ts_u2 u.2.2.1.2.2 r_ c_ ((u.2.2.1.2.2 r_ c_) + 1))), u.2.2.2) (u.1.1 (40 + c_)) 3 (c_ + 1) hwg (by omega)) (cwV 3 hts gX4_enter_X4_guard rfl rfl rfl (by decide +kernel) ⟨by show _ ≤ _; dsimp only [rE]; omega, by show _ ≤ _; dsimp only [rE]; omega⟩) (ts_preV hK hN hW 24 (by decide) cel_tr rfl) rfl rfl hl.1 rfl (lv_room (Nat.le_of_ble_eq_true rfl)) dX4_enter_124 ⟨Nat.zero_le _, Nat.zero_le _⟩) hS (fun x h => ts_Aup hS.1 h) (fun u19 H locs hp20 hW _ _ hS => ?_)
      have hp20u : u19 = (u.1, u.2.1, (guardT (u.1.1 (40 + c_)) 3 (c_ + 1) (goT u.1 (enterT u.1 n) c_ (u.1.1 (20 + c_)) (va_up u.2.2.1.1 5 (maxN (u.2.2.1.1 5) d), u.2.2.1.2.1, ts_u2 u.2.2.1.2.2 r_ c_ ((u.2.2.1.2.2 r_ c_) + 1)))), u.2.2.2) := hp20
      rw [hp20u] at hW
      exact ts_vret (u := (u.1, u.2.1, (guardT (u.1.1 (40 + c_)) 3 (c_ + 1) (goT u.1 (enterT u.1 n) c_ (u.1.1 (20 + c_)) (va_up u.2.2.1.1 5 (maxN (u.2.2.1.1 5) d), u.2.2.1.2.1, ts_u2 u.2.2.1.2.2 r_ c_ ((u.2.2.1.2.2 r_ c_) + 1)))), u.2.2.2)) C0 hW hS (by (show _ = (u.1, u.2.1, enterT u.1 (n + 1) r_ c_ u.2.2.1, u.2.2.2)); rw [show enterT u.1 (n + 1) r_ c_ u.2.2.1 = lastT u.1 r_ c_ (goT u.1 (enterT u.1 n) c_ (u.1.1 (20 + c_)) (firstT u.1 r_ c_ (cntT r_ c_ (deepT (12 - n) u.2.2.1)))) from rfl, show 12 - n = d by omega]; rw [show firstT u.1 r_ c_ (cntT r_ c_ (deepT d u.2.2.1)) = cntT r_ c_ (deepT d u.2.2.1) from if_neg (by rw [hg1]; decide)]; unfold lastT; rw [if_pos ⟨hq6, hg2⟩]; rfl) dX4_enter_127
    have c8 := ts_bt c8
    have hg1 := c8
    refine lv_aload_n hx hb dX4_enter_59 rfl (lv_at hl 0 rfl) ?_
    refine lv_aload_n hx hb dX4_enter_60 rfl (lv_at hl 0 rfl) ?_
    refine ts_get (C := RX4) (T := TX4) (N := 13) (v := .ref (b + 1)) hx hb hts hi4 hown hK hW 24 (by decide) cel_tr rfl 0 (by decide) (List.mem_of_getElem? (i := 7) rfl) rfl dX4_enter_61 ?_
    refine ts_get (C := RX3) (T := TX3) (N := 5) (v := .ref (b + 2)) hx hb hts hi3 hown hK hW 1 (by decide) cel_pr rfl 0 (by decide) (List.mem_of_getElem? (i := 9) rfl) rfl dX4_enter_64 ?_
    refine lv_iload_n hx hb dX4_enter_67 rfl (lv_at hl 2 rfl) ?_
    refine ts_aald (a := b + (3 + 2 * c_)) hx hb hK hW 2 (by decide) 1 cel_fs rfl rfl (by omega) (by decide) rfl dX4_enter_68 ?_
    refine ts_get (C := RX2) (T := TX2) (N := 4) (v := .int (nI (u.1.1 (30 + c_)))) hx hb hts hi2 hown hK hW (3 + 2 * c_) (by omega) (cel_fn (by omega)) rfl 2 (by decide) (List.mem_of_getElem? (i := 10) rfl) rfl dX4_enter_69 ?_
    have hq21 := hwf.fin (i := c_) (by omega)
    refine lv_iconst (v := nI 2) hx hb dX4_enter_72 (by decide) ?_
    refine lv_iload_n hx hb dX4_enter_73 rfl (lv_at hl 1 rfl) ?_
    refine ts_retV (va_runV (As := [.int (nI (u.1.1 (30 + c_))), .int (nI 2), .int (zI r_)]) (rest := []) ⟨hx, hb, hml, hown, hts⟩ (k_X4_guard l D q b H.size (u.1, u.2.1, (va_up u.2.2.1.1 5 (maxN (u.2.2.1.1 5) d), u.2.2.1.2.1, ts_u2 u.2.2.1.2.2 r_ c_ ((u.2.2.1.2.2 r_ c_) + 1)), u.2.2.2) (u.1.1 (30 + c_)) 2 r_ ((hwt.deep (by omega)).cnt r_ c_) (by omega)) (cwV 3 hts gX4_enter_X4_guard rfl rfl rfl (by decide +kernel) ⟨by show _ ≤ _; dsimp only [rE]; omega, by show _ ≤ _; dsimp only [rE]; omega⟩) (ts_preV hK hN hW 24 (by decide) cel_tr rfl) rfl rfl hl.1 rfl (lv_room (Nat.le_of_ble_eq_true rfl)) dX4_enter_74 ⟨Nat.zero_le _, Nat.zero_le _⟩) hS (fun x h => ts_Aup hS.1 h) (fun u23 H locs hp24 hW _ _ hS => ?_)
    have hp24u : u23 = (u.1, u.2.1, (guardT (u.1.1 (30 + c_)) 2 r_ (va_up u.2.2.1.1 5 (maxN (u.2.2.1.1 5) d), u.2.2.1.2.1, ts_u2 u.2.2.1.2.2 r_ c_ ((u.2.2.1.2.2 r_ c_) + 1))), u.2.2.2) := hp24
    rw [hp24u] at hW
    have hwf1 : WT (guardT (u.1.1 (30 + c_)) 2 r_ (va_up u.2.2.1.1 5 (maxN (u.2.2.1.1 5) d), u.2.2.1.2.1, ts_u2 u.2.2.1.2.2 r_ c_ ((u.2.2.1.2.2 r_ c_) + 1))) := ((hwt.deep (by omega)).cnt r_ c_).guard (by omega) (by omega)
    refine lv_aload_n hx hb dX4_enter_77 rfl (lv_at hl 0 rfl) ?_
    refine lv_iload_n hx hb dX4_enter_78 rfl (lv_at hl 2 rfl) ?_
    refine lv_iload_n hx hb dX4_enter_79 rfl (lv_at hl 3 rfl) ?_
    refine ts_retV (va_runV (As := [.int (nI c_), .int (nI d)]) (rest := []) ⟨hx, hb, hml, hown, hts⟩ (k_X4_goThrough l D q b H.size (u.1, u.2.1, (guardT (u.1.1 (30 + c_)) 2 r_ (va_up u.2.2.1.1 5 (maxN (u.2.2.1.1 5) d), u.2.2.1.2.1, ts_u2 u.2.2.1.2.2 r_ c_ ((u.2.2.1.2.2 r_ c_) + 1))), u.2.2.2) n hE c_ d hwf hwf1 (by omega) (by omega)) (cwV 2 hts gX4_enter_X4_goThrough rfl rfl rfl (by decide +kernel) ⟨by show _ ≤ _; dsimp only [rE]; omega, by show _ ≤ _; dsimp only [rE]; omega⟩) (ts_preV hK hN hW 24 (by decide) cel_tr rfl) rfl rfl hl.1 rfl (lv_room (Nat.le_of_ble_eq_true rfl)) dX4_enter_80 ⟨Nat.zero_le _, Nat.zero_le _⟩) hS (fun x h => ts_Aup hS.1 h) (fun u26 H locs hp27 hW _ _ hS => ?_)
    have hp27u : u26 = (u.1, u.2.1, (goT u.1 (enterT u.1 n) c_ (u.1.1 (20 + c_)) (guardT (u.1.1 (30 + c_)) 2 r_ (va_up u.2.2.1.1 5 (maxN (u.2.2.1.1 5) d), u.2.2.1.2.1, ts_u2 u.2.2.1.2.2 r_ c_ ((u.2.2.1.2.2 r_ c_) + 1)))), u.2.2.2) := hp27
    rw [hp27u] at hW
    have hwg : WT (goT u.1 (enterT u.1 n) c_ (u.1.1 (20 + c_)) (guardT (u.1.1 (30 + c_)) 2 r_ (va_up u.2.2.1.1 5 (maxN (u.2.2.1.1 5) d), u.2.2.1.2.1, ts_u2 u.2.2.1.2.2 r_ c_ ((u.2.2.1.2.2 r_ c_) + 1)))) := WT.go hwf hEW (by omega) hwf1 _ (Nat.le_refl _)
    have hw6 := hwg.2.2.2.2.2.1
    refine lv_aload_n hx hb dX4_enter_83 rfl (lv_at hl 0 rfl) ?_
    refine ts_get (C := RX4) (T := TX4) (N := 13) (v := .int (nI (((goT u.1 (enterT u.1 n) c_ (u.1.1 (20 + c_)) (guardT (u.1.1 (30 + c_)) 2 r_ (va_up u.2.2.1.1 5 (maxN (u.2.2.1.1 5) d), u.2.2.1.2.1, ts_u2 u.2.2.1.2.2 r_ c_ ((u.2.2.1.2.2 r_ c_) + 1))))).1 6))) hx hb hts hi4 hown hK hW 24 (by decide) cel_tr rfl 9 (by decide) (List.mem_of_getElem? (i := 11) rfl) rfl dX4_enter_84 ?_
    refine lv_if_ne (tgt := 127) hx hb dX4_enter_87 (by decide) (fun c28 => ?_) (fun c28 => ?_)
    · skip
      rw [ts_eq0 (by omega)] at c28
      have hq6 := c28
      exact ts_vret (u := (u.1, u.2.1, (goT u.1 (enterT u.1 n) c_ (u.1.1 (20 + c_)) (guardT (u.1.1 (30 + c_)) 2 r_ (va_up u.2.2.1.1 5 (maxN (u.2.2.1.1 5) d), u.2.2.1.2.1, ts_u2 u.2.2.1.2.2 r_ c_ ((u.2.2.1.2.2 r_ c_) + 1)))), u.2.2.2)) C0 hW hS (by (show _ = (u.1, u.2.1, enterT u.1 (n + 1) r_ c_ u.2.2.1, u.2.2.2)); rw [show enterT u.1 (n + 1) r_ c_ u.2.2.1 = lastT u.1 r_ c_ (goT u.1 (enterT u.1 n) c_ (u.1.1 (20 + c_)) (firstT u.1 r_ c_ (cntT r_ c_ (deepT (12 - n) u.2.2.1)))) from rfl, show 12 - n = d by omega]; rw [show firstT u.1 r_ c_ (cntT r_ c_ (deepT d u.2.2.1)) = guardT (u.1.1 (30 + c_)) 2 r_ (cntT r_ c_ (deepT d u.2.2.1)) from if_pos hg1]; unfold lastT; first | (rw [if_neg (fun h => hq6 h.1)]; rfl) | (rw [if_neg (fun h => by rw [hg2] at h; exact absurd h.2 (by decide))]; rfl)) dX4_enter_127
    rw [ts_eq0 (by omega)] at c28
    have hq6 := c28
    refine lv_aload_n hx hb dX4_enter_90 rfl (lv_at hl 0 rfl) ?_
    refine ts_get (C := RX4) (T := TX4) (N := 13) (v := .ref (b + 1)) hx hb hts hi4 hown hK hW 24 (by decide) cel_tr rfl 0 (by decide) (List.mem_of_getElem? (i := 7) rfl) rfl dX4_enter_91 ?_
    refine lv_iload_n hx hb dX4_enter_94 rfl (lv_at hl 1 rfl) ?_
    refine lv_iload_n hx hb dX4_enter_95 rfl (lv_at hl 2 rfl) ?_
    refine lv_aload_n hx hb dX4_enter_96 rfl (lv_at hl 0 rfl) ?_
    refine ts_get (C := RX4) (T := TX4) (N := 13) (v := .ref (b + 1)) hx hb hts hi4 hown hK hW 24 (by decide) cel_tr rfl 0 (by decide) (List.mem_of_getElem? (i := 7) rfl) rfl dX4_enter_97 ?_
    refine ts_get (C := RX3) (T := TX3) (N := 5) (v := .int (nI (u.1.1 2))) hx hb hts hi3 hown hK hW 1 (by decide) cel_pr rfl 3 (by decide) (List.mem_of_getElem? (i := 8) rfl) rfl dX4_enter_100 ?_
    refine ts_retI (va_runV (As := [.int (zI r_), .int (nI c_), .int (nI (u.1.1 2))]) (rest := []) ⟨hx, hb, hml, hown, hts⟩ (k_X3_guardsGive l D q b H.size (u.1, u.2.1, (goT u.1 (enterT u.1 n) c_ (u.1.1 (20 + c_)) (guardT (u.1.1 (30 + c_)) 2 r_ (va_up u.2.2.1.1 5 (maxN (u.2.2.1.1 5) d), u.2.2.1.2.1, ts_u2 u.2.2.1.2.2 r_ c_ ((u.2.2.1.2.2 r_ c_) + 1)))), u.2.2.2) r_ c_ (u.1.1 2) hwf (by omega) (by omega) (by omega)) (cwV 3 hts gX4_enter_X3_guardsGive rfl rfl rfl (by decide +kernel) ⟨by show _ ≤ _; dsimp only [rE]; omega, by show _ ≤ _; dsimp only [rE]; omega⟩) (ts_preV hK hN hW 1 (by decide) cel_pr rfl) rfl rfl hl.1 rfl (lv_room (Nat.le_of_ble_eq_true rfl)) dX4_enter_103 ⟨Nat.zero_le _, Nat.zero_le _⟩) hS (fun x h => ts_Aup hS.1 h) (fun r29 u30 H locs hp31 hW _ _ hS => ?_)
    have hp31r : r29 = b2i (ggB u.1 r_ c_ (u.1.1 2)) := hp31.1
    have hp31u : u30 = (u.1, u.2.1, (goT u.1 (enterT u.1 n) c_ (u.1.1 (20 + c_)) (guardT (u.1.1 (30 + c_)) 2 r_ (va_up u.2.2.1.1 5 (maxN (u.2.2.1.1 5) d), u.2.2.1.2.1, ts_u2 u.2.2.1.2.2 r_ c_ ((u.2.2.1.2.2 r_ c_) + 1)))), u.2.2.2) := hp31.2
    rw [hp31r]
    rw [hp31u] at hW
    refine lv_if_eq (tgt := 127) hx hb dX4_enter_106 (by decide) (fun c32 => ?_) (fun c32 => ?_)
    · skip
      have c32 := ts_bf c32
      have hg2 := c32
      exact ts_vret (u := (u.1, u.2.1, (goT u.1 (enterT u.1 n) c_ (u.1.1 (20 + c_)) (guardT (u.1.1 (30 + c_)) 2 r_ (va_up u.2.2.1.1 5 (maxN (u.2.2.1.1 5) d), u.2.2.1.2.1, ts_u2 u.2.2.1.2.2 r_ c_ ((u.2.2.1.2.2 r_ c_) + 1)))), u.2.2.2)) C0 hW hS (by (show _ = (u.1, u.2.1, enterT u.1 (n + 1) r_ c_ u.2.2.1, u.2.2.2)); rw [show enterT u.1 (n + 1) r_ c_ u.2.2.1 = lastT u.1 r_ c_ (goT u.1 (enterT u.1 n) c_ (u.1.1 (20 + c_)) (firstT u.1 r_ c_ (cntT r_ c_ (deepT (12 - n) u.2.2.1)))) from rfl, show 12 - n = d by omega]; rw [show firstT u.1 r_ c_ (cntT r_ c_ (deepT d u.2.2.1)) = guardT (u.1.1 (30 + c_)) 2 r_ (cntT r_ c_ (deepT d u.2.2.1)) from if_pos hg1]; unfold lastT; first | (rw [if_neg (fun h => hq6 h.1)]; rfl) | (rw [if_neg (fun h => by rw [hg2] at h; exact absurd h.2 (by decide))]; rfl)) dX4_enter_127
    have c32 := ts_bt c32
    have hg2 := c32
    refine lv_aload_n hx hb dX4_enter_109 rfl (lv_at hl 0 rfl) ?_
    refine lv_aload_n hx hb dX4_enter_110 rfl (lv_at hl 0 rfl) ?_
    refine ts_get (C := RX4) (T := TX4) (N := 13) (v := .ref (b + 1)) hx hb hts hi4 hown hK hW 24 (by decide) cel_tr rfl 0 (by decide) (List.mem_of_getElem? (i := 7) rfl) rfl dX4_enter_111 ?_
    refine ts_get (C := RX3) (T := TX3) (N := 5) (v := .ref (b + 2)) hx hb hts hi3 hown hK hW 1 (by decide) cel_pr rfl 0 (by decide) (List.mem_of_getElem? (i := 9) rfl) rfl dX4_enter_114 ?_
    refine lv_iload_n hx hb dX4_enter_117 rfl (lv_at hl 2 rfl) ?_
    refine ts_aald (a := b + (3 + 2 * c_)) hx hb hK hW 2 (by decide) 1 cel_fs rfl rfl (by omega) (by decide) rfl dX4_enter_118 ?_
    refine ts_get (C := RX2) (T := TX2) (N := 4) (v := .int (nI (u.1.1 (40 + c_)))) hx hb hts hi2 hown hK hW (3 + 2 * c_) (by omega) (cel_fn (by omega)) rfl 3 (by decide) (List.mem_of_getElem? (i := 12) rfl) rfl dX4_enter_119 ?_
    have hq33 := hwf.fout (i := c_) (by omega)
    refine lv_iconst (v := nI 3) hx hb dX4_enter_122 (by decide) ?_
    refine lv_iload_n hx hb dX4_enter_123 rfl (lv_at hl 2 rfl) ?_
    refine ts_retV (va_runV (As := [.int (nI (u.1.1 (40 + c_))), .int (nI 3), .int (nI c_)]) (rest := []) ⟨hx, hb, hml, hown, hts⟩ (k_X4_guard l D q b H.size (u.1, u.2.1, (goT u.1 (enterT u.1 n) c_ (u.1.1 (20 + c_)) (guardT (u.1.1 (30 + c_)) 2 r_ (va_up u.2.2.1.1 5 (maxN (u.2.2.1.1 5) d), u.2.2.1.2.1, ts_u2 u.2.2.1.2.2 r_ c_ ((u.2.2.1.2.2 r_ c_) + 1)))), u.2.2.2) (u.1.1 (40 + c_)) 3 (c_ + 1) hwg (by omega)) (cwV 3 hts gX4_enter_X4_guard rfl rfl rfl (by decide +kernel) ⟨by show _ ≤ _; dsimp only [rE]; omega, by show _ ≤ _; dsimp only [rE]; omega⟩) (ts_preV hK hN hW 24 (by decide) cel_tr rfl) rfl rfl hl.1 rfl (lv_room (Nat.le_of_ble_eq_true rfl)) dX4_enter_124 ⟨Nat.zero_le _, Nat.zero_le _⟩) hS (fun x h => ts_Aup hS.1 h) (fun u35 H locs hp36 hW _ _ hS => ?_)
    have hp36u : u35 = (u.1, u.2.1, (guardT (u.1.1 (40 + c_)) 3 (c_ + 1) (goT u.1 (enterT u.1 n) c_ (u.1.1 (20 + c_)) (guardT (u.1.1 (30 + c_)) 2 r_ (va_up u.2.2.1.1 5 (maxN (u.2.2.1.1 5) d), u.2.2.1.2.1, ts_u2 u.2.2.1.2.2 r_ c_ ((u.2.2.1.2.2 r_ c_) + 1))))), u.2.2.2) := hp36
    rw [hp36u] at hW
    exact ts_vret (u := (u.1, u.2.1, (guardT (u.1.1 (40 + c_)) 3 (c_ + 1) (goT u.1 (enterT u.1 n) c_ (u.1.1 (20 + c_)) (guardT (u.1.1 (30 + c_)) 2 r_ (va_up u.2.2.1.1 5 (maxN (u.2.2.1.1 5) d), u.2.2.1.2.1, ts_u2 u.2.2.1.2.2 r_ c_ ((u.2.2.1.2.2 r_ c_) + 1))))), u.2.2.2)) C0 hW hS (by (show _ = (u.1, u.2.1, enterT u.1 (n + 1) r_ c_ u.2.2.1, u.2.2.2)); rw [show enterT u.1 (n + 1) r_ c_ u.2.2.1 = lastT u.1 r_ c_ (goT u.1 (enterT u.1 n) c_ (u.1.1 (20 + c_)) (firstT u.1 r_ c_ (cntT r_ c_ (deepT (12 - n) u.2.2.1)))) from rfl, show 12 - n = d by omega]; rw [show firstT u.1 r_ c_ (cntT r_ c_ (deepT d u.2.2.1)) = guardT (u.1.1 (30 + c_)) 2 r_ (cntT r_ c_ (deepT d u.2.2.1)) from if_pos hg1]; unfold lastT; rw [if_pos ⟨hq6, hg2⟩]; rfl) dX4_enter_127
  rw [nI_leI (by omega) (by omega)] at c1
  exfalso; omega
theorem k_X4_enter (l : Launch) (D : va_G) (q : CQ) (b : Nat) : ∀ n, n ≤ 12 → EnterOK l D q b n
  | 0, _ => fun sz u r c d _ _ _ _ hd => k_X4_enter0 l D q b sz u r c d hd
  | n + 1, h => fun sz u r c d hwf hwt hr hc hd => k_X4_enterS l D q b sz u n (k_X4_enter l D q b n (by omega)) r c d hwf hwt hr hc hd
set_option maxHeartbeats 4000000 in
set_option maxRecDepth 100000 in
theorem k_X4_clear (l : Launch) (D : va_G) (q : CQ) (b sz : Nat) (u : ST)   : Met l yX4_clear wsX4_clear ({ frames := 0, cells := 0, slots := 0, locals := 0 } : Room) (va_Pc [.ref (b + 24)] (Pr D q b sz u)) (cV D q b sz (fun u' => u' = (u.1, u.2.1, T0 (u.2.2.1.1 0) (u.2.2.1.1 1) (u.2.2.1.2.1 0), u.2.2.2))) 0 0 (ts_A b 52 sz) := by
  refine ts_met (by decide) rfl (Nat.le_of_ble_eq_true rfl) ?_
  intro p e s m below meth c C0 hX ls hl
  obtain ⟨hsz, hW, hK, hN⟩ := hX
  subst hsz
  obtain ⟨hx, hb, hml, hown, hts, -, -, -⟩ := id C0
  have hW : ts_W D b 52 (cel q b u) s.heap := hW
  have hS : va_S (ts_A b 52 s.heap.size) s.heap s.heap [] := va_S.rf
  have hB : ∀ k, k < 52 → ts_A b 52 s.heap.size (b + k) := fun k hk => ts_Ain hk
  have hi4 : ∀ w ∈ wsX40, w ∈ wsX4_clear := ts_lays 10 rfl
  have hl : lv_has ls 3 [(0, .ref (b + 24))] := hl
  refine lv_iconst (v := nI 0) hx hb dX4_clear_0 (by decide) ?_
  refine lv_istore_n (lv' := [(1, .int (nI 0)), (0, .ref (b + 24))]) hx hb dX4_clear_1 rfl hl (by decide) rfl (fun ls hl => ?_)
  have key1 : ∀ (fu : Nat) (k : Nat), (k ≤ 11) → (11 - k) < fu → ∀ (H : Heap) (locs : List Loc), ts_W D b 52 (cel q b (u.1, u.2.1, (u.2.2.1.1, u.2.2.1.2.1, clrN u.2.2.1.2.2 k 0), u.2.2.2)) H → va_S (ts_A b 52 s.heap.size) s.heap H locs → ∀ ls : Array Slot, lv_has ls 3 [(1, .int (nI k)), (0, .ref (b + 24))] → W p l e ({ frames := 0, cells := 0, slots := 0, locals := 0 } : Room) s m [.ref (b + 24)].toArray below meth c H locs 0 0 (MQ below (cV D q b s.heap.size (fun u' => u' = (u.1, u.2.1, T0 (u.2.2.1.1 0) (u.2.2.1.1 1) (u.2.2.1.2.1 0), u.2.2.2))) [.ref (b + 24)].toArray s 0 0 (ts_A b 52 s.heap.size)) (F0 m 2 ls []) := by
    intro fu
    induction fu with
    | zero => intro k _ hn; exact absurd hn (Nat.not_lt_zero _)
    | succ fu ih2 =>
      intro k hk hn H locs hW hS ls hl
      refine lv_iload_n hx hb dX4_clear_2 rfl (lv_at hl 0 rfl) ?_
      refine lv_bipush (v := nI 10) hx hb dX4_clear_3 (by decide) ?_
      refine lv_icmp_gt (tgt := 37) hx hb dX4_clear_5 (by decide) (fun c3 => ?_) (fun c3 => ?_)
      · skip
        rw [nI_ltI (by omega) (by omega)] at c3
        refine lv_aload_n hx hb dX4_clear_37 rfl (lv_at hl 1 rfl) ?_
        refine lv_iconst (v := nI 0) hx hb dX4_clear_38 (by decide) ?_
        refine ts_put (C := RX4) (T := TX4) (N := 13) (v := .int (nI 0)) hx hb hts hi4 tyX4 tyX4_ok nmX4 hown hK hW hS hB 24 (by decide) cel_tr rfl 5 (by decide) (List.mem_of_getElem? (i := 2) rfl) rfl rfl rfl (Nat.le_of_ble_eq_true rfl) (cel q b (u.1, u.2.1, (va_up u.2.2.1.1 2 0, u.2.2.1.2.1, clrN u.2.2.1.2.2 k 0), u.2.2.2)) rfl (cel_oT rfl rfl rfl rfl) dX4_clear_39 (fun H locs _ _ hW hS => ?_)
        refine lv_aload_n hx hb dX4_clear_42 rfl (lv_at hl 1 rfl) ?_
        refine lv_iconst (v := nI 0) hx hb dX4_clear_43 (by decide) ?_
        refine ts_put (C := RX4) (T := TX4) (N := 13) (v := .int (nI 0)) hx hb hts hi4 tyX4 tyX4_ok nmX4 hown hK hW hS hB 24 (by decide) cel_tr rfl 6 (by decide) (List.mem_of_getElem? (i := 3) rfl) rfl rfl rfl (Nat.le_of_ble_eq_true rfl) (cel q b (u.1, u.2.1, (va_up (va_up u.2.2.1.1 2 0) 3 0, u.2.2.1.2.1, clrN u.2.2.1.2.2 k 0), u.2.2.2)) rfl (cel_oT rfl rfl rfl rfl) dX4_clear_44 (fun H locs _ _ hW hS => ?_)
        refine lv_aload_n hx hb dX4_clear_47 rfl (lv_at hl 1 rfl) ?_
        refine lv_iconst (v := nI 0) hx hb dX4_clear_48 (by decide) ?_
        refine ts_put (C := RX4) (T := TX4) (N := 13) (v := .int (nI 0)) hx hb hts hi4 tyX4 tyX4_ok nmX4 hown hK hW hS hB 24 (by decide) cel_tr rfl 7 (by decide) (List.mem_of_getElem? (i := 4) rfl) rfl rfl rfl (Nat.le_of_ble_eq_true rfl) (cel q b (u.1, u.2.1, (va_up (va_up (va_up u.2.2.1.1 2 0) 3 0) 4 0, u.2.2.1.2.1, clrN u.2.2.1.2.2 k 0), u.2.2.2)) rfl (cel_oT rfl rfl rfl rfl) dX4_clear_49 (fun H locs _ _ hW hS => ?_)
        refine lv_aload_n hx hb dX4_clear_52 rfl (lv_at hl 1 rfl) ?_
        refine lv_iconst (v := nI 0) hx hb dX4_clear_53 (by decide) ?_
        refine ts_put (C := RX4) (T := TX4) (N := 13) (v := .int (nI 0)) hx hb hts hi4 tyX4 tyX4_ok nmX4 hown hK hW hS hB 24 (by decide) cel_tr rfl 8 (by decide) (List.mem_of_getElem? (i := 5) rfl) rfl rfl rfl (Nat.le_of_ble_eq_true rfl) (cel q b (u.1, u.2.1, (va_up (va_up (va_up (va_up u.2.2.1.1 2 0) 3 0) 4 0) 5 0, u.2.2.1.2.1, clrN u.2.2.1.2.2 k 0), u.2.2.2)) rfl (cel_oT rfl rfl rfl rfl) dX4_clear_54 (fun H locs _ _ hW hS => ?_)
        refine lv_aload_n hx hb dX4_clear_57 rfl (lv_at hl 1 rfl) ?_
        refine lv_iconst (v := nI 0) hx hb dX4_clear_58 (by decide) ?_
        refine ts_put (C := RX4) (T := TX4) (N := 13) (v := .int (nI 0)) hx hb hts hi4 tyX4 tyX4_ok nmX4 hown hK hW hS hB 24 (by decide) cel_tr rfl 9 (by decide) (List.mem_of_getElem? (i := 6) rfl) rfl rfl rfl (Nat.le_of_ble_eq_true rfl) (cel q b (u.1, u.2.1, (va_up (va_up (va_up (va_up (va_up u.2.2.1.1 2 0) 3 0) 4 0) 5 0) 6 0, u.2.2.1.2.1, clrN u.2.2.1.2.2 k 0), u.2.2.2)) rfl (cel_oT rfl rfl rfl rfl) dX4_clear_59 (fun H locs _ _ hW hS => ?_)
        refine lv_aload_n hx hb dX4_clear_62 rfl (lv_at hl 1 rfl) ?_
        refine lv_iconst (v := (-1)) hx hb dX4_clear_63 (by decide) ?_
        refine ts_put (C := RX4) (T := TX4) (N := 13) (v := .int (zI 0)) hx hb hts hi4 tyX4 tyX4_ok nmX4 hown hK hW hS hB 24 (by decide) cel_tr rfl 10 (by decide) (List.mem_of_getElem? (i := 7) rfl) rfl rfl rfl (Nat.le_of_ble_eq_true rfl) (cel q b (u.1, u.2.1, (va_up (va_up (va_up (va_up (va_up (va_up u.2.2.1.1 2 0) 3 0) 4 0) 5 0) 6 0) 8 0, u.2.2.1.2.1, clrN u.2.2.1.2.2 k 0), u.2.2.2)) rfl (cel_oT rfl rfl rfl rfl) dX4_clear_64 (fun H locs _ _ hW hS => ?_)
        refine lv_aload_n hx hb dX4_clear_67 rfl (lv_at hl 1 rfl) ?_
        refine lv_iconst (v := nI 0) hx hb dX4_clear_68 (by decide) ?_
        refine ts_put (C := RX4) (T := TX4) (N := 13) (v := .int (nI 0)) hx hb hts hi4 tyX4 tyX4_ok nmX4 hown hK hW hS hB 24 (by decide) cel_tr rfl 11 (by decide) (List.mem_of_getElem? (i := 8) rfl) rfl rfl rfl (Nat.le_of_ble_eq_true rfl) (cel q b (u.1, u.2.1, (va_up (va_up (va_up (va_up (va_up (va_up (va_up u.2.2.1.1 2 0) 3 0) 4 0) 5 0) 6 0) 8 0) 7 0, u.2.2.1.2.1, clrN u.2.2.1.2.2 k 0), u.2.2.2)) rfl (cel_oT rfl rfl rfl rfl) dX4_clear_69 (fun H locs _ _ hW hS => ?_)
        refine lv_aload_n hx hb dX4_clear_72 rfl (lv_at hl 1 rfl) ?_
        refine lv_iconst (v := (-1)) hx hb dX4_clear_73 (by decide) ?_
        refine ts_put (C := RX4) (T := TX4) (N := 13) (v := .int (zI 0)) hx hb hts hi4 tyX4 tyX4_ok nmX4 hown hK hW hS hB 24 (by decide) cel_tr rfl 12 (by decide) (List.mem_of_getElem? (i := 9) rfl) rfl rfl rfl (Nat.le_of_ble_eq_true rfl) (cel q b (u.1, u.2.1, (va_up (va_up (va_up (va_up (va_up (va_up (va_up (va_up u.2.2.1.1 2 0) 3 0) 4 0) 5 0) 6 0) 8 0) 7 0) 9 0, u.2.2.1.2.1, clrN u.2.2.1.2.2 k 0), u.2.2.2)) rfl (cel_oT rfl rfl rfl rfl) dX4_clear_74 (fun H locs _ _ hW hS => ?_)
        exact ts_vret (u := (u.1, u.2.1, T0 (u.2.2.1.1 0) (u.2.2.1.1 1) (u.2.2.1.2.1 0), u.2.2.2)) C0 (ts_eqv (u := (u.1, u.2.1, (va_up (va_up (va_up (va_up (va_up (va_up (va_up (va_up u.2.2.1.1 2 0) 3 0) 4 0) 5 0) 6 0) 8 0) 7 0) 9 0, u.2.2.1.2.1, clrN u.2.2.1.2.2 k 0), u.2.2.2)) rfl rfl rfl (fun k hk => by have : k = 0 ∨ k = 1 ∨ k = 2 ∨ k = 3 ∨ k = 4 ∨ k = 5 ∨ k = 6 ∨ k = 7 ∨ k = 8 ∨ k = 9 := (by omega); rcases this with rfl | rfl | rfl | rfl | rfl | rfl | rfl | rfl | rfl | rfl <;> rfl) rfl (fun r c hr hc => by show (0 : Nat) = clrN _ _ _ _ _; unfold clrN; rw [if_pos (by omega)]) hW) hS rfl dX4_clear_77
      rw [nI_ltI (by omega) (by omega)] at c3
      refine lv_iconst (v := nI 0) hx hb dX4_clear_8 (by decide) ?_
      refine lv_istore_n (lv' := [(2, .int (nI 0)), (1, .int (nI k)), (0, .ref (b + 24))]) hx hb dX4_clear_9 rfl hl (by decide) rfl (fun ls hl => ?_)
      have key4 : ∀ (fu : Nat) (j : Nat), (j ≤ 10) → (10 - j) < fu → ∀ (H : Heap) (locs : List Loc), ts_W D b 52 (cel q b (u.1, u.2.1, (u.2.2.1.1, u.2.2.1.2.1, clrN u.2.2.1.2.2 k j), u.2.2.2)) H → va_S (ts_A b 52 s.heap.size) s.heap H locs → ∀ ls : Array Slot, lv_has ls 3 [(2, .int (nI j)), (1, .int (nI k)), (0, .ref (b + 24))] → W p l e ({ frames := 0, cells := 0, slots := 0, locals := 0 } : Room) s m [.ref (b + 24)].toArray below meth c H locs 0 0 (MQ below (cV D q b s.heap.size (fun u' => u' = (u.1, u.2.1, T0 (u.2.2.1.1 0) (u.2.2.1.1 1) (u.2.2.1.2.1 0), u.2.2.2))) [.ref (b + 24)].toArray s 0 0 (ts_A b 52 s.heap.size)) (F0 m 10 ls []) := by
        intro fu
        induction fu with
        | zero => intro j _ hn; exact absurd hn (Nat.not_lt_zero _)
        | succ fu ih5 =>
          intro j hj hn H locs hW hS ls hl
          refine lv_iload_n hx hb dX4_clear_10 rfl (lv_at hl 0 rfl) ?_
          refine lv_bipush (v := nI 10) hx hb dX4_clear_11 (by decide) ?_
          refine lv_icmp_ge (tgt := 31) hx hb dX4_clear_13 (by decide) (fun c6 => ?_) (fun c6 => ?_)
          · skip
            rw [nI_leI (by omega) (by omega)] at c6
            refine lv_iinc (v := nI (k + 1)) (lv' := [(1, .int (nI (k + 1))), (2, .int (nI j)), (0, .ref (b + 24))]) hx hb dX4_clear_31 hl (k := 1) rfl (nI_add k 1) (by decide) rfl (fun ls hl => ?_)
            refine lv_goto (tgt := 2) hx hb dX4_clear_34 (by decide) ?_
            have e7 : (u.1, u.2.1, (u.2.2.1.1, u.2.2.1.2.1, clrN u.2.2.1.2.2 (k + 1) 0), u.2.2.2) = (u.1, u.2.1, (u.2.2.1.1, u.2.2.1.2.1, clrN u.2.2.1.2.2 k j), u.2.2.2) := by rw [show j = 10 by omega, clrN_n]
            exact ih2 (k + 1) (by omega) (by omega) H locs (by rw [e7]; exact hW) hS ls (lv_sub hl [0, 2] rfl)
          rw [nI_leI (by omega) (by omega)] at c6
          refine lv_aload_n hx hb dX4_clear_16 rfl (lv_at hl 2 rfl) ?_
          refine ts_get (C := RX4) (T := TX4) (N := 13) (v := .ref (b + 25)) hx hb hts hi4 hown hK hW 24 (by decide) cel_tr rfl 1 (by decide) (List.mem_of_getElem? (i := 1) rfl) rfl dX4_clear_17 ?_
          refine lv_iload_n hx hb dX4_clear_20 rfl (lv_at hl 1 rfl) ?_
          refine ts_aald (a := b + (26 + k)) hx hb hK hW 25 (by decide) 2 cel_tc rfl rfl (by omega) (by decide) rfl dX4_clear_21 ?_
          refine lv_iload_n hx hb dX4_clear_22 rfl (lv_at hl 0 rfl) ?_
          refine lv_iconst (v := nI 0) hx hb dX4_clear_23 (by decide) ?_
          refine ts_iast (v := nI 0) hx hb hK hW hS hB (26 + k) (by omega) 0 (cel_tw (by omega)) rfl (by omega) (by decide) (cel q b (u.1, u.2.1, (u.2.2.1.1, u.2.2.1.2.1, ts_u2 (clrN u.2.2.1.2.2 k j) k j 0), u.2.2.2)) (cel_tw (by omega)) (fun j _ => ts_u2_row _ _ _ _ _) (cel_oTw (by omega) rfl rfl rfl rfl (fun j hj => ts_u2_ne _ _ _ hj) rfl) dX4_clear_24 (fun H locs _ _ hW hS => ?_)
          refine lv_iinc (v := nI (j + 1)) (lv' := [(2, .int (nI (j + 1))), (1, .int (nI k)), (0, .ref (b + 24))]) hx hb dX4_clear_25 hl (k := 0) rfl (nI_add j 1) (by decide) rfl (fun ls hl => ?_)
          refine lv_goto (tgt := 10) hx hb dX4_clear_28 (by decide) ?_
          have e8 : (u.1, u.2.1, (u.2.2.1.1, u.2.2.1.2.1, clrN u.2.2.1.2.2 k (j + 1)), u.2.2.2) = (u.1, u.2.1, (u.2.2.1.1, u.2.2.1.2.1, ts_u2 (clrN u.2.2.1.2.2 k j) k j 0), u.2.2.2) := by rw [clrN_s]
          exact ih5 (j + 1) (by omega) (by omega) H locs (by rw [e8]; exact hW) hS ls (lv_sub hl [0, 1, 2] rfl)
      exact key4 _ 0 (by omega) (Nat.lt_succ_self _) _ _ hW hS ls (lv_sub hl [0, 1, 2] rfl)
  have e9 : (u.1, u.2.1, (u.2.2.1.1, u.2.2.1.2.1, clrN u.2.2.1.2.2 0 0), u.2.2.2) = u := by rw [clrN_0]
  exact key1 _ 0 (by omega) (Nat.lt_succ_self _) _ _ (by rw [e9]; exact hW) hS ls (lv_sub hl [0, 1] rfl)
set_option maxHeartbeats 4000000 in
set_option maxRecDepth 100000 in
theorem k_X4_tryOut (l : Launch) (D : va_G) (q : CQ) (b sz : Nat) (u : ST) (f ty : Nat) (num : Int32) (bud : Nat) (hwf : WP u.1) (hf : f < u.1.1 1) (hty : ty ≤ 2) (hbud : bud ≤ 20) : Met l yX4_tryOut wsX4_tryOut ({ frames := 42, cells := 0, slots := 0, locals := 1075 } : Room) (va_Pc [.ref (b + 24), .int (nI f), .int (nI ty), .int num, .int (nI bud)] (Pr D q b sz u)) (cV D q b sz (fun u' => u' = (u.1, u.2.1, runT u.1 f ty num bud, u.2.2.2))) 0 0 (ts_A b 52 sz) := by
  refine ts_met (by decide) rfl (Nat.le_of_ble_eq_true rfl) ?_
  intro p e s m below meth c C0 hX ls hl
  obtain ⟨hsz, hW, hK, hN⟩ := hX
  subst hsz
  obtain ⟨hx, hb, hml, hown, hts, -, -, -⟩ := id C0
  have hW : ts_W D b 52 (cel q b u) s.heap := hW
  have hS : va_S (ts_A b 52 s.heap.size) s.heap s.heap [] := va_S.rf
  have hB : ∀ k, k < 52 → ts_A b 52 s.heap.size (b + k) := fun k hk => ts_Ain hk
  have hi4 : ∀ w ∈ wsX40, w ∈ wsX4_tryOut := ts_lays 86 rfl
  have hl : lv_has ls 5 [(0, .ref (b + 24)), (1, .int (nI f)), (2, .int (nI ty)), (3, .int num), (4, .int (nI bud))] := hl
  have hs := hwf.sz
  refine lv_aload_n hx hb dX4_tryOut_0 rfl (lv_at hl 0 rfl) ?_
  refine ts_retV (va_runV (As := []) (rest := []) ⟨hx, hb, hml, hown, hts⟩ (k_X4_clear l D q b s.heap.size u ) (cwV 0 hts gX4_tryOut_X4_clear rfl rfl rfl (by decide +kernel) ⟨Nat.le_of_ble_eq_true rfl, Nat.le_of_ble_eq_true rfl⟩) (ts_preV hK hN hW 24 (by decide) cel_tr rfl) rfl rfl hl.1 rfl (lv_room (Nat.le_of_ble_eq_true rfl)) dX4_tryOut_1 ⟨Nat.zero_le _, Nat.zero_le _⟩) hS (fun x h => ts_Aup hS.1 h) (fun u2 H locs hp3 hW _ _ hS => ?_)
  have hp3u : u2 = (u.1, u.2.1, (T0 (u.2.2.1.1 0) (u.2.2.1.1 1) (u.2.2.1.2.1 0)), u.2.2.2) := hp3
  rw [hp3u] at hW
  refine lv_aload_n hx hb dX4_tryOut_4 rfl (lv_at hl 0 rfl) ?_
  refine lv_iload hx hb dX4_tryOut_5 (lv_at hl 4 rfl) ?_
  refine ts_put (C := RX4) (T := TX4) (N := 13) (v := .int (nI bud)) hx hb hts hi4 tyX4 tyX4_ok nmX4 hown hK hW hS hB 24 (by decide) cel_tr rfl 2 (by decide) (List.mem_of_getElem? (i := 1) rfl) rfl rfl rfl (Nat.le_of_ble_eq_true rfl) (cel q b (u.1, u.2.1, (va_up (((T0 (u.2.2.1.1 0) (u.2.2.1.1 1) (u.2.2.1.2.1 0))).1) 0 bud, ((T0 (u.2.2.1.1 0) (u.2.2.1.1 1) (u.2.2.1.2.1 0))).2.1, ((T0 (u.2.2.1.1 0) (u.2.2.1.1 1) (u.2.2.1.2.1 0))).2.2), u.2.2.2)) rfl (cel_oT rfl rfl rfl rfl) dX4_tryOut_7 (fun H locs _ _ hW hS => ?_)
  refine lv_aload_n hx hb dX4_tryOut_10 rfl (lv_at hl 0 rfl) ?_
  refine lv_iload_n hx hb dX4_tryOut_11 rfl (lv_at hl 2 rfl) ?_
  refine ts_put (C := RX4) (T := TX4) (N := 13) (v := .int (nI ty)) hx hb hts hi4 tyX4 tyX4_ok nmX4 hown hK hW hS hB 24 (by decide) cel_tr rfl 3 (by decide) (List.mem_of_getElem? (i := 2) rfl) rfl rfl rfl (Nat.le_of_ble_eq_true rfl) (cel q b (u.1, u.2.1, (va_up (va_up (((T0 (u.2.2.1.1 0) (u.2.2.1.1 1) (u.2.2.1.2.1 0))).1) 0 bud) 1 ty, ((T0 (u.2.2.1.1 0) (u.2.2.1.1 1) (u.2.2.1.2.1 0))).2.1, ((T0 (u.2.2.1.1 0) (u.2.2.1.1 1) (u.2.2.1.2.1 0))).2.2), u.2.2.2)) rfl (cel_oT rfl rfl rfl rfl) dX4_tryOut_12 (fun H locs _ _ hW hS => ?_)
  refine lv_aload_n hx hb dX4_tryOut_15 rfl (lv_at hl 0 rfl) ?_
  refine lv_iload_n hx hb dX4_tryOut_16 rfl (lv_at hl 3 rfl) ?_
  refine ts_put (C := RX4) (T := TX4) (N := 13) (v := .int num) hx hb hts hi4 tyX4 tyX4_ok nmX4 hown hK hW hS hB 24 (by decide) cel_tr rfl 4 (by decide) (List.mem_of_getElem? (i := 3) rfl) rfl rfl rfl (Nat.le_of_ble_eq_true rfl) (cel q b (u.1, u.2.1, (va_up (va_up (((T0 (u.2.2.1.1 0) (u.2.2.1.1 1) (u.2.2.1.2.1 0))).1) 0 bud) 1 ty, va_up (((T0 (u.2.2.1.1 0) (u.2.2.1.1 1) (u.2.2.1.2.1 0))).2.1) 0 num, ((T0 (u.2.2.1.1 0) (u.2.2.1.1 1) (u.2.2.1.2.1 0))).2.2), u.2.2.2)) rfl (cel_oT rfl rfl rfl rfl) dX4_tryOut_17 (fun H locs _ _ hW hS => ?_)
  have hW : ts_W D b 52 (cel q b (u.1, u.2.1, (T0 bud ty num), u.2.2.2)) H := ts_eqv rfl rfl rfl (fun k hk => by have : k = 0 ∨ k = 1 ∨ k = 2 ∨ k = 3 ∨ k = 4 ∨ k = 5 ∨ k = 6 ∨ k = 7 ∨ k = 8 ∨ k = 9 := (by omega); rcases this with rfl | rfl | rfl | rfl | rfl | rfl | rfl | rfl | rfl | rfl <;> rfl) rfl (fun r c hr hc => rfl) hW
  refine lv_aload_n hx hb dX4_tryOut_20 rfl (lv_at hl 0 rfl) ?_
  refine lv_iconst (v := (-1)) hx hb dX4_tryOut_21 (by decide) ?_
  refine lv_iload_n hx hb dX4_tryOut_22 rfl (lv_at hl 1 rfl) ?_
  refine lv_iconst (v := nI 1) hx hb dX4_tryOut_23 (by decide) ?_
  refine ts_retV (va_runV (As := [.int (-1), .int (nI f), .int (nI 1)]) (rest := []) ⟨hx, hb, hml, hown, hts⟩ (k_X4_enter l D q b 12 (by decide) H.size (u.1, u.2.1, (T0 bud ty num), u.2.2.2) 0 f 1 hwf (WT.t0 hbud hty) (by omega) (by omega) (by omega)) (cwV 3 hts gX4_tryOut_X4_enter rfl rfl rfl (by decide +kernel) ⟨Nat.le_of_ble_eq_true rfl, Nat.le_of_ble_eq_true rfl⟩) (ts_preV hK hN hW 24 (by decide) cel_tr rfl) rfl rfl hl.1 rfl (lv_room (Nat.le_of_ble_eq_true rfl)) dX4_tryOut_24 ⟨Nat.zero_le _, Nat.zero_le _⟩) hS (fun x h => ts_Aup hS.1 h) (fun u5 H locs hp6 hW _ _ hS => ?_)
  have hp6u : u5 = (u.1, u.2.1, (runT u.1 f ty num bud), u.2.2.2) := hp6
  rw [hp6u] at hW
  exact ts_vret (u := (u.1, u.2.1, (runT u.1 f ty num bud), u.2.2.2)) C0 hW hS (by exact rfl) dX4_tryOut_27
end
