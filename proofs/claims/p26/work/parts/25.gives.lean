/-! The law's own station behind the station of the law -/
def PrO (D : va_G) (q : CQ) (b sz : Nat) (u : ST) (o : OT) : State → Prop := fun U => Pr D q b sz u U ∧ ts_W D (b + 52) 15 (celO q (b + 52) o) U.heap ∧ b + 67 ≤ sz
abbrev cO (D : va_G) (q : CQ) (b sz : Nat) (post : Int32 → ST × OT → Prop) := va_Qi post (fun v t => Ws D q b v.1 t ∧ ts_W D (b + 52) 15 (celO q (b + 52) v.2) t.heap) (ts_A b 67 sz)
theorem PrO.blind {D : va_G} {q : CQ} {b sz : Nat} {u : ST} {o : OT} {av : List Value} : FrameBlind (va_Pc av (PrO D q b sz u o)) := fun a U g1 mk h => ⟨h.1, (Pr.blind (av := av) a U g1 mk ⟨h.1, h.2.1⟩).2, h.2.2.1, h.2.2.2⟩
section OWNC
variable {p : Program} {l : Launch} {e : Env} {R : Room} {s : State} {m : MethodId} {args : Array Value} {below : List Frame} {meth : Method} {c : Code} {H : Heap} {locs : List Loc} {cells slots mc ms : Nat} {Q : State → Prop}
variable {cc : ByteArray} {pc : Nat} {ls : Array Slot} {rest st : List Value} {D : va_G} {q : CQ} {A : Nat → Prop} {b : Nat} {u : ST} {o : OT} {H0 : Heap} {ws : List Cond} {As : List Value}
theorem ts_preO (hK : va_K D vwCl (tq q) s) (hN : ts_N s) (hW : ts_W D b 52 (cel q b u) H) (hO : ts_W D (b + 52) 15 (celO q (b + 52) o) H) (hoz : b + 67 ≤ H.size) : PreV s H RX6 (b + 52 + 0) (va_Pc (.ref (b + 52 + 0) :: As) (PrO D q b H.size u o)) As :=
  ⟨PrO.blind, va_recv hK (ts_one hO (by decide) celO_ob) (q := (RX6, TX6, 13)) rfl (q0 := 0) rfl, fun U hU hW' => ⟨rfl, ⟨by rw [hU], by show ts_W D b 52 (cel q b u) U.heap; rw [hU]; exact hW, va_K.moved hW'.alike hK, hN.warm hW'⟩, by rw [hU]; exact hO, hoz⟩⟩
theorem ts_retO {post : Int32 → ST × OT → Prop} {a : Array Value} (hr : va_Run p l e R s m args below meth c H locs cells slots mc ms (F0 m pc ls st) rest (cO D q b H.size post a) (ts_A b 67 H.size)) (hS : va_S A H0 H locs) (hA : ∀ x, ts_A b 67 H.size x → A x)
    (kk : ∀ (r : Int32) (u' : ST) (o' : OT) (H1 : Heap) (locs1 : List Loc), post r (u', o') → ts_W D b 52 (cel q b u') H1 → ts_W D (b + 52) 15 (celO q (b + 52) o') H1 → H.size ≤ H1.size → (∀ x : Nat, x < H.size → ¬ ts_A b 67 H.size x → H1[x]? = H[x]?) → va_S A H0 H1 locs1 → W p l e R s m args below meth c H1 locs1 (cells + mc) (slots + ms) Q (F0 m (pc + 3) ls (.int r :: rest))) : W p l e R s m args below meth c H locs cells slots Q (F0 m pc ls st) :=
  va_calli hr hS (fun x _ h => hA x h) hA (fun r u' t H1 locs1 ht _ hp hB hz hk hS1 => kk r u'.1 u'.2 H1 locs1 hp (by rw [← ht]; exact hB.1) (by rw [← ht]; exact hB.2) hz hk hS1)
theorem ts_iretO {post : Int32 → ST × OT → Prop} {y : MethodName} {ws : List Cond} {maxL : Nat} {v : Int32} (C0 : ts_Cx p s m args meth c cc maxL (some .int) y ws) (hW : ts_W D b 52 (cel q b u) H) (hO : ts_W D (b + 52) 15 (celO q (b + 52) o) H) (hS : va_S (ts_A b 67 s.heap.size) s.heap H locs) (hp : post v (u, o)) (hdg : decode cc pc = .ok (.ireturn, 1)) :
    W p l e R s m args below meth c H locs cells slots (MQ below (cO D q b s.heap.size post) args s cells slots (ts_A b 67 s.heap.size)) (F0 m pc ls [.int v]) :=
  W.iret C0.1 C0.2.1 C0.2.2.2.2.2.1 (fun t ht _ => ⟨⟨v, (u, o), rfl, hp, by show ts_W D b 52 (cel q b u) t.heap; rw [ht]; exact hW, by show ts_W D (b + 52) 15 (celO q (b + 52) o) t.heap; rw [ht]; exact hO⟩, hS.F ht⟩) hS.2.2 hdg C0.2.2.2.2.2.2.1
theorem ts_zretO {post : Int32 → ST × OT → Prop} {y : MethodName} {ws : List Cond} {maxL : Nat} {v : Int32} {ty : FieldType} (C0 : ts_Cx p s m args meth c cc maxL (some ty) y ws) (hn : narrow ty (.int v) = .int v) (hW : ts_W D b 52 (cel q b u) H) (hO : ts_W D (b + 52) 15 (celO q (b + 52) o) H) (hS : va_S (ts_A b 67 s.heap.size) s.heap H locs) (hp : post v (u, o)) (hdg : decode cc pc = .ok (.ireturn, 1)) :
    W p l e R s m args below meth c H locs cells slots (MQ below (cO D q b s.heap.size post) args s cells slots (ts_A b 67 s.heap.size)) (F0 m pc ls [.int v]) :=
  W.zret C0.1 C0.2.1 C0.2.2.2.2.2.1 hn (fun t ht _ => ⟨⟨v, (u, o), rfl, hp, by show ts_W D b 52 (cel q b u) t.heap; rw [ht]; exact hW, by show ts_W D (b + 52) 15 (celO q (b + 52) o) t.heap; rw [ht]; exact hO⟩, hS.F ht⟩) hS.2.2 hdg C0.2.2.2.2.2.2.1
end OWNC
set_option maxHeartbeats 4000000 in
set_option maxRecDepth 100000 in
theorem k_X6_gives (l : Launch) (D : va_G) (q : CQ) (b sz : Nat) (u : ST) (o : OT) (v : Nat) (hv : v ≤ 9 ∨ (20 ≤ v ∧ v ≤ 24) ∨ (40 ≤ v ∧ v < 50)) : Met l yX6_gives wsX6_gives ({ frames := 0, cells := 1, slots := 5, locals := 0 } : Room) (va_Pc [.ref (b + 52 + 0), .int (nI v)] (PrO D q b sz u o)) (cO D q b sz (fun r v' => v' = (u, o))) 1 5 (ts_A b 67 sz) := by
  refine ts_met (by decide) rfl (Nat.le_of_ble_eq_true rfl) ?_
  intro p e s m below meth c C0 hX ls hl
  obtain ⟨⟨hsz, hW, hK, hN⟩, hO, hoz⟩ := hX
  subst hsz
  obtain ⟨hx, hb, hml, hown, hts, -, -, -⟩ := id C0
  have hW : ts_W D b 52 (cel q b u) s.heap := hW
  have hS : va_S (ts_A b 67 s.heap.size) s.heap s.heap [] := va_S.rf
  have hi6 : ∀ w ∈ wsX60, w ∈ wsX6_gives := ts_lays 3 rfl
  have hl : lv_has ls 3 [(0, .ref (b + 52 + 0)), (1, .int (nI v))] := hl
  refine lv_iload_n hx hb dX6_gives_0 rfl (lv_at hl 1 rfl) ?_
  refine lv_bipush (v := nI 40) hx hb dX6_gives_1 (by decide) ?_
  refine lv_icmp_lt (tgt := 16) hx hb dX6_gives_3 (by decide) (fun c1 => ?_) (fun c1 => ?_)
  · have c1 : v < 40 := (nI_ltI (by omega) (by omega)).mp c1
    refine lv_iconst (v := nI 5) hx hb dX6_gives_16 (by decide) ?_
    have hT0 : ts_W D s.heap.size 0 (fun _ => .inr (0, [])) s.heap := fun k hk => absurd hk (Nat.not_lt_zero k)
    refine ts_newa (atype := .int) (b := s.heap.size) (n := 0) (cA := q.1) hx hb hts (List.mem_of_getElem? (i := 2) rfl) hK 0 rfl (fun h => h) rfl hT0 hS (5, .inl (fun _ => 0)) rfl (by decide) (Nat.le_of_ble_eq_true rfl) (Nat.le_of_ble_eq_true rfl) (Nat.le_of_ble_eq_true rfl) dX6_gives_17 (fun H hz o1 hT hS => ?_)
    have hW := ts_kept hW (fun x h1 h2 => o1 x (by omega))
    have hO := ts_kept hO (fun x h1 h2 => o1 x (by omega))
    refine lv_dup hx hb dX6_gives_19 rfl ?_
    refine lv_iconst (v := nI 0) hx hb dX6_gives_20 (by decide) ?_
    refine lv_iconst (v := nI 0) hx hb dX6_gives_21 (by decide) ?_
    refine ts_iast (b := s.heap.size) (n := 1) (g := (fun _ => 0)) (v := nI 0) hx hb hK hT hS (fun k hk => Or.inr (by omega)) 0 (by decide) 0 rfl rfl (by decide) (by decide) (fun _ => .inl (q.1, 5, .inl (fun j => if j = 0 then nI 0 else (fun _ => 0) j))) rfl (fun j _ => rfl) (fun j hj h0 => absurd hj (by omega)) dX6_gives_22 (fun H locs oq zq hT hS => ?_)
    have hz := zq.trans hz
    have hW := ts_kept hW (fun x h1 h2 => oq x (by omega))
    have hO := ts_kept hO (fun x h1 h2 => oq x (by omega))
    refine lv_dup hx hb dX6_gives_23 rfl ?_
    refine lv_iconst (v := nI 1) hx hb dX6_gives_24 (by decide) ?_
    refine lv_iconst (v := nI 1) hx hb dX6_gives_25 (by decide) ?_
    refine ts_iast (b := s.heap.size) (n := 1) (g := (fun j => if j = 0 then nI 0 else (fun _ => 0) j)) (v := nI 1) hx hb hK hT hS (fun k hk => Or.inr (by omega)) 0 (by decide) 0 rfl rfl (by decide) (by decide) (fun _ => .inl (q.1, 5, .inl (fun j => if j = 1 then nI 1 else (fun j => if j = 0 then nI 0 else (fun _ => 0) j) j))) rfl (fun j _ => rfl) (fun j hj h0 => absurd hj (by omega)) dX6_gives_26 (fun H locs oq zq hT hS => ?_)
    have hz := zq.trans hz
    have hW := ts_kept hW (fun x h1 h2 => oq x (by omega))
    have hO := ts_kept hO (fun x h1 h2 => oq x (by omega))
    refine lv_dup hx hb dX6_gives_27 rfl ?_
    refine lv_iconst (v := nI 2) hx hb dX6_gives_28 (by decide) ?_
    refine lv_iconst (v := nI 2) hx hb dX6_gives_29 (by decide) ?_
    refine ts_iast (b := s.heap.size) (n := 1) (g := (fun j => if j = 1 then nI 1 else (fun j => if j = 0 then nI 0 else (fun _ => 0) j) j)) (v := nI 2) hx hb hK hT hS (fun k hk => Or.inr (by omega)) 0 (by decide) 0 rfl rfl (by decide) (by decide) (fun _ => .inl (q.1, 5, .inl (fun j => if j = 2 then nI 2 else (fun j => if j = 1 then nI 1 else (fun j => if j = 0 then nI 0 else (fun _ => 0) j) j) j))) rfl (fun j _ => rfl) (fun j hj h0 => absurd hj (by omega)) dX6_gives_30 (fun H locs oq zq hT hS => ?_)
    have hz := zq.trans hz
    have hW := ts_kept hW (fun x h1 h2 => oq x (by omega))
    have hO := ts_kept hO (fun x h1 h2 => oq x (by omega))
    refine lv_dup hx hb dX6_gives_31 rfl ?_
    refine lv_iconst (v := nI 3) hx hb dX6_gives_32 (by decide) ?_
    refine lv_iconst (v := nI 2) hx hb dX6_gives_33 (by decide) ?_
    refine ts_iast (b := s.heap.size) (n := 1) (g := (fun j => if j = 2 then nI 2 else (fun j => if j = 1 then nI 1 else (fun j => if j = 0 then nI 0 else (fun _ => 0) j) j) j)) (v := nI 2) hx hb hK hT hS (fun k hk => Or.inr (by omega)) 0 (by decide) 0 rfl rfl (by decide) (by decide) (fun _ => .inl (q.1, 5, .inl (fun j => if j = 3 then nI 2 else (fun j => if j = 2 then nI 2 else (fun j => if j = 1 then nI 1 else (fun j => if j = 0 then nI 0 else (fun _ => 0) j) j) j) j))) rfl (fun j _ => rfl) (fun j hj h0 => absurd hj (by omega)) dX6_gives_34 (fun H locs oq zq hT hS => ?_)
    have hz := zq.trans hz
    have hW := ts_kept hW (fun x h1 h2 => oq x (by omega))
    have hO := ts_kept hO (fun x h1 h2 => oq x (by omega))
    refine lv_dup hx hb dX6_gives_35 rfl ?_
    refine lv_iconst (v := nI 4) hx hb dX6_gives_36 (by decide) ?_
    refine lv_iconst (v := nI 0) hx hb dX6_gives_37 (by decide) ?_
    refine ts_iast (b := s.heap.size) (n := 1) (g := (fun j => if j = 3 then nI 2 else (fun j => if j = 2 then nI 2 else (fun j => if j = 1 then nI 1 else (fun j => if j = 0 then nI 0 else (fun _ => 0) j) j) j) j)) (v := nI 0) hx hb hK hT hS (fun k hk => Or.inr (by omega)) 0 (by decide) 0 rfl rfl (by decide) (by decide) (fun _ => .inl (q.1, 5, .inl (fun j => if j = 4 then nI 0 else (fun j => if j = 3 then nI 2 else (fun j => if j = 2 then nI 2 else (fun j => if j = 1 then nI 1 else (fun j => if j = 0 then nI 0 else (fun _ => 0) j) j) j) j) j))) rfl (fun j _ => rfl) (fun j hj h0 => absurd hj (by omega)) dX6_gives_38 (fun H locs oq zq hT hS => ?_)
    have hz := zq.trans hz
    have hW := ts_kept hW (fun x h1 h2 => oq x (by omega))
    have hO := ts_kept hO (fun x h1 h2 => oq x (by omega))
    refine lv_astore_n (lv' := [(2, .ref (s.heap.size + 0)), (0, .ref (b + 52 + 0)), (1, .int (nI v))]) hx hb dX6_gives_39 rfl hl (by decide) rfl (fun ls hl => ?_)
    refine lv_iload_n hx hb dX6_gives_40 rfl (lv_at hl 2 rfl) ?_
    refine lv_bipush (v := nI 10) hx hb dX6_gives_41 (by decide) ?_
    refine lv_icmp_ge (tgt := 50) hx hb dX6_gives_43 (by decide) (fun c2 => ?_) (fun c2 => ?_)
    · have c2 : 10 ≤ v := (nI_leI (by omega) (by omega)).mp c2
      refine lv_aload_n hx hb dX6_gives_50 rfl (lv_at hl 0 rfl) ?_
      refine lv_iload_n hx hb dX6_gives_51 rfl (lv_at hl 2 rfl) ?_
      refine lv_bipush (v := nI 20) hx hb dX6_gives_52 (by decide) ?_
      refine ts_isub (v := nI (v - 20)) hx hb dX6_gives_54 (pk_sub (by omega)) ?_
      refine ts_iald (b := s.heap.size) (n := 1) (g := (fun j => if j = 4 then nI 0 else (fun j => if j = 3 then nI 2 else (fun j => if j = 2 then nI 2 else (fun j => if j = 1 then nI 1 else (fun j => if j = 0 then nI 0 else (fun _ => 0) j) j) j) j) j)) (v := (fun j => if j = 4 then nI 0 else (fun j => if j = 3 then nI 2 else (fun j => if j = 2 then nI 2 else (fun j => if j = 1 then nI 1 else (fun j => if j = 0 then nI 0 else (fun _ => 0) j) j) j) j) j) (v - 20)) hx hb hK hT 0 (by decide) 0 rfl rfl (by omega) (by decide) rfl dX6_gives_55 ?_
      exact ts_iretO C0 hW hO hS rfl dX6_gives_56
    · refine lv_iconst (v := nI 0) hx hb dX6_gives_46 (by decide) ?_
      refine lv_goto (tgt := 56) hx hb dX6_gives_47 (by decide) ?_
      exact ts_iretO C0 hW hO hS rfl dX6_gives_56
  · have c1 : ¬ v < 40 := fun h => c1 ((nI_ltI (by omega) (by omega)).mpr h)
    refine lv_aload_n hx hb dX6_gives_6 rfl (lv_at hl 0 rfl) ?_
    refine ts_get (C := RX6) (T := TX6) (N := 13) (b := b + 52) (n := 15) (v := .ref (b + 52 + 14)) hx hb hts hi6 hown hK hO 0 (by decide) celO_ob rfl 3 (by decide) (List.mem_of_getElem? (i := 1) rfl) rfl dX6_gives_7 ?_
    refine lv_iload_n hx hb dX6_gives_10 rfl (lv_at hl 1 rfl) ?_
    refine lv_bipush (v := nI 40) hx hb dX6_gives_11 (by decide) ?_
    refine ts_isub (v := nI (v - 40)) hx hb dX6_gives_13 (pk_sub (by omega)) ?_
    refine ts_iald (b := b + 52) (n := 15) (g := o.2 12) (v := o.2 12 (v - 40)) hx hb hK hO 14 (by decide) 0 (celO_ar (i := 12) (by decide)) rfl (by omega) (by decide) rfl dX6_gives_14 ?_
    refine W.widen (k := 1) (n := 5) (by omega) (by omega) ?_
    exact ts_iretO C0 hW hO hS rfl dX6_gives_15
