/-! The script and its cells -/
def cellI (xs : Nat → Int32) (L k : Nat) : Int32 := if k < L then xs k else 790386105 * (nI k + nI 3)
def PrX (D : va_G) (q : CQ) (b sz : Nat) (u : ST) (bs L : Nat) (xs : Nat → Int32) : State → Prop := fun U => Pr D q b sz u U ∧ va_X bs L xs U U.heap ∧ bs < b ∧ bs < sz ∧ L ≤ 260
theorem PrX.blind {D : va_G} {q : CQ} {b sz : Nat} {u : ST} {bs L : Nat} {xs : Nat → Int32} {av : List Value} : FrameBlind (va_Pc av (PrX D q b sz u bs L xs)) := fun a U g1 mk h => ⟨h.1, (Pr.blind (av := av) a U g1 mk ⟨h.1, h.2.1⟩).2, va_X.moved (u := U) (U := U.calling g1 mk a) (Vm.Alike.refl U.vm) h.2.2.1, h.2.2.2⟩
section CELL
variable {p : Program} {l : Launch} {e : Env} {R : Room} {s : State} {m : MethodId} {args : Array Value} {below : List Frame} {meth : Method} {c : Code} {H : Heap} {locs : List Loc} {cells slots : Nat} {Q : State → Prop}
variable {cc : ByteArray} {pc : Nat} {ls : Array Slot} {rest st : List Value} {D : va_G} {q : CQ} {A : Nat → Prop} {b : Nat} {u : ST} {H0 : Heap} {ws : List Cond} {As : List Value} {bs L : Nat} {xs : Nat → Int32}
theorem ts_preX (hK : va_K D vwCl (tq q) s) (hN : ts_N s) (hW : ts_W D b 52 (cel q b u) H) (hX : va_X bs L xs s H) (h1 : bs < b) (h2 : bs < H.size) (h3 : L ≤ 260) : PreS s H (va_Pc As (PrX D q b H.size u bs L xs)) As :=
  ⟨PrX.blind, fun U hU hW' => ⟨rfl, ⟨by rw [hU], by show ts_W D b 52 (cel q b u) U.heap; rw [hU]; exact hW, va_K.moved hW'.alike hK, hN.warm hW'⟩, by rw [hU]; exact va_X.moved hW'.alike hX, h1, h2, h3⟩⟩
end CELL
set_option maxHeartbeats 4000000 in
set_option maxRecDepth 100000 in
theorem k_L_cell (l : Launch) (D : va_G) (q : CQ) (b sz : Nat) (u : ST) (bs L : Nat) (xs : Nat → Int32) (k : Nat) (hk : k < 1000) : Met l yL_cell wsL_cell ({ frames := 0, cells := 0, slots := 0, locals := 0 } : Room) (va_Pc [.ref bs, .int (nI k)] (PrX D q b sz u bs L xs)) (cI D q b sz (fun r u' => r = cellI xs L k ∧ u' = u)) 0 0 (ts_A b 52 sz) := by
  refine ts_met (by decide) rfl (Nat.le_of_ble_eq_true rfl) ?_
  intro p e s m below meth c C0 hX ls hl
  obtain ⟨⟨hsz, hW, hK, hN⟩, hX, h1, h2, h3⟩ := hX
  subst hsz
  obtain ⟨hx, hb, hml, hown, hts, -, -, -⟩ := id C0
  have hW : ts_W D b 52 (cel q b u) s.heap := hW
  have hS : va_S (ts_A b 52 s.heap.size) s.heap s.heap [] := va_S.rf
  have hbA : ¬ ts_A b 52 s.heap.size bs := fun h => by unfold ts_A at h; omega
  have hl : lv_has ls 2 [(0, .ref bs), (1, .int (nI k))] := hl
  refine lv_iload_n hx hb dL_cell_0 rfl (lv_at hl 1 rfl) ?_
  refine lv_aload_n hx hb dL_cell_1 rfl (lv_at hl 0 rfl) ?_
  refine va_slen hx hb hX h2 hbA hS dL_cell_2 ?_
  refine lv_icmp_ge (tgt := 12) hx hb dL_cell_3 (by decide) (fun c1 => ?_) (fun c1 => ?_)
  · have c1 : L ≤ k := (nI_leI (by omega) (by omega)).mp c1
    refine lv_ldc (v := 790386105) hx hb hown (hts _ (List.mem_of_getElem? (i := 1) rfl)) dL_cell_12 ?_
    refine lv_iload_n hx hb dL_cell_14 rfl (lv_at hl 1 rfl) ?_
    refine lv_iconst (v := nI 3) hx hb dL_cell_15 (by decide) ?_
    refine ts_iadd (v := nI k + nI 3) hx hb dL_cell_16 rfl ?_
    refine ts_imul (v := 790386105 * (nI k + nI 3)) hx hb dL_cell_17 rfl ?_
    exact ts_iret (u := u) C0 hW hS ⟨by unfold cellI; rw [if_neg (by omega)], rfl⟩ dL_cell_18
  · have c1 : ¬ L ≤ k := fun h => c1 ((nI_leI (by omega) (by omega)).mpr h)
    refine lv_aload_n hx hb dL_cell_6 rfl (lv_at hl 0 rfl) ?_
    refine lv_iload_n hx hb dL_cell_7 rfl (lv_at hl 1 rfl) ?_
    refine va_sld hx hb hX h2 hbA hS (vp_in_nI (by omega) (by omega)) dL_cell_8 ?_
    refine lv_goto (tgt := 18) hx hb dL_cell_9 (by decide) ?_
    exact ts_iret (u := u) C0 hW hS ⟨by unfold cellI; rw [if_pos (by omega), nI_clamp (by omega)], rfl⟩ dL_cell_18
