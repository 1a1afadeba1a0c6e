/-! Into the law's loop -/
theorem own_st {D : va_G} {q : CQ} {b : Nat} {u : ST} {H : Heap} {f : Nat → va_E} (hW : ts_W D b 71 f H) (he : ∀ k, k < 52 → f k = cel q b u k) : ts_W D b 52 (cel q b u) H := fun k hk => by rw [← he k hk]; exact hW k (by omega)
theorem own_cv {D : va_G} {q : CQ} {b : Nat} {o : OT} {H : Heap} {f : Nat → va_E} (hW : ts_W D b 71 f H) (he : ∀ k, k < 15 → f (52 + k) = celO q (b + 52) o k) : ts_W D (b + 52) 15 (celO q (b + 52) o) H := fun k hk => by
  have h := hW (52 + k) (by omega)
  rw [he k hk, ← Nat.add_assoc] at h
  exact h
section LAWP
variable {p : Program} {l : Launch} {e : Env} {R : Room} {s : State} {m : MethodId} {args : Array Value} {H : Heap} {D : va_G} {q : CQ} {b n : Nat} {u : ST} {o : OT} {f : Nat → va_E} {cz : ClassId} {As : List Value} {bs L : Nat} {xs : Nat → Int32}
theorem ts_preZ (hK : va_K D vwCl (tq q) s) (hK2 : va_K D vwCl [(cz, .boolean)] s) (hN : ts_N s) (hAO : ts_AO s) (hz : H.size = b + n) (hW : ts_W D b n f H) : PreS s H (va_Pc As (PrZ D q cz b n f)) As :=
  ⟨fun a U g mk h => ⟨h.1, ((ts_preN (As := As) hK hN hAO hz hW).1 a U g mk ⟨h.1, h.2.1⟩).2, va_K.moved (u := U) (U := U.calling g mk a) (Vm.Alike.refl U.vm) h.2.2⟩,
   fun U hU hW' => ⟨rfl, ⟨by rw [hU]; exact hz, by rw [hU]; exact hW, va_K.moved hW'.alike hK, hN.warm hW', hAO.moved hW'.alike⟩, va_K.moved hW'.alike hK2⟩⟩
theorem ts_preT (hK : va_K D vwCl (tq q) s) (hN : ts_N s) (hW : ts_W D b 52 (cel q b u) H) (hO : ts_W D (b + 52) 15 (celO q (b + 52) o) H) (hoz : b + 67 ≤ H.size) (hX : va_X bs L xs s H) (h1 : bs < b) (h2 : bs < H.size) (h3 : L ≤ 260) : PreV s H RX6 (b + 52 + 0) (va_Pc (.ref (b + 52 + 0) :: As) (PrT D q b H.size u o bs L xs)) As :=
  ⟨PrT.blind, (ts_preO (As := As) hK hN hW hO hoz).2.1, fun U hU hW' => ⟨rfl, ⟨⟨by rw [hU], by show ts_W D b 52 (cel q b u) U.heap; rw [hU]; exact hW, va_K.moved hW'.alike hK, hN.warm hW'⟩, by rw [hU]; exact hO, hoz⟩, by rw [hU]; exact va_X.moved hW'.alike hX, h1, h2, h3⟩⟩
end LAWP
theorem u0_wp : WP u0.1 := by
  refine ⟨by decide, by decide, by decide, fun i hi => ?_⟩
  have : i = 0 ∨ i = 1 ∨ i = 2 ∨ i = 3 ∨ i = 4 ∨ i = 5 ∨ i = 6 ∨ i = 7 ∨ i = 8 ∨ i = 9 := by omega
  rcases this with rfl | rfl | rfl | rfl | rfl | rfl | rfl | rfl | rfl | rfl <;> exact ⟨by decide, by decide, by decide, fun j hj => absurd hj (Nat.not_lt_zero j)⟩
theorem tolJ_0 : tolJ u0.1 0 0 0 0 := by
  refine ⟨u0_wp, rfl, rfl, rfl, Nat.le_refl _, rfl, fun i h1 h2 => ?_⟩
  have : i = 1 ∨ i = 2 ∨ i = 3 ∨ i = 4 ∨ i = 5 ∨ i = 6 ∨ i = 7 ∨ i = 8 ∨ i = 9 := by omega
  rcases this with rfl | rfl | rfl | rfl | rfl | rfl | rfl | rfl | rfl <;> rfl
theorem LI_0 {P : PT} {F : FT} {n : Nat} (hJ : ∃ j c, j ≤ 4 ∧ c ≤ 28 ∧ ∃ k, tolJ P n k j c) (hn : n ≤ 10) : LI n 0 (P, F, u0.2.2) (fun _ => 0) := by
  obtain ⟨j, c, hj, hc, k, h1, h2, h3, h4, h5, h6, h7⟩ := hJ
  refine ⟨h1, h2, fun i hi => ?_, by show P.1 3 ≤ _; omega, fun r h1 h2 c => rfl, ?_, ⟨Nat.le_refl _, Nat.le_refl _⟩, ?_, fun i => rfl⟩
  · have hi2 : hasB (P.1 2) i = true := hi
    rw [h3, hasB_zero] at hi2
    exact absurd hi2 (by decide)
  · show 0 = totR (fun _ _ => 0) 0 n
    rw [totR_zero]
  · show totN (fun _ _ => 0) 11 ≤ 201 * 0
    rw [totN_zero]
    exact Nat.le_refl _
