set_option maxHeartbeats 4000000 in
set_option maxRecDepth 100000 in
theorem k_L_below (l : Launch) (D : va_G) (q : CQ) (b sz : Nat) (u : ST) (v : Int32) (n : Nat) (hn : 0 < n ∧ n < 2 ^ 31) : Met l yL_below wsL_below ({ frames := 0, cells := 0, slots := 0, locals := 0 } : Room) (va_Pc [.int v, .int (nI n)] (Pr D q b sz u)) (cI D q b sz (fun r u' => r = nI (blwN v n) ∧ u' = u)) 0 0 (ts_A b 52 sz) := by
  refine ts_met (by decide) rfl (Nat.le_of_ble_eq_true rfl) ?_
  intro p e s m below meth c C0 hX ls hl
  obtain ⟨hsz, hW, hK, hN⟩ := hX
  subst hsz
  obtain ⟨hx, hb, hml, hown, hts, -, -, -⟩ := id C0
  have hW : ts_W D b 52 (cel q b u) s.heap := hW
  have hS : va_S (ts_A b 52 s.heap.size) s.heap s.heap [] := va_S.rf
  have hB : ∀ k, k < 52 → ts_A b 52 s.heap.size (b + k) := fun k hk => ts_Ain hk
  have hl : lv_has ls 2 [(0, .int v), (1, .int (nI n))] := hl
  have hlt : v.toBitVec.toNat % 2 ^ 31 < 2 ^ 31 := Nat.mod_lt _ (by decide)
  refine lv_iload_n hx hb dL_below_0 rfl (lv_at hl 0 rfl) ?_
  refine lv_ldc (v := nI 2147483647) hx hb hown (hts _ (List.mem_of_getElem? (i := 1) rfl)) dL_below_1 ?_
  refine ts_iand (v := nI (v.toBitVec.toNat % 2 ^ 31)) hx hb dL_below_3 (blw_and v) ?_
  refine lv_iload_n hx hb dL_below_4 rfl (lv_at hl 1 rfl) ?_
  refine lv_irem hx hb dL_below_5 (fun h => by rw [ts_eq0 (by omega)] at h; omega) ?_
  exact ts_iret (u := u) (v := (nI (v.toBitVec.toNat % 2 ^ 31)) - (nI (v.toBitVec.toNat % 2 ^ 31)) / (nI n) * (nI n)) C0 hW hS (by exact ⟨pk_rem hlt hn.1 hn.2, rfl⟩) dL_below_6
