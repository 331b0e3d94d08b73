/-! THE START keeps the relation -/
set_option maxRecDepth 20000 in
theorem yz_75 {k : Nat} (h : k ≠ 6) : yy_0 75 k = 0 := by unfold yy_0; simp [h]
set_option maxRecDepth 20000 in
theorem yz_756 : yy_0 75 6 = 1 := rfl
set_option maxRecDepth 20000 in
theorem yz_o {c k : Nat} (h : c ≠ 35 ∧ c ≠ 55 ∧ c ≠ 58 ∧ c ≠ 74 ∧ c ≠ 75) : yy_0 c k = 0 := by
  unfold yy_0
  rw [if_neg (by omega), if_neg (by omega), if_neg (by omega), if_neg (by omega), if_neg (by omega)]
set_option maxRecDepth 20000 in
theorem yz_T {u : Nat} (hu : u < 2) : sg_T (yy_0 75) u := by
  have h : sg_tn (yy_0 75) u = 0 := yz_75 (by omega)
  exact ⟨by rw [h]; decide, by rw [h]; omega, fun k hk => by rw [h] at hk; omega⟩
set_option maxRecDepth 20000 in
theorem yz_G : sg_G (yy_0 75) := by
  refine ⟨⟨⟨by decide, by decide, by decide, by decide, fun k hk => ?_, fun i hi => ⟨?_, ?_, ?_, ?_, ?_, ?_, fun k hk => ?_⟩⟩, ⟨fun i hi => ?_, fun i j hij hj => ?_⟩, fun i hi => ?_, yz_T (by decide), yz_T (by decide)⟩, by decide, by decide, by decide, fun k hk => ?_⟩
  · rw [yz_75 (by omega)]; decide
  · rw [yz_75 (by omega)]; decide
  · rw [yz_75 (by omega)]; decide
  · rw [yz_75 (by omega)]; decide
  · rw [yz_75 (by omega)]; decide
  · rw [yz_75 (by omega)]; decide
  · rw [yz_75 (by omega), yz_75 (by omega)]; decide
  · rw [yz_75 (by omega)]; decide
  · rw [yz_75 (by decide)] at hi; omega
  · rw [yz_75 (by decide)] at hj; omega
  · rw [yz_75 (by decide)] at hi; omega
  · rw [yz_75 (by omega)]; decide
set_option maxRecDepth 20000 in
theorem yz_I : yy_I [] yy_0 := by
  have tx : ∀ u, u < 2 → ∀ k, yy_TX [] (yy_0 75) u (yy_0 5 k) := fun u hu k => Or.inl ⟨yz_75 (by omega), by rw [yz_o (by decide)]; rfl⟩
  refine ⟨yz_G, ⟨⟨by rw [yz_o (by decide), yz_75 (by decide)], by rw [yz_o (by decide), yz_75 (by decide)], by rw [yz_o (by decide), yz_75 (by decide)], by rw [yz_o (by decide), yz_75 (by decide)], fun k hk => ?_, fun k hk => ?_, fun i hi => ⟨fun k hk => ?_, fun k hk => ?_⟩⟩, tx 0 (by decide) 0, tx 1 (by decide) 1⟩, ⟨rfl, rfl, rfl, fun k hk => ?_, fun k hk => ?_⟩, ⟨rfl, by decide, fun h => absurd h (by decide)⟩, fun k hk => ⟨?_, ?_, ?_, ?_, fun j hj => ?_⟩, ⟨rfl, by decide, by decide⟩⟩
  · rw [yz_o (by decide), yz_75 (by omega)]
  · rw [yz_o (by decide), yz_75 (by omega)]
  · rw [yz_o (by omega), yz_75 (by omega)]
  · rw [yz_o (by omega), yz_75 (by omega)]
  · rw [yz_o (by decide), yz_75 (by omega)]
  · rw [yz_o (by decide), yz_75 (by omega)]
  · rw [yz_o (by omega), yz_o (by decide)]
  · rw [yz_o (by decide)]; decide
  · rw [yz_o (by omega), yz_o (by decide)]
  · rw [yz_o (by decide)]; decide
  · rw [yz_o (by omega), yz_o (by decide)]; decide
