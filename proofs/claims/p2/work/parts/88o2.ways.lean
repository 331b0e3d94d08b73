/-! WAYS: the reference -/
set_option maxRecDepth 20000 in
theorem c_1150 {sc : List Int} {d : Nat} {t : xm_W} {m : Nat → Nat → Int} {r : Nat} {w : Int} (hr : r < 5) (q0 : 0 ≤ m 75 0 ∧ m 75 0 ≤ 5) (q1 : (r : Int) ≤ m 75 0 - 1) : xm_X (xm_old sc) xm_mt (d + 3) 1150 [.inr (.inl (some 74)), .inl ((r : Int)), .inl (w)] (yy_W (m) t) = some (some (.inl (if 0 ≤ w ∧ w ≤ 3 then (if m 75 (48 + 18 * r) = 12 then 4 else 0) else 1)), (yy_W (m) t)) := by
  refine xm_X_of (M := xm_m1150) rfl ⟨xm_EQ.eq (xb_1150_0 ?_), rfl, rfl, Nat.le_of_ble_eq_true rfl, yy_hd rfl (by decide)⟩
  rw [oc_1109 (by omega) (by omega), zz_t (by omega), oc_1103]
  by_cases g : 0 ≤ w ∧ w ≤ 3
  · rw [zz_t g, oc_1110_4 hr, if_pos g]
    by_cases g2 : m 75 (48 + 18 * r) = 12
    · rw [if_pos g2, if_pos g2]
    · rw [if_neg g2, if_neg g2]
  · rw [zz_f g, if_neg g]
set_option maxRecDepth 20000 in
theorem oc_1150 {F : Int → xm_W → Prop} {sc : List Int} {d : Nat} {t : xm_W} {m : Nat → Nat → Int} {r : Nat} {w : Int} (hr : r < 5) (q0 : 0 ≤ m 75 0 ∧ m 75 0 ≤ 5) (q1 : (r : Int) ≤ m 75 0 - 1) : xm_Oi (xm_X (xm_old sc) xm_mt (d + 3) 1150 [.inr (.inl (some 74)), .inl ((r : Int)), .inl (w)] (yy_W (m) t)) F = F (if 0 ≤ w ∧ w ≤ 3 then (if m 75 (48 + 18 * r) = 12 then 4 else 0) else 1) (yy_W (m) t) := congrArg (fun x => xm_Oi x F) (c_1150 hr q0 q1)
set_option maxRecDepth 20000 in
theorem c_1200 {sc : List Int} {d : Nat} {t : xm_W} {m : Nat → Nat → Int} {i r : Nat} (hi : i < 4) (q0 : 0 ≤ m 75 0 ∧ m 75 0 ≤ 5) (q1 : (r : Int) ≤ m 75 0 - 1) : xm_X (xm_old sc) xm_mt (d + 3) 1200 [.inr (.inl (some 74)), .inl ((i : Int)), .inl ((r : Int))] (yy_W (m) t) = some (some (.inl (if m 83 i = 0 then 2 else 0)), (yy_W (m) t)) := by
  refine xm_X_of (M := xm_m1200) rfl ⟨xm_EQ.eq (xb_1200_0 ?_), rfl, rfl, Nat.le_of_ble_eq_true rfl, yy_hd rfl (by decide)⟩
  rw [oc_1196, zz_t (by omega), oc_1109 (by omega) (by omega), zz_t (by omega), zr_74_18, zi_83, zy_at (by omega) (by omega), Int.toNat_natCast]
  by_cases g2 : m 83 i = 0
  · rw [if_pos g2, if_pos g2]
  · rw [if_neg g2, if_neg g2]
set_option maxRecDepth 20000 in
theorem oc_1200 {F : Int → xm_W → Prop} {sc : List Int} {d : Nat} {t : xm_W} {m : Nat → Nat → Int} {i r : Nat} (hi : i < 4) (q0 : 0 ≤ m 75 0 ∧ m 75 0 ≤ 5) (q1 : (r : Int) ≤ m 75 0 - 1) : xm_Oi (xm_X (xm_old sc) xm_mt (d + 3) 1200 [.inr (.inl (some 74)), .inl ((i : Int)), .inl ((r : Int))] (yy_W (m) t)) F = F (if m 83 i = 0 then 2 else 0) (yy_W (m) t) := congrArg (fun x => xm_Oi x F) (c_1200 hi q0 q1)
