theorem c_1139 {sc : List Int} {d : Nat} {c way : Int} {w : xm_W} (h0 : 0 ≤ c) (h1 : c < 36) : xm_X (xm_old sc) xm_mt (d + 1) 1139 [.inl c, .inl way] w = some (some (.inl (sp_next c way)), w) := by
  refine xm_X_of (M := xm_m1139) rfl ⟨xm_EQ.eq (xb_1139_0 ?_), rfl, rfl, Nat.le_of_ble_eq_true rfl, xw_hd0⟩
  rw [tmod_pos h0, xm_w_id (z := c - 6) (by omega) (by omega), xm_w_id (z := c + 1) (by omega) (by omega), xm_w_id (z := c + 6) (by omega) (by omega), xm_w_id (z := c - 1) (by omega) (by omega)]
  unfold sp_next
  by_cases a : way = 0
  · rw [if_pos a, if_pos a]; split <;> rfl
  · rw [if_neg a, if_neg a]
    by_cases b : way = 1
    · rw [if_pos b, if_pos b]
      refine ⟨by decide, ?_⟩
      by_cases g : c % 6 = 5
      · rw [if_pos g, if_neg (by omega)]
      · rw [if_neg g, if_pos (by omega)]
    · rw [if_neg b, if_neg b]
      by_cases e : way = 2
      · rw [if_pos e, if_pos e]
        by_cases g : c + 6 < 36
        · rw [if_pos g, if_pos (by omega)]
        · rw [if_neg g, if_neg (by omega)]
      · rw [if_neg e, if_neg e]
        refine ⟨by decide, ?_⟩
        by_cases g : c % 6 = 0
        · rw [if_pos g, if_neg (by omega)]
        · rw [if_neg g, if_pos (by omega)]
theorem c_1133 {sc : List Int} {d : Nat} {way : Int} {w : xm_W} (h0 : 0 ≤ way) (h1 : way < 4) : xm_X (xm_old sc) xm_mt (d + 1) 1133 [.inl way] w = some (some (.inl (sp_back way)), w) := by
  refine xm_X_of (M := xm_m1133) rfl ⟨xm_EQ.eq (xb_1133_0 ?_), rfl, rfl, Nat.le_of_ble_eq_true rfl, xw_hd0⟩
  rw [xm_w_id (by omega) (by omega), tmod_pos (by omega)]
  exact ⟨by decide, rfl⟩
theorem c_143 {sc : List Int} {d : Nat} {c : Int} {w : xm_W} : xm_X (xm_old sc) xm_mt (d + 2) 143 [.inl c] w = some (some (.inl (if 0 ≤ c ∧ c ≤ 35 then 1 else 0)), w) := by
  refine xm_X_of (M := xm_m143) rfl ⟨xm_EQ.eq (xb_143_0 ?_), ?_, rfl, Nat.le_of_ble_eq_true rfl, xw_hd0⟩
  · rw [c_142]; rfl
  · show (_ == _ || _ == _) = true
    split <;> rfl
theorem c_1108 {sc : List Int} {d : Nat} {c : Int} {w : xm_W} : xm_X (xm_old sc) xm_mt (d + 2) 1108 [.inl c] w = some (some (.inl (if 0 ≤ c ∧ c ≤ 35 then 1 else 0)), w) := by
  refine xm_X_of (M := xm_m1108) rfl ⟨xm_EQ.eq (xb_1108_0 ?_), ?_, rfl, Nat.le_of_ble_eq_true rfl, xw_hd0⟩
  · rw [c_1103]; rfl
  · show (_ == _ || _ == _) = true
    split <;> rfl
