/-! leaves: numbers alone -/
def sp_next (c way : Int) : Int := if way = 0 then (if c < 6 then -1 else c - 6) else if way = 1 then (if c % 6 < 5 then c + 1 else -1) else if way = 2 then (if c < 30 then c + 6 else -1) else (if 0 < c % 6 then c - 1 else -1)
def sp_back (way : Int) : Int := (way + 2) % 4
theorem tmod_pos {a b : Int} (h : 0 ≤ a) : a.tmod b = a % b := Int.tmod_eq_emod_of_nonneg h
theorem tdiv_pos {a b : Int} (h : 0 ≤ a) : a.tdiv b = a / b := Int.tdiv_eq_ediv_of_nonneg h
theorem c_150 {sc : List Int} {d : Nat} {c way : Int} {w : xm_W} (h0 : 0 ≤ c) (h1 : c < 36) : xm_X (xm_old sc) xm_mt (d + 1) 150 [.inl c, .inl way] w = some (some (.inl (sp_next c way)), w) := by
  refine xm_X_of (M := xm_m150) rfl ⟨xm_EQ.eq (xb_150_0 ?_), rfl, rfl, Nat.le_of_ble_eq_true rfl, xw_hd0⟩
  rw [tmod_pos h0, xm_w_id (z := c - 6) (by omega) (by omega), xm_w_id (z := c + 1) (by omega) (by omega), xm_w_id (z := c + 6) (by omega) (by omega), xm_w_id (z := c - 1) (by omega) (by omega)]
  unfold sp_next
  by_cases a : way = 0
  · rw [if_pos a, if_pos a]; split <;> rfl
  · rw [if_neg a, if_neg a]
    by_cases b : way = 1
    · rw [if_pos b, if_pos b]; exact ⟨by decide, by split <;> rfl⟩
    · rw [if_neg b, if_neg b]
      by_cases e : way = 2
      · rw [if_pos e, if_pos e]; split <;> rfl
      · rw [if_neg e, if_neg e]; exact ⟨by decide, by split <;> rfl⟩
theorem c_151 {sc : List Int} {d : Nat} {way : Int} {w : xm_W} (h0 : 0 ≤ way) (h1 : way < 4) : xm_X (xm_old sc) xm_mt (d + 1) 151 [.inl way] w = some (some (.inl (sp_back way)), w) := by
  refine xm_X_of (M := xm_m151) rfl ⟨xm_EQ.eq (xb_151_0 ?_), rfl, rfl, Nat.le_of_ble_eq_true rfl, xw_hd0⟩
  rw [xm_w_id (by omega) (by omega), tmod_pos (by omega)]
  exact ⟨by decide, rfl⟩
