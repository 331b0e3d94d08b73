/-- how deep a print is, of kind, load and the ground's ten -/
def sp_deep (k l s : Int) : Int := if k = 2 then s / 10 + 1 + l else if k = 3 then 0 else if k = 4 then (s / 10 + 1) * 2 else if k = 5 then (s / 10 + 1 + l) / 2 else s / 10 + 1
theorem c_153 {sc : List Int} {d : Nat} {k l s : Int} {w : xm_W} (h0 : 0 ≤ s) (h1 : s ≤ 1000000) (h2 : 0 ≤ l) (h3 : l ≤ 1000000) : xm_X (xm_old sc) xm_mt (d + 1) 153 [.inl k, .inl l, .inl s] w = some (some (.inl (sp_deep k l s)), w) := by
  refine xm_X_of (M := xm_m153) rfl ⟨xm_EQ.eq (xb_153_0 ?_), rfl, rfl, Nat.le_of_ble_eq_true rfl, xw_hd0⟩
  refine ⟨by decide, ?_⟩
  rw [tdiv_pos h0, xm_w_id (z := s / 10) (by omega) (by omega), xm_w_id (z := s / 10 + 1) (by omega) (by omega), xm_w_id (z := s / 10 + 1 + l) (by omega) (by omega), xm_w_id (z := (s / 10 + 1) * 2) (by omega) (by omega), tdiv_pos (by omega), xm_w_id (z := (s / 10 + 1 + l) / 2) (by omega) (by omega)]
  unfold sp_deep
  by_cases a : k = 2
  · rw [if_pos a, if_pos a]
  · rw [if_neg a, if_neg a]
    by_cases b : k = 3
    · rw [if_pos b, if_pos b]
    · rw [if_neg b, if_neg b]
      by_cases c : k = 4
      · rw [if_pos c, if_pos c]
      · rw [if_neg c, if_neg c]
        by_cases e : k = 5
        · rw [if_pos e, if_pos e]; exact ⟨by decide, rfl⟩
        · rw [if_neg e, if_neg e]
theorem c_1137 {sc : List Int} {d : Nat} {k l s : Int} {w : xm_W} (h0 : 0 ≤ s) (h1 : s ≤ 1000000) (h2 : 0 ≤ l) (h3 : l ≤ 1000000) : xm_X (xm_old sc) xm_mt (d + 1) 1137 [.inl k, .inl l, .inl s] w = some (some (.inl (sp_deep k l s)), w) := by
  refine xm_X_of (M := xm_m1137) rfl ⟨xm_EQ.eq (xb_1137_0 ?_), rfl, rfl, Nat.le_of_ble_eq_true rfl, xw_hd0⟩
  refine ⟨by decide, ?_⟩
  rw [tdiv_pos h0, xm_w_id (z := s / 10) (by omega) (by omega), xm_w_id (z := s / 10 + 1) (by omega) (by omega), xm_w_id (z := s / 10 + 1 + l) (by omega) (by omega), xm_w_id (z := 2 * (s / 10 + 1)) (by omega) (by omega), tdiv_pos (by omega), xm_w_id (z := (s / 10 + 1 + l) / 2) (by omega) (by omega), Int.mul_comm 2]
  unfold sp_deep
  by_cases a : k = 2
  · rw [if_pos a, if_pos a]
  · rw [if_neg a, if_neg a]
    by_cases b : k = 3
    · rw [if_pos b, if_pos b]
    · rw [if_neg b, if_neg b]
      by_cases c : k = 4
      · rw [if_pos c, if_pos c]
      · rw [if_neg c, if_neg c]
        by_cases e : k = 5
        · rw [if_pos e, if_pos e]; exact ⟨by decide, rfl⟩
        · rw [if_neg e, if_neg e]
/-- lame in every fourth step -/
def sp_lame (way step : Int) : Int := if step % 4 = 0 then sp_back way else way
theorem c_1135 {sc : List Int} {d : Nat} {way step : Int} {w : xm_W} (h0 : 0 ≤ way) (h1 : way < 4) (h2 : 0 ≤ step) : xm_X (xm_old sc) xm_mt (d + 2) 1135 [.inl way, .inl step] w = some (some (.inl (sp_lame way step)), w) := by
  refine xm_X_of (M := xm_m1135) rfl ⟨xm_EQ.eq (xb_1135_0 ?_), rfl, rfl, Nat.le_of_ble_eq_true rfl, xw_hd0⟩
  refine ⟨by decide, ?_⟩
  rw [tmod_pos h2]
  unfold sp_lame
  by_cases a : step % 4 = 0
  · rw [if_pos a, if_pos a, c_1133 h0 h1]; rfl
  · rw [if_neg a, if_neg a]
