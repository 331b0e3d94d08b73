/-- which way a kind's print shows (kinds 0 .. 5) -/
def sp_shown (k way step : Int) : Int := if k = 0 then way else if k = 1 then sp_back way else if k = 2 then sp_lame way step else if k = 3 then -1 else if k = 4 then (if step % 2 = 0 then sp_back way else way) else if k = 5 then (if sp_lame way step % 2 = 1 then sp_back (sp_lame way step) else sp_lame way step) else -1
theorem sp_back_in {a : Int} : 0 ≤ sp_back a ∧ sp_back a < 4 := by unfold sp_back; omega
theorem sp_lame_in {a s : Int} (h0 : 0 ≤ a) (h1 : a < 4) : 0 ≤ sp_lame a s ∧ sp_lame a s < 4 := by unfold sp_lame; split; exact sp_back_in; exact ⟨h0, h1⟩
theorem c_152 {sc : List Int} {d : Nat} {k way step : Int} {w : xm_W} (h0 : 0 ≤ way) (h1 : way < 4) (h2 : 0 ≤ step) : xm_X (xm_old sc) xm_mt (d + 2) 152 [.inl k, .inl way, .inl step] w = some (some (.inl (sp_shown k way step)), w) := by
  refine xm_X_of (M := xm_m152) rfl ⟨xm_EQ.eq (xb_152_0 ?_), rfl, rfl, Nat.le_of_ble_eq_true rfl, xw_hd0⟩
  refine ⟨by decide, ?_⟩
  rw [tmod_pos h2, tmod_pos h2, c_151 h0 h1]
  have back := @sp_back_in way
  unfold sp_shown
  by_cases g : step % 4 = 0
  · have gl : sp_lame way step = sp_back way := by unfold sp_lame; rw [if_pos g]
    have g2 : step % 2 = 0 := by omega
    rw [if_pos g, gl, if_pos g2, if_pos g2]
    by_cases a : k = 0
    · rw [if_pos a, if_pos a]
    rw [if_neg a, if_neg a]
    by_cases a : k = 1
    · rw [if_pos a, if_pos a]; rfl
    rw [if_neg a, if_neg a]
    by_cases a : k = 2
    · rw [if_pos a, if_pos a, if_neg (by decide)]; rfl
    rw [if_neg a, if_neg a]
    by_cases a : k = 3
    · rw [if_pos a, if_pos a]
    rw [if_neg a, if_neg a]
    by_cases a : k = 4
    · rw [if_pos a, if_pos a]; exact ⟨by decide, rfl⟩
    rw [if_neg a, if_neg a]
    by_cases a : k = 5
    · rw [if_pos a, if_pos a, if_neg (by decide)]
      show (if (sp_back way : Int) = 1 then _ else _)
      rw [c_151 back.1 back.2]
      by_cases b : sp_back way = 1
      · rw [if_pos b, if_pos (by omega)]; rfl
      rw [if_neg b]
      by_cases b : sp_back way = 3
      · rw [if_pos b, if_pos (by omega)]; rfl
      rw [if_neg b, if_neg (by omega)]
    rw [if_neg a, if_neg a]
  · have gl : sp_lame way step = way := by unfold sp_lame; rw [if_neg g]
    rw [if_neg g, gl]
    by_cases a : k = 0
    · rw [if_pos a, if_pos a]
    rw [if_neg a, if_neg a]
    by_cases a : k = 1
    · rw [if_pos a, if_pos a]; rfl
    rw [if_neg a, if_neg a]
    by_cases a : k = 2
    · rw [if_pos a, if_pos a, if_pos rfl]
    rw [if_neg a, if_neg a]
    by_cases a : k = 3
    · rw [if_pos a, if_pos a]
    rw [if_neg a, if_neg a]
    by_cases a : k = 4
    · rw [if_pos a, if_pos a]
      refine ⟨by decide, ?_⟩
      by_cases b : step % 2 = 0
      · rw [if_pos b, if_pos b]; rfl
      rw [if_neg b, if_neg b]
    rw [if_neg a, if_neg a]
    by_cases a : k = 5
    · rw [if_pos a, if_pos a, if_pos rfl]
      by_cases b : way = 1
      · rw [if_pos b, if_pos (by omega)]; rfl
      rw [if_neg b]
      by_cases b : way = 3
      · rw [if_pos b, if_pos (by omega)]; rfl
      rw [if_neg b, if_neg (by omega)]
    rw [if_neg a, if_neg a]
/-- how far two cells lie apart -/
def sp_far (a b : Int) : Int := (if a / 6 < b / 6 then b / 6 - a / 6 else a / 6 - b / 6) + (if a % 6 < b % 6 then b % 6 - a % 6 else a % 6 - b % 6)
theorem c_149 {sc : List Int} {d : Nat} {a b : Int} {w : xm_W} (h0 : 0 ≤ a) (h1 : a < 36) (h2 : 0 ≤ b) (h3 : b < 36) : xm_X (xm_old sc) xm_mt (d + 1) 149 [.inl a, .inl b] w = some (some (.inl (sp_far a b)), w) := by
  refine xm_X_of (M := xm_m149) rfl ⟨xm_EQ.eq (xb_149_0 ?_), rfl, rfl, Nat.le_of_ble_eq_true rfl, xw_hd0⟩
  refine ⟨by decide, by decide, by decide, by decide, ?_⟩
  rw [tdiv_pos h0, tdiv_pos h2, tmod_pos h0, tmod_pos h2, xm_w_id (z := a / 6) (by omega) (by omega), xm_w_id (z := b / 6) (by omega) (by omega), xm_w_id (z := a / 6 - b / 6) (by omega) (by omega), xm_w_id (z := a % 6 - b % 6) (by omega) (by omega), xm_w_id (z := 0 - (a / 6 - b / 6)) (by omega) (by omega), xm_w_id (z := 0 - (a % 6 - b % 6)) (by omega) (by omega), xm_w_id (by split <;> split <;> omega) (by split <;> split <;> omega)]
  have e : ∀ {y z : Int}, y = z → ((some (.inl y), w) : Option xm_V × xm_W) = (some (.inl z), w) := fun h => by rw [h]
  apply e
  unfold sp_far
  split <;> split <;> split <;> split <;> omega
theorem c_1177 {sc : List Int} {d : Nat} {a b : Int} {w : xm_W} (h0 : 0 ≤ a) (h1 : a < 36) (h2 : 0 ≤ b) (h3 : b < 36) : xm_X (xm_old sc) xm_mt (d + 1) 1177 [.inl a, .inl b] w = some (some (.inl (sp_far a b)), w) := by
  refine xm_X_of (M := xm_m1177) rfl ⟨xm_EQ.eq (xb_1177_0 ?_), rfl, rfl, Nat.le_of_ble_eq_true rfl, xw_hd0⟩
  refine ⟨by decide, by decide, by decide, by decide, ?_⟩
  rw [tdiv_pos h0, tdiv_pos h2, tmod_pos h0, tmod_pos h2, xm_w_id (z := a / 6) (by omega) (by omega), xm_w_id (z := b / 6) (by omega) (by omega), xm_w_id (z := a / 6 - b / 6) (by omega) (by omega), xm_w_id (z := a % 6 - b % 6) (by omega) (by omega), xm_w_id (z := -(a / 6 - b / 6)) (by omega) (by omega), xm_w_id (z := -(a % 6 - b % 6)) (by omega) (by omega)]
  rw [xm_w_id (z := -(a / 6 - b / 6) + -(a % 6 - b % 6)) (by omega) (by omega), xm_w_id (z := -(a / 6 - b / 6) + (a % 6 - b % 6)) (by omega) (by omega), xm_w_id (z := (a / 6 - b / 6) + -(a % 6 - b % 6)) (by omega) (by omega), xm_w_id (z := (a / 6 - b / 6) + (a % 6 - b % 6)) (by omega) (by omega)]
  have e : ∀ {y z : Int}, y = z → ((some (.inl y), w) : Option xm_V × xm_W) = (some (.inl z), w) := fun h => by rw [h]
  unfold sp_far
  by_cases g : a / 6 - b / 6 < 0 <;> by_cases k : a % 6 - b % 6 < 0
  · rw [if_pos g, if_pos k, if_pos (by omega), if_pos (by omega)]; apply e; omega
  · rw [if_pos g, if_neg k, if_pos (by omega), if_neg (by omega)]; apply e; omega
  · rw [if_neg g, if_pos k, if_neg (by omega), if_pos (by omega)]; apply e; omega
  · rw [if_neg g, if_neg k, if_neg (by omega), if_neg (by omega)]
