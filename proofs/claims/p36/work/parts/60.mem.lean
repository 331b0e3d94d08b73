section
/-! memory: reads and writes out of what a cell holds -/
section xw_sec
variable {o w : xm_W} {y c a : Nat} {fs : List xm_V}
theorem xw_get {x : xm_C} (h : w[y]? = some x) : xm_get o w y = some x := by
  unfold xm_get; rw [h]
theorem xw_fld (h : w[y]? = some (.inr (.inr (c, fs)))) : xm_fld o w y c a = fs[a]? := by
  unfold xm_fld; rw [xw_get h]; exact if_pos rfl
theorem xw_fi {z : Int} (h : w[y]? = some (.inr (.inr (c, fs)))) (hv : fs[a]? = some (.inl z)) : xm_fi o w y c a = some z := by
  unfold xm_fi; rw [xw_fld h, hv]
theorem xw_fr {j : Nat} (h : w[y]? = some (.inr (.inr (c, fs)))) (hv : fs[a]? = some (.inr (.inl (some j)))) : xm_fr o w y c a = some j := by
  unfold xm_fr; rw [xw_fld h, hv]
theorem xw_ints {l : List Int} (h : w[y]? = some (.inl l)) : xm_ints o w y = some l := by
  unfold xm_ints; rw [xw_get h]
theorem xw_refs {t : Nat} {l : List (Option Nat)} (h : w[y]? = some (.inr (.inl (t, l)))) : xm_refs o w y = some l := by
  unfold xm_refs; rw [xw_get h]
theorem xw_len {l : List Int} (h : w[y]? = some (.inl l)) (hl : l.length < 1000000) : xm_len o w y = some l.length := by
  unfold xm_len; rw [xw_get h]; exact if_pos hl
theorem xw_setf {t : Nat} {v : xm_V} (h : w[y]? = some (.inr (.inr (c, fs)))) (ha : a < fs.length) (hf : xm_fit t v = true) : xm_setf w y c a t v = some (w.set y (.inr (.inr (c, fs.set a v)))) := by
  unfold xm_setf; rw [h]; exact if_pos ⟨rfl, ha, hf⟩
theorem xw_seti {l : List Int} {i x : Int} (h : w[y]? = some (.inl l)) (h0 : 0 ≤ i) (h1 : i < l.length) : xm_seti w y i x = some (w.set y (.inl (l.set i.toNat x))) := by
  unfold xm_seti; rw [h]; exact if_pos ⟨h0, h1⟩
theorem xw_at {α : Type} {l : List α} {i : Int} {v : α} (h0 : 0 ≤ i) (h : l[i.toNat]? = some v) : xm_at l i = some v := by
  unfold xm_at; rw [if_pos h0]; exact h
theorem xw_atn {α : Type} {l : List α} {n : Nat} {i : Int} {v : α} (hi : i = (n : Int)) (h : l[n]? = some v) : xm_at l i = some v := by
  subst hi; exact xw_at (by omega) (by simpa using h)
theorem xw_ne {x : xm_C} {k : Nat} (h : k ≠ y) : (w.set k x)[y]? = w[y]? := List.getElem?_set_ne h
theorem xw_eq {x x0 : xm_C} (h : w[y]? = some x0) : (w.set y x)[y]? = some x := by
  have := (List.getElem?_eq_some_iff.mp h).1
  simp [this]
theorem xw_hd {as : List xm_V} {r : Nat} (h : w[y]? = some (.inr (.inr (r, fs)))) : xm_hd o w (r + 1) (.inr (.inl (some y)) :: as) := fun _ => ⟨y, rfl, fun _ => ⟨fs, xw_get h⟩⟩
theorem xw_hd0 {as : List xm_V} : xm_hd o w 0 as := fun h => absurd rfl h
end xw_sec
/-- within, in -/
theorem c_142 {sc : List Int} {d : Nat} {v l g : Int} {w : xm_W} : xm_X (xm_old sc) xm_mt (d + 1) 142 [.inl v, .inl l, .inl g] w = some (some (.inl (if l ≤ v ∧ v ≤ g then 1 else 0)), w) := by
  refine xm_X_of (M := xm_m142) rfl ⟨xm_EQ.eq (xb_142_0 ?_), ?_, rfl, Nat.le_of_ble_eq_true rfl, xw_hd0⟩
  · by_cases h1 : v < l
    · rw [if_pos h1, if_neg (by omega)]
    · by_cases h2 : g < v
      · rw [if_neg h1, if_pos h2, if_neg (by omega)]
      · rw [if_neg h1, if_neg h2, if_pos (by omega)]
  · show (_ == _ || _ == _) = true
    split <;> rfl
theorem c_1103 {sc : List Int} {d : Nat} {v l g : Int} {w : xm_W} : xm_X (xm_old sc) xm_mt (d + 1) 1103 [.inl v, .inl l, .inl g] w = some (some (.inl (if l ≤ v ∧ v ≤ g then 1 else 0)), w) := by
  refine xm_X_of (M := xm_m1103) rfl ⟨xm_EQ.eq (xb_1103_0 ?_), ?_, rfl, Nat.le_of_ble_eq_true rfl, xw_hd0⟩
  · by_cases h1 : v < l
    · rw [if_pos h1, if_neg (by omega)]
    · by_cases h2 : g < v
      · rw [if_neg h1, if_pos h2, if_neg (by omega)]
      · rw [if_neg h1, if_neg h2, if_pos (by omega)]
  · show (_ == _ || _ == _) = true
    split <;> rfl
end
section
/-! leaves: numbers alone -/
def sp_next (c way : Int) : Int := if way = 0 then (if c < 6 then -1 else c - 6) else if way = 1 then (if c % 6 < 5 then c + 1 else -1) else if way = 2 then (if c < 30 then c + 6 else -1) else (if 0 < c % 6 then c - 1 else -1)
def sp_back (way : Int) : Int := (way + 2) % 4
theorem tmod_pos {a b : Int} (h : 0 ≤ a) : a.tmod b = a % b := Int.tmod_eq_emod_of_nonneg h
theorem tdiv_pos {a b : Int} (h : 0 ≤ a) : a.tdiv b = a / b := Int.tdiv_eq_ediv_of_nonneg h
theorem c_150 {sc : List Int} {d : Nat} {c way : Int} {w : xm_W} (h0 : 0 ≤ c) (h1 : c < 36) : xm_X (xm_old sc) xm_mt (d + 1) 150 [.inl c, .inl way] w = some (some (.inl (sp_next c way)), w) := by
  refine xm_X_of (M := xm_m150) rfl ⟨xm_EQ.eq (xb_150_0 ?_), rfl, rfl, Nat.le_of_ble_eq_true rfl, xw_hd0⟩
  rw [tmod_pos h0, xm_w_id (z := c - 6) (by omega) (by omega), xm_w_id (z := c + 1) (by omega) (by omega), xm_w_id (z := c + 6) (by omega) (by omega), xm_w_id (z := c - 1) (by omega) (by omega)]
  unfold sp_next
  by_cases a : way = 0
  · rw [if_pos a, if_pos a]; split <;> rfl
  · rw [if_neg a, if_neg a]
    by_cases b : way = 1
    · rw [if_pos b, if_pos b]; exact ⟨by decide, by split <;> rfl⟩
    · rw [if_neg b, if_neg b]
      by_cases e : way = 2
      · rw [if_pos e, if_pos e]; split <;> rfl
      · rw [if_neg e, if_neg e]; exact ⟨by decide, by split <;> rfl⟩
theorem c_151 {sc : List Int} {d : Nat} {way : Int} {w : xm_W} (h0 : 0 ≤ way) (h1 : way < 4) : xm_X (xm_old sc) xm_mt (d + 1) 151 [.inl way] w = some (some (.inl (sp_back way)), w) := by
  refine xm_X_of (M := xm_m151) rfl ⟨xm_EQ.eq (xb_151_0 ?_), rfl, rfl, Nat.le_of_ble_eq_true rfl, xw_hd0⟩
  rw [xm_w_id (by omega) (by omega), tmod_pos (by omega)]
  exact ⟨by decide, rfl⟩
end
section
theorem c_1139 {sc : List Int} {d : Nat} {c way : Int} {w : xm_W} (h0 : 0 ≤ c) (h1 : c < 36) : xm_X (xm_old sc) xm_mt (d + 1) 1139 [.inl c, .inl way] w = some (some (.inl (sp_next c way)), w) := by
  refine xm_X_of (M := xm_m1139) rfl ⟨xm_EQ.eq (xb_1139_0 ?_), rfl, rfl, Nat.le_of_ble_eq_true rfl, xw_hd0⟩
  rw [tmod_pos h0, xm_w_id (z := c - 6) (by omega) (by omega), xm_w_id (z := c + 1) (by omega) (by omega), xm_w_id (z := c + 6) (by omega) (by omega), xm_w_id (z := c - 1) (by omega) (by omega)]
  unfold sp_next
  by_cases a : way = 0
  · rw [if_pos a, if_pos a]; split <;> rfl
  · rw [if_neg a, if_neg a]
    by_cases b : way = 1
    · rw [if_pos b, if_pos b]
      refine ⟨by decide, ?_⟩
      by_cases g : c % 6 = 5
      · rw [if_pos g, if_neg (by omega)]
      · rw [if_neg g, if_pos (by omega)]
    · rw [if_neg b, if_neg b]
      by_cases e : way = 2
      · rw [if_pos e, if_pos e]
        by_cases g : c + 6 < 36
        · rw [if_pos g, if_pos (by omega)]
        · rw [if_neg g, if_neg (by omega)]
      · rw [if_neg e, if_neg e]
        refine ⟨by decide, ?_⟩
        by_cases g : c % 6 = 0
        · rw [if_pos g, if_neg (by omega)]
        · rw [if_neg g, if_pos (by omega)]
theorem c_1133 {sc : List Int} {d : Nat} {way : Int} {w : xm_W} (h0 : 0 ≤ way) (h1 : way < 4) : xm_X (xm_old sc) xm_mt (d + 1) 1133 [.inl way] w = some (some (.inl (sp_back way)), w) := by
  refine xm_X_of (M := xm_m1133) rfl ⟨xm_EQ.eq (xb_1133_0 ?_), rfl, rfl, Nat.le_of_ble_eq_true rfl, xw_hd0⟩
  rw [xm_w_id (by omega) (by omega), tmod_pos (by omega)]
  exact ⟨by decide, rfl⟩
theorem c_143 {sc : List Int} {d : Nat} {c : Int} {w : xm_W} : xm_X (xm_old sc) xm_mt (d + 2) 143 [.inl c] w = some (some (.inl (if 0 ≤ c ∧ c ≤ 35 then 1 else 0)), w) := by
  refine xm_X_of (M := xm_m143) rfl ⟨xm_EQ.eq (xb_143_0 ?_), ?_, rfl, Nat.le_of_ble_eq_true rfl, xw_hd0⟩
  · rw [c_142]; rfl
  · show (_ == _ || _ == _) = true
    split <;> rfl
theorem c_1108 {sc : List Int} {d : Nat} {c : Int} {w : xm_W} : xm_X (xm_old sc) xm_mt (d + 2) 1108 [.inl c] w = some (some (.inl (if 0 ≤ c ∧ c ≤ 35 then 1 else 0)), w) := by
  refine xm_X_of (M := xm_m1108) rfl ⟨xm_EQ.eq (xb_1108_0 ?_), ?_, rfl, Nat.le_of_ble_eq_true rfl, xw_hd0⟩
  · rw [c_1103]; rfl
  · show (_ == _ || _ == _) = true
    split <;> rfl
end
section
/-- how deep a print is, of kind, load and the ground's ten -/
def sp_deep (k l s : Int) : Int := if k = 2 then s / 10 + 1 + l else if k = 3 then 0 else if k = 4 then (s / 10 + 1) * 2 else if k = 5 then (s / 10 + 1 + l) / 2 else s / 10 + 1
theorem c_153 {sc : List Int} {d : Nat} {k l s : Int} {w : xm_W} (h0 : 0 ≤ s) (h1 : s ≤ 1000000) (h2 : 0 ≤ l) (h3 : l ≤ 1000000) : xm_X (xm_old sc) xm_mt (d + 1) 153 [.inl k, .inl l, .inl s] w = some (some (.inl (sp_deep k l s)), w) := by
  refine xm_X_of (M := xm_m153) rfl ⟨xm_EQ.eq (xb_153_0 ?_), rfl, rfl, Nat.le_of_ble_eq_true rfl, xw_hd0⟩
  refine ⟨by decide, ?_⟩
  rw [tdiv_pos h0, xm_w_id (z := s / 10) (by omega) (by omega), xm_w_id (z := s / 10 + 1) (by omega) (by omega), xm_w_id (z := s / 10 + 1 + l) (by omega) (by omega), xm_w_id (z := (s / 10 + 1) * 2) (by omega) (by omega), tdiv_pos (by omega), xm_w_id (z := (s / 10 + 1 + l) / 2) (by omega) (by omega)]
  unfold sp_deep
  by_cases a : k = 2
  · rw [if_pos a, if_pos a]
  · rw [if_neg a, if_neg a]
    by_cases b : k = 3
    · rw [if_pos b, if_pos b]
    · rw [if_neg b, if_neg b]
      by_cases c : k = 4
      · rw [if_pos c, if_pos c]
      · rw [if_neg c, if_neg c]
        by_cases e : k = 5
        · rw [if_pos e, if_pos e]; exact ⟨by decide, rfl⟩
        · rw [if_neg e, if_neg e]
theorem c_1137 {sc : List Int} {d : Nat} {k l s : Int} {w : xm_W} (h0 : 0 ≤ s) (h1 : s ≤ 1000000) (h2 : 0 ≤ l) (h3 : l ≤ 1000000) : xm_X (xm_old sc) xm_mt (d + 1) 1137 [.inl k, .inl l, .inl s] w = some (some (.inl (sp_deep k l s)), w) := by
  refine xm_X_of (M := xm_m1137) rfl ⟨xm_EQ.eq (xb_1137_0 ?_), rfl, rfl, Nat.le_of_ble_eq_true rfl, xw_hd0⟩
  refine ⟨by decide, ?_⟩
  rw [tdiv_pos h0, xm_w_id (z := s / 10) (by omega) (by omega), xm_w_id (z := s / 10 + 1) (by omega) (by omega), xm_w_id (z := s / 10 + 1 + l) (by omega) (by omega), xm_w_id (z := 2 * (s / 10 + 1)) (by omega) (by omega), tdiv_pos (by omega), xm_w_id (z := (s / 10 + 1 + l) / 2) (by omega) (by omega), Int.mul_comm 2]
  unfold sp_deep
  by_cases a : k = 2
  · rw [if_pos a, if_pos a]
  · rw [if_neg a, if_neg a]
    by_cases b : k = 3
    · rw [if_pos b, if_pos b]
    · rw [if_neg b, if_neg b]
      by_cases c : k = 4
      · rw [if_pos c, if_pos c]
      · rw [if_neg c, if_neg c]
        by_cases e : k = 5
        · rw [if_pos e, if_pos e]; exact ⟨by decide, rfl⟩
        · rw [if_neg e, if_neg e]
/-- lame in every fourth step -/
def sp_lame (way step : Int) : Int := if step % 4 = 0 then sp_back way else way
theorem c_1135 {sc : List Int} {d : Nat} {way step : Int} {w : xm_W} (h0 : 0 ≤ way) (h1 : way < 4) (h2 : 0 ≤ step) : xm_X (xm_old sc) xm_mt (d + 2) 1135 [.inl way, .inl step] w = some (some (.inl (sp_lame way step)), w) := by
  refine xm_X_of (M := xm_m1135) rfl ⟨xm_EQ.eq (xb_1135_0 ?_), rfl, rfl, Nat.le_of_ble_eq_true rfl, xw_hd0⟩
  refine ⟨by decide, ?_⟩
  rw [tmod_pos h2]
  unfold sp_lame
  by_cases a : step % 4 = 0
  · rw [if_pos a, if_pos a, c_1133 h0 h1]; rfl
  · rw [if_neg a, if_neg a]
end
section
/-- which way a kind's print shows (kinds 0 .. 5) -/
def sp_shown (k way step : Int) : Int := if k = 0 then way else if k = 1 then sp_back way else if k = 2 then sp_lame way step else if k = 3 then -1 else if k = 4 then (if step % 2 = 0 then sp_back way else way) else if k = 5 then (if sp_lame way step % 2 = 1 then sp_back (sp_lame way step) else sp_lame way step) else -1
theorem sp_back_in {a : Int} : 0 ≤ sp_back a ∧ sp_back a < 4 := by unfold sp_back; omega
theorem sp_lame_in {a s : Int} (h0 : 0 ≤ a) (h1 : a < 4) : 0 ≤ sp_lame a s ∧ sp_lame a s < 4 := by unfold sp_lame; split; exact sp_back_in; exact ⟨h0, h1⟩
theorem c_152 {sc : List Int} {d : Nat} {k way step : Int} {w : xm_W} (h0 : 0 ≤ way) (h1 : way < 4) (h2 : 0 ≤ step) : xm_X (xm_old sc) xm_mt (d + 2) 152 [.inl k, .inl way, .inl step] w = some (some (.inl (sp_shown k way step)), w) := by
  refine xm_X_of (M := xm_m152) rfl ⟨xm_EQ.eq (xb_152_0 ?_), rfl, rfl, Nat.le_of_ble_eq_true rfl, xw_hd0⟩
  refine ⟨by decide, ?_⟩
  rw [tmod_pos h2, tmod_pos h2, c_151 h0 h1]
  have back := @sp_back_in way
  unfold sp_shown
  by_cases g : step % 4 = 0
  · have gl : sp_lame way step = sp_back way := by unfold sp_lame; rw [if_pos g]
    have g2 : step % 2 = 0 := by omega
    rw [if_pos g, gl, if_pos g2, if_pos g2]
    by_cases a : k = 0
    · rw [if_pos a, if_pos a]
    rw [if_neg a, if_neg a]
    by_cases a : k = 1
    · rw [if_pos a, if_pos a]; rfl
    rw [if_neg a, if_neg a]
    by_cases a : k = 2
    · rw [if_pos a, if_pos a, if_neg (by decide)]; rfl
    rw [if_neg a, if_neg a]
    by_cases a : k = 3
    · rw [if_pos a, if_pos a]
    rw [if_neg a, if_neg a]
    by_cases a : k = 4
    · rw [if_pos a, if_pos a]; exact ⟨by decide, rfl⟩
    rw [if_neg a, if_neg a]
    by_cases a : k = 5
    · rw [if_pos a, if_pos a, if_neg (by decide)]
      show (if (sp_back way : Int) = 1 then _ else _)
      rw [c_151 back.1 back.2]
      by_cases b : sp_back way = 1
      · rw [if_pos b, if_pos (by omega)]; rfl
      rw [if_neg b]
      by_cases b : sp_back way = 3
      · rw [if_pos b, if_pos (by omega)]; rfl
      rw [if_neg b, if_neg (by omega)]
    rw [if_neg a, if_neg a]
  · have gl : sp_lame way step = way := by unfold sp_lame; rw [if_neg g]
    rw [if_neg g, gl]
    by_cases a : k = 0
    · rw [if_pos a, if_pos a]
    rw [if_neg a, if_neg a]
    by_cases a : k = 1
    · rw [if_pos a, if_pos a]; rfl
    rw [if_neg a, if_neg a]
    by_cases a : k = 2
    · rw [if_pos a, if_pos a, if_pos rfl]
    rw [if_neg a, if_neg a]
    by_cases a : k = 3
    · rw [if_pos a, if_pos a]
    rw [if_neg a, if_neg a]
    by_cases a : k = 4
    · rw [if_pos a, if_pos a]
      refine ⟨by decide, ?_⟩
      by_cases b : step % 2 = 0
      · rw [if_pos b, if_pos b]; rfl
      rw [if_neg b, if_neg b]
    rw [if_neg a, if_neg a]
    by_cases a : k = 5
    · rw [if_pos a, if_pos a, if_pos rfl]
      by_cases b : way = 1
      · rw [if_pos b, if_pos (by omega)]; rfl
      rw [if_neg b]
      by_cases b : way = 3
      · rw [if_pos b, if_pos (by omega)]; rfl
      rw [if_neg b, if_neg (by omega)]
    rw [if_neg a, if_neg a]
/-- how far two cells lie apart -/
def sp_far (a b : Int) : Int := (if a / 6 < b / 6 then b / 6 - a / 6 else a / 6 - b / 6) + (if a % 6 < b % 6 then b % 6 - a % 6 else a % 6 - b % 6)
theorem c_149 {sc : List Int} {d : Nat} {a b : Int} {w : xm_W} (h0 : 0 ≤ a) (h1 : a < 36) (h2 : 0 ≤ b) (h3 : b < 36) : xm_X (xm_old sc) xm_mt (d + 1) 149 [.inl a, .inl b] w = some (some (.inl (sp_far a b)), w) := by
  refine xm_X_of (M := xm_m149) rfl ⟨xm_EQ.eq (xb_149_0 ?_), rfl, rfl, Nat.le_of_ble_eq_true rfl, xw_hd0⟩
  refine ⟨by decide, by decide, by decide, by decide, ?_⟩
  rw [tdiv_pos h0, tdiv_pos h2, tmod_pos h0, tmod_pos h2, xm_w_id (z := a / 6) (by omega) (by omega), xm_w_id (z := b / 6) (by omega) (by omega), xm_w_id (z := a / 6 - b / 6) (by omega) (by omega), xm_w_id (z := a % 6 - b % 6) (by omega) (by omega), xm_w_id (z := 0 - (a / 6 - b / 6)) (by omega) (by omega), xm_w_id (z := 0 - (a % 6 - b % 6)) (by omega) (by omega), xm_w_id (by split <;> split <;> omega) (by split <;> split <;> omega)]
  have e : ∀ {y z : Int}, y = z → ((some (.inl y), w) : Option xm_V × xm_W) = (some (.inl z), w) := fun h => by rw [h]
  apply e
  unfold sp_far
  split <;> split <;> split <;> split <;> omega
theorem c_1177 {sc : List Int} {d : Nat} {a b : Int} {w : xm_W} (h0 : 0 ≤ a) (h1 : a < 36) (h2 : 0 ≤ b) (h3 : b < 36) : xm_X (xm_old sc) xm_mt (d + 1) 1177 [.inl a, .inl b] w = some (some (.inl (sp_far a b)), w) := by
  refine xm_X_of (M := xm_m1177) rfl ⟨xm_EQ.eq (xb_1177_0 ?_), rfl, rfl, Nat.le_of_ble_eq_true rfl, xw_hd0⟩
  refine ⟨by decide, by decide, by decide, by decide, ?_⟩
  rw [tdiv_pos h0, tdiv_pos h2, tmod_pos h0, tmod_pos h2, xm_w_id (z := a / 6) (by omega) (by omega), xm_w_id (z := b / 6) (by omega) (by omega), xm_w_id (z := a / 6 - b / 6) (by omega) (by omega), xm_w_id (z := a % 6 - b % 6) (by omega) (by omega), xm_w_id (z := -(a / 6 - b / 6)) (by omega) (by omega), xm_w_id (z := -(a % 6 - b % 6)) (by omega) (by omega)]
  rw [xm_w_id (z := -(a / 6 - b / 6) + -(a % 6 - b % 6)) (by omega) (by omega), xm_w_id (z := -(a / 6 - b / 6) + (a % 6 - b % 6)) (by omega) (by omega), xm_w_id (z := (a / 6 - b / 6) + -(a % 6 - b % 6)) (by omega) (by omega), xm_w_id (z := (a / 6 - b / 6) + (a % 6 - b % 6)) (by omega) (by omega)]
  have e : ∀ {y z : Int}, y = z → ((some (.inl y), w) : Option xm_V × xm_W) = (some (.inl z), w) := fun h => by rw [h]
  unfold sp_far
  by_cases g : a / 6 - b / 6 < 0 <;> by_cases k : a % 6 - b % 6 < 0
  · rw [if_pos g, if_pos k, if_pos (by omega), if_pos (by omega)]; apply e; omega
  · rw [if_pos g, if_neg k, if_pos (by omega), if_neg (by omega)]; apply e; omega
  · rw [if_neg g, if_pos k, if_neg (by omega), if_pos (by omega)]; apply e; omega
  · rw [if_neg g, if_neg k, if_neg (by omega), if_neg (by omega)]
end
section
/-- two numbers joined by a sign -/
def sp_join (o a b : Int) : Int := if o = 37 then (if b = 0 then 0 else a.tmod b) else if o = 38 then (if a = 0 then 0 else if b = 0 then 0 else 1) else if o = 42 then xm_w (a * b) else if o = 43 then xm_w (a + b) else if o = 45 then xm_w (a - b) else if o = 47 then (if b = 0 then 0 else xm_w (a.tdiv b)) else if o = 60 then (if a < b then 1 else 0) else if o = 61 then (if a = b then 1 else 0) else if o = 62 then (if b < a then 1 else 0) else (if a = 0 then (if b = 0 then 0 else 1) else 1)
def sp_sign (o : Int) : Prop := o = 37 ∨ o = 38 ∨ o = 42 ∨ o = 43 ∨ o = 45 ∨ o = 47 ∨ o = 60 ∨ o = 61 ∨ o = 62 ∨ o = 124
theorem c_903 {sc : List Int} {d : Nat} {o a b : Int} {w : xm_W} (ho : sp_sign o) : xm_X (xm_old sc) xm_mt (d + 1) 903 [.inl o, .inl a, .inl b] w = some (some (.inl (sp_join o a b)), w) := by
  refine xm_X_of (M := xm_m903) rfl ⟨xm_EQ.eq (xb_903_0 ?_), rfl, rfl, Nat.le_of_ble_eq_true rfl, xw_hd0⟩
  unfold sp_sign at ho
  rcases ho with h | h | h | h | h | h | h | h | h | h <;> subst h <;> simp only [sp_join, reduceIte, Int.reduceEq]
  · by_cases h : b = 0
    · rw [if_pos h, if_pos h]
    · rw [if_neg h, if_neg h]; exact ⟨h, rfl⟩
  · split
    · rfl
    · split <;> rfl
  · by_cases h : b = 0
    · rw [if_pos h, if_pos h]
    · rw [if_neg h, if_neg h]; exact ⟨h, rfl⟩
  · split <;> rfl
  · split <;> rfl
  · split <;> rfl
  · split
    · split <;> rfl
    · rfl
theorem c_1128 {sc : List Int} {d : Nat} {o a b : Int} {w : xm_W} (ho : sp_sign o) : xm_X (xm_old sc) xm_mt (d + 1) 1128 [.inl o, .inl a, .inl b] w = some (some (.inl (sp_join o a b)), w) := by
  refine xm_X_of (M := xm_m1128) rfl ⟨xm_EQ.eq (xb_1128_0 ?_), rfl, rfl, Nat.le_of_ble_eq_true rfl, xw_hd0⟩
  unfold sp_sign at ho
  rcases ho with h | h | h | h | h | h | h | h | h | h <;> subst h <;> simp only [sp_join, reduceIte, Int.reduceEq]
  · by_cases h : b = 0
    · rw [if_pos h, if_pos h]
    · rw [if_neg h, if_neg h]
      by_cases g : b = -1
      · rw [if_pos g, g, Int.tmod_neg, Int.tmod_one]
      · rw [if_neg g]; exact ⟨h, rfl⟩
  · split
    · rfl
    · split <;> rfl
  · by_cases h : b = 0
    · rw [if_pos h, if_pos h]
    · rw [if_neg h, if_neg h]
      by_cases g : b = -1
      · rw [if_pos g, g, Int.tdiv_neg, Int.tdiv_one]
      · rw [if_neg g]; exact ⟨h, rfl⟩
  · split <;> rfl
  · split <;> rfl
  · split <;> rfl
  · split
    · split <;> rfl
    · rfl
/-- is a kind another or under it -/
def sp_under (a b : Int) : Int := if b = 0 ∨ a = b ∨ (b = 1 ∧ a = 4) ∨ (b = 2 ∧ a = 5) then 1 else 0
theorem xw_ans {w : xm_W} {y z : Int} (h : y = z) : ((some (.inl y), w) : Option xm_V × xm_W) = (some (.inl z), w) := by rw [h]
theorem c_1146 {sc : List Int} {d : Nat} {a b : Int} {w : xm_W} : xm_X (xm_old sc) xm_mt (d + 1) 1146 [.inl a, .inl b] w = some (some (.inl (sp_under a b)), w) := by
  refine xm_X_of (M := xm_m1146) rfl ⟨xm_EQ.eq (xb_1146_0 ?_), ?_, rfl, Nat.le_of_ble_eq_true rfl, xw_hd0⟩
  · unfold sp_under
    split
    · apply xw_ans; rw [if_pos (by omega)]
    · split
      · apply xw_ans; rw [if_pos (by omega)]
      · split
        · split
          · apply xw_ans; rw [if_pos (by omega)]
          · split
            · split
              · apply xw_ans; rw [if_pos (by omega)]
              · apply xw_ans; rw [if_neg (by omega)]
            · apply xw_ans; rw [if_neg (by omega)]
        · split
          · split
            · apply xw_ans; rw [if_pos (by omega)]
            · apply xw_ans; rw [if_neg (by omega)]
          · apply xw_ans; rw [if_neg (by omega)]
  · show (_ == _ || _ == _) = true
    unfold sp_under
    split <;> rfl
theorem xo_get {sc : List Int} {w : xm_W} {k : Nat} (hw : w.length < 1000000) : xm_get (xm_old sc) w (1000000 + k) = (xm_old sc)[k]? := by
  unfold xm_get
  rw [List.getElem?_eq_none (by omega)]
  show (if 1000000 + k < 1000000 then none else (xm_old sc)[1000000 + k - 1000000]?) = _
  rw [if_neg (by omega), Nat.add_sub_cancel_left]
theorem xo_ints {sc : List Int} {w : xm_W} {k : Nat} {l : List Int} (hw : w.length < 1000000) (h : (xm_old sc)[k]? = some (.inl l)) : xm_ints (xm_old sc) w (1000000 + k) = some l := by
  unfold xm_ints; rw [xo_get hw, h]
theorem xo_above {sc : List Int} {w : xm_W} (hw : w.length < 1000000) : xm_ints (xm_old sc) w 1000000 = some xm_st0 := xo_ints (k := 0) hw rfl
theorem xo_bodies {sc : List Int} {w : xm_W} (hw : w.length < 1000000) : xm_ints (xm_old sc) w 1000001 = some xm_st1 := xo_ints (k := 1) hw rfl
end
section
/-! THE WORLD of one object of the class and one of the reference as numbers alone: cell c, place k: mu c k -/
def yy_R (n : Nat) (f : Nat → Int) : List Int := (List.range n).map f
def yy_u (f : Nat → Int) (i : Nat) (v : Int) : Nat → Int := fun k => if k = i then v else f k
def yy_c (m : Nat → Nat → Int) (c : Nat) (f : Nat → Int) : Nat → Nat → Int := fun k => if k = c then f else m k
def yy_s (m : Nat → Nat → Int) (c i : Nat) (v : Int) : Nat → Nat → Int := yy_c m c (yy_u (m c) i v)
def yy_d (z : Int) : Option Nat := if z = 0 then none else some (z - 1).toNat
def yy_v (f : Nat → Int) (a : Nat) (k : Nat) : xm_V := match k with
  | 0 => .inl (f a)
  | 1 => .inr (.inl (yy_d (f a)))
  | r + 2 => .inr (.inl (some r))
def yy_q (f : Nat → Int) (a : Nat) (k : Nat) : Option Nat := match k with
  | 0 => none
  | 1 => yy_d (f a)
  | r + 2 => some r
def yy_vs (f : Nat → Int) : Nat → List Nat → List xm_V
  | _, [] => []
  | a, k :: l => yy_v f a k :: yy_vs f (a + 1) l
def yy_qs (f : Nat → Int) : Nat → List Nat → List (Option Nat)
  | _, [] => []
  | a, k :: l => yy_q f a k :: yy_qs f (a + 1) l
def yy_cel (s : Nat × List Nat) (f : Nat → Int) : xm_C := match s with
  | (0, l) => .inl (yy_R (l.headD 0) f)
  | (k + 1, l) => if k < 49 then .inr (.inr (k, yy_vs f 0 l)) else .inr (.inl (k - 49, yy_qs f 0 l))
def yy_g (m : Nat → Nat → Int) : Nat → List (Nat × List Nat) → xm_W
  | _, [] => []
  | c, s :: l => yy_cel s (m c) :: yy_g m (c + 1) l
def yy_lay : List (Nat × List Nat) := [(9, [3, 20, 37, 40, 57, 0, 60, 63, 65, 66, 67]), (3, [4, 0, 0, 5, 0, 6, 0, 7, 8, 9]), (0, [36]), (54, [10, 12, 14, 16, 18]), (0, [200]), (57, [1, 1]), (0, [4]), (0, [60]), (5, [0, 0, 0, 0, 0, 0, 11]), (0, [12]), (5, [0, 0, 0, 0, 0, 0, 13]), (0, [12]), (5, [0, 0, 0, 0, 0, 0, 15]), (0, [12]), (5, [0, 0, 0, 0, 0, 0, 17]), (0, [12]), (5, [0, 0, 0, 0, 0, 0, 19]), (0, [12]), (3, [21, 0, 0, 22, 0, 23, 0, 24, 25, 26]), (0, [36]), (54, [27, 29, 31, 33, 35]), (0, [200]), (57, [1, 1]), (0, [4]), (0, [60]), (5, [0, 0, 0, 0, 0, 0, 28]), (0, [12]), (5, [0, 0, 0, 0, 0, 0, 30]), (0, [12]), (5, [0, 0, 0, 0, 0, 0, 32]), (0, [12]), (5, [0, 0, 0, 0, 0, 0, 34]), (0, [12]), (5, [0, 0, 0, 0, 0, 0, 36]), (0, [12]), (2, [38, 0, 39, 0, 0]), (0, [60]), (0, [24]), (3, [41, 0, 0, 42, 0, 43, 0, 44, 45, 46]), (0, [36]), (54, [47, 49, 51, 53, 55]), (0, [200]), (57, [1, 1]), (0, [4]), (0, [60]), (5, [0, 0, 0, 0, 0, 0, 48]), (0, [12]), (5, [0, 0, 0, 0, 0, 0, 50]), (0, [12]), (5, [0, 0, 0, 0, 0, 0, 52]), (0, [12]), (5, [0, 0, 0, 0, 0, 0, 54]), (0, [12]), (5, [0, 0, 0, 0, 0, 0, 56]), (0, [12]), (2, [58, 0, 59, 0, 0]), (0, [60]), (0, [24]), (4, [1, 0, 1, 0, 62, 0]), (0, [0]), (0, [60]), (7, [64, 0, 0, 0, 0]), (0, [30]), (1, [0, 0, 0, 0, 0]), (55, [68, 70, 72, 74]), (0, [7]), (6, [0, 0, 69]), (0, [24]), (6, [0, 0, 71]), (0, [24]), (6, [0, 0, 73]), (0, [24]), (6, [0, 0, 75]), (0, [24]), (10, [77, 78, 79, 0, 0, 80, 0, 0, 0, 0, 81, 82, 83, 0, 84, 0, 0, 0, 85, 86, 87, 88]), (0, [673]), (0, [673]), (0, [339]), (0, [7]), (0, [124]), (0, [128]), (0, [64]), (0, [30]), (0, [4]), (0, [4]), (0, [96]), (0, [24])]
def yy_W (m : Nat → Nat → Int) (t : xm_W) : xm_W := yy_g m 0 yy_lay ++ t
section yy_sec
variable {o : xm_W} {m : Nat → Nat → Int} {t : xm_W} {f g : Nat → Int} {c k a n i : Nat} {l : List Nat} {v : Int}
theorem yy_R_len : (yy_R n f).length = n := by unfold yy_R; simp
theorem yy_R_get (h : k < n) : (yy_R n f)[k]? = some (f k) := by unfold yy_R; simp [h]
theorem yy_R_ext {l : List Int} (h : l.length = n) (h2 : ∀ k, k < n → l[k]? = some (f k)) : l = yy_R n f := by
  apply List.ext_getElem?
  intro j
  by_cases hj : j < n
  · rw [h2 j hj, yy_R_get hj]
  · rw [List.getElem?_eq_none (by omega), List.getElem?_eq_none (by rw [yy_R_len]; omega)]
theorem yy_R_congr (h : ∀ k, k < n → f k = g k) : yy_R n f = yy_R n g := yy_R_ext yy_R_len fun k hk => by rw [yy_R_get hk, h k hk]
theorem yy_R_set : (yy_R n f).set i v = yy_R n (yy_u f i v) := by
  refine yy_R_ext (by rw [List.length_set, yy_R_len]) fun k hk => ?_
  unfold yy_u
  by_cases e : k = i
  · subst e; rw [if_pos rfl, List.getElem?_set_self (by rw [yy_R_len]; exact hk)]
  · rw [if_neg e, List.getElem?_set_ne (fun h => e h.symm), yy_R_get hk]
theorem yy_R_zero : List.replicate n 0 = yy_R n (fun _ => 0) := yy_R_ext List.length_replicate fun k hk => by rw [List.getElem?_replicate, if_pos hk]
theorem yy_at {z : Int} (h0 : 0 ≤ z) (h1 : z < n) : xm_at (yy_R n f) z = some (f z.toNat) := by
  unfold xm_at; rw [if_pos h0, yy_R_get (by omega)]
theorem yy_u_eq : yy_u f i v i = v := if_pos rfl
theorem yy_u_ne (h : k ≠ i) : yy_u f i v k = f k := if_neg h
theorem yy_u_id : yy_u f i (f i) = f := by
  funext k; unfold yy_u; split
  · rename_i h; rw [h]
  · rfl
theorem yy_c_eq : yy_c m c f c = f := if_pos rfl
theorem yy_c_ne (h : k ≠ c) : yy_c m c f k = m k := if_neg h
theorem yy_c_id : yy_c m c (m c) = m := by
  funext k; unfold yy_c; split
  · rename_i h; rw [h]
  · rfl
theorem yy_c_c : yy_c (yy_c m c f) c g = yy_c m c g := by
  funext k; unfold yy_c; split <;> rfl
theorem yy_s_eq : yy_s m c i v c = yy_u (m c) i v := yy_c_eq
theorem yy_s_ne (h : k ≠ c) : yy_s m c i v k = m k := yy_c_ne h
theorem yy_s_s {v' : Int} {i' : Nat} : yy_s (yy_s m c i v) c i' v' = yy_c m c (yy_u (yy_u (m c) i v) i' v') := by
  unfold yy_s; rw [yy_c_c, yy_c_eq]
theorem yy_vs_len : ∀ (l : List Nat) (a : Nat), (yy_vs f a l).length = l.length
  | [], _ => rfl
  | _ :: l, a => by show (yy_vs f (a + 1) l).length + 1 = _; rw [yy_vs_len l]; rfl
theorem yy_vs_get : ∀ (l : List Nat) (b a : Nat), (yy_vs f b l)[a]? = (l[a]?).map (yy_v f (b + a))
  | [], _, _ => rfl
  | k :: l, b, 0 => rfl
  | k :: l, b, a + 1 => by
    show (yy_vs f (b + 1) l)[a]? = _
    rw [yy_vs_get l, show b + 1 + a = b + (a + 1) by omega]; rfl
theorem yy_v_u (h : k ≠ i) (e : Nat) : yy_v (yy_u f i v) k e = yy_v f k e := by
  unfold yy_v; rw [yy_u_ne h]
theorem yy_vs_set {x : xm_V} (h : ∀ e, l[a]? = some e → x = yy_v (yy_u f a v) a e) : (yy_vs f 0 l).set a x = yy_vs (yy_u f a v) 0 l := by
  apply List.ext_getElem?
  intro j
  rw [List.getElem?_set, yy_vs_get, yy_vs_get, yy_vs_len]
  by_cases e : a = j
  · subst e
    rw [if_pos rfl, Nat.zero_add]
    by_cases q : a < l.length
    · rw [if_pos q, List.getElem?_eq_getElem q, h _ (List.getElem?_eq_getElem q)]; rfl
    · rw [if_neg q, List.getElem?_eq_none (by omega)]; rfl
  · rw [if_neg e, Nat.zero_add]
    cases l[j]? with
    | none => rfl
    | some y => show some _ = some _; rw [yy_v_u (fun h => e h.symm)]
theorem yy_qs_len : ∀ (l : List Nat) (a : Nat), (yy_qs f a l).length = l.length
  | [], _ => rfl
  | _ :: l, a => by show (yy_qs f (a + 1) l).length + 1 = _; rw [yy_qs_len l]; rfl
theorem yy_qs_get : ∀ (l : List Nat) (b a : Nat), (yy_qs f b l)[a]? = (l[a]?).map (yy_q f (b + a))
  | [], _, _ => rfl
  | k :: l, b, 0 => rfl
  | k :: l, b, a + 1 => by
    show (yy_qs f (b + 1) l)[a]? = _
    rw [yy_qs_get l, show b + 1 + a = b + (a + 1) by omega]; rfl
theorem yy_q_u (h : k ≠ i) (e : Nat) : yy_q (yy_u f i v) k e = yy_q f k e := by
  unfold yy_q; rw [yy_u_ne h]
theorem yy_qs_set {x : Option Nat} (h : ∀ e, l[a]? = some e → x = yy_q (yy_u f a v) a e) : (yy_qs f 0 l).set a x = yy_qs (yy_u f a v) 0 l := by
  apply List.ext_getElem?
  intro j
  rw [List.getElem?_set, yy_qs_get, yy_qs_get, yy_qs_len]
  by_cases e : a = j
  · subst e
    rw [if_pos rfl, Nat.zero_add]
    by_cases q : a < l.length
    · rw [if_pos q, List.getElem?_eq_getElem q, h _ (List.getElem?_eq_getElem q)]; rfl
    · rw [if_neg q, List.getElem?_eq_none (by omega)]; rfl
  · rw [if_neg e, Nat.zero_add]
    cases l[j]? with
    | none => rfl
    | some y => show some _ = some _; rw [yy_q_u (fun h => e h.symm)]
theorem yy_g_len : ∀ (l : List (Nat × List Nat)) (b : Nat), (yy_g m b l).length = l.length
  | [], _ => rfl
  | _ :: l, b => by show (yy_g m (b + 1) l).length + 1 = _; rw [yy_g_len l]; rfl
theorem yy_g_get : ∀ (l : List (Nat × List Nat)) (b c : Nat), (yy_g m b l)[c]? = (l[c]?).map (fun s => yy_cel s (m (b + c)))
  | [], _, _ => rfl
  | s :: l, b, 0 => rfl
  | s :: l, b, c + 1 => by
    show (yy_g m (b + 1) l)[c]? = _
    rw [yy_g_get l, show b + 1 + c = b + (c + 1) by omega]; rfl
theorem yy_lay_len : yy_lay.length = 87 := rfl
theorem yy_W_len : (yy_W m t).length = 87 + t.length := by
  unfold yy_W; rw [List.length_append, yy_g_len, yy_lay_len]
theorem yy_get {s : Nat × List Nat} (h : yy_lay[c]? = some s) : (yy_W m t)[c]? = some (yy_cel s (m c)) := by
  have hc := (List.getElem?_eq_some_iff.mp h).1
  unfold yy_W
  rw [List.getElem?_append_left (by rw [yy_g_len]; exact hc), yy_g_get, h, Nat.zero_add]; rfl
theorem yy_ge (h : 87 ≤ c) : (yy_W m t)[c]? = t[c - 87]? := by
  unfold yy_W
  rw [List.getElem?_append_right (by rw [yy_g_len]; exact h), yy_g_len]; rfl
theorem yy_set {s : Nat × List Nat} (h : yy_lay[c]? = some s) : (yy_W m t).set c (yy_cel s f) = yy_W (yy_c m c f) t := by
  have hc := (List.getElem?_eq_some_iff.mp h).1
  have hc : c < 87 := hc
  apply List.ext_getElem?
  intro j
  rw [List.getElem?_set]
  by_cases e : c = j
  · subst e
    rw [if_pos rfl, if_pos (by rw [yy_W_len]; omega), yy_get h, yy_c_eq]
  · rw [if_neg e]
    by_cases q : j < 87
    · have hj : yy_lay[j]? = some (yy_lay[j]'q) := List.getElem?_eq_getElem q
      rw [yy_get hj, yy_get hj, yy_c_ne (fun h => e h.symm)]
    · rw [yy_ge (by omega), yy_ge (by omega)]
theorem yy_cg (h : ∀ c, c < 87 → ∀ k, m c k = (fun _ _ => (0 : Int)) c k) : True := trivial
theorem yy_cel_o (hk : k < 49) : yy_cel (k + 1, l) f = .inr (.inr (k, yy_vs f 0 l)) := if_pos hk
theorem yy_cel_q (hk : ¬ k < 49) : yy_cel (k + 1, l) f = .inr (.inl (k - 49, yy_qs f 0 l)) := if_neg hk
theorem yy_fi (h : yy_lay[c]? = some (k + 1, l)) (hk : k < 49) (ha : l[a]? = some 0) : xm_fi o (yy_W m t) c k a = some (m c a) :=
  xw_fi ((yy_get h).trans (congrArg some (yy_cel_o hk))) (by rw [yy_vs_get, ha, Nat.zero_add]; rfl)
theorem yy_fr {r : Nat} (h : yy_lay[c]? = some (k + 1, l)) (hk : k < 49) (ha : l[a]? = some (r + 2)) : xm_fr o (yy_W m t) c k a = some r :=
  xw_fr ((yy_get h).trans (congrArg some (yy_cel_o hk))) (by rw [yy_vs_get, ha]; rfl)
theorem yy_fd {r : Nat} (h : yy_lay[c]? = some (k + 1, l)) (hk : k < 49) (ha : l[a]? = some 1) (hd : yy_d (m c a) = some r) : xm_fr o (yy_W m t) c k a = some r :=
  xw_fr ((yy_get h).trans (congrArg some (yy_cel_o hk))) (by rw [yy_vs_get, ha, Nat.zero_add]; show some (Sum.inr (Sum.inl (yy_d (m c a)))) = _; rw [hd])
theorem yy_ints (h : yy_lay[c]? = some (0, [n])) : xm_ints o (yy_W m t) c = some (yy_R n (m c)) := xw_ints (yy_get h)
theorem yy_len (h : yy_lay[c]? = some (0, [n])) (hn : n < 1000000) : xm_len o (yy_W m t) c = some n := by
  rw [xw_len (yy_get h) (by rw [yy_R_len]; exact hn)]
  show some (yy_R n (m c)).length = _
  rw [yy_R_len]
theorem yy_refs (h : yy_lay[c]? = some (k + 1, l)) (hk : ¬ k < 49) : xm_refs o (yy_W m t) c = some (yy_qs (m c) 0 l) :=
  xw_refs ((yy_get h).trans (congrArg some (yy_cel_q hk)))
theorem yy_setf {y : Nat} (h : yy_lay[c]? = some (k + 1, l)) (hk : k < 49) (ha : l[a]? = some 0) (hf : xm_fit y (.inl v) = true) : xm_setf (yy_W m t) c k a y (.inl v) = some (yy_W (yy_s m c a v) t) := by
  rw [xw_setf ((yy_get h).trans (congrArg some (yy_cel_o hk))) (by rw [yy_vs_len]; exact (List.getElem?_eq_some_iff.mp ha).1) hf]
  refine congrArg some ?_
  rw [yy_vs_set (v := v) (fun e he => by rw [ha] at he; cases he; show _ = Sum.inl (yy_u (m c) a v a); rw [yy_u_eq]), ← yy_cel_o hk]
  exact yy_set h
theorem yy_setd {z : Int} {q : Option Nat} (h : yy_lay[c]? = some (k + 1, l)) (hk : k < 49) (ha : l[a]? = some 1) (hz : yy_d z = q) : xm_setf (yy_W m t) c k a 2 (.inr (.inl q)) = some (yy_W (yy_s m c a z) t) := by
  rw [xw_setf ((yy_get h).trans (congrArg some (yy_cel_o hk))) (by rw [yy_vs_len]; exact (List.getElem?_eq_some_iff.mp ha).1) rfl]
  refine congrArg some ?_
  rw [yy_vs_set (v := z) (fun e he => by rw [ha] at he; cases he; show _ = Sum.inr (Sum.inl (yy_d (yy_u (m c) a z a))); rw [yy_u_eq, hz]), ← yy_cel_o hk]
  exact yy_set h
theorem yy_seti {z x : Int} (h : yy_lay[c]? = some (0, [n])) (h0 : 0 ≤ z) (h1 : z < n) : xm_seti (yy_W m t) c z x = some (yy_W (yy_s m c z.toNat x) t) := by
  rw [xw_seti (yy_get h) h0 (by show z < ((yy_R n (m c)).length : Int); rw [yy_R_len]; exact h1)]
  refine congrArg some ?_
  show (yy_W m t).set c (Sum.inl ((yy_R n (m c)).set z.toNat x)) = _
  rw [yy_R_set]
  exact yy_set h
theorem zy_at {z : Int} {F : Int → Prop} (h0 : 0 ≤ z) (h1 : z < n) : xm_O (xm_at (yy_R n f) z) F = F (f z.toNat) := congrArg (fun x => xm_O x F) (yy_at h0 h1)
def yy_cp (f g : Nat → Int) (sp dp n : Nat) : Nat → Int := fun k => if dp ≤ k ∧ k < dp + n then f (sp + (k - dp)) else g k
theorem yy_R_cpy {n1 sp dp c : Nat} (h1 : sp + c ≤ n) (h2 : dp + c ≤ n1) : xm_cpy (yy_R n f) (yy_R n1 g) sp dp c = yy_R n1 (yy_cp f g sp dp c) := by
  refine yy_R_ext (by rw [xm_cpy_len _ _ _ _ _ (by rw [yy_R_len]; exact h1) (by rw [yy_R_len]; exact h2), yy_R_len]) fun k hk => ?_
  unfold xm_cpy yy_cp
  by_cases a : k < dp
  · rw [List.getElem?_append_left (by rw [List.length_take, yy_R_len]; omega), List.getElem?_take_of_lt a, yy_R_get hk, if_neg (by omega)]
  · rw [List.getElem?_append_right (by rw [List.length_take, yy_R_len]; omega), List.length_take, yy_R_len, Nat.min_eq_left (by omega)]
    by_cases b : k < dp + c
    · rw [List.getElem?_append_left (by rw [List.length_take, List.length_drop, yy_R_len]; omega), List.getElem?_take_of_lt (by omega), List.getElem?_drop, yy_R_get (by omega), if_pos ⟨by omega, b⟩]
    · rw [List.getElem?_append_right (by rw [List.length_take, List.length_drop, yy_R_len]; omega), List.length_take, List.length_drop, yy_R_len, List.getElem?_drop, if_neg (by omega), Nat.min_eq_left (by omega), show dp + c + (k - dp - c) = k by omega, yy_R_get hk]
theorem yy_copy {c1 n1 : Nat} {sp dp z : Int} (h : yy_lay[c]? = some (0, [n])) (h' : yy_lay[c1]? = some (0, [n1])) (h0 : 0 ≤ sp) (h1 : 0 ≤ dp) (h2 : 0 ≤ z) (h3 : sp + z ≤ n) (h4 : dp + z ≤ n1) : xm_copy (yy_W m t) c sp c1 dp z = some (yy_W (yy_c m c1 (yy_cp (m c) (m c1) sp.toNat dp.toNat z.toNat)) t) := by
  unfold xm_copy
  rw [yy_get h, yy_get h']
  show (if 0 ≤ sp ∧ 0 ≤ dp ∧ 0 ≤ z ∧ sp + z ≤ ((yy_R n (m c)).length : Int) ∧ dp + z ≤ ((yy_R n1 (m c1)).length : Int) then some ((yy_W m t).set c1 (Sum.inl (xm_cpy (yy_R n (m c)) (yy_R n1 (m c1)) sp.toNat dp.toNat z.toNat))) else none) = _
  rw [yy_R_len, yy_R_len, if_pos ⟨h0, h1, h2, h3, h4⟩, yy_R_cpy (by omega) (by omega)]
  exact congrArg some (yy_set h')
end yy_sec
end
section
/-! every field and row of the world by its number -/
section yz_sec
variable {o : xm_W} {m : Nat → Nat → Int} {t : xm_W} {v z x : Int}
theorem yr_0_0 : xm_fr o (yy_W m t) 0 8 0 = some 1 := yy_fr rfl (by decide) rfl
theorem yr_0_1 : xm_fr o (yy_W m t) 0 8 1 = some 18 := yy_fr rfl (by decide) rfl
theorem yr_0_2 : xm_fr o (yy_W m t) 0 8 2 = some 35 := yy_fr rfl (by decide) rfl
theorem yr_0_3 : xm_fr o (yy_W m t) 0 8 3 = some 38 := yy_fr rfl (by decide) rfl
theorem yr_0_4 : xm_fr o (yy_W m t) 0 8 4 = some 55 := yy_fr rfl (by decide) rfl
theorem yf_0_5 : xm_fi o (yy_W m t) 0 8 5 = some (m 0 5) := yy_fi rfl (by decide) rfl
theorem ys_0_5 : xm_setf (yy_W m t) 0 8 5 0 (.inl v) = some (yy_W (yy_s m 0 5 v) t) := yy_setf rfl (by decide) rfl rfl
theorem yr_0_6 : xm_fr o (yy_W m t) 0 8 6 = some 58 := yy_fr rfl (by decide) rfl
theorem yr_0_7 : xm_fr o (yy_W m t) 0 8 7 = some 61 := yy_fr rfl (by decide) rfl
theorem yr_0_8 : xm_fr o (yy_W m t) 0 8 8 = some 63 := yy_fr rfl (by decide) rfl
theorem yr_0_9 : xm_fr o (yy_W m t) 0 8 9 = some 64 := yy_fr rfl (by decide) rfl
theorem yr_0_10 : xm_fr o (yy_W m t) 0 8 10 = some 65 := yy_fr rfl (by decide) rfl
theorem yr_1_0 : xm_fr o (yy_W m t) 1 2 0 = some 2 := yy_fr rfl (by decide) rfl
theorem yf_1_1 : xm_fi o (yy_W m t) 1 2 1 = some (m 1 1) := yy_fi rfl (by decide) rfl
theorem ys_1_1 : xm_setf (yy_W m t) 1 2 1 0 (.inl v) = some (yy_W (yy_s m 1 1 v) t) := yy_setf rfl (by decide) rfl rfl
theorem yf_1_2 : xm_fi o (yy_W m t) 1 2 2 = some (m 1 2) := yy_fi rfl (by decide) rfl
theorem ys_1_2 : xm_setf (yy_W m t) 1 2 2 0 (.inl v) = some (yy_W (yy_s m 1 2 v) t) := yy_setf rfl (by decide) rfl rfl
theorem yr_1_3 : xm_fr o (yy_W m t) 1 2 3 = some 3 := yy_fr rfl (by decide) rfl
theorem yf_1_4 : xm_fi o (yy_W m t) 1 2 4 = some (m 1 4) := yy_fi rfl (by decide) rfl
theorem ys_1_4 : xm_setf (yy_W m t) 1 2 4 0 (.inl v) = some (yy_W (yy_s m 1 4 v) t) := yy_setf rfl (by decide) rfl rfl
theorem yr_1_5 : xm_fr o (yy_W m t) 1 2 5 = some 4 := yy_fr rfl (by decide) rfl
theorem yf_1_6 : xm_fi o (yy_W m t) 1 2 6 = some (m 1 6) := yy_fi rfl (by decide) rfl
theorem ys_1_6 : xm_setf (yy_W m t) 1 2 6 0 (.inl v) = some (yy_W (yy_s m 1 6 v) t) := yy_setf rfl (by decide) rfl rfl
theorem yr_1_7 : xm_fr o (yy_W m t) 1 2 7 = some 5 := yy_fr rfl (by decide) rfl
theorem yr_1_8 : xm_fr o (yy_W m t) 1 2 8 = some 6 := yy_fr rfl (by decide) rfl
theorem yr_1_9 : xm_fr o (yy_W m t) 1 2 9 = some 7 := yy_fr rfl (by decide) rfl
theorem yi_2 : xm_ints o (yy_W m t) 2 = some (yy_R 36 (m 2)) := yy_ints rfl
theorem yt_2 (h0 : 0 ≤ z) (h1 : z < 36) : xm_seti (yy_W m t) 2 z x = some (yy_W (yy_s m 2 z.toNat x) t) := yy_seti rfl h0 h1
theorem yq_3 : xm_refs o (yy_W m t) 3 = some (yy_qs (m 3) 0 [10, 12, 14, 16, 18]) := yy_refs rfl (by decide)
theorem yi_4 : xm_ints o (yy_W m t) 4 = some (yy_R 200 (m 4)) := yy_ints rfl
theorem yt_4 (h0 : 0 ≤ z) (h1 : z < 200) : xm_seti (yy_W m t) 4 z x = some (yy_W (yy_s m 4 z.toNat x) t) := yy_seti rfl h0 h1
theorem yq_5 : xm_refs o (yy_W m t) 5 = some (yy_qs (m 5) 0 [1, 1]) := yy_refs rfl (by decide)
theorem yi_6 : xm_ints o (yy_W m t) 6 = some (yy_R 4 (m 6)) := yy_ints rfl
theorem yt_6 (h0 : 0 ≤ z) (h1 : z < 4) : xm_seti (yy_W m t) 6 z x = some (yy_W (yy_s m 6 z.toNat x) t) := yy_seti rfl h0 h1
theorem yi_7 : xm_ints o (yy_W m t) 7 = some (yy_R 60 (m 7)) := yy_ints rfl
theorem yt_7 (h0 : 0 ≤ z) (h1 : z < 60) : xm_seti (yy_W m t) 7 z x = some (yy_W (yy_s m 7 z.toNat x) t) := yy_seti rfl h0 h1
theorem yf_8_0 : xm_fi o (yy_W m t) 8 4 0 = some (m 8 0) := yy_fi rfl (by decide) rfl
theorem ys_8_0 : xm_setf (yy_W m t) 8 4 0 0 (.inl v) = some (yy_W (yy_s m 8 0 v) t) := yy_setf rfl (by decide) rfl rfl
theorem yf_8_1 : xm_fi o (yy_W m t) 8 4 1 = some (m 8 1) := yy_fi rfl (by decide) rfl
theorem ys_8_1 : xm_setf (yy_W m t) 8 4 1 0 (.inl v) = some (yy_W (yy_s m 8 1 v) t) := yy_setf rfl (by decide) rfl rfl
theorem yf_8_2 : xm_fi o (yy_W m t) 8 4 2 = some (m 8 2) := yy_fi rfl (by decide) rfl
theorem ys_8_2 : xm_setf (yy_W m t) 8 4 2 0 (.inl v) = some (yy_W (yy_s m 8 2 v) t) := yy_setf rfl (by decide) rfl rfl
theorem yf_8_3 : xm_fi o (yy_W m t) 8 4 3 = some (m 8 3) := yy_fi rfl (by decide) rfl
theorem ys_8_3 : xm_setf (yy_W m t) 8 4 3 0 (.inl v) = some (yy_W (yy_s m 8 3 v) t) := yy_setf rfl (by decide) rfl rfl
theorem yf_8_4 : xm_fi o (yy_W m t) 8 4 4 = some (m 8 4) := yy_fi rfl (by decide) rfl
theorem ys_8_4 : xm_setf (yy_W m t) 8 4 4 0 (.inl v) = some (yy_W (yy_s m 8 4 v) t) := yy_setf rfl (by decide) rfl rfl
theorem yf_8_5 : xm_fi o (yy_W m t) 8 4 5 = some (m 8 5) := yy_fi rfl (by decide) rfl
theorem ys_8_5 : xm_setf (yy_W m t) 8 4 5 0 (.inl v) = some (yy_W (yy_s m 8 5 v) t) := yy_setf rfl (by decide) rfl rfl
theorem yr_8_6 : xm_fr o (yy_W m t) 8 4 6 = some 9 := yy_fr rfl (by decide) rfl
theorem yi_9 : xm_ints o (yy_W m t) 9 = some (yy_R 12 (m 9)) := yy_ints rfl
theorem yt_9 (h0 : 0 ≤ z) (h1 : z < 12) : xm_seti (yy_W m t) 9 z x = some (yy_W (yy_s m 9 z.toNat x) t) := yy_seti rfl h0 h1
theorem yf_10_0 : xm_fi o (yy_W m t) 10 4 0 = some (m 10 0) := yy_fi rfl (by decide) rfl
theorem ys_10_0 : xm_setf (yy_W m t) 10 4 0 0 (.inl v) = some (yy_W (yy_s m 10 0 v) t) := yy_setf rfl (by decide) rfl rfl
theorem yf_10_1 : xm_fi o (yy_W m t) 10 4 1 = some (m 10 1) := yy_fi rfl (by decide) rfl
theorem ys_10_1 : xm_setf (yy_W m t) 10 4 1 0 (.inl v) = some (yy_W (yy_s m 10 1 v) t) := yy_setf rfl (by decide) rfl rfl
theorem yf_10_2 : xm_fi o (yy_W m t) 10 4 2 = some (m 10 2) := yy_fi rfl (by decide) rfl
theorem ys_10_2 : xm_setf (yy_W m t) 10 4 2 0 (.inl v) = some (yy_W (yy_s m 10 2 v) t) := yy_setf rfl (by decide) rfl rfl
theorem yf_10_3 : xm_fi o (yy_W m t) 10 4 3 = some (m 10 3) := yy_fi rfl (by decide) rfl
theorem ys_10_3 : xm_setf (yy_W m t) 10 4 3 0 (.inl v) = some (yy_W (yy_s m 10 3 v) t) := yy_setf rfl (by decide) rfl rfl
theorem yf_10_4 : xm_fi o (yy_W m t) 10 4 4 = some (m 10 4) := yy_fi rfl (by decide) rfl
theorem ys_10_4 : xm_setf (yy_W m t) 10 4 4 0 (.inl v) = some (yy_W (yy_s m 10 4 v) t) := yy_setf rfl (by decide) rfl rfl
theorem yf_10_5 : xm_fi o (yy_W m t) 10 4 5 = some (m 10 5) := yy_fi rfl (by decide) rfl
theorem ys_10_5 : xm_setf (yy_W m t) 10 4 5 0 (.inl v) = some (yy_W (yy_s m 10 5 v) t) := yy_setf rfl (by decide) rfl rfl
theorem yr_10_6 : xm_fr o (yy_W m t) 10 4 6 = some 11 := yy_fr rfl (by decide) rfl
theorem yi_11 : xm_ints o (yy_W m t) 11 = some (yy_R 12 (m 11)) := yy_ints rfl
theorem yt_11 (h0 : 0 ≤ z) (h1 : z < 12) : xm_seti (yy_W m t) 11 z x = some (yy_W (yy_s m 11 z.toNat x) t) := yy_seti rfl h0 h1
theorem yf_12_0 : xm_fi o (yy_W m t) 12 4 0 = some (m 12 0) := yy_fi rfl (by decide) rfl
theorem ys_12_0 : xm_setf (yy_W m t) 12 4 0 0 (.inl v) = some (yy_W (yy_s m 12 0 v) t) := yy_setf rfl (by decide) rfl rfl
theorem yf_12_1 : xm_fi o (yy_W m t) 12 4 1 = some (m 12 1) := yy_fi rfl (by decide) rfl
theorem ys_12_1 : xm_setf (yy_W m t) 12 4 1 0 (.inl v) = some (yy_W (yy_s m 12 1 v) t) := yy_setf rfl (by decide) rfl rfl
theorem yf_12_2 : xm_fi o (yy_W m t) 12 4 2 = some (m 12 2) := yy_fi rfl (by decide) rfl
theorem ys_12_2 : xm_setf (yy_W m t) 12 4 2 0 (.inl v) = some (yy_W (yy_s m 12 2 v) t) := yy_setf rfl (by decide) rfl rfl
theorem yf_12_3 : xm_fi o (yy_W m t) 12 4 3 = some (m 12 3) := yy_fi rfl (by decide) rfl
theorem ys_12_3 : xm_setf (yy_W m t) 12 4 3 0 (.inl v) = some (yy_W (yy_s m 12 3 v) t) := yy_setf rfl (by decide) rfl rfl
theorem yf_12_4 : xm_fi o (yy_W m t) 12 4 4 = some (m 12 4) := yy_fi rfl (by decide) rfl
theorem ys_12_4 : xm_setf (yy_W m t) 12 4 4 0 (.inl v) = some (yy_W (yy_s m 12 4 v) t) := yy_setf rfl (by decide) rfl rfl
theorem yf_12_5 : xm_fi o (yy_W m t) 12 4 5 = some (m 12 5) := yy_fi rfl (by decide) rfl
theorem ys_12_5 : xm_setf (yy_W m t) 12 4 5 0 (.inl v) = some (yy_W (yy_s m 12 5 v) t) := yy_setf rfl (by decide) rfl rfl
theorem yr_12_6 : xm_fr o (yy_W m t) 12 4 6 = some 13 := yy_fr rfl (by decide) rfl
theorem yi_13 : xm_ints o (yy_W m t) 13 = some (yy_R 12 (m 13)) := yy_ints rfl
theorem yt_13 (h0 : 0 ≤ z) (h1 : z < 12) : xm_seti (yy_W m t) 13 z x = some (yy_W (yy_s m 13 z.toNat x) t) := yy_seti rfl h0 h1
theorem yf_14_0 : xm_fi o (yy_W m t) 14 4 0 = some (m 14 0) := yy_fi rfl (by decide) rfl
theorem ys_14_0 : xm_setf (yy_W m t) 14 4 0 0 (.inl v) = some (yy_W (yy_s m 14 0 v) t) := yy_setf rfl (by decide) rfl rfl
theorem yf_14_1 : xm_fi o (yy_W m t) 14 4 1 = some (m 14 1) := yy_fi rfl (by decide) rfl
theorem ys_14_1 : xm_setf (yy_W m t) 14 4 1 0 (.inl v) = some (yy_W (yy_s m 14 1 v) t) := yy_setf rfl (by decide) rfl rfl
theorem yf_14_2 : xm_fi o (yy_W m t) 14 4 2 = some (m 14 2) := yy_fi rfl (by decide) rfl
theorem ys_14_2 : xm_setf (yy_W m t) 14 4 2 0 (.inl v) = some (yy_W (yy_s m 14 2 v) t) := yy_setf rfl (by decide) rfl rfl
theorem yf_14_3 : xm_fi o (yy_W m t) 14 4 3 = some (m 14 3) := yy_fi rfl (by decide) rfl
theorem ys_14_3 : xm_setf (yy_W m t) 14 4 3 0 (.inl v) = some (yy_W (yy_s m 14 3 v) t) := yy_setf rfl (by decide) rfl rfl
theorem yf_14_4 : xm_fi o (yy_W m t) 14 4 4 = some (m 14 4) := yy_fi rfl (by decide) rfl
theorem ys_14_4 : xm_setf (yy_W m t) 14 4 4 0 (.inl v) = some (yy_W (yy_s m 14 4 v) t) := yy_setf rfl (by decide) rfl rfl
theorem yf_14_5 : xm_fi o (yy_W m t) 14 4 5 = some (m 14 5) := yy_fi rfl (by decide) rfl
theorem ys_14_5 : xm_setf (yy_W m t) 14 4 5 0 (.inl v) = some (yy_W (yy_s m 14 5 v) t) := yy_setf rfl (by decide) rfl rfl
theorem yr_14_6 : xm_fr o (yy_W m t) 14 4 6 = some 15 := yy_fr rfl (by decide) rfl
theorem yi_15 : xm_ints o (yy_W m t) 15 = some (yy_R 12 (m 15)) := yy_ints rfl
theorem yt_15 (h0 : 0 ≤ z) (h1 : z < 12) : xm_seti (yy_W m t) 15 z x = some (yy_W (yy_s m 15 z.toNat x) t) := yy_seti rfl h0 h1
theorem yf_16_0 : xm_fi o (yy_W m t) 16 4 0 = some (m 16 0) := yy_fi rfl (by decide) rfl
theorem ys_16_0 : xm_setf (yy_W m t) 16 4 0 0 (.inl v) = some (yy_W (yy_s m 16 0 v) t) := yy_setf rfl (by decide) rfl rfl
theorem yf_16_1 : xm_fi o (yy_W m t) 16 4 1 = some (m 16 1) := yy_fi rfl (by decide) rfl
theorem ys_16_1 : xm_setf (yy_W m t) 16 4 1 0 (.inl v) = some (yy_W (yy_s m 16 1 v) t) := yy_setf rfl (by decide) rfl rfl
theorem yf_16_2 : xm_fi o (yy_W m t) 16 4 2 = some (m 16 2) := yy_fi rfl (by decide) rfl
theorem ys_16_2 : xm_setf (yy_W m t) 16 4 2 0 (.inl v) = some (yy_W (yy_s m 16 2 v) t) := yy_setf rfl (by decide) rfl rfl
theorem yf_16_3 : xm_fi o (yy_W m t) 16 4 3 = some (m 16 3) := yy_fi rfl (by decide) rfl
theorem ys_16_3 : xm_setf (yy_W m t) 16 4 3 0 (.inl v) = some (yy_W (yy_s m 16 3 v) t) := yy_setf rfl (by decide) rfl rfl
theorem yf_16_4 : xm_fi o (yy_W m t) 16 4 4 = some (m 16 4) := yy_fi rfl (by decide) rfl
theorem ys_16_4 : xm_setf (yy_W m t) 16 4 4 0 (.inl v) = some (yy_W (yy_s m 16 4 v) t) := yy_setf rfl (by decide) rfl rfl
theorem yf_16_5 : xm_fi o (yy_W m t) 16 4 5 = some (m 16 5) := yy_fi rfl (by decide) rfl
theorem ys_16_5 : xm_setf (yy_W m t) 16 4 5 0 (.inl v) = some (yy_W (yy_s m 16 5 v) t) := yy_setf rfl (by decide) rfl rfl
theorem yr_16_6 : xm_fr o (yy_W m t) 16 4 6 = some 17 := yy_fr rfl (by decide) rfl
theorem yi_17 : xm_ints o (yy_W m t) 17 = some (yy_R 12 (m 17)) := yy_ints rfl
theorem yt_17 (h0 : 0 ≤ z) (h1 : z < 12) : xm_seti (yy_W m t) 17 z x = some (yy_W (yy_s m 17 z.toNat x) t) := yy_seti rfl h0 h1
theorem yr_18_0 : xm_fr o (yy_W m t) 18 2 0 = some 19 := yy_fr rfl (by decide) rfl
theorem yf_18_1 : xm_fi o (yy_W m t) 18 2 1 = some (m 18 1) := yy_fi rfl (by decide) rfl
theorem ys_18_1 : xm_setf (yy_W m t) 18 2 1 0 (.inl v) = some (yy_W (yy_s m 18 1 v) t) := yy_setf rfl (by decide) rfl rfl
theorem yf_18_2 : xm_fi o (yy_W m t) 18 2 2 = some (m 18 2) := yy_fi rfl (by decide) rfl
theorem ys_18_2 : xm_setf (yy_W m t) 18 2 2 0 (.inl v) = some (yy_W (yy_s m 18 2 v) t) := yy_setf rfl (by decide) rfl rfl
theorem yr_18_3 : xm_fr o (yy_W m t) 18 2 3 = some 20 := yy_fr rfl (by decide) rfl
theorem yf_18_4 : xm_fi o (yy_W m t) 18 2 4 = some (m 18 4) := yy_fi rfl (by decide) rfl
theorem ys_18_4 : xm_setf (yy_W m t) 18 2 4 0 (.inl v) = some (yy_W (yy_s m 18 4 v) t) := yy_setf rfl (by decide) rfl rfl
theorem yr_18_5 : xm_fr o (yy_W m t) 18 2 5 = some 21 := yy_fr rfl (by decide) rfl
theorem yf_18_6 : xm_fi o (yy_W m t) 18 2 6 = some (m 18 6) := yy_fi rfl (by decide) rfl
theorem ys_18_6 : xm_setf (yy_W m t) 18 2 6 0 (.inl v) = some (yy_W (yy_s m 18 6 v) t) := yy_setf rfl (by decide) rfl rfl
theorem yr_18_7 : xm_fr o (yy_W m t) 18 2 7 = some 22 := yy_fr rfl (by decide) rfl
theorem yr_18_8 : xm_fr o (yy_W m t) 18 2 8 = some 23 := yy_fr rfl (by decide) rfl
theorem yr_18_9 : xm_fr o (yy_W m t) 18 2 9 = some 24 := yy_fr rfl (by decide) rfl
theorem yi_19 : xm_ints o (yy_W m t) 19 = some (yy_R 36 (m 19)) := yy_ints rfl
theorem yt_19 (h0 : 0 ≤ z) (h1 : z < 36) : xm_seti (yy_W m t) 19 z x = some (yy_W (yy_s m 19 z.toNat x) t) := yy_seti rfl h0 h1
theorem yq_20 : xm_refs o (yy_W m t) 20 = some (yy_qs (m 20) 0 [27, 29, 31, 33, 35]) := yy_refs rfl (by decide)
theorem yi_21 : xm_ints o (yy_W m t) 21 = some (yy_R 200 (m 21)) := yy_ints rfl
theorem yt_21 (h0 : 0 ≤ z) (h1 : z < 200) : xm_seti (yy_W m t) 21 z x = some (yy_W (yy_s m 21 z.toNat x) t) := yy_seti rfl h0 h1
theorem yq_22 : xm_refs o (yy_W m t) 22 = some (yy_qs (m 22) 0 [1, 1]) := yy_refs rfl (by decide)
theorem yi_23 : xm_ints o (yy_W m t) 23 = some (yy_R 4 (m 23)) := yy_ints rfl
theorem yt_23 (h0 : 0 ≤ z) (h1 : z < 4) : xm_seti (yy_W m t) 23 z x = some (yy_W (yy_s m 23 z.toNat x) t) := yy_seti rfl h0 h1
theorem yi_24 : xm_ints o (yy_W m t) 24 = some (yy_R 60 (m 24)) := yy_ints rfl
theorem yt_24 (h0 : 0 ≤ z) (h1 : z < 60) : xm_seti (yy_W m t) 24 z x = some (yy_W (yy_s m 24 z.toNat x) t) := yy_seti rfl h0 h1
theorem yf_25_0 : xm_fi o (yy_W m t) 25 4 0 = some (m 25 0) := yy_fi rfl (by decide) rfl
theorem ys_25_0 : xm_setf (yy_W m t) 25 4 0 0 (.inl v) = some (yy_W (yy_s m 25 0 v) t) := yy_setf rfl (by decide) rfl rfl
theorem yf_25_1 : xm_fi o (yy_W m t) 25 4 1 = some (m 25 1) := yy_fi rfl (by decide) rfl
theorem ys_25_1 : xm_setf (yy_W m t) 25 4 1 0 (.inl v) = some (yy_W (yy_s m 25 1 v) t) := yy_setf rfl (by decide) rfl rfl
theorem yf_25_2 : xm_fi o (yy_W m t) 25 4 2 = some (m 25 2) := yy_fi rfl (by decide) rfl
theorem ys_25_2 : xm_setf (yy_W m t) 25 4 2 0 (.inl v) = some (yy_W (yy_s m 25 2 v) t) := yy_setf rfl (by decide) rfl rfl
theorem yf_25_3 : xm_fi o (yy_W m t) 25 4 3 = some (m 25 3) := yy_fi rfl (by decide) rfl
theorem ys_25_3 : xm_setf (yy_W m t) 25 4 3 0 (.inl v) = some (yy_W (yy_s m 25 3 v) t) := yy_setf rfl (by decide) rfl rfl
theorem yf_25_4 : xm_fi o (yy_W m t) 25 4 4 = some (m 25 4) := yy_fi rfl (by decide) rfl
theorem ys_25_4 : xm_setf (yy_W m t) 25 4 4 0 (.inl v) = some (yy_W (yy_s m 25 4 v) t) := yy_setf rfl (by decide) rfl rfl
theorem yf_25_5 : xm_fi o (yy_W m t) 25 4 5 = some (m 25 5) := yy_fi rfl (by decide) rfl
theorem ys_25_5 : xm_setf (yy_W m t) 25 4 5 0 (.inl v) = some (yy_W (yy_s m 25 5 v) t) := yy_setf rfl (by decide) rfl rfl
theorem yr_25_6 : xm_fr o (yy_W m t) 25 4 6 = some 26 := yy_fr rfl (by decide) rfl
theorem yi_26 : xm_ints o (yy_W m t) 26 = some (yy_R 12 (m 26)) := yy_ints rfl
theorem yt_26 (h0 : 0 ≤ z) (h1 : z < 12) : xm_seti (yy_W m t) 26 z x = some (yy_W (yy_s m 26 z.toNat x) t) := yy_seti rfl h0 h1
theorem yf_27_0 : xm_fi o (yy_W m t) 27 4 0 = some (m 27 0) := yy_fi rfl (by decide) rfl
theorem ys_27_0 : xm_setf (yy_W m t) 27 4 0 0 (.inl v) = some (yy_W (yy_s m 27 0 v) t) := yy_setf rfl (by decide) rfl rfl
theorem yf_27_1 : xm_fi o (yy_W m t) 27 4 1 = some (m 27 1) := yy_fi rfl (by decide) rfl
theorem ys_27_1 : xm_setf (yy_W m t) 27 4 1 0 (.inl v) = some (yy_W (yy_s m 27 1 v) t) := yy_setf rfl (by decide) rfl rfl
theorem yf_27_2 : xm_fi o (yy_W m t) 27 4 2 = some (m 27 2) := yy_fi rfl (by decide) rfl
theorem ys_27_2 : xm_setf (yy_W m t) 27 4 2 0 (.inl v) = some (yy_W (yy_s m 27 2 v) t) := yy_setf rfl (by decide) rfl rfl
theorem yf_27_3 : xm_fi o (yy_W m t) 27 4 3 = some (m 27 3) := yy_fi rfl (by decide) rfl
theorem ys_27_3 : xm_setf (yy_W m t) 27 4 3 0 (.inl v) = some (yy_W (yy_s m 27 3 v) t) := yy_setf rfl (by decide) rfl rfl
theorem yf_27_4 : xm_fi o (yy_W m t) 27 4 4 = some (m 27 4) := yy_fi rfl (by decide) rfl
theorem ys_27_4 : xm_setf (yy_W m t) 27 4 4 0 (.inl v) = some (yy_W (yy_s m 27 4 v) t) := yy_setf rfl (by decide) rfl rfl
theorem yf_27_5 : xm_fi o (yy_W m t) 27 4 5 = some (m 27 5) := yy_fi rfl (by decide) rfl
theorem ys_27_5 : xm_setf (yy_W m t) 27 4 5 0 (.inl v) = some (yy_W (yy_s m 27 5 v) t) := yy_setf rfl (by decide) rfl rfl
theorem yr_27_6 : xm_fr o (yy_W m t) 27 4 6 = some 28 := yy_fr rfl (by decide) rfl
theorem yi_28 : xm_ints o (yy_W m t) 28 = some (yy_R 12 (m 28)) := yy_ints rfl
theorem yt_28 (h0 : 0 ≤ z) (h1 : z < 12) : xm_seti (yy_W m t) 28 z x = some (yy_W (yy_s m 28 z.toNat x) t) := yy_seti rfl h0 h1
theorem yf_29_0 : xm_fi o (yy_W m t) 29 4 0 = some (m 29 0) := yy_fi rfl (by decide) rfl
theorem ys_29_0 : xm_setf (yy_W m t) 29 4 0 0 (.inl v) = some (yy_W (yy_s m 29 0 v) t) := yy_setf rfl (by decide) rfl rfl
theorem yf_29_1 : xm_fi o (yy_W m t) 29 4 1 = some (m 29 1) := yy_fi rfl (by decide) rfl
theorem ys_29_1 : xm_setf (yy_W m t) 29 4 1 0 (.inl v) = some (yy_W (yy_s m 29 1 v) t) := yy_setf rfl (by decide) rfl rfl
theorem yf_29_2 : xm_fi o (yy_W m t) 29 4 2 = some (m 29 2) := yy_fi rfl (by decide) rfl
theorem ys_29_2 : xm_setf (yy_W m t) 29 4 2 0 (.inl v) = some (yy_W (yy_s m 29 2 v) t) := yy_setf rfl (by decide) rfl rfl
theorem yf_29_3 : xm_fi o (yy_W m t) 29 4 3 = some (m 29 3) := yy_fi rfl (by decide) rfl
theorem ys_29_3 : xm_setf (yy_W m t) 29 4 3 0 (.inl v) = some (yy_W (yy_s m 29 3 v) t) := yy_setf rfl (by decide) rfl rfl
theorem yf_29_4 : xm_fi o (yy_W m t) 29 4 4 = some (m 29 4) := yy_fi rfl (by decide) rfl
theorem ys_29_4 : xm_setf (yy_W m t) 29 4 4 0 (.inl v) = some (yy_W (yy_s m 29 4 v) t) := yy_setf rfl (by decide) rfl rfl
theorem yf_29_5 : xm_fi o (yy_W m t) 29 4 5 = some (m 29 5) := yy_fi rfl (by decide) rfl
theorem ys_29_5 : xm_setf (yy_W m t) 29 4 5 0 (.inl v) = some (yy_W (yy_s m 29 5 v) t) := yy_setf rfl (by decide) rfl rfl
theorem yr_29_6 : xm_fr o (yy_W m t) 29 4 6 = some 30 := yy_fr rfl (by decide) rfl
theorem yi_30 : xm_ints o (yy_W m t) 30 = some (yy_R 12 (m 30)) := yy_ints rfl
theorem yt_30 (h0 : 0 ≤ z) (h1 : z < 12) : xm_seti (yy_W m t) 30 z x = some (yy_W (yy_s m 30 z.toNat x) t) := yy_seti rfl h0 h1
theorem yf_31_0 : xm_fi o (yy_W m t) 31 4 0 = some (m 31 0) := yy_fi rfl (by decide) rfl
theorem ys_31_0 : xm_setf (yy_W m t) 31 4 0 0 (.inl v) = some (yy_W (yy_s m 31 0 v) t) := yy_setf rfl (by decide) rfl rfl
theorem yf_31_1 : xm_fi o (yy_W m t) 31 4 1 = some (m 31 1) := yy_fi rfl (by decide) rfl
theorem ys_31_1 : xm_setf (yy_W m t) 31 4 1 0 (.inl v) = some (yy_W (yy_s m 31 1 v) t) := yy_setf rfl (by decide) rfl rfl
theorem yf_31_2 : xm_fi o (yy_W m t) 31 4 2 = some (m 31 2) := yy_fi rfl (by decide) rfl
theorem ys_31_2 : xm_setf (yy_W m t) 31 4 2 0 (.inl v) = some (yy_W (yy_s m 31 2 v) t) := yy_setf rfl (by decide) rfl rfl
theorem yf_31_3 : xm_fi o (yy_W m t) 31 4 3 = some (m 31 3) := yy_fi rfl (by decide) rfl
theorem ys_31_3 : xm_setf (yy_W m t) 31 4 3 0 (.inl v) = some (yy_W (yy_s m 31 3 v) t) := yy_setf rfl (by decide) rfl rfl
theorem yf_31_4 : xm_fi o (yy_W m t) 31 4 4 = some (m 31 4) := yy_fi rfl (by decide) rfl
theorem ys_31_4 : xm_setf (yy_W m t) 31 4 4 0 (.inl v) = some (yy_W (yy_s m 31 4 v) t) := yy_setf rfl (by decide) rfl rfl
theorem yf_31_5 : xm_fi o (yy_W m t) 31 4 5 = some (m 31 5) := yy_fi rfl (by decide) rfl
theorem ys_31_5 : xm_setf (yy_W m t) 31 4 5 0 (.inl v) = some (yy_W (yy_s m 31 5 v) t) := yy_setf rfl (by decide) rfl rfl
theorem yr_31_6 : xm_fr o (yy_W m t) 31 4 6 = some 32 := yy_fr rfl (by decide) rfl
theorem yi_32 : xm_ints o (yy_W m t) 32 = some (yy_R 12 (m 32)) := yy_ints rfl
theorem yt_32 (h0 : 0 ≤ z) (h1 : z < 12) : xm_seti (yy_W m t) 32 z x = some (yy_W (yy_s m 32 z.toNat x) t) := yy_seti rfl h0 h1
theorem yf_33_0 : xm_fi o (yy_W m t) 33 4 0 = some (m 33 0) := yy_fi rfl (by decide) rfl
theorem ys_33_0 : xm_setf (yy_W m t) 33 4 0 0 (.inl v) = some (yy_W (yy_s m 33 0 v) t) := yy_setf rfl (by decide) rfl rfl
theorem yf_33_1 : xm_fi o (yy_W m t) 33 4 1 = some (m 33 1) := yy_fi rfl (by decide) rfl
theorem ys_33_1 : xm_setf (yy_W m t) 33 4 1 0 (.inl v) = some (yy_W (yy_s m 33 1 v) t) := yy_setf rfl (by decide) rfl rfl
theorem yf_33_2 : xm_fi o (yy_W m t) 33 4 2 = some (m 33 2) := yy_fi rfl (by decide) rfl
theorem ys_33_2 : xm_setf (yy_W m t) 33 4 2 0 (.inl v) = some (yy_W (yy_s m 33 2 v) t) := yy_setf rfl (by decide) rfl rfl
theorem yf_33_3 : xm_fi o (yy_W m t) 33 4 3 = some (m 33 3) := yy_fi rfl (by decide) rfl
theorem ys_33_3 : xm_setf (yy_W m t) 33 4 3 0 (.inl v) = some (yy_W (yy_s m 33 3 v) t) := yy_setf rfl (by decide) rfl rfl
theorem yf_33_4 : xm_fi o (yy_W m t) 33 4 4 = some (m 33 4) := yy_fi rfl (by decide) rfl
theorem ys_33_4 : xm_setf (yy_W m t) 33 4 4 0 (.inl v) = some (yy_W (yy_s m 33 4 v) t) := yy_setf rfl (by decide) rfl rfl
theorem yf_33_5 : xm_fi o (yy_W m t) 33 4 5 = some (m 33 5) := yy_fi rfl (by decide) rfl
theorem ys_33_5 : xm_setf (yy_W m t) 33 4 5 0 (.inl v) = some (yy_W (yy_s m 33 5 v) t) := yy_setf rfl (by decide) rfl rfl
theorem yr_33_6 : xm_fr o (yy_W m t) 33 4 6 = some 34 := yy_fr rfl (by decide) rfl
theorem yi_34 : xm_ints o (yy_W m t) 34 = some (yy_R 12 (m 34)) := yy_ints rfl
theorem yt_34 (h0 : 0 ≤ z) (h1 : z < 12) : xm_seti (yy_W m t) 34 z x = some (yy_W (yy_s m 34 z.toNat x) t) := yy_seti rfl h0 h1
theorem yr_35_0 : xm_fr o (yy_W m t) 35 1 0 = some 36 := yy_fr rfl (by decide) rfl
theorem yf_35_1 : xm_fi o (yy_W m t) 35 1 1 = some (m 35 1) := yy_fi rfl (by decide) rfl
theorem ys_35_1 : xm_setf (yy_W m t) 35 1 1 0 (.inl v) = some (yy_W (yy_s m 35 1 v) t) := yy_setf rfl (by decide) rfl rfl
theorem yr_35_2 : xm_fr o (yy_W m t) 35 1 2 = some 37 := yy_fr rfl (by decide) rfl
theorem yf_35_3 : xm_fi o (yy_W m t) 35 1 3 = some (m 35 3) := yy_fi rfl (by decide) rfl
theorem ys_35_3 : xm_setf (yy_W m t) 35 1 3 0 (.inl v) = some (yy_W (yy_s m 35 3 v) t) := yy_setf rfl (by decide) rfl rfl
theorem yf_35_4 : xm_fi o (yy_W m t) 35 1 4 = some (m 35 4) := yy_fi rfl (by decide) rfl
theorem ys_35_4 : xm_setf (yy_W m t) 35 1 4 0 (.inl v) = some (yy_W (yy_s m 35 4 v) t) := yy_setf rfl (by decide) rfl rfl
theorem yi_36 : xm_ints o (yy_W m t) 36 = some (yy_R 60 (m 36)) := yy_ints rfl
theorem yt_36 (h0 : 0 ≤ z) (h1 : z < 60) : xm_seti (yy_W m t) 36 z x = some (yy_W (yy_s m 36 z.toNat x) t) := yy_seti rfl h0 h1
theorem yi_37 : xm_ints o (yy_W m t) 37 = some (yy_R 24 (m 37)) := yy_ints rfl
theorem yt_37 (h0 : 0 ≤ z) (h1 : z < 24) : xm_seti (yy_W m t) 37 z x = some (yy_W (yy_s m 37 z.toNat x) t) := yy_seti rfl h0 h1
theorem yr_38_0 : xm_fr o (yy_W m t) 38 2 0 = some 39 := yy_fr rfl (by decide) rfl
theorem yf_38_1 : xm_fi o (yy_W m t) 38 2 1 = some (m 38 1) := yy_fi rfl (by decide) rfl
theorem ys_38_1 : xm_setf (yy_W m t) 38 2 1 0 (.inl v) = some (yy_W (yy_s m 38 1 v) t) := yy_setf rfl (by decide) rfl rfl
theorem yf_38_2 : xm_fi o (yy_W m t) 38 2 2 = some (m 38 2) := yy_fi rfl (by decide) rfl
theorem ys_38_2 : xm_setf (yy_W m t) 38 2 2 0 (.inl v) = some (yy_W (yy_s m 38 2 v) t) := yy_setf rfl (by decide) rfl rfl
theorem yr_38_3 : xm_fr o (yy_W m t) 38 2 3 = some 40 := yy_fr rfl (by decide) rfl
theorem yf_38_4 : xm_fi o (yy_W m t) 38 2 4 = some (m 38 4) := yy_fi rfl (by decide) rfl
theorem ys_38_4 : xm_setf (yy_W m t) 38 2 4 0 (.inl v) = some (yy_W (yy_s m 38 4 v) t) := yy_setf rfl (by decide) rfl rfl
theorem yr_38_5 : xm_fr o (yy_W m t) 38 2 5 = some 41 := yy_fr rfl (by decide) rfl
theorem yf_38_6 : xm_fi o (yy_W m t) 38 2 6 = some (m 38 6) := yy_fi rfl (by decide) rfl
theorem ys_38_6 : xm_setf (yy_W m t) 38 2 6 0 (.inl v) = some (yy_W (yy_s m 38 6 v) t) := yy_setf rfl (by decide) rfl rfl
theorem yr_38_7 : xm_fr o (yy_W m t) 38 2 7 = some 42 := yy_fr rfl (by decide) rfl
theorem yr_38_8 : xm_fr o (yy_W m t) 38 2 8 = some 43 := yy_fr rfl (by decide) rfl
theorem yr_38_9 : xm_fr o (yy_W m t) 38 2 9 = some 44 := yy_fr rfl (by decide) rfl
theorem yi_39 : xm_ints o (yy_W m t) 39 = some (yy_R 36 (m 39)) := yy_ints rfl
theorem yt_39 (h0 : 0 ≤ z) (h1 : z < 36) : xm_seti (yy_W m t) 39 z x = some (yy_W (yy_s m 39 z.toNat x) t) := yy_seti rfl h0 h1
theorem yq_40 : xm_refs o (yy_W m t) 40 = some (yy_qs (m 40) 0 [47, 49, 51, 53, 55]) := yy_refs rfl (by decide)
theorem yi_41 : xm_ints o (yy_W m t) 41 = some (yy_R 200 (m 41)) := yy_ints rfl
theorem yt_41 (h0 : 0 ≤ z) (h1 : z < 200) : xm_seti (yy_W m t) 41 z x = some (yy_W (yy_s m 41 z.toNat x) t) := yy_seti rfl h0 h1
theorem yq_42 : xm_refs o (yy_W m t) 42 = some (yy_qs (m 42) 0 [1, 1]) := yy_refs rfl (by decide)
theorem yi_43 : xm_ints o (yy_W m t) 43 = some (yy_R 4 (m 43)) := yy_ints rfl
theorem yt_43 (h0 : 0 ≤ z) (h1 : z < 4) : xm_seti (yy_W m t) 43 z x = some (yy_W (yy_s m 43 z.toNat x) t) := yy_seti rfl h0 h1
theorem yi_44 : xm_ints o (yy_W m t) 44 = some (yy_R 60 (m 44)) := yy_ints rfl
theorem yt_44 (h0 : 0 ≤ z) (h1 : z < 60) : xm_seti (yy_W m t) 44 z x = some (yy_W (yy_s m 44 z.toNat x) t) := yy_seti rfl h0 h1
theorem yf_45_0 : xm_fi o (yy_W m t) 45 4 0 = some (m 45 0) := yy_fi rfl (by decide) rfl
theorem ys_45_0 : xm_setf (yy_W m t) 45 4 0 0 (.inl v) = some (yy_W (yy_s m 45 0 v) t) := yy_setf rfl (by decide) rfl rfl
theorem yf_45_1 : xm_fi o (yy_W m t) 45 4 1 = some (m 45 1) := yy_fi rfl (by decide) rfl
theorem ys_45_1 : xm_setf (yy_W m t) 45 4 1 0 (.inl v) = some (yy_W (yy_s m 45 1 v) t) := yy_setf rfl (by decide) rfl rfl
theorem yf_45_2 : xm_fi o (yy_W m t) 45 4 2 = some (m 45 2) := yy_fi rfl (by decide) rfl
theorem ys_45_2 : xm_setf (yy_W m t) 45 4 2 0 (.inl v) = some (yy_W (yy_s m 45 2 v) t) := yy_setf rfl (by decide) rfl rfl
theorem yf_45_3 : xm_fi o (yy_W m t) 45 4 3 = some (m 45 3) := yy_fi rfl (by decide) rfl
theorem ys_45_3 : xm_setf (yy_W m t) 45 4 3 0 (.inl v) = some (yy_W (yy_s m 45 3 v) t) := yy_setf rfl (by decide) rfl rfl
theorem yf_45_4 : xm_fi o (yy_W m t) 45 4 4 = some (m 45 4) := yy_fi rfl (by decide) rfl
theorem ys_45_4 : xm_setf (yy_W m t) 45 4 4 0 (.inl v) = some (yy_W (yy_s m 45 4 v) t) := yy_setf rfl (by decide) rfl rfl
theorem yf_45_5 : xm_fi o (yy_W m t) 45 4 5 = some (m 45 5) := yy_fi rfl (by decide) rfl
theorem ys_45_5 : xm_setf (yy_W m t) 45 4 5 0 (.inl v) = some (yy_W (yy_s m 45 5 v) t) := yy_setf rfl (by decide) rfl rfl
theorem yr_45_6 : xm_fr o (yy_W m t) 45 4 6 = some 46 := yy_fr rfl (by decide) rfl
theorem yi_46 : xm_ints o (yy_W m t) 46 = some (yy_R 12 (m 46)) := yy_ints rfl
theorem yt_46 (h0 : 0 ≤ z) (h1 : z < 12) : xm_seti (yy_W m t) 46 z x = some (yy_W (yy_s m 46 z.toNat x) t) := yy_seti rfl h0 h1
theorem yf_47_0 : xm_fi o (yy_W m t) 47 4 0 = some (m 47 0) := yy_fi rfl (by decide) rfl
theorem ys_47_0 : xm_setf (yy_W m t) 47 4 0 0 (.inl v) = some (yy_W (yy_s m 47 0 v) t) := yy_setf rfl (by decide) rfl rfl
theorem yf_47_1 : xm_fi o (yy_W m t) 47 4 1 = some (m 47 1) := yy_fi rfl (by decide) rfl
theorem ys_47_1 : xm_setf (yy_W m t) 47 4 1 0 (.inl v) = some (yy_W (yy_s m 47 1 v) t) := yy_setf rfl (by decide) rfl rfl
theorem yf_47_2 : xm_fi o (yy_W m t) 47 4 2 = some (m 47 2) := yy_fi rfl (by decide) rfl
theorem ys_47_2 : xm_setf (yy_W m t) 47 4 2 0 (.inl v) = some (yy_W (yy_s m 47 2 v) t) := yy_setf rfl (by decide) rfl rfl
theorem yf_47_3 : xm_fi o (yy_W m t) 47 4 3 = some (m 47 3) := yy_fi rfl (by decide) rfl
theorem ys_47_3 : xm_setf (yy_W m t) 47 4 3 0 (.inl v) = some (yy_W (yy_s m 47 3 v) t) := yy_setf rfl (by decide) rfl rfl
theorem yf_47_4 : xm_fi o (yy_W m t) 47 4 4 = some (m 47 4) := yy_fi rfl (by decide) rfl
theorem ys_47_4 : xm_setf (yy_W m t) 47 4 4 0 (.inl v) = some (yy_W (yy_s m 47 4 v) t) := yy_setf rfl (by decide) rfl rfl
theorem yf_47_5 : xm_fi o (yy_W m t) 47 4 5 = some (m 47 5) := yy_fi rfl (by decide) rfl
theorem ys_47_5 : xm_setf (yy_W m t) 47 4 5 0 (.inl v) = some (yy_W (yy_s m 47 5 v) t) := yy_setf rfl (by decide) rfl rfl
theorem yr_47_6 : xm_fr o (yy_W m t) 47 4 6 = some 48 := yy_fr rfl (by decide) rfl
theorem yi_48 : xm_ints o (yy_W m t) 48 = some (yy_R 12 (m 48)) := yy_ints rfl
theorem yt_48 (h0 : 0 ≤ z) (h1 : z < 12) : xm_seti (yy_W m t) 48 z x = some (yy_W (yy_s m 48 z.toNat x) t) := yy_seti rfl h0 h1
theorem yf_49_0 : xm_fi o (yy_W m t) 49 4 0 = some (m 49 0) := yy_fi rfl (by decide) rfl
theorem ys_49_0 : xm_setf (yy_W m t) 49 4 0 0 (.inl v) = some (yy_W (yy_s m 49 0 v) t) := yy_setf rfl (by decide) rfl rfl
theorem yf_49_1 : xm_fi o (yy_W m t) 49 4 1 = some (m 49 1) := yy_fi rfl (by decide) rfl
theorem ys_49_1 : xm_setf (yy_W m t) 49 4 1 0 (.inl v) = some (yy_W (yy_s m 49 1 v) t) := yy_setf rfl (by decide) rfl rfl
theorem yf_49_2 : xm_fi o (yy_W m t) 49 4 2 = some (m 49 2) := yy_fi rfl (by decide) rfl
theorem ys_49_2 : xm_setf (yy_W m t) 49 4 2 0 (.inl v) = some (yy_W (yy_s m 49 2 v) t) := yy_setf rfl (by decide) rfl rfl
theorem yf_49_3 : xm_fi o (yy_W m t) 49 4 3 = some (m 49 3) := yy_fi rfl (by decide) rfl
theorem ys_49_3 : xm_setf (yy_W m t) 49 4 3 0 (.inl v) = some (yy_W (yy_s m 49 3 v) t) := yy_setf rfl (by decide) rfl rfl
theorem yf_49_4 : xm_fi o (yy_W m t) 49 4 4 = some (m 49 4) := yy_fi rfl (by decide) rfl
theorem ys_49_4 : xm_setf (yy_W m t) 49 4 4 0 (.inl v) = some (yy_W (yy_s m 49 4 v) t) := yy_setf rfl (by decide) rfl rfl
theorem yf_49_5 : xm_fi o (yy_W m t) 49 4 5 = some (m 49 5) := yy_fi rfl (by decide) rfl
theorem ys_49_5 : xm_setf (yy_W m t) 49 4 5 0 (.inl v) = some (yy_W (yy_s m 49 5 v) t) := yy_setf rfl (by decide) rfl rfl
theorem yr_49_6 : xm_fr o (yy_W m t) 49 4 6 = some 50 := yy_fr rfl (by decide) rfl
theorem yi_50 : xm_ints o (yy_W m t) 50 = some (yy_R 12 (m 50)) := yy_ints rfl
theorem yt_50 (h0 : 0 ≤ z) (h1 : z < 12) : xm_seti (yy_W m t) 50 z x = some (yy_W (yy_s m 50 z.toNat x) t) := yy_seti rfl h0 h1
theorem yf_51_0 : xm_fi o (yy_W m t) 51 4 0 = some (m 51 0) := yy_fi rfl (by decide) rfl
theorem ys_51_0 : xm_setf (yy_W m t) 51 4 0 0 (.inl v) = some (yy_W (yy_s m 51 0 v) t) := yy_setf rfl (by decide) rfl rfl
theorem yf_51_1 : xm_fi o (yy_W m t) 51 4 1 = some (m 51 1) := yy_fi rfl (by decide) rfl
theorem ys_51_1 : xm_setf (yy_W m t) 51 4 1 0 (.inl v) = some (yy_W (yy_s m 51 1 v) t) := yy_setf rfl (by decide) rfl rfl
theorem yf_51_2 : xm_fi o (yy_W m t) 51 4 2 = some (m 51 2) := yy_fi rfl (by decide) rfl
theorem ys_51_2 : xm_setf (yy_W m t) 51 4 2 0 (.inl v) = some (yy_W (yy_s m 51 2 v) t) := yy_setf rfl (by decide) rfl rfl
theorem yf_51_3 : xm_fi o (yy_W m t) 51 4 3 = some (m 51 3) := yy_fi rfl (by decide) rfl
theorem ys_51_3 : xm_setf (yy_W m t) 51 4 3 0 (.inl v) = some (yy_W (yy_s m 51 3 v) t) := yy_setf rfl (by decide) rfl rfl
theorem yf_51_4 : xm_fi o (yy_W m t) 51 4 4 = some (m 51 4) := yy_fi rfl (by decide) rfl
theorem ys_51_4 : xm_setf (yy_W m t) 51 4 4 0 (.inl v) = some (yy_W (yy_s m 51 4 v) t) := yy_setf rfl (by decide) rfl rfl
theorem yf_51_5 : xm_fi o (yy_W m t) 51 4 5 = some (m 51 5) := yy_fi rfl (by decide) rfl
theorem ys_51_5 : xm_setf (yy_W m t) 51 4 5 0 (.inl v) = some (yy_W (yy_s m 51 5 v) t) := yy_setf rfl (by decide) rfl rfl
theorem yr_51_6 : xm_fr o (yy_W m t) 51 4 6 = some 52 := yy_fr rfl (by decide) rfl
theorem yi_52 : xm_ints o (yy_W m t) 52 = some (yy_R 12 (m 52)) := yy_ints rfl
theorem yt_52 (h0 : 0 ≤ z) (h1 : z < 12) : xm_seti (yy_W m t) 52 z x = some (yy_W (yy_s m 52 z.toNat x) t) := yy_seti rfl h0 h1
theorem yf_53_0 : xm_fi o (yy_W m t) 53 4 0 = some (m 53 0) := yy_fi rfl (by decide) rfl
theorem ys_53_0 : xm_setf (yy_W m t) 53 4 0 0 (.inl v) = some (yy_W (yy_s m 53 0 v) t) := yy_setf rfl (by decide) rfl rfl
theorem yf_53_1 : xm_fi o (yy_W m t) 53 4 1 = some (m 53 1) := yy_fi rfl (by decide) rfl
theorem ys_53_1 : xm_setf (yy_W m t) 53 4 1 0 (.inl v) = some (yy_W (yy_s m 53 1 v) t) := yy_setf rfl (by decide) rfl rfl
theorem yf_53_2 : xm_fi o (yy_W m t) 53 4 2 = some (m 53 2) := yy_fi rfl (by decide) rfl
theorem ys_53_2 : xm_setf (yy_W m t) 53 4 2 0 (.inl v) = some (yy_W (yy_s m 53 2 v) t) := yy_setf rfl (by decide) rfl rfl
theorem yf_53_3 : xm_fi o (yy_W m t) 53 4 3 = some (m 53 3) := yy_fi rfl (by decide) rfl
theorem ys_53_3 : xm_setf (yy_W m t) 53 4 3 0 (.inl v) = some (yy_W (yy_s m 53 3 v) t) := yy_setf rfl (by decide) rfl rfl
theorem yf_53_4 : xm_fi o (yy_W m t) 53 4 4 = some (m 53 4) := yy_fi rfl (by decide) rfl
theorem ys_53_4 : xm_setf (yy_W m t) 53 4 4 0 (.inl v) = some (yy_W (yy_s m 53 4 v) t) := yy_setf rfl (by decide) rfl rfl
theorem yf_53_5 : xm_fi o (yy_W m t) 53 4 5 = some (m 53 5) := yy_fi rfl (by decide) rfl
theorem ys_53_5 : xm_setf (yy_W m t) 53 4 5 0 (.inl v) = some (yy_W (yy_s m 53 5 v) t) := yy_setf rfl (by decide) rfl rfl
theorem yr_53_6 : xm_fr o (yy_W m t) 53 4 6 = some 54 := yy_fr rfl (by decide) rfl
theorem yi_54 : xm_ints o (yy_W m t) 54 = some (yy_R 12 (m 54)) := yy_ints rfl
theorem yt_54 (h0 : 0 ≤ z) (h1 : z < 12) : xm_seti (yy_W m t) 54 z x = some (yy_W (yy_s m 54 z.toNat x) t) := yy_seti rfl h0 h1
theorem yr_55_0 : xm_fr o (yy_W m t) 55 1 0 = some 56 := yy_fr rfl (by decide) rfl
theorem yf_55_1 : xm_fi o (yy_W m t) 55 1 1 = some (m 55 1) := yy_fi rfl (by decide) rfl
theorem ys_55_1 : xm_setf (yy_W m t) 55 1 1 0 (.inl v) = some (yy_W (yy_s m 55 1 v) t) := yy_setf rfl (by decide) rfl rfl
theorem yr_55_2 : xm_fr o (yy_W m t) 55 1 2 = some 57 := yy_fr rfl (by decide) rfl
theorem yf_55_3 : xm_fi o (yy_W m t) 55 1 3 = some (m 55 3) := yy_fi rfl (by decide) rfl
theorem ys_55_3 : xm_setf (yy_W m t) 55 1 3 0 (.inl v) = some (yy_W (yy_s m 55 3 v) t) := yy_setf rfl (by decide) rfl rfl
theorem yf_55_4 : xm_fi o (yy_W m t) 55 1 4 = some (m 55 4) := yy_fi rfl (by decide) rfl
theorem ys_55_4 : xm_setf (yy_W m t) 55 1 4 0 (.inl v) = some (yy_W (yy_s m 55 4 v) t) := yy_setf rfl (by decide) rfl rfl
theorem yi_56 : xm_ints o (yy_W m t) 56 = some (yy_R 60 (m 56)) := yy_ints rfl
theorem yt_56 (h0 : 0 ≤ z) (h1 : z < 60) : xm_seti (yy_W m t) 56 z x = some (yy_W (yy_s m 56 z.toNat x) t) := yy_seti rfl h0 h1
theorem yi_57 : xm_ints o (yy_W m t) 57 = some (yy_R 24 (m 57)) := yy_ints rfl
theorem yt_57 (h0 : 0 ≤ z) (h1 : z < 24) : xm_seti (yy_W m t) 57 z x = some (yy_W (yy_s m 57 z.toNat x) t) := yy_seti rfl h0 h1
theorem yf_58_1 : xm_fi o (yy_W m t) 58 3 1 = some (m 58 1) := yy_fi rfl (by decide) rfl
theorem ys_58_1 : xm_setf (yy_W m t) 58 3 1 0 (.inl v) = some (yy_W (yy_s m 58 1 v) t) := yy_setf rfl (by decide) rfl rfl
theorem yf_58_3 : xm_fi o (yy_W m t) 58 3 3 = some (m 58 3) := yy_fi rfl (by decide) rfl
theorem ys_58_3 : xm_setf (yy_W m t) 58 3 3 0 (.inl v) = some (yy_W (yy_s m 58 3 v) t) := yy_setf rfl (by decide) rfl rfl
theorem yr_58_4 : xm_fr o (yy_W m t) 58 3 4 = some 60 := yy_fr rfl (by decide) rfl
theorem yf_58_5 : xm_fi o (yy_W m t) 58 3 5 = some (m 58 5) := yy_fi rfl (by decide) rfl
theorem ys_58_5 : xm_setf (yy_W m t) 58 3 5 0 (.inl v) = some (yy_W (yy_s m 58 5 v) t) := yy_setf rfl (by decide) rfl rfl
theorem yi_59 : xm_ints o (yy_W m t) 59 = some (yy_R 0 (m 59)) := yy_ints rfl
theorem yt_59 (h0 : 0 ≤ z) (h1 : z < 0) : xm_seti (yy_W m t) 59 z x = some (yy_W (yy_s m 59 z.toNat x) t) := yy_seti rfl h0 h1
theorem yi_60 : xm_ints o (yy_W m t) 60 = some (yy_R 60 (m 60)) := yy_ints rfl
theorem yt_60 (h0 : 0 ≤ z) (h1 : z < 60) : xm_seti (yy_W m t) 60 z x = some (yy_W (yy_s m 60 z.toNat x) t) := yy_seti rfl h0 h1
theorem yr_61_0 : xm_fr o (yy_W m t) 61 6 0 = some 62 := yy_fr rfl (by decide) rfl
theorem yf_61_1 : xm_fi o (yy_W m t) 61 6 1 = some (m 61 1) := yy_fi rfl (by decide) rfl
theorem ys_61_1 : xm_setf (yy_W m t) 61 6 1 0 (.inl v) = some (yy_W (yy_s m 61 1 v) t) := yy_setf rfl (by decide) rfl rfl
theorem yf_61_2 : xm_fi o (yy_W m t) 61 6 2 = some (m 61 2) := yy_fi rfl (by decide) rfl
theorem ys_61_2 : xm_setf (yy_W m t) 61 6 2 0 (.inl v) = some (yy_W (yy_s m 61 2 v) t) := yy_setf rfl (by decide) rfl rfl
theorem yf_61_3 : xm_fi o (yy_W m t) 61 6 3 = some (m 61 3) := yy_fi rfl (by decide) rfl
theorem ys_61_3 : xm_setf (yy_W m t) 61 6 3 0 (.inl v) = some (yy_W (yy_s m 61 3 v) t) := yy_setf rfl (by decide) rfl rfl
theorem yf_61_4 : xm_fi o (yy_W m t) 61 6 4 = some (m 61 4) := yy_fi rfl (by decide) rfl
theorem ys_61_4 : xm_setf (yy_W m t) 61 6 4 0 (.inl v) = some (yy_W (yy_s m 61 4 v) t) := yy_setf rfl (by decide) rfl rfl
theorem yi_62 : xm_ints o (yy_W m t) 62 = some (yy_R 30 (m 62)) := yy_ints rfl
theorem yt_62 (h0 : 0 ≤ z) (h1 : z < 30) : xm_seti (yy_W m t) 62 z x = some (yy_W (yy_s m 62 z.toNat x) t) := yy_seti rfl h0 h1
theorem yf_63_0 : xm_fi o (yy_W m t) 63 0 0 = some (m 63 0) := yy_fi rfl (by decide) rfl
theorem ys_63_0 (h : xm_fit 1 (.inl v) = true) : xm_setf (yy_W m t) 63 0 0 1 (.inl v) = some (yy_W (yy_s m 63 0 v) t) := yy_setf rfl (by decide) rfl h
theorem yf_63_1 : xm_fi o (yy_W m t) 63 0 1 = some (m 63 1) := yy_fi rfl (by decide) rfl
theorem ys_63_1 : xm_setf (yy_W m t) 63 0 1 0 (.inl v) = some (yy_W (yy_s m 63 1 v) t) := yy_setf rfl (by decide) rfl rfl
theorem yf_63_2 : xm_fi o (yy_W m t) 63 0 2 = some (m 63 2) := yy_fi rfl (by decide) rfl
theorem ys_63_2 : xm_setf (yy_W m t) 63 0 2 0 (.inl v) = some (yy_W (yy_s m 63 2 v) t) := yy_setf rfl (by decide) rfl rfl
theorem yf_63_3 : xm_fi o (yy_W m t) 63 0 3 = some (m 63 3) := yy_fi rfl (by decide) rfl
theorem ys_63_3 : xm_setf (yy_W m t) 63 0 3 0 (.inl v) = some (yy_W (yy_s m 63 3 v) t) := yy_setf rfl (by decide) rfl rfl
theorem yf_63_4 : xm_fi o (yy_W m t) 63 0 4 = some (m 63 4) := yy_fi rfl (by decide) rfl
theorem ys_63_4 : xm_setf (yy_W m t) 63 0 4 0 (.inl v) = some (yy_W (yy_s m 63 4 v) t) := yy_setf rfl (by decide) rfl rfl
theorem yq_64 : xm_refs o (yy_W m t) 64 = some (yy_qs (m 64) 0 [68, 70, 72, 74]) := yy_refs rfl (by decide)
theorem yi_65 : xm_ints o (yy_W m t) 65 = some (yy_R 7 (m 65)) := yy_ints rfl
theorem yt_65 (h0 : 0 ≤ z) (h1 : z < 7) : xm_seti (yy_W m t) 65 z x = some (yy_W (yy_s m 65 z.toNat x) t) := yy_seti rfl h0 h1
theorem yf_66_0 : xm_fi o (yy_W m t) 66 5 0 = some (m 66 0) := yy_fi rfl (by decide) rfl
theorem ys_66_0 : xm_setf (yy_W m t) 66 5 0 0 (.inl v) = some (yy_W (yy_s m 66 0 v) t) := yy_setf rfl (by decide) rfl rfl
theorem yf_66_1 : xm_fi o (yy_W m t) 66 5 1 = some (m 66 1) := yy_fi rfl (by decide) rfl
theorem ys_66_1 : xm_setf (yy_W m t) 66 5 1 0 (.inl v) = some (yy_W (yy_s m 66 1 v) t) := yy_setf rfl (by decide) rfl rfl
theorem yr_66_2 : xm_fr o (yy_W m t) 66 5 2 = some 67 := yy_fr rfl (by decide) rfl
theorem yi_67 : xm_ints o (yy_W m t) 67 = some (yy_R 24 (m 67)) := yy_ints rfl
theorem yt_67 (h0 : 0 ≤ z) (h1 : z < 24) : xm_seti (yy_W m t) 67 z x = some (yy_W (yy_s m 67 z.toNat x) t) := yy_seti rfl h0 h1
theorem yf_68_0 : xm_fi o (yy_W m t) 68 5 0 = some (m 68 0) := yy_fi rfl (by decide) rfl
theorem ys_68_0 : xm_setf (yy_W m t) 68 5 0 0 (.inl v) = some (yy_W (yy_s m 68 0 v) t) := yy_setf rfl (by decide) rfl rfl
theorem yf_68_1 : xm_fi o (yy_W m t) 68 5 1 = some (m 68 1) := yy_fi rfl (by decide) rfl
theorem ys_68_1 : xm_setf (yy_W m t) 68 5 1 0 (.inl v) = some (yy_W (yy_s m 68 1 v) t) := yy_setf rfl (by decide) rfl rfl
theorem yr_68_2 : xm_fr o (yy_W m t) 68 5 2 = some 69 := yy_fr rfl (by decide) rfl
theorem yi_69 : xm_ints o (yy_W m t) 69 = some (yy_R 24 (m 69)) := yy_ints rfl
theorem yt_69 (h0 : 0 ≤ z) (h1 : z < 24) : xm_seti (yy_W m t) 69 z x = some (yy_W (yy_s m 69 z.toNat x) t) := yy_seti rfl h0 h1
theorem yf_70_0 : xm_fi o (yy_W m t) 70 5 0 = some (m 70 0) := yy_fi rfl (by decide) rfl
theorem ys_70_0 : xm_setf (yy_W m t) 70 5 0 0 (.inl v) = some (yy_W (yy_s m 70 0 v) t) := yy_setf rfl (by decide) rfl rfl
theorem yf_70_1 : xm_fi o (yy_W m t) 70 5 1 = some (m 70 1) := yy_fi rfl (by decide) rfl
theorem ys_70_1 : xm_setf (yy_W m t) 70 5 1 0 (.inl v) = some (yy_W (yy_s m 70 1 v) t) := yy_setf rfl (by decide) rfl rfl
theorem yr_70_2 : xm_fr o (yy_W m t) 70 5 2 = some 71 := yy_fr rfl (by decide) rfl
theorem yi_71 : xm_ints o (yy_W m t) 71 = some (yy_R 24 (m 71)) := yy_ints rfl
theorem yt_71 (h0 : 0 ≤ z) (h1 : z < 24) : xm_seti (yy_W m t) 71 z x = some (yy_W (yy_s m 71 z.toNat x) t) := yy_seti rfl h0 h1
theorem yf_72_0 : xm_fi o (yy_W m t) 72 5 0 = some (m 72 0) := yy_fi rfl (by decide) rfl
theorem ys_72_0 : xm_setf (yy_W m t) 72 5 0 0 (.inl v) = some (yy_W (yy_s m 72 0 v) t) := yy_setf rfl (by decide) rfl rfl
theorem yf_72_1 : xm_fi o (yy_W m t) 72 5 1 = some (m 72 1) := yy_fi rfl (by decide) rfl
theorem ys_72_1 : xm_setf (yy_W m t) 72 5 1 0 (.inl v) = some (yy_W (yy_s m 72 1 v) t) := yy_setf rfl (by decide) rfl rfl
theorem yr_72_2 : xm_fr o (yy_W m t) 72 5 2 = some 73 := yy_fr rfl (by decide) rfl
theorem yi_73 : xm_ints o (yy_W m t) 73 = some (yy_R 24 (m 73)) := yy_ints rfl
theorem yt_73 (h0 : 0 ≤ z) (h1 : z < 24) : xm_seti (yy_W m t) 73 z x = some (yy_W (yy_s m 73 z.toNat x) t) := yy_seti rfl h0 h1
theorem yr_74_0 : xm_fr o (yy_W m t) 74 9 0 = some 75 := yy_fr rfl (by decide) rfl
theorem yr_74_1 : xm_fr o (yy_W m t) 74 9 1 = some 76 := yy_fr rfl (by decide) rfl
theorem yr_74_2 : xm_fr o (yy_W m t) 74 9 2 = some 77 := yy_fr rfl (by decide) rfl
theorem yf_74_3 : xm_fi o (yy_W m t) 74 9 3 = some (m 74 3) := yy_fi rfl (by decide) rfl
theorem ys_74_3 : xm_setf (yy_W m t) 74 9 3 0 (.inl v) = some (yy_W (yy_s m 74 3 v) t) := yy_setf rfl (by decide) rfl rfl
theorem yf_74_4 : xm_fi o (yy_W m t) 74 9 4 = some (m 74 4) := yy_fi rfl (by decide) rfl
theorem ys_74_4 : xm_setf (yy_W m t) 74 9 4 0 (.inl v) = some (yy_W (yy_s m 74 4 v) t) := yy_setf rfl (by decide) rfl rfl
theorem yr_74_5 : xm_fr o (yy_W m t) 74 9 5 = some 78 := yy_fr rfl (by decide) rfl
theorem yf_74_6 : xm_fi o (yy_W m t) 74 9 6 = some (m 74 6) := yy_fi rfl (by decide) rfl
theorem ys_74_6 : xm_setf (yy_W m t) 74 9 6 0 (.inl v) = some (yy_W (yy_s m 74 6 v) t) := yy_setf rfl (by decide) rfl rfl
theorem yf_74_7 : xm_fi o (yy_W m t) 74 9 7 = some (m 74 7) := yy_fi rfl (by decide) rfl
theorem ys_74_7 : xm_setf (yy_W m t) 74 9 7 0 (.inl v) = some (yy_W (yy_s m 74 7 v) t) := yy_setf rfl (by decide) rfl rfl
theorem yf_74_8 : xm_fi o (yy_W m t) 74 9 8 = some (m 74 8) := yy_fi rfl (by decide) rfl
theorem ys_74_8 : xm_setf (yy_W m t) 74 9 8 0 (.inl v) = some (yy_W (yy_s m 74 8 v) t) := yy_setf rfl (by decide) rfl rfl
theorem yf_74_9 : xm_fi o (yy_W m t) 74 9 9 = some (m 74 9) := yy_fi rfl (by decide) rfl
theorem ys_74_9 : xm_setf (yy_W m t) 74 9 9 0 (.inl v) = some (yy_W (yy_s m 74 9 v) t) := yy_setf rfl (by decide) rfl rfl
theorem yr_74_10 : xm_fr o (yy_W m t) 74 9 10 = some 79 := yy_fr rfl (by decide) rfl
theorem yr_74_11 : xm_fr o (yy_W m t) 74 9 11 = some 80 := yy_fr rfl (by decide) rfl
theorem yr_74_12 : xm_fr o (yy_W m t) 74 9 12 = some 81 := yy_fr rfl (by decide) rfl
theorem yf_74_13 : xm_fi o (yy_W m t) 74 9 13 = some (m 74 13) := yy_fi rfl (by decide) rfl
theorem ys_74_13 : xm_setf (yy_W m t) 74 9 13 0 (.inl v) = some (yy_W (yy_s m 74 13 v) t) := yy_setf rfl (by decide) rfl rfl
theorem yr_74_14 : xm_fr o (yy_W m t) 74 9 14 = some 82 := yy_fr rfl (by decide) rfl
theorem yf_74_15 : xm_fi o (yy_W m t) 74 9 15 = some (m 74 15) := yy_fi rfl (by decide) rfl
theorem ys_74_15 : xm_setf (yy_W m t) 74 9 15 0 (.inl v) = some (yy_W (yy_s m 74 15 v) t) := yy_setf rfl (by decide) rfl rfl
theorem yf_74_16 : xm_fi o (yy_W m t) 74 9 16 = some (m 74 16) := yy_fi rfl (by decide) rfl
theorem ys_74_16 : xm_setf (yy_W m t) 74 9 16 0 (.inl v) = some (yy_W (yy_s m 74 16 v) t) := yy_setf rfl (by decide) rfl rfl
theorem yf_74_17 : xm_fi o (yy_W m t) 74 9 17 = some (m 74 17) := yy_fi rfl (by decide) rfl
theorem ys_74_17 (h : xm_fit 1 (.inl v) = true) : xm_setf (yy_W m t) 74 9 17 1 (.inl v) = some (yy_W (yy_s m 74 17 v) t) := yy_setf rfl (by decide) rfl h
theorem yr_74_18 : xm_fr o (yy_W m t) 74 9 18 = some 83 := yy_fr rfl (by decide) rfl
theorem yr_74_19 : xm_fr o (yy_W m t) 74 9 19 = some 84 := yy_fr rfl (by decide) rfl
theorem yr_74_20 : xm_fr o (yy_W m t) 74 9 20 = some 85 := yy_fr rfl (by decide) rfl
theorem yr_74_21 : xm_fr o (yy_W m t) 74 9 21 = some 86 := yy_fr rfl (by decide) rfl
theorem yi_75 : xm_ints o (yy_W m t) 75 = some (yy_R 673 (m 75)) := yy_ints rfl
theorem yt_75 (h0 : 0 ≤ z) (h1 : z < 673) : xm_seti (yy_W m t) 75 z x = some (yy_W (yy_s m 75 z.toNat x) t) := yy_seti rfl h0 h1
theorem yi_76 : xm_ints o (yy_W m t) 76 = some (yy_R 673 (m 76)) := yy_ints rfl
theorem yt_76 (h0 : 0 ≤ z) (h1 : z < 673) : xm_seti (yy_W m t) 76 z x = some (yy_W (yy_s m 76 z.toNat x) t) := yy_seti rfl h0 h1
theorem yi_77 : xm_ints o (yy_W m t) 77 = some (yy_R 339 (m 77)) := yy_ints rfl
theorem yt_77 (h0 : 0 ≤ z) (h1 : z < 339) : xm_seti (yy_W m t) 77 z x = some (yy_W (yy_s m 77 z.toNat x) t) := yy_seti rfl h0 h1
theorem yi_78 : xm_ints o (yy_W m t) 78 = some (yy_R 7 (m 78)) := yy_ints rfl
theorem yt_78 (h0 : 0 ≤ z) (h1 : z < 7) : xm_seti (yy_W m t) 78 z x = some (yy_W (yy_s m 78 z.toNat x) t) := yy_seti rfl h0 h1
theorem yi_79 : xm_ints o (yy_W m t) 79 = some (yy_R 124 (m 79)) := yy_ints rfl
theorem yt_79 (h0 : 0 ≤ z) (h1 : z < 124) : xm_seti (yy_W m t) 79 z x = some (yy_W (yy_s m 79 z.toNat x) t) := yy_seti rfl h0 h1
theorem yi_80 : xm_ints o (yy_W m t) 80 = some (yy_R 128 (m 80)) := yy_ints rfl
theorem yt_80 (h0 : 0 ≤ z) (h1 : z < 128) : xm_seti (yy_W m t) 80 z x = some (yy_W (yy_s m 80 z.toNat x) t) := yy_seti rfl h0 h1
theorem yi_81 : xm_ints o (yy_W m t) 81 = some (yy_R 64 (m 81)) := yy_ints rfl
theorem yt_81 (h0 : 0 ≤ z) (h1 : z < 64) : xm_seti (yy_W m t) 81 z x = some (yy_W (yy_s m 81 z.toNat x) t) := yy_seti rfl h0 h1
theorem yi_82 : xm_ints o (yy_W m t) 82 = some (yy_R 30 (m 82)) := yy_ints rfl
theorem yt_82 (h0 : 0 ≤ z) (h1 : z < 30) : xm_seti (yy_W m t) 82 z x = some (yy_W (yy_s m 82 z.toNat x) t) := yy_seti rfl h0 h1
theorem yi_83 : xm_ints o (yy_W m t) 83 = some (yy_R 4 (m 83)) := yy_ints rfl
theorem yt_83 (h0 : 0 ≤ z) (h1 : z < 4) : xm_seti (yy_W m t) 83 z x = some (yy_W (yy_s m 83 z.toNat x) t) := yy_seti rfl h0 h1
theorem yi_84 : xm_ints o (yy_W m t) 84 = some (yy_R 4 (m 84)) := yy_ints rfl
theorem yt_84 (h0 : 0 ≤ z) (h1 : z < 4) : xm_seti (yy_W m t) 84 z x = some (yy_W (yy_s m 84 z.toNat x) t) := yy_seti rfl h0 h1
theorem yi_85 : xm_ints o (yy_W m t) 85 = some (yy_R 96 (m 85)) := yy_ints rfl
theorem yt_85 (h0 : 0 ≤ z) (h1 : z < 96) : xm_seti (yy_W m t) 85 z x = some (yy_W (yy_s m 85 z.toNat x) t) := yy_seti rfl h0 h1
theorem yi_86 : xm_ints o (yy_W m t) 86 = some (yy_R 24 (m 86)) := yy_ints rfl
theorem yt_86 (h0 : 0 ≤ z) (h1 : z < 24) : xm_seti (yy_W m t) 86 z x = some (yy_W (yy_s m 86 z.toNat x) t) := yy_seti rfl h0 h1
theorem zr_0_0 {F : _ → Prop} : xm_O (xm_fr o (yy_W m t) 0 8 0) F = F 1 := congrArg (fun x => xm_O x F) (yr_0_0)
theorem zr_0_1 {F : _ → Prop} : xm_O (xm_fr o (yy_W m t) 0 8 1) F = F 18 := congrArg (fun x => xm_O x F) (yr_0_1)
theorem zr_0_2 {F : _ → Prop} : xm_O (xm_fr o (yy_W m t) 0 8 2) F = F 35 := congrArg (fun x => xm_O x F) (yr_0_2)
theorem zr_0_3 {F : _ → Prop} : xm_O (xm_fr o (yy_W m t) 0 8 3) F = F 38 := congrArg (fun x => xm_O x F) (yr_0_3)
theorem zr_0_4 {F : _ → Prop} : xm_O (xm_fr o (yy_W m t) 0 8 4) F = F 55 := congrArg (fun x => xm_O x F) (yr_0_4)
theorem zf_0_5 {F : _ → Prop} : xm_O (xm_fi o (yy_W m t) 0 8 5) F = F (m 0 5) := congrArg (fun x => xm_O x F) (yf_0_5)
theorem zs_0_5 {F : _ → Prop} : xm_O (xm_setf (yy_W m t) 0 8 5 0 (.inl v)) F = F (yy_W (yy_s m 0 5 v) t) := congrArg (fun x => xm_O x F) (ys_0_5)
theorem zr_0_6 {F : _ → Prop} : xm_O (xm_fr o (yy_W m t) 0 8 6) F = F 58 := congrArg (fun x => xm_O x F) (yr_0_6)
theorem zr_0_7 {F : _ → Prop} : xm_O (xm_fr o (yy_W m t) 0 8 7) F = F 61 := congrArg (fun x => xm_O x F) (yr_0_7)
theorem zr_0_8 {F : _ → Prop} : xm_O (xm_fr o (yy_W m t) 0 8 8) F = F 63 := congrArg (fun x => xm_O x F) (yr_0_8)
theorem zr_0_9 {F : _ → Prop} : xm_O (xm_fr o (yy_W m t) 0 8 9) F = F 64 := congrArg (fun x => xm_O x F) (yr_0_9)
theorem zr_0_10 {F : _ → Prop} : xm_O (xm_fr o (yy_W m t) 0 8 10) F = F 65 := congrArg (fun x => xm_O x F) (yr_0_10)
theorem zr_1_0 {F : _ → Prop} : xm_O (xm_fr o (yy_W m t) 1 2 0) F = F 2 := congrArg (fun x => xm_O x F) (yr_1_0)
theorem zf_1_1 {F : _ → Prop} : xm_O (xm_fi o (yy_W m t) 1 2 1) F = F (m 1 1) := congrArg (fun x => xm_O x F) (yf_1_1)
theorem zs_1_1 {F : _ → Prop} : xm_O (xm_setf (yy_W m t) 1 2 1 0 (.inl v)) F = F (yy_W (yy_s m 1 1 v) t) := congrArg (fun x => xm_O x F) (ys_1_1)
theorem zf_1_2 {F : _ → Prop} : xm_O (xm_fi o (yy_W m t) 1 2 2) F = F (m 1 2) := congrArg (fun x => xm_O x F) (yf_1_2)
theorem zs_1_2 {F : _ → Prop} : xm_O (xm_setf (yy_W m t) 1 2 2 0 (.inl v)) F = F (yy_W (yy_s m 1 2 v) t) := congrArg (fun x => xm_O x F) (ys_1_2)
theorem zr_1_3 {F : _ → Prop} : xm_O (xm_fr o (yy_W m t) 1 2 3) F = F 3 := congrArg (fun x => xm_O x F) (yr_1_3)
theorem zf_1_4 {F : _ → Prop} : xm_O (xm_fi o (yy_W m t) 1 2 4) F = F (m 1 4) := congrArg (fun x => xm_O x F) (yf_1_4)
theorem zs_1_4 {F : _ → Prop} : xm_O (xm_setf (yy_W m t) 1 2 4 0 (.inl v)) F = F (yy_W (yy_s m 1 4 v) t) := congrArg (fun x => xm_O x F) (ys_1_4)
theorem zr_1_5 {F : _ → Prop} : xm_O (xm_fr o (yy_W m t) 1 2 5) F = F 4 := congrArg (fun x => xm_O x F) (yr_1_5)
theorem zf_1_6 {F : _ → Prop} : xm_O (xm_fi o (yy_W m t) 1 2 6) F = F (m 1 6) := congrArg (fun x => xm_O x F) (yf_1_6)
theorem zs_1_6 {F : _ → Prop} : xm_O (xm_setf (yy_W m t) 1 2 6 0 (.inl v)) F = F (yy_W (yy_s m 1 6 v) t) := congrArg (fun x => xm_O x F) (ys_1_6)
theorem zr_1_7 {F : _ → Prop} : xm_O (xm_fr o (yy_W m t) 1 2 7) F = F 5 := congrArg (fun x => xm_O x F) (yr_1_7)
theorem zr_1_8 {F : _ → Prop} : xm_O (xm_fr o (yy_W m t) 1 2 8) F = F 6 := congrArg (fun x => xm_O x F) (yr_1_8)
theorem zr_1_9 {F : _ → Prop} : xm_O (xm_fr o (yy_W m t) 1 2 9) F = F 7 := congrArg (fun x => xm_O x F) (yr_1_9)
theorem zi_2 {F : _ → Prop} : xm_O (xm_ints o (yy_W m t) 2) F = F (yy_R 36 (m 2)) := congrArg (fun x => xm_O x F) (yi_2)
theorem zt_2 {F : _ → Prop} (h0 : 0 ≤ z) (h1 : z < 36) : xm_O (xm_seti (yy_W m t) 2 z x) F = F (yy_W (yy_s m 2 z.toNat x) t) := congrArg (fun x => xm_O x F) (yt_2 h0 h1)
theorem zq_3 {F : _ → Prop} : xm_O (xm_refs o (yy_W m t) 3) F = F (yy_qs (m 3) 0 [10, 12, 14, 16, 18]) := congrArg (fun x => xm_O x F) (yq_3)
theorem zi_4 {F : _ → Prop} : xm_O (xm_ints o (yy_W m t) 4) F = F (yy_R 200 (m 4)) := congrArg (fun x => xm_O x F) (yi_4)
theorem zt_4 {F : _ → Prop} (h0 : 0 ≤ z) (h1 : z < 200) : xm_O (xm_seti (yy_W m t) 4 z x) F = F (yy_W (yy_s m 4 z.toNat x) t) := congrArg (fun x => xm_O x F) (yt_4 h0 h1)
theorem zq_5 {F : _ → Prop} : xm_O (xm_refs o (yy_W m t) 5) F = F (yy_qs (m 5) 0 [1, 1]) := congrArg (fun x => xm_O x F) (yq_5)
theorem zi_6 {F : _ → Prop} : xm_O (xm_ints o (yy_W m t) 6) F = F (yy_R 4 (m 6)) := congrArg (fun x => xm_O x F) (yi_6)
theorem zt_6 {F : _ → Prop} (h0 : 0 ≤ z) (h1 : z < 4) : xm_O (xm_seti (yy_W m t) 6 z x) F = F (yy_W (yy_s m 6 z.toNat x) t) := congrArg (fun x => xm_O x F) (yt_6 h0 h1)
theorem zi_7 {F : _ → Prop} : xm_O (xm_ints o (yy_W m t) 7) F = F (yy_R 60 (m 7)) := congrArg (fun x => xm_O x F) (yi_7)
theorem zt_7 {F : _ → Prop} (h0 : 0 ≤ z) (h1 : z < 60) : xm_O (xm_seti (yy_W m t) 7 z x) F = F (yy_W (yy_s m 7 z.toNat x) t) := congrArg (fun x => xm_O x F) (yt_7 h0 h1)
theorem zf_8_0 {F : _ → Prop} : xm_O (xm_fi o (yy_W m t) 8 4 0) F = F (m 8 0) := congrArg (fun x => xm_O x F) (yf_8_0)
theorem zs_8_0 {F : _ → Prop} : xm_O (xm_setf (yy_W m t) 8 4 0 0 (.inl v)) F = F (yy_W (yy_s m 8 0 v) t) := congrArg (fun x => xm_O x F) (ys_8_0)
theorem zf_8_1 {F : _ → Prop} : xm_O (xm_fi o (yy_W m t) 8 4 1) F = F (m 8 1) := congrArg (fun x => xm_O x F) (yf_8_1)
theorem zs_8_1 {F : _ → Prop} : xm_O (xm_setf (yy_W m t) 8 4 1 0 (.inl v)) F = F (yy_W (yy_s m 8 1 v) t) := congrArg (fun x => xm_O x F) (ys_8_1)
theorem zf_8_2 {F : _ → Prop} : xm_O (xm_fi o (yy_W m t) 8 4 2) F = F (m 8 2) := congrArg (fun x => xm_O x F) (yf_8_2)
theorem zs_8_2 {F : _ → Prop} : xm_O (xm_setf (yy_W m t) 8 4 2 0 (.inl v)) F = F (yy_W (yy_s m 8 2 v) t) := congrArg (fun x => xm_O x F) (ys_8_2)
theorem zf_8_3 {F : _ → Prop} : xm_O (xm_fi o (yy_W m t) 8 4 3) F = F (m 8 3) := congrArg (fun x => xm_O x F) (yf_8_3)
theorem zs_8_3 {F : _ → Prop} : xm_O (xm_setf (yy_W m t) 8 4 3 0 (.inl v)) F = F (yy_W (yy_s m 8 3 v) t) := congrArg (fun x => xm_O x F) (ys_8_3)
theorem zf_8_4 {F : _ → Prop} : xm_O (xm_fi o (yy_W m t) 8 4 4) F = F (m 8 4) := congrArg (fun x => xm_O x F) (yf_8_4)
theorem zs_8_4 {F : _ → Prop} : xm_O (xm_setf (yy_W m t) 8 4 4 0 (.inl v)) F = F (yy_W (yy_s m 8 4 v) t) := congrArg (fun x => xm_O x F) (ys_8_4)
theorem zf_8_5 {F : _ → Prop} : xm_O (xm_fi o (yy_W m t) 8 4 5) F = F (m 8 5) := congrArg (fun x => xm_O x F) (yf_8_5)
theorem zs_8_5 {F : _ → Prop} : xm_O (xm_setf (yy_W m t) 8 4 5 0 (.inl v)) F = F (yy_W (yy_s m 8 5 v) t) := congrArg (fun x => xm_O x F) (ys_8_5)
theorem zr_8_6 {F : _ → Prop} : xm_O (xm_fr o (yy_W m t) 8 4 6) F = F 9 := congrArg (fun x => xm_O x F) (yr_8_6)
theorem zi_9 {F : _ → Prop} : xm_O (xm_ints o (yy_W m t) 9) F = F (yy_R 12 (m 9)) := congrArg (fun x => xm_O x F) (yi_9)
theorem zt_9 {F : _ → Prop} (h0 : 0 ≤ z) (h1 : z < 12) : xm_O (xm_seti (yy_W m t) 9 z x) F = F (yy_W (yy_s m 9 z.toNat x) t) := congrArg (fun x => xm_O x F) (yt_9 h0 h1)
theorem zf_10_0 {F : _ → Prop} : xm_O (xm_fi o (yy_W m t) 10 4 0) F = F (m 10 0) := congrArg (fun x => xm_O x F) (yf_10_0)
theorem zs_10_0 {F : _ → Prop} : xm_O (xm_setf (yy_W m t) 10 4 0 0 (.inl v)) F = F (yy_W (yy_s m 10 0 v) t) := congrArg (fun x => xm_O x F) (ys_10_0)
theorem zf_10_1 {F : _ → Prop} : xm_O (xm_fi o (yy_W m t) 10 4 1) F = F (m 10 1) := congrArg (fun x => xm_O x F) (yf_10_1)
theorem zs_10_1 {F : _ → Prop} : xm_O (xm_setf (yy_W m t) 10 4 1 0 (.inl v)) F = F (yy_W (yy_s m 10 1 v) t) := congrArg (fun x => xm_O x F) (ys_10_1)
theorem zf_10_2 {F : _ → Prop} : xm_O (xm_fi o (yy_W m t) 10 4 2) F = F (m 10 2) := congrArg (fun x => xm_O x F) (yf_10_2)
theorem zs_10_2 {F : _ → Prop} : xm_O (xm_setf (yy_W m t) 10 4 2 0 (.inl v)) F = F (yy_W (yy_s m 10 2 v) t) := congrArg (fun x => xm_O x F) (ys_10_2)
theorem zf_10_3 {F : _ → Prop} : xm_O (xm_fi o (yy_W m t) 10 4 3) F = F (m 10 3) := congrArg (fun x => xm_O x F) (yf_10_3)
theorem zs_10_3 {F : _ → Prop} : xm_O (xm_setf (yy_W m t) 10 4 3 0 (.inl v)) F = F (yy_W (yy_s m 10 3 v) t) := congrArg (fun x => xm_O x F) (ys_10_3)
theorem zf_10_4 {F : _ → Prop} : xm_O (xm_fi o (yy_W m t) 10 4 4) F = F (m 10 4) := congrArg (fun x => xm_O x F) (yf_10_4)
theorem zs_10_4 {F : _ → Prop} : xm_O (xm_setf (yy_W m t) 10 4 4 0 (.inl v)) F = F (yy_W (yy_s m 10 4 v) t) := congrArg (fun x => xm_O x F) (ys_10_4)
theorem zf_10_5 {F : _ → Prop} : xm_O (xm_fi o (yy_W m t) 10 4 5) F = F (m 10 5) := congrArg (fun x => xm_O x F) (yf_10_5)
theorem zs_10_5 {F : _ → Prop} : xm_O (xm_setf (yy_W m t) 10 4 5 0 (.inl v)) F = F (yy_W (yy_s m 10 5 v) t) := congrArg (fun x => xm_O x F) (ys_10_5)
theorem zr_10_6 {F : _ → Prop} : xm_O (xm_fr o (yy_W m t) 10 4 6) F = F 11 := congrArg (fun x => xm_O x F) (yr_10_6)
theorem zi_11 {F : _ → Prop} : xm_O (xm_ints o (yy_W m t) 11) F = F (yy_R 12 (m 11)) := congrArg (fun x => xm_O x F) (yi_11)
theorem zt_11 {F : _ → Prop} (h0 : 0 ≤ z) (h1 : z < 12) : xm_O (xm_seti (yy_W m t) 11 z x) F = F (yy_W (yy_s m 11 z.toNat x) t) := congrArg (fun x => xm_O x F) (yt_11 h0 h1)
theorem zf_12_0 {F : _ → Prop} : xm_O (xm_fi o (yy_W m t) 12 4 0) F = F (m 12 0) := congrArg (fun x => xm_O x F) (yf_12_0)
theorem zs_12_0 {F : _ → Prop} : xm_O (xm_setf (yy_W m t) 12 4 0 0 (.inl v)) F = F (yy_W (yy_s m 12 0 v) t) := congrArg (fun x => xm_O x F) (ys_12_0)
theorem zf_12_1 {F : _ → Prop} : xm_O (xm_fi o (yy_W m t) 12 4 1) F = F (m 12 1) := congrArg (fun x => xm_O x F) (yf_12_1)
theorem zs_12_1 {F : _ → Prop} : xm_O (xm_setf (yy_W m t) 12 4 1 0 (.inl v)) F = F (yy_W (yy_s m 12 1 v) t) := congrArg (fun x => xm_O x F) (ys_12_1)
theorem zf_12_2 {F : _ → Prop} : xm_O (xm_fi o (yy_W m t) 12 4 2) F = F (m 12 2) := congrArg (fun x => xm_O x F) (yf_12_2)
theorem zs_12_2 {F : _ → Prop} : xm_O (xm_setf (yy_W m t) 12 4 2 0 (.inl v)) F = F (yy_W (yy_s m 12 2 v) t) := congrArg (fun x => xm_O x F) (ys_12_2)
theorem zf_12_3 {F : _ → Prop} : xm_O (xm_fi o (yy_W m t) 12 4 3) F = F (m 12 3) := congrArg (fun x => xm_O x F) (yf_12_3)
theorem zs_12_3 {F : _ → Prop} : xm_O (xm_setf (yy_W m t) 12 4 3 0 (.inl v)) F = F (yy_W (yy_s m 12 3 v) t) := congrArg (fun x => xm_O x F) (ys_12_3)
theorem zf_12_4 {F : _ → Prop} : xm_O (xm_fi o (yy_W m t) 12 4 4) F = F (m 12 4) := congrArg (fun x => xm_O x F) (yf_12_4)
theorem zs_12_4 {F : _ → Prop} : xm_O (xm_setf (yy_W m t) 12 4 4 0 (.inl v)) F = F (yy_W (yy_s m 12 4 v) t) := congrArg (fun x => xm_O x F) (ys_12_4)
theorem zf_12_5 {F : _ → Prop} : xm_O (xm_fi o (yy_W m t) 12 4 5) F = F (m 12 5) := congrArg (fun x => xm_O x F) (yf_12_5)
theorem zs_12_5 {F : _ → Prop} : xm_O (xm_setf (yy_W m t) 12 4 5 0 (.inl v)) F = F (yy_W (yy_s m 12 5 v) t) := congrArg (fun x => xm_O x F) (ys_12_5)
theorem zr_12_6 {F : _ → Prop} : xm_O (xm_fr o (yy_W m t) 12 4 6) F = F 13 := congrArg (fun x => xm_O x F) (yr_12_6)
theorem zi_13 {F : _ → Prop} : xm_O (xm_ints o (yy_W m t) 13) F = F (yy_R 12 (m 13)) := congrArg (fun x => xm_O x F) (yi_13)
theorem zt_13 {F : _ → Prop} (h0 : 0 ≤ z) (h1 : z < 12) : xm_O (xm_seti (yy_W m t) 13 z x) F = F (yy_W (yy_s m 13 z.toNat x) t) := congrArg (fun x => xm_O x F) (yt_13 h0 h1)
theorem zf_14_0 {F : _ → Prop} : xm_O (xm_fi o (yy_W m t) 14 4 0) F = F (m 14 0) := congrArg (fun x => xm_O x F) (yf_14_0)
theorem zs_14_0 {F : _ → Prop} : xm_O (xm_setf (yy_W m t) 14 4 0 0 (.inl v)) F = F (yy_W (yy_s m 14 0 v) t) := congrArg (fun x => xm_O x F) (ys_14_0)
theorem zf_14_1 {F : _ → Prop} : xm_O (xm_fi o (yy_W m t) 14 4 1) F = F (m 14 1) := congrArg (fun x => xm_O x F) (yf_14_1)
theorem zs_14_1 {F : _ → Prop} : xm_O (xm_setf (yy_W m t) 14 4 1 0 (.inl v)) F = F (yy_W (yy_s m 14 1 v) t) := congrArg (fun x => xm_O x F) (ys_14_1)
theorem zf_14_2 {F : _ → Prop} : xm_O (xm_fi o (yy_W m t) 14 4 2) F = F (m 14 2) := congrArg (fun x => xm_O x F) (yf_14_2)
theorem zs_14_2 {F : _ → Prop} : xm_O (xm_setf (yy_W m t) 14 4 2 0 (.inl v)) F = F (yy_W (yy_s m 14 2 v) t) := congrArg (fun x => xm_O x F) (ys_14_2)
theorem zf_14_3 {F : _ → Prop} : xm_O (xm_fi o (yy_W m t) 14 4 3) F = F (m 14 3) := congrArg (fun x => xm_O x F) (yf_14_3)
theorem zs_14_3 {F : _ → Prop} : xm_O (xm_setf (yy_W m t) 14 4 3 0 (.inl v)) F = F (yy_W (yy_s m 14 3 v) t) := congrArg (fun x => xm_O x F) (ys_14_3)
theorem zf_14_4 {F : _ → Prop} : xm_O (xm_fi o (yy_W m t) 14 4 4) F = F (m 14 4) := congrArg (fun x => xm_O x F) (yf_14_4)
theorem zs_14_4 {F : _ → Prop} : xm_O (xm_setf (yy_W m t) 14 4 4 0 (.inl v)) F = F (yy_W (yy_s m 14 4 v) t) := congrArg (fun x => xm_O x F) (ys_14_4)
theorem zf_14_5 {F : _ → Prop} : xm_O (xm_fi o (yy_W m t) 14 4 5) F = F (m 14 5) := congrArg (fun x => xm_O x F) (yf_14_5)
theorem zs_14_5 {F : _ → Prop} : xm_O (xm_setf (yy_W m t) 14 4 5 0 (.inl v)) F = F (yy_W (yy_s m 14 5 v) t) := congrArg (fun x => xm_O x F) (ys_14_5)
theorem zr_14_6 {F : _ → Prop} : xm_O (xm_fr o (yy_W m t) 14 4 6) F = F 15 := congrArg (fun x => xm_O x F) (yr_14_6)
theorem zi_15 {F : _ → Prop} : xm_O (xm_ints o (yy_W m t) 15) F = F (yy_R 12 (m 15)) := congrArg (fun x => xm_O x F) (yi_15)
theorem zt_15 {F : _ → Prop} (h0 : 0 ≤ z) (h1 : z < 12) : xm_O (xm_seti (yy_W m t) 15 z x) F = F (yy_W (yy_s m 15 z.toNat x) t) := congrArg (fun x => xm_O x F) (yt_15 h0 h1)
theorem zf_16_0 {F : _ → Prop} : xm_O (xm_fi o (yy_W m t) 16 4 0) F = F (m 16 0) := congrArg (fun x => xm_O x F) (yf_16_0)
theorem zs_16_0 {F : _ → Prop} : xm_O (xm_setf (yy_W m t) 16 4 0 0 (.inl v)) F = F (yy_W (yy_s m 16 0 v) t) := congrArg (fun x => xm_O x F) (ys_16_0)
theorem zf_16_1 {F : _ → Prop} : xm_O (xm_fi o (yy_W m t) 16 4 1) F = F (m 16 1) := congrArg (fun x => xm_O x F) (yf_16_1)
theorem zs_16_1 {F : _ → Prop} : xm_O (xm_setf (yy_W m t) 16 4 1 0 (.inl v)) F = F (yy_W (yy_s m 16 1 v) t) := congrArg (fun x => xm_O x F) (ys_16_1)
theorem zf_16_2 {F : _ → Prop} : xm_O (xm_fi o (yy_W m t) 16 4 2) F = F (m 16 2) := congrArg (fun x => xm_O x F) (yf_16_2)
theorem zs_16_2 {F : _ → Prop} : xm_O (xm_setf (yy_W m t) 16 4 2 0 (.inl v)) F = F (yy_W (yy_s m 16 2 v) t) := congrArg (fun x => xm_O x F) (ys_16_2)
theorem zf_16_3 {F : _ → Prop} : xm_O (xm_fi o (yy_W m t) 16 4 3) F = F (m 16 3) := congrArg (fun x => xm_O x F) (yf_16_3)
theorem zs_16_3 {F : _ → Prop} : xm_O (xm_setf (yy_W m t) 16 4 3 0 (.inl v)) F = F (yy_W (yy_s m 16 3 v) t) := congrArg (fun x => xm_O x F) (ys_16_3)
theorem zf_16_4 {F : _ → Prop} : xm_O (xm_fi o (yy_W m t) 16 4 4) F = F (m 16 4) := congrArg (fun x => xm_O x F) (yf_16_4)
theorem zs_16_4 {F : _ → Prop} : xm_O (xm_setf (yy_W m t) 16 4 4 0 (.inl v)) F = F (yy_W (yy_s m 16 4 v) t) := congrArg (fun x => xm_O x F) (ys_16_4)
theorem zf_16_5 {F : _ → Prop} : xm_O (xm_fi o (yy_W m t) 16 4 5) F = F (m 16 5) := congrArg (fun x => xm_O x F) (yf_16_5)
theorem zs_16_5 {F : _ → Prop} : xm_O (xm_setf (yy_W m t) 16 4 5 0 (.inl v)) F = F (yy_W (yy_s m 16 5 v) t) := congrArg (fun x => xm_O x F) (ys_16_5)
theorem zr_16_6 {F : _ → Prop} : xm_O (xm_fr o (yy_W m t) 16 4 6) F = F 17 := congrArg (fun x => xm_O x F) (yr_16_6)
theorem zi_17 {F : _ → Prop} : xm_O (xm_ints o (yy_W m t) 17) F = F (yy_R 12 (m 17)) := congrArg (fun x => xm_O x F) (yi_17)
theorem zt_17 {F : _ → Prop} (h0 : 0 ≤ z) (h1 : z < 12) : xm_O (xm_seti (yy_W m t) 17 z x) F = F (yy_W (yy_s m 17 z.toNat x) t) := congrArg (fun x => xm_O x F) (yt_17 h0 h1)
theorem zr_18_0 {F : _ → Prop} : xm_O (xm_fr o (yy_W m t) 18 2 0) F = F 19 := congrArg (fun x => xm_O x F) (yr_18_0)
theorem zf_18_1 {F : _ → Prop} : xm_O (xm_fi o (yy_W m t) 18 2 1) F = F (m 18 1) := congrArg (fun x => xm_O x F) (yf_18_1)
theorem zs_18_1 {F : _ → Prop} : xm_O (xm_setf (yy_W m t) 18 2 1 0 (.inl v)) F = F (yy_W (yy_s m 18 1 v) t) := congrArg (fun x => xm_O x F) (ys_18_1)
theorem zf_18_2 {F : _ → Prop} : xm_O (xm_fi o (yy_W m t) 18 2 2) F = F (m 18 2) := congrArg (fun x => xm_O x F) (yf_18_2)
theorem zs_18_2 {F : _ → Prop} : xm_O (xm_setf (yy_W m t) 18 2 2 0 (.inl v)) F = F (yy_W (yy_s m 18 2 v) t) := congrArg (fun x => xm_O x F) (ys_18_2)
theorem zr_18_3 {F : _ → Prop} : xm_O (xm_fr o (yy_W m t) 18 2 3) F = F 20 := congrArg (fun x => xm_O x F) (yr_18_3)
theorem zf_18_4 {F : _ → Prop} : xm_O (xm_fi o (yy_W m t) 18 2 4) F = F (m 18 4) := congrArg (fun x => xm_O x F) (yf_18_4)
theorem zs_18_4 {F : _ → Prop} : xm_O (xm_setf (yy_W m t) 18 2 4 0 (.inl v)) F = F (yy_W (yy_s m 18 4 v) t) := congrArg (fun x => xm_O x F) (ys_18_4)
theorem zr_18_5 {F : _ → Prop} : xm_O (xm_fr o (yy_W m t) 18 2 5) F = F 21 := congrArg (fun x => xm_O x F) (yr_18_5)
theorem zf_18_6 {F : _ → Prop} : xm_O (xm_fi o (yy_W m t) 18 2 6) F = F (m 18 6) := congrArg (fun x => xm_O x F) (yf_18_6)
theorem zs_18_6 {F : _ → Prop} : xm_O (xm_setf (yy_W m t) 18 2 6 0 (.inl v)) F = F (yy_W (yy_s m 18 6 v) t) := congrArg (fun x => xm_O x F) (ys_18_6)
theorem zr_18_7 {F : _ → Prop} : xm_O (xm_fr o (yy_W m t) 18 2 7) F = F 22 := congrArg (fun x => xm_O x F) (yr_18_7)
theorem zr_18_8 {F : _ → Prop} : xm_O (xm_fr o (yy_W m t) 18 2 8) F = F 23 := congrArg (fun x => xm_O x F) (yr_18_8)
theorem zr_18_9 {F : _ → Prop} : xm_O (xm_fr o (yy_W m t) 18 2 9) F = F 24 := congrArg (fun x => xm_O x F) (yr_18_9)
theorem zi_19 {F : _ → Prop} : xm_O (xm_ints o (yy_W m t) 19) F = F (yy_R 36 (m 19)) := congrArg (fun x => xm_O x F) (yi_19)
theorem zt_19 {F : _ → Prop} (h0 : 0 ≤ z) (h1 : z < 36) : xm_O (xm_seti (yy_W m t) 19 z x) F = F (yy_W (yy_s m 19 z.toNat x) t) := congrArg (fun x => xm_O x F) (yt_19 h0 h1)
theorem zq_20 {F : _ → Prop} : xm_O (xm_refs o (yy_W m t) 20) F = F (yy_qs (m 20) 0 [27, 29, 31, 33, 35]) := congrArg (fun x => xm_O x F) (yq_20)
theorem zi_21 {F : _ → Prop} : xm_O (xm_ints o (yy_W m t) 21) F = F (yy_R 200 (m 21)) := congrArg (fun x => xm_O x F) (yi_21)
theorem zt_21 {F : _ → Prop} (h0 : 0 ≤ z) (h1 : z < 200) : xm_O (xm_seti (yy_W m t) 21 z x) F = F (yy_W (yy_s m 21 z.toNat x) t) := congrArg (fun x => xm_O x F) (yt_21 h0 h1)
theorem zq_22 {F : _ → Prop} : xm_O (xm_refs o (yy_W m t) 22) F = F (yy_qs (m 22) 0 [1, 1]) := congrArg (fun x => xm_O x F) (yq_22)
theorem zi_23 {F : _ → Prop} : xm_O (xm_ints o (yy_W m t) 23) F = F (yy_R 4 (m 23)) := congrArg (fun x => xm_O x F) (yi_23)
theorem zt_23 {F : _ → Prop} (h0 : 0 ≤ z) (h1 : z < 4) : xm_O (xm_seti (yy_W m t) 23 z x) F = F (yy_W (yy_s m 23 z.toNat x) t) := congrArg (fun x => xm_O x F) (yt_23 h0 h1)
theorem zi_24 {F : _ → Prop} : xm_O (xm_ints o (yy_W m t) 24) F = F (yy_R 60 (m 24)) := congrArg (fun x => xm_O x F) (yi_24)
theorem zt_24 {F : _ → Prop} (h0 : 0 ≤ z) (h1 : z < 60) : xm_O (xm_seti (yy_W m t) 24 z x) F = F (yy_W (yy_s m 24 z.toNat x) t) := congrArg (fun x => xm_O x F) (yt_24 h0 h1)
theorem zf_25_0 {F : _ → Prop} : xm_O (xm_fi o (yy_W m t) 25 4 0) F = F (m 25 0) := congrArg (fun x => xm_O x F) (yf_25_0)
theorem zs_25_0 {F : _ → Prop} : xm_O (xm_setf (yy_W m t) 25 4 0 0 (.inl v)) F = F (yy_W (yy_s m 25 0 v) t) := congrArg (fun x => xm_O x F) (ys_25_0)
theorem zf_25_1 {F : _ → Prop} : xm_O (xm_fi o (yy_W m t) 25 4 1) F = F (m 25 1) := congrArg (fun x => xm_O x F) (yf_25_1)
theorem zs_25_1 {F : _ → Prop} : xm_O (xm_setf (yy_W m t) 25 4 1 0 (.inl v)) F = F (yy_W (yy_s m 25 1 v) t) := congrArg (fun x => xm_O x F) (ys_25_1)
theorem zf_25_2 {F : _ → Prop} : xm_O (xm_fi o (yy_W m t) 25 4 2) F = F (m 25 2) := congrArg (fun x => xm_O x F) (yf_25_2)
theorem zs_25_2 {F : _ → Prop} : xm_O (xm_setf (yy_W m t) 25 4 2 0 (.inl v)) F = F (yy_W (yy_s m 25 2 v) t) := congrArg (fun x => xm_O x F) (ys_25_2)
theorem zf_25_3 {F : _ → Prop} : xm_O (xm_fi o (yy_W m t) 25 4 3) F = F (m 25 3) := congrArg (fun x => xm_O x F) (yf_25_3)
theorem zs_25_3 {F : _ → Prop} : xm_O (xm_setf (yy_W m t) 25 4 3 0 (.inl v)) F = F (yy_W (yy_s m 25 3 v) t) := congrArg (fun x => xm_O x F) (ys_25_3)
theorem zf_25_4 {F : _ → Prop} : xm_O (xm_fi o (yy_W m t) 25 4 4) F = F (m 25 4) := congrArg (fun x => xm_O x F) (yf_25_4)
theorem zs_25_4 {F : _ → Prop} : xm_O (xm_setf (yy_W m t) 25 4 4 0 (.inl v)) F = F (yy_W (yy_s m 25 4 v) t) := congrArg (fun x => xm_O x F) (ys_25_4)
theorem zf_25_5 {F : _ → Prop} : xm_O (xm_fi o (yy_W m t) 25 4 5) F = F (m 25 5) := congrArg (fun x => xm_O x F) (yf_25_5)
theorem zs_25_5 {F : _ → Prop} : xm_O (xm_setf (yy_W m t) 25 4 5 0 (.inl v)) F = F (yy_W (yy_s m 25 5 v) t) := congrArg (fun x => xm_O x F) (ys_25_5)
theorem zr_25_6 {F : _ → Prop} : xm_O (xm_fr o (yy_W m t) 25 4 6) F = F 26 := congrArg (fun x => xm_O x F) (yr_25_6)
theorem zi_26 {F : _ → Prop} : xm_O (xm_ints o (yy_W m t) 26) F = F (yy_R 12 (m 26)) := congrArg (fun x => xm_O x F) (yi_26)
theorem zt_26 {F : _ → Prop} (h0 : 0 ≤ z) (h1 : z < 12) : xm_O (xm_seti (yy_W m t) 26 z x) F = F (yy_W (yy_s m 26 z.toNat x) t) := congrArg (fun x => xm_O x F) (yt_26 h0 h1)
theorem zf_27_0 {F : _ → Prop} : xm_O (xm_fi o (yy_W m t) 27 4 0) F = F (m 27 0) := congrArg (fun x => xm_O x F) (yf_27_0)
theorem zs_27_0 {F : _ → Prop} : xm_O (xm_setf (yy_W m t) 27 4 0 0 (.inl v)) F = F (yy_W (yy_s m 27 0 v) t) := congrArg (fun x => xm_O x F) (ys_27_0)
theorem zf_27_1 {F : _ → Prop} : xm_O (xm_fi o (yy_W m t) 27 4 1) F = F (m 27 1) := congrArg (fun x => xm_O x F) (yf_27_1)
theorem zs_27_1 {F : _ → Prop} : xm_O (xm_setf (yy_W m t) 27 4 1 0 (.inl v)) F = F (yy_W (yy_s m 27 1 v) t) := congrArg (fun x => xm_O x F) (ys_27_1)
theorem zf_27_2 {F : _ → Prop} : xm_O (xm_fi o (yy_W m t) 27 4 2) F = F (m 27 2) := congrArg (fun x => xm_O x F) (yf_27_2)
theorem zs_27_2 {F : _ → Prop} : xm_O (xm_setf (yy_W m t) 27 4 2 0 (.inl v)) F = F (yy_W (yy_s m 27 2 v) t) := congrArg (fun x => xm_O x F) (ys_27_2)
theorem zf_27_3 {F : _ → Prop} : xm_O (xm_fi o (yy_W m t) 27 4 3) F = F (m 27 3) := congrArg (fun x => xm_O x F) (yf_27_3)
theorem zs_27_3 {F : _ → Prop} : xm_O (xm_setf (yy_W m t) 27 4 3 0 (.inl v)) F = F (yy_W (yy_s m 27 3 v) t) := congrArg (fun x => xm_O x F) (ys_27_3)
theorem zf_27_4 {F : _ → Prop} : xm_O (xm_fi o (yy_W m t) 27 4 4) F = F (m 27 4) := congrArg (fun x => xm_O x F) (yf_27_4)
theorem zs_27_4 {F : _ → Prop} : xm_O (xm_setf (yy_W m t) 27 4 4 0 (.inl v)) F = F (yy_W (yy_s m 27 4 v) t) := congrArg (fun x => xm_O x F) (ys_27_4)
theorem zf_27_5 {F : _ → Prop} : xm_O (xm_fi o (yy_W m t) 27 4 5) F = F (m 27 5) := congrArg (fun x => xm_O x F) (yf_27_5)
theorem zs_27_5 {F : _ → Prop} : xm_O (xm_setf (yy_W m t) 27 4 5 0 (.inl v)) F = F (yy_W (yy_s m 27 5 v) t) := congrArg (fun x => xm_O x F) (ys_27_5)
theorem zr_27_6 {F : _ → Prop} : xm_O (xm_fr o (yy_W m t) 27 4 6) F = F 28 := congrArg (fun x => xm_O x F) (yr_27_6)
theorem zi_28 {F : _ → Prop} : xm_O (xm_ints o (yy_W m t) 28) F = F (yy_R 12 (m 28)) := congrArg (fun x => xm_O x F) (yi_28)
theorem zt_28 {F : _ → Prop} (h0 : 0 ≤ z) (h1 : z < 12) : xm_O (xm_seti (yy_W m t) 28 z x) F = F (yy_W (yy_s m 28 z.toNat x) t) := congrArg (fun x => xm_O x F) (yt_28 h0 h1)
theorem zf_29_0 {F : _ → Prop} : xm_O (xm_fi o (yy_W m t) 29 4 0) F = F (m 29 0) := congrArg (fun x => xm_O x F) (yf_29_0)
theorem zs_29_0 {F : _ → Prop} : xm_O (xm_setf (yy_W m t) 29 4 0 0 (.inl v)) F = F (yy_W (yy_s m 29 0 v) t) := congrArg (fun x => xm_O x F) (ys_29_0)
theorem zf_29_1 {F : _ → Prop} : xm_O (xm_fi o (yy_W m t) 29 4 1) F = F (m 29 1) := congrArg (fun x => xm_O x F) (yf_29_1)
theorem zs_29_1 {F : _ → Prop} : xm_O (xm_setf (yy_W m t) 29 4 1 0 (.inl v)) F = F (yy_W (yy_s m 29 1 v) t) := congrArg (fun x => xm_O x F) (ys_29_1)
theorem zf_29_2 {F : _ → Prop} : xm_O (xm_fi o (yy_W m t) 29 4 2) F = F (m 29 2) := congrArg (fun x => xm_O x F) (yf_29_2)
theorem zs_29_2 {F : _ → Prop} : xm_O (xm_setf (yy_W m t) 29 4 2 0 (.inl v)) F = F (yy_W (yy_s m 29 2 v) t) := congrArg (fun x => xm_O x F) (ys_29_2)
theorem zf_29_3 {F : _ → Prop} : xm_O (xm_fi o (yy_W m t) 29 4 3) F = F (m 29 3) := congrArg (fun x => xm_O x F) (yf_29_3)
theorem zs_29_3 {F : _ → Prop} : xm_O (xm_setf (yy_W m t) 29 4 3 0 (.inl v)) F = F (yy_W (yy_s m 29 3 v) t) := congrArg (fun x => xm_O x F) (ys_29_3)
theorem zf_29_4 {F : _ → Prop} : xm_O (xm_fi o (yy_W m t) 29 4 4) F = F (m 29 4) := congrArg (fun x => xm_O x F) (yf_29_4)
theorem zs_29_4 {F : _ → Prop} : xm_O (xm_setf (yy_W m t) 29 4 4 0 (.inl v)) F = F (yy_W (yy_s m 29 4 v) t) := congrArg (fun x => xm_O x F) (ys_29_4)
theorem zf_29_5 {F : _ → Prop} : xm_O (xm_fi o (yy_W m t) 29 4 5) F = F (m 29 5) := congrArg (fun x => xm_O x F) (yf_29_5)
theorem zs_29_5 {F : _ → Prop} : xm_O (xm_setf (yy_W m t) 29 4 5 0 (.inl v)) F = F (yy_W (yy_s m 29 5 v) t) := congrArg (fun x => xm_O x F) (ys_29_5)
theorem zr_29_6 {F : _ → Prop} : xm_O (xm_fr o (yy_W m t) 29 4 6) F = F 30 := congrArg (fun x => xm_O x F) (yr_29_6)
theorem zi_30 {F : _ → Prop} : xm_O (xm_ints o (yy_W m t) 30) F = F (yy_R 12 (m 30)) := congrArg (fun x => xm_O x F) (yi_30)
theorem zt_30 {F : _ → Prop} (h0 : 0 ≤ z) (h1 : z < 12) : xm_O (xm_seti (yy_W m t) 30 z x) F = F (yy_W (yy_s m 30 z.toNat x) t) := congrArg (fun x => xm_O x F) (yt_30 h0 h1)
theorem zf_31_0 {F : _ → Prop} : xm_O (xm_fi o (yy_W m t) 31 4 0) F = F (m 31 0) := congrArg (fun x => xm_O x F) (yf_31_0)
theorem zs_31_0 {F : _ → Prop} : xm_O (xm_setf (yy_W m t) 31 4 0 0 (.inl v)) F = F (yy_W (yy_s m 31 0 v) t) := congrArg (fun x => xm_O x F) (ys_31_0)
theorem zf_31_1 {F : _ → Prop} : xm_O (xm_fi o (yy_W m t) 31 4 1) F = F (m 31 1) := congrArg (fun x => xm_O x F) (yf_31_1)
theorem zs_31_1 {F : _ → Prop} : xm_O (xm_setf (yy_W m t) 31 4 1 0 (.inl v)) F = F (yy_W (yy_s m 31 1 v) t) := congrArg (fun x => xm_O x F) (ys_31_1)
theorem zf_31_2 {F : _ → Prop} : xm_O (xm_fi o (yy_W m t) 31 4 2) F = F (m 31 2) := congrArg (fun x => xm_O x F) (yf_31_2)
theorem zs_31_2 {F : _ → Prop} : xm_O (xm_setf (yy_W m t) 31 4 2 0 (.inl v)) F = F (yy_W (yy_s m 31 2 v) t) := congrArg (fun x => xm_O x F) (ys_31_2)
theorem zf_31_3 {F : _ → Prop} : xm_O (xm_fi o (yy_W m t) 31 4 3) F = F (m 31 3) := congrArg (fun x => xm_O x F) (yf_31_3)
theorem zs_31_3 {F : _ → Prop} : xm_O (xm_setf (yy_W m t) 31 4 3 0 (.inl v)) F = F (yy_W (yy_s m 31 3 v) t) := congrArg (fun x => xm_O x F) (ys_31_3)
theorem zf_31_4 {F : _ → Prop} : xm_O (xm_fi o (yy_W m t) 31 4 4) F = F (m 31 4) := congrArg (fun x => xm_O x F) (yf_31_4)
theorem zs_31_4 {F : _ → Prop} : xm_O (xm_setf (yy_W m t) 31 4 4 0 (.inl v)) F = F (yy_W (yy_s m 31 4 v) t) := congrArg (fun x => xm_O x F) (ys_31_4)
theorem zf_31_5 {F : _ → Prop} : xm_O (xm_fi o (yy_W m t) 31 4 5) F = F (m 31 5) := congrArg (fun x => xm_O x F) (yf_31_5)
theorem zs_31_5 {F : _ → Prop} : xm_O (xm_setf (yy_W m t) 31 4 5 0 (.inl v)) F = F (yy_W (yy_s m 31 5 v) t) := congrArg (fun x => xm_O x F) (ys_31_5)
theorem zr_31_6 {F : _ → Prop} : xm_O (xm_fr o (yy_W m t) 31 4 6) F = F 32 := congrArg (fun x => xm_O x F) (yr_31_6)
theorem zi_32 {F : _ → Prop} : xm_O (xm_ints o (yy_W m t) 32) F = F (yy_R 12 (m 32)) := congrArg (fun x => xm_O x F) (yi_32)
theorem zt_32 {F : _ → Prop} (h0 : 0 ≤ z) (h1 : z < 12) : xm_O (xm_seti (yy_W m t) 32 z x) F = F (yy_W (yy_s m 32 z.toNat x) t) := congrArg (fun x => xm_O x F) (yt_32 h0 h1)
theorem zf_33_0 {F : _ → Prop} : xm_O (xm_fi o (yy_W m t) 33 4 0) F = F (m 33 0) := congrArg (fun x => xm_O x F) (yf_33_0)
theorem zs_33_0 {F : _ → Prop} : xm_O (xm_setf (yy_W m t) 33 4 0 0 (.inl v)) F = F (yy_W (yy_s m 33 0 v) t) := congrArg (fun x => xm_O x F) (ys_33_0)
theorem zf_33_1 {F : _ → Prop} : xm_O (xm_fi o (yy_W m t) 33 4 1) F = F (m 33 1) := congrArg (fun x => xm_O x F) (yf_33_1)
theorem zs_33_1 {F : _ → Prop} : xm_O (xm_setf (yy_W m t) 33 4 1 0 (.inl v)) F = F (yy_W (yy_s m 33 1 v) t) := congrArg (fun x => xm_O x F) (ys_33_1)
theorem zf_33_2 {F : _ → Prop} : xm_O (xm_fi o (yy_W m t) 33 4 2) F = F (m 33 2) := congrArg (fun x => xm_O x F) (yf_33_2)
theorem zs_33_2 {F : _ → Prop} : xm_O (xm_setf (yy_W m t) 33 4 2 0 (.inl v)) F = F (yy_W (yy_s m 33 2 v) t) := congrArg (fun x => xm_O x F) (ys_33_2)
theorem zf_33_3 {F : _ → Prop} : xm_O (xm_fi o (yy_W m t) 33 4 3) F = F (m 33 3) := congrArg (fun x => xm_O x F) (yf_33_3)
theorem zs_33_3 {F : _ → Prop} : xm_O (xm_setf (yy_W m t) 33 4 3 0 (.inl v)) F = F (yy_W (yy_s m 33 3 v) t) := congrArg (fun x => xm_O x F) (ys_33_3)
theorem zf_33_4 {F : _ → Prop} : xm_O (xm_fi o (yy_W m t) 33 4 4) F = F (m 33 4) := congrArg (fun x => xm_O x F) (yf_33_4)
theorem zs_33_4 {F : _ → Prop} : xm_O (xm_setf (yy_W m t) 33 4 4 0 (.inl v)) F = F (yy_W (yy_s m 33 4 v) t) := congrArg (fun x => xm_O x F) (ys_33_4)
theorem zf_33_5 {F : _ → Prop} : xm_O (xm_fi o (yy_W m t) 33 4 5) F = F (m 33 5) := congrArg (fun x => xm_O x F) (yf_33_5)
theorem zs_33_5 {F : _ → Prop} : xm_O (xm_setf (yy_W m t) 33 4 5 0 (.inl v)) F = F (yy_W (yy_s m 33 5 v) t) := congrArg (fun x => xm_O x F) (ys_33_5)
theorem zr_33_6 {F : _ → Prop} : xm_O (xm_fr o (yy_W m t) 33 4 6) F = F 34 := congrArg (fun x => xm_O x F) (yr_33_6)
theorem zi_34 {F : _ → Prop} : xm_O (xm_ints o (yy_W m t) 34) F = F (yy_R 12 (m 34)) := congrArg (fun x => xm_O x F) (yi_34)
theorem zt_34 {F : _ → Prop} (h0 : 0 ≤ z) (h1 : z < 12) : xm_O (xm_seti (yy_W m t) 34 z x) F = F (yy_W (yy_s m 34 z.toNat x) t) := congrArg (fun x => xm_O x F) (yt_34 h0 h1)
theorem zr_35_0 {F : _ → Prop} : xm_O (xm_fr o (yy_W m t) 35 1 0) F = F 36 := congrArg (fun x => xm_O x F) (yr_35_0)
theorem zf_35_1 {F : _ → Prop} : xm_O (xm_fi o (yy_W m t) 35 1 1) F = F (m 35 1) := congrArg (fun x => xm_O x F) (yf_35_1)
theorem zs_35_1 {F : _ → Prop} : xm_O (xm_setf (yy_W m t) 35 1 1 0 (.inl v)) F = F (yy_W (yy_s m 35 1 v) t) := congrArg (fun x => xm_O x F) (ys_35_1)
theorem zr_35_2 {F : _ → Prop} : xm_O (xm_fr o (yy_W m t) 35 1 2) F = F 37 := congrArg (fun x => xm_O x F) (yr_35_2)
theorem zf_35_3 {F : _ → Prop} : xm_O (xm_fi o (yy_W m t) 35 1 3) F = F (m 35 3) := congrArg (fun x => xm_O x F) (yf_35_3)
theorem zs_35_3 {F : _ → Prop} : xm_O (xm_setf (yy_W m t) 35 1 3 0 (.inl v)) F = F (yy_W (yy_s m 35 3 v) t) := congrArg (fun x => xm_O x F) (ys_35_3)
theorem zf_35_4 {F : _ → Prop} : xm_O (xm_fi o (yy_W m t) 35 1 4) F = F (m 35 4) := congrArg (fun x => xm_O x F) (yf_35_4)
theorem zs_35_4 {F : _ → Prop} : xm_O (xm_setf (yy_W m t) 35 1 4 0 (.inl v)) F = F (yy_W (yy_s m 35 4 v) t) := congrArg (fun x => xm_O x F) (ys_35_4)
theorem zi_36 {F : _ → Prop} : xm_O (xm_ints o (yy_W m t) 36) F = F (yy_R 60 (m 36)) := congrArg (fun x => xm_O x F) (yi_36)
theorem zt_36 {F : _ → Prop} (h0 : 0 ≤ z) (h1 : z < 60) : xm_O (xm_seti (yy_W m t) 36 z x) F = F (yy_W (yy_s m 36 z.toNat x) t) := congrArg (fun x => xm_O x F) (yt_36 h0 h1)
theorem zi_37 {F : _ → Prop} : xm_O (xm_ints o (yy_W m t) 37) F = F (yy_R 24 (m 37)) := congrArg (fun x => xm_O x F) (yi_37)
theorem zt_37 {F : _ → Prop} (h0 : 0 ≤ z) (h1 : z < 24) : xm_O (xm_seti (yy_W m t) 37 z x) F = F (yy_W (yy_s m 37 z.toNat x) t) := congrArg (fun x => xm_O x F) (yt_37 h0 h1)
theorem zr_38_0 {F : _ → Prop} : xm_O (xm_fr o (yy_W m t) 38 2 0) F = F 39 := congrArg (fun x => xm_O x F) (yr_38_0)
theorem zf_38_1 {F : _ → Prop} : xm_O (xm_fi o (yy_W m t) 38 2 1) F = F (m 38 1) := congrArg (fun x => xm_O x F) (yf_38_1)
theorem zs_38_1 {F : _ → Prop} : xm_O (xm_setf (yy_W m t) 38 2 1 0 (.inl v)) F = F (yy_W (yy_s m 38 1 v) t) := congrArg (fun x => xm_O x F) (ys_38_1)
theorem zf_38_2 {F : _ → Prop} : xm_O (xm_fi o (yy_W m t) 38 2 2) F = F (m 38 2) := congrArg (fun x => xm_O x F) (yf_38_2)
theorem zs_38_2 {F : _ → Prop} : xm_O (xm_setf (yy_W m t) 38 2 2 0 (.inl v)) F = F (yy_W (yy_s m 38 2 v) t) := congrArg (fun x => xm_O x F) (ys_38_2)
theorem zr_38_3 {F : _ → Prop} : xm_O (xm_fr o (yy_W m t) 38 2 3) F = F 40 := congrArg (fun x => xm_O x F) (yr_38_3)
theorem zf_38_4 {F : _ → Prop} : xm_O (xm_fi o (yy_W m t) 38 2 4) F = F (m 38 4) := congrArg (fun x => xm_O x F) (yf_38_4)
theorem zs_38_4 {F : _ → Prop} : xm_O (xm_setf (yy_W m t) 38 2 4 0 (.inl v)) F = F (yy_W (yy_s m 38 4 v) t) := congrArg (fun x => xm_O x F) (ys_38_4)
theorem zr_38_5 {F : _ → Prop} : xm_O (xm_fr o (yy_W m t) 38 2 5) F = F 41 := congrArg (fun x => xm_O x F) (yr_38_5)
theorem zf_38_6 {F : _ → Prop} : xm_O (xm_fi o (yy_W m t) 38 2 6) F = F (m 38 6) := congrArg (fun x => xm_O x F) (yf_38_6)
theorem zs_38_6 {F : _ → Prop} : xm_O (xm_setf (yy_W m t) 38 2 6 0 (.inl v)) F = F (yy_W (yy_s m 38 6 v) t) := congrArg (fun x => xm_O x F) (ys_38_6)
theorem zr_38_7 {F : _ → Prop} : xm_O (xm_fr o (yy_W m t) 38 2 7) F = F 42 := congrArg (fun x => xm_O x F) (yr_38_7)
theorem zr_38_8 {F : _ → Prop} : xm_O (xm_fr o (yy_W m t) 38 2 8) F = F 43 := congrArg (fun x => xm_O x F) (yr_38_8)
theorem zr_38_9 {F : _ → Prop} : xm_O (xm_fr o (yy_W m t) 38 2 9) F = F 44 := congrArg (fun x => xm_O x F) (yr_38_9)
theorem zi_39 {F : _ → Prop} : xm_O (xm_ints o (yy_W m t) 39) F = F (yy_R 36 (m 39)) := congrArg (fun x => xm_O x F) (yi_39)
theorem zt_39 {F : _ → Prop} (h0 : 0 ≤ z) (h1 : z < 36) : xm_O (xm_seti (yy_W m t) 39 z x) F = F (yy_W (yy_s m 39 z.toNat x) t) := congrArg (fun x => xm_O x F) (yt_39 h0 h1)
theorem zq_40 {F : _ → Prop} : xm_O (xm_refs o (yy_W m t) 40) F = F (yy_qs (m 40) 0 [47, 49, 51, 53, 55]) := congrArg (fun x => xm_O x F) (yq_40)
theorem zi_41 {F : _ → Prop} : xm_O (xm_ints o (yy_W m t) 41) F = F (yy_R 200 (m 41)) := congrArg (fun x => xm_O x F) (yi_41)
theorem zt_41 {F : _ → Prop} (h0 : 0 ≤ z) (h1 : z < 200) : xm_O (xm_seti (yy_W m t) 41 z x) F = F (yy_W (yy_s m 41 z.toNat x) t) := congrArg (fun x => xm_O x F) (yt_41 h0 h1)
theorem zq_42 {F : _ → Prop} : xm_O (xm_refs o (yy_W m t) 42) F = F (yy_qs (m 42) 0 [1, 1]) := congrArg (fun x => xm_O x F) (yq_42)
theorem zi_43 {F : _ → Prop} : xm_O (xm_ints o (yy_W m t) 43) F = F (yy_R 4 (m 43)) := congrArg (fun x => xm_O x F) (yi_43)
theorem zt_43 {F : _ → Prop} (h0 : 0 ≤ z) (h1 : z < 4) : xm_O (xm_seti (yy_W m t) 43 z x) F = F (yy_W (yy_s m 43 z.toNat x) t) := congrArg (fun x => xm_O x F) (yt_43 h0 h1)
theorem zi_44 {F : _ → Prop} : xm_O (xm_ints o (yy_W m t) 44) F = F (yy_R 60 (m 44)) := congrArg (fun x => xm_O x F) (yi_44)
theorem zt_44 {F : _ → Prop} (h0 : 0 ≤ z) (h1 : z < 60) : xm_O (xm_seti (yy_W m t) 44 z x) F = F (yy_W (yy_s m 44 z.toNat x) t) := congrArg (fun x => xm_O x F) (yt_44 h0 h1)
theorem zf_45_0 {F : _ → Prop} : xm_O (xm_fi o (yy_W m t) 45 4 0) F = F (m 45 0) := congrArg (fun x => xm_O x F) (yf_45_0)
theorem zs_45_0 {F : _ → Prop} : xm_O (xm_setf (yy_W m t) 45 4 0 0 (.inl v)) F = F (yy_W (yy_s m 45 0 v) t) := congrArg (fun x => xm_O x F) (ys_45_0)
theorem zf_45_1 {F : _ → Prop} : xm_O (xm_fi o (yy_W m t) 45 4 1) F = F (m 45 1) := congrArg (fun x => xm_O x F) (yf_45_1)
theorem zs_45_1 {F : _ → Prop} : xm_O (xm_setf (yy_W m t) 45 4 1 0 (.inl v)) F = F (yy_W (yy_s m 45 1 v) t) := congrArg (fun x => xm_O x F) (ys_45_1)
theorem zf_45_2 {F : _ → Prop} : xm_O (xm_fi o (yy_W m t) 45 4 2) F = F (m 45 2) := congrArg (fun x => xm_O x F) (yf_45_2)
theorem zs_45_2 {F : _ → Prop} : xm_O (xm_setf (yy_W m t) 45 4 2 0 (.inl v)) F = F (yy_W (yy_s m 45 2 v) t) := congrArg (fun x => xm_O x F) (ys_45_2)
theorem zf_45_3 {F : _ → Prop} : xm_O (xm_fi o (yy_W m t) 45 4 3) F = F (m 45 3) := congrArg (fun x => xm_O x F) (yf_45_3)
theorem zs_45_3 {F : _ → Prop} : xm_O (xm_setf (yy_W m t) 45 4 3 0 (.inl v)) F = F (yy_W (yy_s m 45 3 v) t) := congrArg (fun x => xm_O x F) (ys_45_3)
theorem zf_45_4 {F : _ → Prop} : xm_O (xm_fi o (yy_W m t) 45 4 4) F = F (m 45 4) := congrArg (fun x => xm_O x F) (yf_45_4)
theorem zs_45_4 {F : _ → Prop} : xm_O (xm_setf (yy_W m t) 45 4 4 0 (.inl v)) F = F (yy_W (yy_s m 45 4 v) t) := congrArg (fun x => xm_O x F) (ys_45_4)
theorem zf_45_5 {F : _ → Prop} : xm_O (xm_fi o (yy_W m t) 45 4 5) F = F (m 45 5) := congrArg (fun x => xm_O x F) (yf_45_5)
theorem zs_45_5 {F : _ → Prop} : xm_O (xm_setf (yy_W m t) 45 4 5 0 (.inl v)) F = F (yy_W (yy_s m 45 5 v) t) := congrArg (fun x => xm_O x F) (ys_45_5)
theorem zr_45_6 {F : _ → Prop} : xm_O (xm_fr o (yy_W m t) 45 4 6) F = F 46 := congrArg (fun x => xm_O x F) (yr_45_6)
theorem zi_46 {F : _ → Prop} : xm_O (xm_ints o (yy_W m t) 46) F = F (yy_R 12 (m 46)) := congrArg (fun x => xm_O x F) (yi_46)
theorem zt_46 {F : _ → Prop} (h0 : 0 ≤ z) (h1 : z < 12) : xm_O (xm_seti (yy_W m t) 46 z x) F = F (yy_W (yy_s m 46 z.toNat x) t) := congrArg (fun x => xm_O x F) (yt_46 h0 h1)
theorem zf_47_0 {F : _ → Prop} : xm_O (xm_fi o (yy_W m t) 47 4 0) F = F (m 47 0) := congrArg (fun x => xm_O x F) (yf_47_0)
theorem zs_47_0 {F : _ → Prop} : xm_O (xm_setf (yy_W m t) 47 4 0 0 (.inl v)) F = F (yy_W (yy_s m 47 0 v) t) := congrArg (fun x => xm_O x F) (ys_47_0)
theorem zf_47_1 {F : _ → Prop} : xm_O (xm_fi o (yy_W m t) 47 4 1) F = F (m 47 1) := congrArg (fun x => xm_O x F) (yf_47_1)
theorem zs_47_1 {F : _ → Prop} : xm_O (xm_setf (yy_W m t) 47 4 1 0 (.inl v)) F = F (yy_W (yy_s m 47 1 v) t) := congrArg (fun x => xm_O x F) (ys_47_1)
theorem zf_47_2 {F : _ → Prop} : xm_O (xm_fi o (yy_W m t) 47 4 2) F = F (m 47 2) := congrArg (fun x => xm_O x F) (yf_47_2)
theorem zs_47_2 {F : _ → Prop} : xm_O (xm_setf (yy_W m t) 47 4 2 0 (.inl v)) F = F (yy_W (yy_s m 47 2 v) t) := congrArg (fun x => xm_O x F) (ys_47_2)
theorem zf_47_3 {F : _ → Prop} : xm_O (xm_fi o (yy_W m t) 47 4 3) F = F (m 47 3) := congrArg (fun x => xm_O x F) (yf_47_3)
theorem zs_47_3 {F : _ → Prop} : xm_O (xm_setf (yy_W m t) 47 4 3 0 (.inl v)) F = F (yy_W (yy_s m 47 3 v) t) := congrArg (fun x => xm_O x F) (ys_47_3)
theorem zf_47_4 {F : _ → Prop} : xm_O (xm_fi o (yy_W m t) 47 4 4) F = F (m 47 4) := congrArg (fun x => xm_O x F) (yf_47_4)
theorem zs_47_4 {F : _ → Prop} : xm_O (xm_setf (yy_W m t) 47 4 4 0 (.inl v)) F = F (yy_W (yy_s m 47 4 v) t) := congrArg (fun x => xm_O x F) (ys_47_4)
theorem zf_47_5 {F : _ → Prop} : xm_O (xm_fi o (yy_W m t) 47 4 5) F = F (m 47 5) := congrArg (fun x => xm_O x F) (yf_47_5)
theorem zs_47_5 {F : _ → Prop} : xm_O (xm_setf (yy_W m t) 47 4 5 0 (.inl v)) F = F (yy_W (yy_s m 47 5 v) t) := congrArg (fun x => xm_O x F) (ys_47_5)
theorem zr_47_6 {F : _ → Prop} : xm_O (xm_fr o (yy_W m t) 47 4 6) F = F 48 := congrArg (fun x => xm_O x F) (yr_47_6)
theorem zi_48 {F : _ → Prop} : xm_O (xm_ints o (yy_W m t) 48) F = F (yy_R 12 (m 48)) := congrArg (fun x => xm_O x F) (yi_48)
theorem zt_48 {F : _ → Prop} (h0 : 0 ≤ z) (h1 : z < 12) : xm_O (xm_seti (yy_W m t) 48 z x) F = F (yy_W (yy_s m 48 z.toNat x) t) := congrArg (fun x => xm_O x F) (yt_48 h0 h1)
theorem zf_49_0 {F : _ → Prop} : xm_O (xm_fi o (yy_W m t) 49 4 0) F = F (m 49 0) := congrArg (fun x => xm_O x F) (yf_49_0)
theorem zs_49_0 {F : _ → Prop} : xm_O (xm_setf (yy_W m t) 49 4 0 0 (.inl v)) F = F (yy_W (yy_s m 49 0 v) t) := congrArg (fun x => xm_O x F) (ys_49_0)
theorem zf_49_1 {F : _ → Prop} : xm_O (xm_fi o (yy_W m t) 49 4 1) F = F (m 49 1) := congrArg (fun x => xm_O x F) (yf_49_1)
theorem zs_49_1 {F : _ → Prop} : xm_O (xm_setf (yy_W m t) 49 4 1 0 (.inl v)) F = F (yy_W (yy_s m 49 1 v) t) := congrArg (fun x => xm_O x F) (ys_49_1)
theorem zf_49_2 {F : _ → Prop} : xm_O (xm_fi o (yy_W m t) 49 4 2) F = F (m 49 2) := congrArg (fun x => xm_O x F) (yf_49_2)
theorem zs_49_2 {F : _ → Prop} : xm_O (xm_setf (yy_W m t) 49 4 2 0 (.inl v)) F = F (yy_W (yy_s m 49 2 v) t) := congrArg (fun x => xm_O x F) (ys_49_2)
theorem zf_49_3 {F : _ → Prop} : xm_O (xm_fi o (yy_W m t) 49 4 3) F = F (m 49 3) := congrArg (fun x => xm_O x F) (yf_49_3)
theorem zs_49_3 {F : _ → Prop} : xm_O (xm_setf (yy_W m t) 49 4 3 0 (.inl v)) F = F (yy_W (yy_s m 49 3 v) t) := congrArg (fun x => xm_O x F) (ys_49_3)
theorem zf_49_4 {F : _ → Prop} : xm_O (xm_fi o (yy_W m t) 49 4 4) F = F (m 49 4) := congrArg (fun x => xm_O x F) (yf_49_4)
theorem zs_49_4 {F : _ → Prop} : xm_O (xm_setf (yy_W m t) 49 4 4 0 (.inl v)) F = F (yy_W (yy_s m 49 4 v) t) := congrArg (fun x => xm_O x F) (ys_49_4)
theorem zf_49_5 {F : _ → Prop} : xm_O (xm_fi o (yy_W m t) 49 4 5) F = F (m 49 5) := congrArg (fun x => xm_O x F) (yf_49_5)
theorem zs_49_5 {F : _ → Prop} : xm_O (xm_setf (yy_W m t) 49 4 5 0 (.inl v)) F = F (yy_W (yy_s m 49 5 v) t) := congrArg (fun x => xm_O x F) (ys_49_5)
theorem zr_49_6 {F : _ → Prop} : xm_O (xm_fr o (yy_W m t) 49 4 6) F = F 50 := congrArg (fun x => xm_O x F) (yr_49_6)
theorem zi_50 {F : _ → Prop} : xm_O (xm_ints o (yy_W m t) 50) F = F (yy_R 12 (m 50)) := congrArg (fun x => xm_O x F) (yi_50)
theorem zt_50 {F : _ → Prop} (h0 : 0 ≤ z) (h1 : z < 12) : xm_O (xm_seti (yy_W m t) 50 z x) F = F (yy_W (yy_s m 50 z.toNat x) t) := congrArg (fun x => xm_O x F) (yt_50 h0 h1)
theorem zf_51_0 {F : _ → Prop} : xm_O (xm_fi o (yy_W m t) 51 4 0) F = F (m 51 0) := congrArg (fun x => xm_O x F) (yf_51_0)
theorem zs_51_0 {F : _ → Prop} : xm_O (xm_setf (yy_W m t) 51 4 0 0 (.inl v)) F = F (yy_W (yy_s m 51 0 v) t) := congrArg (fun x => xm_O x F) (ys_51_0)
theorem zf_51_1 {F : _ → Prop} : xm_O (xm_fi o (yy_W m t) 51 4 1) F = F (m 51 1) := congrArg (fun x => xm_O x F) (yf_51_1)
theorem zs_51_1 {F : _ → Prop} : xm_O (xm_setf (yy_W m t) 51 4 1 0 (.inl v)) F = F (yy_W (yy_s m 51 1 v) t) := congrArg (fun x => xm_O x F) (ys_51_1)
theorem zf_51_2 {F : _ → Prop} : xm_O (xm_fi o (yy_W m t) 51 4 2) F = F (m 51 2) := congrArg (fun x => xm_O x F) (yf_51_2)
theorem zs_51_2 {F : _ → Prop} : xm_O (xm_setf (yy_W m t) 51 4 2 0 (.inl v)) F = F (yy_W (yy_s m 51 2 v) t) := congrArg (fun x => xm_O x F) (ys_51_2)
theorem zf_51_3 {F : _ → Prop} : xm_O (xm_fi o (yy_W m t) 51 4 3) F = F (m 51 3) := congrArg (fun x => xm_O x F) (yf_51_3)
theorem zs_51_3 {F : _ → Prop} : xm_O (xm_setf (yy_W m t) 51 4 3 0 (.inl v)) F = F (yy_W (yy_s m 51 3 v) t) := congrArg (fun x => xm_O x F) (ys_51_3)
theorem zf_51_4 {F : _ → Prop} : xm_O (xm_fi o (yy_W m t) 51 4 4) F = F (m 51 4) := congrArg (fun x => xm_O x F) (yf_51_4)
theorem zs_51_4 {F : _ → Prop} : xm_O (xm_setf (yy_W m t) 51 4 4 0 (.inl v)) F = F (yy_W (yy_s m 51 4 v) t) := congrArg (fun x => xm_O x F) (ys_51_4)
theorem zf_51_5 {F : _ → Prop} : xm_O (xm_fi o (yy_W m t) 51 4 5) F = F (m 51 5) := congrArg (fun x => xm_O x F) (yf_51_5)
theorem zs_51_5 {F : _ → Prop} : xm_O (xm_setf (yy_W m t) 51 4 5 0 (.inl v)) F = F (yy_W (yy_s m 51 5 v) t) := congrArg (fun x => xm_O x F) (ys_51_5)
theorem zr_51_6 {F : _ → Prop} : xm_O (xm_fr o (yy_W m t) 51 4 6) F = F 52 := congrArg (fun x => xm_O x F) (yr_51_6)
theorem zi_52 {F : _ → Prop} : xm_O (xm_ints o (yy_W m t) 52) F = F (yy_R 12 (m 52)) := congrArg (fun x => xm_O x F) (yi_52)
theorem zt_52 {F : _ → Prop} (h0 : 0 ≤ z) (h1 : z < 12) : xm_O (xm_seti (yy_W m t) 52 z x) F = F (yy_W (yy_s m 52 z.toNat x) t) := congrArg (fun x => xm_O x F) (yt_52 h0 h1)
theorem zf_53_0 {F : _ → Prop} : xm_O (xm_fi o (yy_W m t) 53 4 0) F = F (m 53 0) := congrArg (fun x => xm_O x F) (yf_53_0)
theorem zs_53_0 {F : _ → Prop} : xm_O (xm_setf (yy_W m t) 53 4 0 0 (.inl v)) F = F (yy_W (yy_s m 53 0 v) t) := congrArg (fun x => xm_O x F) (ys_53_0)
theorem zf_53_1 {F : _ → Prop} : xm_O (xm_fi o (yy_W m t) 53 4 1) F = F (m 53 1) := congrArg (fun x => xm_O x F) (yf_53_1)
theorem zs_53_1 {F : _ → Prop} : xm_O (xm_setf (yy_W m t) 53 4 1 0 (.inl v)) F = F (yy_W (yy_s m 53 1 v) t) := congrArg (fun x => xm_O x F) (ys_53_1)
theorem zf_53_2 {F : _ → Prop} : xm_O (xm_fi o (yy_W m t) 53 4 2) F = F (m 53 2) := congrArg (fun x => xm_O x F) (yf_53_2)
theorem zs_53_2 {F : _ → Prop} : xm_O (xm_setf (yy_W m t) 53 4 2 0 (.inl v)) F = F (yy_W (yy_s m 53 2 v) t) := congrArg (fun x => xm_O x F) (ys_53_2)
theorem zf_53_3 {F : _ → Prop} : xm_O (xm_fi o (yy_W m t) 53 4 3) F = F (m 53 3) := congrArg (fun x => xm_O x F) (yf_53_3)
theorem zs_53_3 {F : _ → Prop} : xm_O (xm_setf (yy_W m t) 53 4 3 0 (.inl v)) F = F (yy_W (yy_s m 53 3 v) t) := congrArg (fun x => xm_O x F) (ys_53_3)
theorem zf_53_4 {F : _ → Prop} : xm_O (xm_fi o (yy_W m t) 53 4 4) F = F (m 53 4) := congrArg (fun x => xm_O x F) (yf_53_4)
theorem zs_53_4 {F : _ → Prop} : xm_O (xm_setf (yy_W m t) 53 4 4 0 (.inl v)) F = F (yy_W (yy_s m 53 4 v) t) := congrArg (fun x => xm_O x F) (ys_53_4)
theorem zf_53_5 {F : _ → Prop} : xm_O (xm_fi o (yy_W m t) 53 4 5) F = F (m 53 5) := congrArg (fun x => xm_O x F) (yf_53_5)
theorem zs_53_5 {F : _ → Prop} : xm_O (xm_setf (yy_W m t) 53 4 5 0 (.inl v)) F = F (yy_W (yy_s m 53 5 v) t) := congrArg (fun x => xm_O x F) (ys_53_5)
theorem zr_53_6 {F : _ → Prop} : xm_O (xm_fr o (yy_W m t) 53 4 6) F = F 54 := congrArg (fun x => xm_O x F) (yr_53_6)
theorem zi_54 {F : _ → Prop} : xm_O (xm_ints o (yy_W m t) 54) F = F (yy_R 12 (m 54)) := congrArg (fun x => xm_O x F) (yi_54)
theorem zt_54 {F : _ → Prop} (h0 : 0 ≤ z) (h1 : z < 12) : xm_O (xm_seti (yy_W m t) 54 z x) F = F (yy_W (yy_s m 54 z.toNat x) t) := congrArg (fun x => xm_O x F) (yt_54 h0 h1)
theorem zr_55_0 {F : _ → Prop} : xm_O (xm_fr o (yy_W m t) 55 1 0) F = F 56 := congrArg (fun x => xm_O x F) (yr_55_0)
theorem zf_55_1 {F : _ → Prop} : xm_O (xm_fi o (yy_W m t) 55 1 1) F = F (m 55 1) := congrArg (fun x => xm_O x F) (yf_55_1)
theorem zs_55_1 {F : _ → Prop} : xm_O (xm_setf (yy_W m t) 55 1 1 0 (.inl v)) F = F (yy_W (yy_s m 55 1 v) t) := congrArg (fun x => xm_O x F) (ys_55_1)
theorem zr_55_2 {F : _ → Prop} : xm_O (xm_fr o (yy_W m t) 55 1 2) F = F 57 := congrArg (fun x => xm_O x F) (yr_55_2)
theorem zf_55_3 {F : _ → Prop} : xm_O (xm_fi o (yy_W m t) 55 1 3) F = F (m 55 3) := congrArg (fun x => xm_O x F) (yf_55_3)
theorem zs_55_3 {F : _ → Prop} : xm_O (xm_setf (yy_W m t) 55 1 3 0 (.inl v)) F = F (yy_W (yy_s m 55 3 v) t) := congrArg (fun x => xm_O x F) (ys_55_3)
theorem zf_55_4 {F : _ → Prop} : xm_O (xm_fi o (yy_W m t) 55 1 4) F = F (m 55 4) := congrArg (fun x => xm_O x F) (yf_55_4)
theorem zs_55_4 {F : _ → Prop} : xm_O (xm_setf (yy_W m t) 55 1 4 0 (.inl v)) F = F (yy_W (yy_s m 55 4 v) t) := congrArg (fun x => xm_O x F) (ys_55_4)
theorem zi_56 {F : _ → Prop} : xm_O (xm_ints o (yy_W m t) 56) F = F (yy_R 60 (m 56)) := congrArg (fun x => xm_O x F) (yi_56)
theorem zt_56 {F : _ → Prop} (h0 : 0 ≤ z) (h1 : z < 60) : xm_O (xm_seti (yy_W m t) 56 z x) F = F (yy_W (yy_s m 56 z.toNat x) t) := congrArg (fun x => xm_O x F) (yt_56 h0 h1)
theorem zi_57 {F : _ → Prop} : xm_O (xm_ints o (yy_W m t) 57) F = F (yy_R 24 (m 57)) := congrArg (fun x => xm_O x F) (yi_57)
theorem zt_57 {F : _ → Prop} (h0 : 0 ≤ z) (h1 : z < 24) : xm_O (xm_seti (yy_W m t) 57 z x) F = F (yy_W (yy_s m 57 z.toNat x) t) := congrArg (fun x => xm_O x F) (yt_57 h0 h1)
theorem zf_58_1 {F : _ → Prop} : xm_O (xm_fi o (yy_W m t) 58 3 1) F = F (m 58 1) := congrArg (fun x => xm_O x F) (yf_58_1)
theorem zs_58_1 {F : _ → Prop} : xm_O (xm_setf (yy_W m t) 58 3 1 0 (.inl v)) F = F (yy_W (yy_s m 58 1 v) t) := congrArg (fun x => xm_O x F) (ys_58_1)
theorem zf_58_3 {F : _ → Prop} : xm_O (xm_fi o (yy_W m t) 58 3 3) F = F (m 58 3) := congrArg (fun x => xm_O x F) (yf_58_3)
theorem zs_58_3 {F : _ → Prop} : xm_O (xm_setf (yy_W m t) 58 3 3 0 (.inl v)) F = F (yy_W (yy_s m 58 3 v) t) := congrArg (fun x => xm_O x F) (ys_58_3)
theorem zr_58_4 {F : _ → Prop} : xm_O (xm_fr o (yy_W m t) 58 3 4) F = F 60 := congrArg (fun x => xm_O x F) (yr_58_4)
theorem zf_58_5 {F : _ → Prop} : xm_O (xm_fi o (yy_W m t) 58 3 5) F = F (m 58 5) := congrArg (fun x => xm_O x F) (yf_58_5)
theorem zs_58_5 {F : _ → Prop} : xm_O (xm_setf (yy_W m t) 58 3 5 0 (.inl v)) F = F (yy_W (yy_s m 58 5 v) t) := congrArg (fun x => xm_O x F) (ys_58_5)
theorem zi_59 {F : _ → Prop} : xm_O (xm_ints o (yy_W m t) 59) F = F (yy_R 0 (m 59)) := congrArg (fun x => xm_O x F) (yi_59)
theorem zt_59 {F : _ → Prop} (h0 : 0 ≤ z) (h1 : z < 0) : xm_O (xm_seti (yy_W m t) 59 z x) F = F (yy_W (yy_s m 59 z.toNat x) t) := congrArg (fun x => xm_O x F) (yt_59 h0 h1)
theorem zi_60 {F : _ → Prop} : xm_O (xm_ints o (yy_W m t) 60) F = F (yy_R 60 (m 60)) := congrArg (fun x => xm_O x F) (yi_60)
theorem zt_60 {F : _ → Prop} (h0 : 0 ≤ z) (h1 : z < 60) : xm_O (xm_seti (yy_W m t) 60 z x) F = F (yy_W (yy_s m 60 z.toNat x) t) := congrArg (fun x => xm_O x F) (yt_60 h0 h1)
theorem zr_61_0 {F : _ → Prop} : xm_O (xm_fr o (yy_W m t) 61 6 0) F = F 62 := congrArg (fun x => xm_O x F) (yr_61_0)
theorem zf_61_1 {F : _ → Prop} : xm_O (xm_fi o (yy_W m t) 61 6 1) F = F (m 61 1) := congrArg (fun x => xm_O x F) (yf_61_1)
theorem zs_61_1 {F : _ → Prop} : xm_O (xm_setf (yy_W m t) 61 6 1 0 (.inl v)) F = F (yy_W (yy_s m 61 1 v) t) := congrArg (fun x => xm_O x F) (ys_61_1)
theorem zf_61_2 {F : _ → Prop} : xm_O (xm_fi o (yy_W m t) 61 6 2) F = F (m 61 2) := congrArg (fun x => xm_O x F) (yf_61_2)
theorem zs_61_2 {F : _ → Prop} : xm_O (xm_setf (yy_W m t) 61 6 2 0 (.inl v)) F = F (yy_W (yy_s m 61 2 v) t) := congrArg (fun x => xm_O x F) (ys_61_2)
theorem zf_61_3 {F : _ → Prop} : xm_O (xm_fi o (yy_W m t) 61 6 3) F = F (m 61 3) := congrArg (fun x => xm_O x F) (yf_61_3)
theorem zs_61_3 {F : _ → Prop} : xm_O (xm_setf (yy_W m t) 61 6 3 0 (.inl v)) F = F (yy_W (yy_s m 61 3 v) t) := congrArg (fun x => xm_O x F) (ys_61_3)
theorem zf_61_4 {F : _ → Prop} : xm_O (xm_fi o (yy_W m t) 61 6 4) F = F (m 61 4) := congrArg (fun x => xm_O x F) (yf_61_4)
theorem zs_61_4 {F : _ → Prop} : xm_O (xm_setf (yy_W m t) 61 6 4 0 (.inl v)) F = F (yy_W (yy_s m 61 4 v) t) := congrArg (fun x => xm_O x F) (ys_61_4)
theorem zi_62 {F : _ → Prop} : xm_O (xm_ints o (yy_W m t) 62) F = F (yy_R 30 (m 62)) := congrArg (fun x => xm_O x F) (yi_62)
theorem zt_62 {F : _ → Prop} (h0 : 0 ≤ z) (h1 : z < 30) : xm_O (xm_seti (yy_W m t) 62 z x) F = F (yy_W (yy_s m 62 z.toNat x) t) := congrArg (fun x => xm_O x F) (yt_62 h0 h1)
theorem zf_63_0 {F : _ → Prop} : xm_O (xm_fi o (yy_W m t) 63 0 0) F = F (m 63 0) := congrArg (fun x => xm_O x F) (yf_63_0)
theorem zs_63_0 {F : _ → Prop} (h : xm_fit 1 (.inl v) = true) : xm_O (xm_setf (yy_W m t) 63 0 0 1 (.inl v)) F = F (yy_W (yy_s m 63 0 v) t) := congrArg (fun x => xm_O x F) (ys_63_0 h)
theorem zf_63_1 {F : _ → Prop} : xm_O (xm_fi o (yy_W m t) 63 0 1) F = F (m 63 1) := congrArg (fun x => xm_O x F) (yf_63_1)
theorem zs_63_1 {F : _ → Prop} : xm_O (xm_setf (yy_W m t) 63 0 1 0 (.inl v)) F = F (yy_W (yy_s m 63 1 v) t) := congrArg (fun x => xm_O x F) (ys_63_1)
theorem zf_63_2 {F : _ → Prop} : xm_O (xm_fi o (yy_W m t) 63 0 2) F = F (m 63 2) := congrArg (fun x => xm_O x F) (yf_63_2)
theorem zs_63_2 {F : _ → Prop} : xm_O (xm_setf (yy_W m t) 63 0 2 0 (.inl v)) F = F (yy_W (yy_s m 63 2 v) t) := congrArg (fun x => xm_O x F) (ys_63_2)
theorem zf_63_3 {F : _ → Prop} : xm_O (xm_fi o (yy_W m t) 63 0 3) F = F (m 63 3) := congrArg (fun x => xm_O x F) (yf_63_3)
theorem zs_63_3 {F : _ → Prop} : xm_O (xm_setf (yy_W m t) 63 0 3 0 (.inl v)) F = F (yy_W (yy_s m 63 3 v) t) := congrArg (fun x => xm_O x F) (ys_63_3)
theorem zf_63_4 {F : _ → Prop} : xm_O (xm_fi o (yy_W m t) 63 0 4) F = F (m 63 4) := congrArg (fun x => xm_O x F) (yf_63_4)
theorem zs_63_4 {F : _ → Prop} : xm_O (xm_setf (yy_W m t) 63 0 4 0 (.inl v)) F = F (yy_W (yy_s m 63 4 v) t) := congrArg (fun x => xm_O x F) (ys_63_4)
theorem zq_64 {F : _ → Prop} : xm_O (xm_refs o (yy_W m t) 64) F = F (yy_qs (m 64) 0 [68, 70, 72, 74]) := congrArg (fun x => xm_O x F) (yq_64)
theorem zi_65 {F : _ → Prop} : xm_O (xm_ints o (yy_W m t) 65) F = F (yy_R 7 (m 65)) := congrArg (fun x => xm_O x F) (yi_65)
theorem zt_65 {F : _ → Prop} (h0 : 0 ≤ z) (h1 : z < 7) : xm_O (xm_seti (yy_W m t) 65 z x) F = F (yy_W (yy_s m 65 z.toNat x) t) := congrArg (fun x => xm_O x F) (yt_65 h0 h1)
theorem zf_66_0 {F : _ → Prop} : xm_O (xm_fi o (yy_W m t) 66 5 0) F = F (m 66 0) := congrArg (fun x => xm_O x F) (yf_66_0)
theorem zs_66_0 {F : _ → Prop} : xm_O (xm_setf (yy_W m t) 66 5 0 0 (.inl v)) F = F (yy_W (yy_s m 66 0 v) t) := congrArg (fun x => xm_O x F) (ys_66_0)
theorem zf_66_1 {F : _ → Prop} : xm_O (xm_fi o (yy_W m t) 66 5 1) F = F (m 66 1) := congrArg (fun x => xm_O x F) (yf_66_1)
theorem zs_66_1 {F : _ → Prop} : xm_O (xm_setf (yy_W m t) 66 5 1 0 (.inl v)) F = F (yy_W (yy_s m 66 1 v) t) := congrArg (fun x => xm_O x F) (ys_66_1)
theorem zr_66_2 {F : _ → Prop} : xm_O (xm_fr o (yy_W m t) 66 5 2) F = F 67 := congrArg (fun x => xm_O x F) (yr_66_2)
theorem zi_67 {F : _ → Prop} : xm_O (xm_ints o (yy_W m t) 67) F = F (yy_R 24 (m 67)) := congrArg (fun x => xm_O x F) (yi_67)
theorem zt_67 {F : _ → Prop} (h0 : 0 ≤ z) (h1 : z < 24) : xm_O (xm_seti (yy_W m t) 67 z x) F = F (yy_W (yy_s m 67 z.toNat x) t) := congrArg (fun x => xm_O x F) (yt_67 h0 h1)
theorem zf_68_0 {F : _ → Prop} : xm_O (xm_fi o (yy_W m t) 68 5 0) F = F (m 68 0) := congrArg (fun x => xm_O x F) (yf_68_0)
theorem zs_68_0 {F : _ → Prop} : xm_O (xm_setf (yy_W m t) 68 5 0 0 (.inl v)) F = F (yy_W (yy_s m 68 0 v) t) := congrArg (fun x => xm_O x F) (ys_68_0)
theorem zf_68_1 {F : _ → Prop} : xm_O (xm_fi o (yy_W m t) 68 5 1) F = F (m 68 1) := congrArg (fun x => xm_O x F) (yf_68_1)
theorem zs_68_1 {F : _ → Prop} : xm_O (xm_setf (yy_W m t) 68 5 1 0 (.inl v)) F = F (yy_W (yy_s m 68 1 v) t) := congrArg (fun x => xm_O x F) (ys_68_1)
theorem zr_68_2 {F : _ → Prop} : xm_O (xm_fr o (yy_W m t) 68 5 2) F = F 69 := congrArg (fun x => xm_O x F) (yr_68_2)
theorem zi_69 {F : _ → Prop} : xm_O (xm_ints o (yy_W m t) 69) F = F (yy_R 24 (m 69)) := congrArg (fun x => xm_O x F) (yi_69)
theorem zt_69 {F : _ → Prop} (h0 : 0 ≤ z) (h1 : z < 24) : xm_O (xm_seti (yy_W m t) 69 z x) F = F (yy_W (yy_s m 69 z.toNat x) t) := congrArg (fun x => xm_O x F) (yt_69 h0 h1)
theorem zf_70_0 {F : _ → Prop} : xm_O (xm_fi o (yy_W m t) 70 5 0) F = F (m 70 0) := congrArg (fun x => xm_O x F) (yf_70_0)
theorem zs_70_0 {F : _ → Prop} : xm_O (xm_setf (yy_W m t) 70 5 0 0 (.inl v)) F = F (yy_W (yy_s m 70 0 v) t) := congrArg (fun x => xm_O x F) (ys_70_0)
theorem zf_70_1 {F : _ → Prop} : xm_O (xm_fi o (yy_W m t) 70 5 1) F = F (m 70 1) := congrArg (fun x => xm_O x F) (yf_70_1)
theorem zs_70_1 {F : _ → Prop} : xm_O (xm_setf (yy_W m t) 70 5 1 0 (.inl v)) F = F (yy_W (yy_s m 70 1 v) t) := congrArg (fun x => xm_O x F) (ys_70_1)
theorem zr_70_2 {F : _ → Prop} : xm_O (xm_fr o (yy_W m t) 70 5 2) F = F 71 := congrArg (fun x => xm_O x F) (yr_70_2)
theorem zi_71 {F : _ → Prop} : xm_O (xm_ints o (yy_W m t) 71) F = F (yy_R 24 (m 71)) := congrArg (fun x => xm_O x F) (yi_71)
theorem zt_71 {F : _ → Prop} (h0 : 0 ≤ z) (h1 : z < 24) : xm_O (xm_seti (yy_W m t) 71 z x) F = F (yy_W (yy_s m 71 z.toNat x) t) := congrArg (fun x => xm_O x F) (yt_71 h0 h1)
theorem zf_72_0 {F : _ → Prop} : xm_O (xm_fi o (yy_W m t) 72 5 0) F = F (m 72 0) := congrArg (fun x => xm_O x F) (yf_72_0)
theorem zs_72_0 {F : _ → Prop} : xm_O (xm_setf (yy_W m t) 72 5 0 0 (.inl v)) F = F (yy_W (yy_s m 72 0 v) t) := congrArg (fun x => xm_O x F) (ys_72_0)
theorem zf_72_1 {F : _ → Prop} : xm_O (xm_fi o (yy_W m t) 72 5 1) F = F (m 72 1) := congrArg (fun x => xm_O x F) (yf_72_1)
theorem zs_72_1 {F : _ → Prop} : xm_O (xm_setf (yy_W m t) 72 5 1 0 (.inl v)) F = F (yy_W (yy_s m 72 1 v) t) := congrArg (fun x => xm_O x F) (ys_72_1)
theorem zr_72_2 {F : _ → Prop} : xm_O (xm_fr o (yy_W m t) 72 5 2) F = F 73 := congrArg (fun x => xm_O x F) (yr_72_2)
theorem zi_73 {F : _ → Prop} : xm_O (xm_ints o (yy_W m t) 73) F = F (yy_R 24 (m 73)) := congrArg (fun x => xm_O x F) (yi_73)
theorem zt_73 {F : _ → Prop} (h0 : 0 ≤ z) (h1 : z < 24) : xm_O (xm_seti (yy_W m t) 73 z x) F = F (yy_W (yy_s m 73 z.toNat x) t) := congrArg (fun x => xm_O x F) (yt_73 h0 h1)
theorem zr_74_0 {F : _ → Prop} : xm_O (xm_fr o (yy_W m t) 74 9 0) F = F 75 := congrArg (fun x => xm_O x F) (yr_74_0)
theorem zr_74_1 {F : _ → Prop} : xm_O (xm_fr o (yy_W m t) 74 9 1) F = F 76 := congrArg (fun x => xm_O x F) (yr_74_1)
theorem zr_74_2 {F : _ → Prop} : xm_O (xm_fr o (yy_W m t) 74 9 2) F = F 77 := congrArg (fun x => xm_O x F) (yr_74_2)
theorem zf_74_3 {F : _ → Prop} : xm_O (xm_fi o (yy_W m t) 74 9 3) F = F (m 74 3) := congrArg (fun x => xm_O x F) (yf_74_3)
theorem zs_74_3 {F : _ → Prop} : xm_O (xm_setf (yy_W m t) 74 9 3 0 (.inl v)) F = F (yy_W (yy_s m 74 3 v) t) := congrArg (fun x => xm_O x F) (ys_74_3)
theorem zf_74_4 {F : _ → Prop} : xm_O (xm_fi o (yy_W m t) 74 9 4) F = F (m 74 4) := congrArg (fun x => xm_O x F) (yf_74_4)
theorem zs_74_4 {F : _ → Prop} : xm_O (xm_setf (yy_W m t) 74 9 4 0 (.inl v)) F = F (yy_W (yy_s m 74 4 v) t) := congrArg (fun x => xm_O x F) (ys_74_4)
theorem zr_74_5 {F : _ → Prop} : xm_O (xm_fr o (yy_W m t) 74 9 5) F = F 78 := congrArg (fun x => xm_O x F) (yr_74_5)
theorem zf_74_6 {F : _ → Prop} : xm_O (xm_fi o (yy_W m t) 74 9 6) F = F (m 74 6) := congrArg (fun x => xm_O x F) (yf_74_6)
theorem zs_74_6 {F : _ → Prop} : xm_O (xm_setf (yy_W m t) 74 9 6 0 (.inl v)) F = F (yy_W (yy_s m 74 6 v) t) := congrArg (fun x => xm_O x F) (ys_74_6)
theorem zf_74_7 {F : _ → Prop} : xm_O (xm_fi o (yy_W m t) 74 9 7) F = F (m 74 7) := congrArg (fun x => xm_O x F) (yf_74_7)
theorem zs_74_7 {F : _ → Prop} : xm_O (xm_setf (yy_W m t) 74 9 7 0 (.inl v)) F = F (yy_W (yy_s m 74 7 v) t) := congrArg (fun x => xm_O x F) (ys_74_7)
theorem zf_74_8 {F : _ → Prop} : xm_O (xm_fi o (yy_W m t) 74 9 8) F = F (m 74 8) := congrArg (fun x => xm_O x F) (yf_74_8)
theorem zs_74_8 {F : _ → Prop} : xm_O (xm_setf (yy_W m t) 74 9 8 0 (.inl v)) F = F (yy_W (yy_s m 74 8 v) t) := congrArg (fun x => xm_O x F) (ys_74_8)
theorem zf_74_9 {F : _ → Prop} : xm_O (xm_fi o (yy_W m t) 74 9 9) F = F (m 74 9) := congrArg (fun x => xm_O x F) (yf_74_9)
theorem zs_74_9 {F : _ → Prop} : xm_O (xm_setf (yy_W m t) 74 9 9 0 (.inl v)) F = F (yy_W (yy_s m 74 9 v) t) := congrArg (fun x => xm_O x F) (ys_74_9)
theorem zr_74_10 {F : _ → Prop} : xm_O (xm_fr o (yy_W m t) 74 9 10) F = F 79 := congrArg (fun x => xm_O x F) (yr_74_10)
theorem zr_74_11 {F : _ → Prop} : xm_O (xm_fr o (yy_W m t) 74 9 11) F = F 80 := congrArg (fun x => xm_O x F) (yr_74_11)
theorem zr_74_12 {F : _ → Prop} : xm_O (xm_fr o (yy_W m t) 74 9 12) F = F 81 := congrArg (fun x => xm_O x F) (yr_74_12)
theorem zf_74_13 {F : _ → Prop} : xm_O (xm_fi o (yy_W m t) 74 9 13) F = F (m 74 13) := congrArg (fun x => xm_O x F) (yf_74_13)
theorem zs_74_13 {F : _ → Prop} : xm_O (xm_setf (yy_W m t) 74 9 13 0 (.inl v)) F = F (yy_W (yy_s m 74 13 v) t) := congrArg (fun x => xm_O x F) (ys_74_13)
theorem zr_74_14 {F : _ → Prop} : xm_O (xm_fr o (yy_W m t) 74 9 14) F = F 82 := congrArg (fun x => xm_O x F) (yr_74_14)
theorem zf_74_15 {F : _ → Prop} : xm_O (xm_fi o (yy_W m t) 74 9 15) F = F (m 74 15) := congrArg (fun x => xm_O x F) (yf_74_15)
theorem zs_74_15 {F : _ → Prop} : xm_O (xm_setf (yy_W m t) 74 9 15 0 (.inl v)) F = F (yy_W (yy_s m 74 15 v) t) := congrArg (fun x => xm_O x F) (ys_74_15)
theorem zf_74_16 {F : _ → Prop} : xm_O (xm_fi o (yy_W m t) 74 9 16) F = F (m 74 16) := congrArg (fun x => xm_O x F) (yf_74_16)
theorem zs_74_16 {F : _ → Prop} : xm_O (xm_setf (yy_W m t) 74 9 16 0 (.inl v)) F = F (yy_W (yy_s m 74 16 v) t) := congrArg (fun x => xm_O x F) (ys_74_16)
theorem zf_74_17 {F : _ → Prop} : xm_O (xm_fi o (yy_W m t) 74 9 17) F = F (m 74 17) := congrArg (fun x => xm_O x F) (yf_74_17)
theorem zs_74_17 {F : _ → Prop} (h : xm_fit 1 (.inl v) = true) : xm_O (xm_setf (yy_W m t) 74 9 17 1 (.inl v)) F = F (yy_W (yy_s m 74 17 v) t) := congrArg (fun x => xm_O x F) (ys_74_17 h)
theorem zr_74_18 {F : _ → Prop} : xm_O (xm_fr o (yy_W m t) 74 9 18) F = F 83 := congrArg (fun x => xm_O x F) (yr_74_18)
theorem zr_74_19 {F : _ → Prop} : xm_O (xm_fr o (yy_W m t) 74 9 19) F = F 84 := congrArg (fun x => xm_O x F) (yr_74_19)
theorem zr_74_20 {F : _ → Prop} : xm_O (xm_fr o (yy_W m t) 74 9 20) F = F 85 := congrArg (fun x => xm_O x F) (yr_74_20)
theorem zr_74_21 {F : _ → Prop} : xm_O (xm_fr o (yy_W m t) 74 9 21) F = F 86 := congrArg (fun x => xm_O x F) (yr_74_21)
theorem zi_75 {F : _ → Prop} : xm_O (xm_ints o (yy_W m t) 75) F = F (yy_R 673 (m 75)) := congrArg (fun x => xm_O x F) (yi_75)
theorem zt_75 {F : _ → Prop} (h0 : 0 ≤ z) (h1 : z < 673) : xm_O (xm_seti (yy_W m t) 75 z x) F = F (yy_W (yy_s m 75 z.toNat x) t) := congrArg (fun x => xm_O x F) (yt_75 h0 h1)
theorem zi_76 {F : _ → Prop} : xm_O (xm_ints o (yy_W m t) 76) F = F (yy_R 673 (m 76)) := congrArg (fun x => xm_O x F) (yi_76)
theorem zt_76 {F : _ → Prop} (h0 : 0 ≤ z) (h1 : z < 673) : xm_O (xm_seti (yy_W m t) 76 z x) F = F (yy_W (yy_s m 76 z.toNat x) t) := congrArg (fun x => xm_O x F) (yt_76 h0 h1)
theorem zi_77 {F : _ → Prop} : xm_O (xm_ints o (yy_W m t) 77) F = F (yy_R 339 (m 77)) := congrArg (fun x => xm_O x F) (yi_77)
theorem zt_77 {F : _ → Prop} (h0 : 0 ≤ z) (h1 : z < 339) : xm_O (xm_seti (yy_W m t) 77 z x) F = F (yy_W (yy_s m 77 z.toNat x) t) := congrArg (fun x => xm_O x F) (yt_77 h0 h1)
theorem zi_78 {F : _ → Prop} : xm_O (xm_ints o (yy_W m t) 78) F = F (yy_R 7 (m 78)) := congrArg (fun x => xm_O x F) (yi_78)
theorem zt_78 {F : _ → Prop} (h0 : 0 ≤ z) (h1 : z < 7) : xm_O (xm_seti (yy_W m t) 78 z x) F = F (yy_W (yy_s m 78 z.toNat x) t) := congrArg (fun x => xm_O x F) (yt_78 h0 h1)
theorem zi_79 {F : _ → Prop} : xm_O (xm_ints o (yy_W m t) 79) F = F (yy_R 124 (m 79)) := congrArg (fun x => xm_O x F) (yi_79)
theorem zt_79 {F : _ → Prop} (h0 : 0 ≤ z) (h1 : z < 124) : xm_O (xm_seti (yy_W m t) 79 z x) F = F (yy_W (yy_s m 79 z.toNat x) t) := congrArg (fun x => xm_O x F) (yt_79 h0 h1)
theorem zi_80 {F : _ → Prop} : xm_O (xm_ints o (yy_W m t) 80) F = F (yy_R 128 (m 80)) := congrArg (fun x => xm_O x F) (yi_80)
theorem zt_80 {F : _ → Prop} (h0 : 0 ≤ z) (h1 : z < 128) : xm_O (xm_seti (yy_W m t) 80 z x) F = F (yy_W (yy_s m 80 z.toNat x) t) := congrArg (fun x => xm_O x F) (yt_80 h0 h1)
theorem zi_81 {F : _ → Prop} : xm_O (xm_ints o (yy_W m t) 81) F = F (yy_R 64 (m 81)) := congrArg (fun x => xm_O x F) (yi_81)
theorem zt_81 {F : _ → Prop} (h0 : 0 ≤ z) (h1 : z < 64) : xm_O (xm_seti (yy_W m t) 81 z x) F = F (yy_W (yy_s m 81 z.toNat x) t) := congrArg (fun x => xm_O x F) (yt_81 h0 h1)
theorem zi_82 {F : _ → Prop} : xm_O (xm_ints o (yy_W m t) 82) F = F (yy_R 30 (m 82)) := congrArg (fun x => xm_O x F) (yi_82)
theorem zt_82 {F : _ → Prop} (h0 : 0 ≤ z) (h1 : z < 30) : xm_O (xm_seti (yy_W m t) 82 z x) F = F (yy_W (yy_s m 82 z.toNat x) t) := congrArg (fun x => xm_O x F) (yt_82 h0 h1)
theorem zi_83 {F : _ → Prop} : xm_O (xm_ints o (yy_W m t) 83) F = F (yy_R 4 (m 83)) := congrArg (fun x => xm_O x F) (yi_83)
theorem zt_83 {F : _ → Prop} (h0 : 0 ≤ z) (h1 : z < 4) : xm_O (xm_seti (yy_W m t) 83 z x) F = F (yy_W (yy_s m 83 z.toNat x) t) := congrArg (fun x => xm_O x F) (yt_83 h0 h1)
theorem zi_84 {F : _ → Prop} : xm_O (xm_ints o (yy_W m t) 84) F = F (yy_R 4 (m 84)) := congrArg (fun x => xm_O x F) (yi_84)
theorem zt_84 {F : _ → Prop} (h0 : 0 ≤ z) (h1 : z < 4) : xm_O (xm_seti (yy_W m t) 84 z x) F = F (yy_W (yy_s m 84 z.toNat x) t) := congrArg (fun x => xm_O x F) (yt_84 h0 h1)
theorem zi_85 {F : _ → Prop} : xm_O (xm_ints o (yy_W m t) 85) F = F (yy_R 96 (m 85)) := congrArg (fun x => xm_O x F) (yi_85)
theorem zt_85 {F : _ → Prop} (h0 : 0 ≤ z) (h1 : z < 96) : xm_O (xm_seti (yy_W m t) 85 z x) F = F (yy_W (yy_s m 85 z.toNat x) t) := congrArg (fun x => xm_O x F) (yt_85 h0 h1)
theorem zi_86 {F : _ → Prop} : xm_O (xm_ints o (yy_W m t) 86) F = F (yy_R 24 (m 86)) := congrArg (fun x => xm_O x F) (yi_86)
theorem zt_86 {F : _ → Prop} (h0 : 0 ≤ z) (h1 : z < 24) : xm_O (xm_seti (yy_W m t) 86 z x) F = F (yy_W (yy_s m 86 z.toNat x) t) := congrArg (fun x => xm_O x F) (yt_86 h0 h1)
end yz_sec
end
