/-- two numbers joined by a sign -/
def sp_join (o a b : Int) : Int := if o = 37 then (if b = 0 then 0 else a.tmod b) else if o = 38 then (if a = 0 then 0 else if b = 0 then 0 else 1) else if o = 42 then xm_w (a * b) else if o = 43 then xm_w (a + b) else if o = 45 then xm_w (a - b) else if o = 47 then (if b = 0 then 0 else xm_w (a.tdiv b)) else if o = 60 then (if a < b then 1 else 0) else if o = 61 then (if a = b then 1 else 0) else if o = 62 then (if b < a then 1 else 0) else (if a = 0 then (if b = 0 then 0 else 1) else 1)
def sp_sign (o : Int) : Prop := o = 37 ∨ o = 38 ∨ o = 42 ∨ o = 43 ∨ o = 45 ∨ o = 47 ∨ o = 60 ∨ o = 61 ∨ o = 62 ∨ o = 124
theorem c_903 {sc : List Int} {d : Nat} {o a b : Int} {w : xm_W} (ho : sp_sign o) : xm_X (xm_old sc) xm_mt (d + 1) 903 [.inl o, .inl a, .inl b] w = some (some (.inl (sp_join o a b)), w) := by
  refine xm_X_of (M := xm_m903) rfl ⟨xm_EQ.eq (xb_903_0 ?_), rfl, rfl, Nat.le_of_ble_eq_true rfl, xw_hd0⟩
  unfold sp_sign at ho
  rcases ho with h | h | h | h | h | h | h | h | h | h <;> subst h <;> simp only [sp_join, reduceIte, Int.reduceEq]
  · by_cases h : b = 0
    · rw [if_pos h, if_pos h]
    · rw [if_neg h, if_neg h]; exact ⟨h, rfl⟩
  · split
    · rfl
    · split <;> rfl
  · by_cases h : b = 0
    · rw [if_pos h, if_pos h]
    · rw [if_neg h, if_neg h]; exact ⟨h, rfl⟩
  · split <;> rfl
  · split <;> rfl
  · split <;> rfl
  · split
    · split <;> rfl
    · rfl
theorem c_1128 {sc : List Int} {d : Nat} {o a b : Int} {w : xm_W} (ho : sp_sign o) : xm_X (xm_old sc) xm_mt (d + 1) 1128 [.inl o, .inl a, .inl b] w = some (some (.inl (sp_join o a b)), w) := by
  refine xm_X_of (M := xm_m1128) rfl ⟨xm_EQ.eq (xb_1128_0 ?_), rfl, rfl, Nat.le_of_ble_eq_true rfl, xw_hd0⟩
  unfold sp_sign at ho
  rcases ho with h | h | h | h | h | h | h | h | h | h <;> subst h <;> simp only [sp_join, reduceIte, Int.reduceEq]
  · by_cases h : b = 0
    · rw [if_pos h, if_pos h]
    · rw [if_neg h, if_neg h]
      by_cases g : b = -1
      · rw [if_pos g, g, Int.tmod_neg, Int.tmod_one]
      · rw [if_neg g]; exact ⟨h, rfl⟩
  · split
    · rfl
    · split <;> rfl
  · by_cases h : b = 0
    · rw [if_pos h, if_pos h]
    · rw [if_neg h, if_neg h]
      by_cases g : b = -1
      · rw [if_pos g, g, Int.tdiv_neg, Int.tdiv_one]
      · rw [if_neg g]; exact ⟨h, rfl⟩
  · split <;> rfl
  · split <;> rfl
  · split <;> rfl
  · split
    · split <;> rfl
    · rfl
/-- is a kind another or under it -/
def sp_under (a b : Int) : Int := if b = 0 ∨ a = b ∨ (b = 1 ∧ a = 4) ∨ (b = 2 ∧ a = 5) then 1 else 0
theorem xw_ans {w : xm_W} {y z : Int} (h : y = z) : ((some (.inl y), w) : Option xm_V × xm_W) = (some (.inl z), w) := by rw [h]
theorem c_1146 {sc : List Int} {d : Nat} {a b : Int} {w : xm_W} : xm_X (xm_old sc) xm_mt (d + 1) 1146 [.inl a, .inl b] w = some (some (.inl (sp_under a b)), w) := by
  refine xm_X_of (M := xm_m1146) rfl ⟨xm_EQ.eq (xb_1146_0 ?_), ?_, rfl, Nat.le_of_ble_eq_true rfl, xw_hd0⟩
  · unfold sp_under
    split
    · apply xw_ans; rw [if_pos (by omega)]
    · split
      · apply xw_ans; rw [if_pos (by omega)]
      · split
        · split
          · apply xw_ans; rw [if_pos (by omega)]
          · split
            · split
              · apply xw_ans; rw [if_pos (by omega)]
              · apply xw_ans; rw [if_neg (by omega)]
            · apply xw_ans; rw [if_neg (by omega)]
        · split
          · split
            · apply xw_ans; rw [if_pos (by omega)]
            · apply xw_ans; rw [if_neg (by omega)]
          · apply xw_ans; rw [if_neg (by omega)]
  · show (_ == _ || _ == _) = true
    unfold sp_under
    split <;> rfl
theorem xo_get {sc : List Int} {w : xm_W} {k : Nat} (hw : w.length < 1000000) : xm_get (xm_old sc) w (1000000 + k) = (xm_old sc)[k]? := by
  unfold xm_get
  rw [List.getElem?_eq_none (by omega)]
  show (if 1000000 + k < 1000000 then none else (xm_old sc)[1000000 + k - 1000000]?) = _
  rw [if_neg (by omega), Nat.add_sub_cancel_left]
theorem xo_ints {sc : List Int} {w : xm_W} {k : Nat} {l : List Int} (hw : w.length < 1000000) (h : (xm_old sc)[k]? = some (.inl l)) : xm_ints (xm_old sc) w (1000000 + k) = some l := by
  unfold xm_ints; rw [xo_get hw, h]
theorem xo_above {sc : List Int} {w : xm_W} (hw : w.length < 1000000) : xm_ints (xm_old sc) w 1000000 = some xm_st0 := xo_ints (k := 0) hw rfl
theorem xo_bodies {sc : List Int} {w : xm_W} (hw : w.length < 1000000) : xm_ints (xm_old sc) w 1000001 = some xm_st1 := xo_ints (k := 1) hw rfl
