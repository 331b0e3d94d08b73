/-! memory: reads and writes out of what a cell holds -/
section xw_sec
variable {o w : xm_W} {y c a : Nat} {fs : List xm_V}
theorem xw_get {x : xm_C} (h : w[y]? = some x) : xm_get o w y = some x := by
  unfold xm_get; rw [h]
theorem xw_fld (h : w[y]? = some (.inr (.inr (c, fs)))) : xm_fld o w y c a = fs[a]? := by
  unfold xm_fld; rw [xw_get h]; exact if_pos rfl
theorem xw_fi {z : Int} (h : w[y]? = some (.inr (.inr (c, fs)))) (hv : fs[a]? = some (.inl z)) : xm_fi o w y c a = some z := by
  unfold xm_fi; rw [xw_fld h, hv]
theorem xw_fr {j : Nat} (h : w[y]? = some (.inr (.inr (c, fs)))) (hv : fs[a]? = some (.inr (.inl (some j)))) : xm_fr o w y c a = some j := by
  unfold xm_fr; rw [xw_fld h, hv]
theorem xw_ints {l : List Int} (h : w[y]? = some (.inl l)) : xm_ints o w y = some l := by
  unfold xm_ints; rw [xw_get h]
theorem xw_refs {t : Nat} {l : List (Option Nat)} (h : w[y]? = some (.inr (.inl (t, l)))) : xm_refs o w y = some l := by
  unfold xm_refs; rw [xw_get h]
theorem xw_len {l : List Int} (h : w[y]? = some (.inl l)) (hl : l.length < 1000000) : xm_len o w y = some l.length := by
  unfold xm_len; rw [xw_get h]; exact if_pos hl
theorem xw_setf {t : Nat} {v : xm_V} (h : w[y]? = some (.inr (.inr (c, fs)))) (ha : a < fs.length) (hf : xm_fit t v = true) : xm_setf w y c a t v = some (w.set y (.inr (.inr (c, fs.set a v)))) := by
  unfold xm_setf; rw [h]; exact if_pos ⟨rfl, ha, hf⟩
theorem xw_seti {l : List Int} {i x : Int} (h : w[y]? = some (.inl l)) (h0 : 0 ≤ i) (h1 : i < l.length) : xm_seti w y i x = some (w.set y (.inl (l.set i.toNat x))) := by
  unfold xm_seti; rw [h]; exact if_pos ⟨h0, h1⟩
theorem xw_at {α : Type} {l : List α} {i : Int} {v : α} (h0 : 0 ≤ i) (h : l[i.toNat]? = some v) : xm_at l i = some v := by
  unfold xm_at; rw [if_pos h0]; exact h
theorem xw_atn {α : Type} {l : List α} {n : Nat} {i : Int} {v : α} (hi : i = (n : Int)) (h : l[n]? = some v) : xm_at l i = some v := by
  subst hi; exact xw_at (by omega) (by simpa using h)
theorem xw_ne {x : xm_C} {k : Nat} (h : k ≠ y) : (w.set k x)[y]? = w[y]? := List.getElem?_set_ne h
theorem xw_eq {x x0 : xm_C} (h : w[y]? = some x0) : (w.set y x)[y]? = some x := by
  have := (List.getElem?_eq_some_iff.mp h).1
  simp [this]
theorem xw_hd {as : List xm_V} {r : Nat} (h : w[y]? = some (.inr (.inr (r, fs)))) : xm_hd o w (r + 1) (.inr (.inl (some y)) :: as) := fun _ => ⟨y, rfl, fun _ => ⟨fs, xw_get h⟩⟩
theorem xw_hd0 {as : List xm_V} : xm_hd o w 0 as := fun h => absurd rfl h
end xw_sec
/-- within, in -/
theorem c_142 {sc : List Int} {d : Nat} {v l g : Int} {w : xm_W} : xm_X (xm_old sc) xm_mt (d + 1) 142 [.inl v, .inl l, .inl g] w = some (some (.inl (if l ≤ v ∧ v ≤ g then 1 else 0)), w) := by
  refine xm_X_of (M := xm_m142) rfl ⟨xm_EQ.eq (xb_142_0 ?_), ?_, rfl, Nat.le_of_ble_eq_true rfl, xw_hd0⟩
  · by_cases h1 : v < l
    · rw [if_pos h1, if_neg (by omega)]
    · by_cases h2 : g < v
      · rw [if_neg h1, if_pos h2, if_neg (by omega)]
      · rw [if_neg h1, if_neg h2, if_pos (by omega)]
  · show (_ == _ || _ == _) = true
    split <;> rfl
theorem c_1103 {sc : List Int} {d : Nat} {v l g : Int} {w : xm_W} : xm_X (xm_old sc) xm_mt (d + 1) 1103 [.inl v, .inl l, .inl g] w = some (some (.inl (if l ≤ v ∧ v ≤ g then 1 else 0)), w) := by
  refine xm_X_of (M := xm_m1103) rfl ⟨xm_EQ.eq (xb_1103_0 ?_), ?_, rfl, Nat.le_of_ble_eq_true rfl, xw_hd0⟩
  · by_cases h1 : v < l
    · rw [if_pos h1, if_neg (by omega)]
    · by_cases h2 : g < v
      · rw [if_neg h1, if_pos h2, if_neg (by omega)]
      · rw [if_neg h1, if_neg h2, if_pos (by omega)]
  · show (_ == _ || _ == _) = true
    split <;> rfl
