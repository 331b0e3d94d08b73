/-! AS: what lies above a kind -/
set_option maxRecDepth 20000 in
theorem zz_st {sc : List Int} {t : xm_W} {m : Nat → Nat → Int} {F : List Int → Prop} (ht : t.length < 900000) : xm_O (xm_ints (xm_old sc) (yy_W m t) 1000000) F = F xm_st0 := by
  rw [xo_above (by rw [yy_W_len]; omega)]; rfl
set_option maxRecDepth 20000 in
theorem zst_0 {F : Int → Prop} : xm_O (xm_at xm_st0 0) F = F (-1) := rfl
set_option maxRecDepth 20000 in
theorem zst_1 {F : Int → Prop} : xm_O (xm_at xm_st0 1) F = F (0) := rfl
set_option maxRecDepth 20000 in
theorem zst_2 {F : Int → Prop} : xm_O (xm_at xm_st0 2) F = F (0) := rfl
set_option maxRecDepth 20000 in
theorem zst_3 {F : Int → Prop} : xm_O (xm_at xm_st0 3) F = F (0) := rfl
set_option maxRecDepth 20000 in
theorem zst_4 {F : Int → Prop} : xm_O (xm_at xm_st0 4) F = F (1) := rfl
set_option maxRecDepth 20000 in
theorem zst_5 {F : Int → Prop} : xm_O (xm_at xm_st0 5) F = F (2) := rfl
set_option maxRecDepth 20000 in
theorem zst_6 {F : Int → Prop} : xm_O (xm_at xm_st0 6) F = F (0) := rfl
set_option maxRecDepth 20000 in
theorem l_148_0 {sc : List Int} {d : Nat} {t : xm_W} {m : Nat → Nat → Int} {Q : Option xm_V × xm_W → Prop} {a b i : Int} (ht : t.length < 900000) (hb : 0 ≤ b) (h0 : 0 ≤ i) (h1 : i < 6) (hQ : Q ((some (.inl (if b = 0 then 1 else 0)), (yy_W (m) t)))) : xm_EQ (xm_old sc) xm_sta (xm_X (xm_old sc) xm_mt (d)) xm_c148 4 [some (.inl (a)), some (.inl (b)), some (.inl ((0 : Int))), some (.inl (i))] [] (yy_W (m) t) Q := by
  refine xb_148_4 ?_
  rw [if_pos (by omega), if_neg (by decide)]
  by_cases e : 0 = b
  · rw [if_pos e]; rw [if_pos e.symm] at hQ; exact hQ
  · rw [if_neg e, zz_st ht]; rw [if_neg (by omega)] at hQ
    rw [zst_0, xm_w_id (by omega) (by omega)]
    refine xb_148_4 ?_
    rw [if_pos (by omega), if_pos (by decide)]; exact hQ
set_option maxRecDepth 20000 in
theorem l_148_1 {sc : List Int} {d : Nat} {t : xm_W} {m : Nat → Nat → Int} {Q : Option xm_V × xm_W → Prop} {a b i x : Int} (ht : t.length < 900000) (hb : 0 ≤ b) (h0 : 0 ≤ i) (h1 : i < 5) (hx : x = 1 ∨ x = 2 ∨ x = 3 ∨ x = 6) (hQ : Q ((some (.inl (if b = 0 ∨ x = b then 1 else 0)), (yy_W (m) t)))) : xm_EQ (xm_old sc) xm_sta (xm_X (xm_old sc) xm_mt (d)) xm_c148 4 [some (.inl (a)), some (.inl (b)), some (.inl (x)), some (.inl (i))] [] (yy_W (m) t) Q := by
  refine xb_148_4 ?_
  rw [if_pos (by omega), if_neg (by omega)]
  by_cases e : x = b
  · rw [if_pos e]; rw [if_pos (Or.inr e)] at hQ; exact hQ
  · rw [if_neg e, zz_st ht]
    have s : xm_EQ (xm_old sc) xm_sta (xm_X (xm_old sc) xm_mt (d)) xm_c148 4 [some (.inl (a)), some (.inl (b)), some (.inl ((0 : Int))), some (.inl (xm_w (i + 1)))] [] (yy_W (m) t) Q := by
      rw [xm_w_id (by omega) (by omega)]
      refine l_148_0 ht hb (by omega) (by omega) ?_
      by_cases b0 : b = 0
      · rw [if_pos b0]; rw [if_pos (Or.inl b0)] at hQ; exact hQ
      · rw [if_neg b0]; rw [if_neg (by omega)] at hQ; exact hQ
    rcases hx with h | h | h | h <;> subst h
    · rw [zst_1]; exact s
    · rw [zst_2]; exact s
    · rw [zst_3]; exact s
    · rw [zst_6]; exact s
set_option maxRecDepth 20000 in
theorem c_148 {sc : List Int} {d : Nat} {t : xm_W} {m : Nat → Nat → Int} {a b : Int} (ht : t.length < 900000) (ha : 0 ≤ a ∧ a ≤ 6) (hb : 0 ≤ b ∧ b ≤ 6) : xm_X (xm_old sc) xm_mt (d + 1) 148 [.inl (a), .inl (b)] (yy_W (m) t) = some (some (.inl (sp_under a b)), (yy_W (m) t)) := by
  refine xm_X_of (M := xm_m148) rfl ⟨xm_EQ.eq (xb_148_0 ?_), ?_, rfl, Nat.le_of_ble_eq_true rfl, xw_hd0⟩
  · unfold sp_under
    rcases (show a = 0 ∨ (a = 1 ∨ a = 2 ∨ a = 3 ∨ a = 6) ∨ a = 4 ∨ a = 5 by omega) with h | h | h | h
    · subst h
      refine l_148_0 ht hb.1 (by decide) (by decide) ?_
      by_cases b0 : b = 0
      · rw [if_pos b0, if_pos (Or.inl b0)]
      · rw [if_neg b0, if_neg (by omega)]
    · refine l_148_1 ht hb.1 (by decide) (by decide) h ?_
      by_cases b0 : b = 0 ∨ a = b
      · rw [if_pos b0, if_pos (by omega)]
      · rw [if_neg b0, if_neg (by omega)]
    · subst h
      refine xb_148_4 ?_
      rw [if_pos (by decide), if_neg (by decide)]
      by_cases e : 4 = b
      · rw [if_pos e, if_pos (by omega)]
      · rw [if_neg e, zz_st ht, zst_4, show xm_w ((0 : Int) + 1) = 1 from rfl]
        refine l_148_1 (x := 1) (i := 1) ht hb.1 (by decide) (by decide) (by decide) ?_
        by_cases b0 : b = 0 ∨ 1 = b
        · rw [if_pos b0, if_pos (by omega)]
        · rw [if_neg b0, if_neg (by omega)]
    · subst h
      refine xb_148_4 ?_
      rw [if_pos (by decide), if_neg (by decide)]
      by_cases e : 5 = b
      · rw [if_pos e, if_pos (by omega)]
      · rw [if_neg e, zz_st ht, zst_5, show xm_w ((0 : Int) + 1) = 1 from rfl]
        refine l_148_1 (x := 2) (i := 1) ht hb.1 (by decide) (by decide) (by decide) ?_
        by_cases b0 : b = 0 ∨ 2 = b
        · rw [if_pos b0, if_pos (by omega)]
        · rw [if_neg b0, if_neg (by omega)]
  · show (_ == _ || _ == _) = true
    unfold sp_under
    split <;> rfl
set_option maxRecDepth 20000 in
theorem oc_148 {F : Int → xm_W → Prop} {sc : List Int} {d : Nat} {t : xm_W} {m : Nat → Nat → Int} {a b : Int} (ht : t.length < 900000) (ha : 0 ≤ a ∧ a ≤ 6) (hb : 0 ≤ b ∧ b ≤ 6) : xm_Oi (xm_X (xm_old sc) xm_mt (d + 1) 148 [.inl (a), .inl (b)] (yy_W (m) t)) F = F (sp_under a b) (yy_W (m) t) := congrArg (fun x => xm_Oi x F) (c_148 ht ha hb)
