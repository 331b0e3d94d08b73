/-! AS: what lies above a kind -/
set_option maxRecDepth 20000 in
theorem zz_st {sc : List Int} {t : xm_W} {m : Nat → Nat → Int} {F : List Int → Prop} (ht : t.length < 900000) : xm_O (xm_ints (xm_old sc) (yy_W m t) 1000000) F = F xm_st0 := by
  rw [xo_above (by rw [yy_W_len]; omega)]; rfl
set_option maxRecDepth 20000 in
theorem zst_0 {F : Int → Prop} : xm_O (xm_at xm_st0 0) F = F (-1) := rfl
set_option maxRecDepth 20000 in
theorem zst_1 {F : Int → Prop} : xm_O (xm_at xm_st0 1) F = F (0) := rfl
set_option maxRecDepth 20000 in
theorem zst_2 {F : Int → Prop} : xm_O (xm_at xm_st0 2) F = F (0) := rfl
set_option maxRecDepth 20000 in
theorem zst_3 {F : Int → Prop} : xm_O (xm_at xm_st0 3) F = F (0) := rfl
set_option maxRecDepth 20000 in
theorem zst_4 {F : Int → Prop} : xm_O (xm_at xm_st0 4) F = F (1) := rfl
set_option maxRecDepth 20000 in
theorem zst_5 {F : Int → Prop} : xm_O (xm_at xm_st0 5) F = F (2) := rfl
set_option maxRecDepth 20000 in
theorem zst_6 {F : Int → Prop} : xm_O (xm_at xm_st0 6) F = F (0) := rfl
set_option maxRecDepth 20000 in
theorem l_148_0 {sc : List Int} {d : Nat} {t : xm_W} {m : Nat → Nat → Int} {Q : Option xm_V × xm_W → Prop} {a b i : Int} (ht : t.length < 900000) (hb : 0 ≤ b) (h0 : 0 ≤ i) (h1 : i < 6) (hQ : Q ((some (.inl (if b = 0 then 1 else 0)), (yy_W (m) t)))) : xm_EQ (xm_old sc) xm_sta (xm_X (xm_old sc) xm_mt (d)) xm_c148 4 [some (.inl (a)), some (.inl (b)), some (.inl ((0 : Int))), some (.inl (i))] [] (yy_W (m) t) Q := by
  refine xb_148_4 ?_
  rw [if_pos (by omega), if_neg (by decide)]
  by_cases e : 0 = b
  · rw [if_pos e]; rw [if_pos e.symm] at hQ; exact hQ
  · rw [if_neg e, zz_st ht]; rw [if_neg (by omega)] at hQ
    rw [zst_0, xm_w_id (by omega) (by omega)]
    refine xb_148_4 ?_
    rw [if_pos (by omega), if_pos (by decide)]; exact hQ
set_option maxRecDepth 20000 in
theorem l_148_1 {sc : List Int} {d : Nat} {t : xm_W} {m : Nat → Nat → Int} {Q : Option xm_V × xm_W → Prop} {a b i x : Int} (ht : t.length < 900000) (hb : 0 ≤ b) (h0 : 0 ≤ i) (h1 : i < 5) (hx : x = 1 ∨ x = 2 ∨ x = 3 ∨ x = 6) (hQ : Q ((some (.inl (if b = 0 ∨ x = b then 1 else 0)), (yy_W (m) t)))) : xm_EQ (xm_old sc) xm_sta (xm_X (xm_old sc) xm_mt (d)) xm_c148 4 [some (.inl (a)), some (.inl (b)), some (.inl (x)), some (.inl (i))] [] (yy_W (m) t) Q := by
  refine xb_148_4 ?_
  rw [if_pos (by omega), if_neg (by omega)]
  by_cases e : x = b
  · rw [if_pos e]; rw [if_pos (Or.inr e)] at hQ; exact hQ
  · rw [if_neg e, zz_st ht]
    have s : xm_EQ (xm_old sc) xm_sta (xm_X (xm_old sc) xm_mt (d)) xm_c148 4 [some (.inl (a)), some (.inl (b)), some (.inl ((0 : Int))), some (.inl (xm_w (i + 1)))] [] (yy_W (m) t) Q := by
      rw [xm_w_id (by omega) (by omega)]
      refine l_148_0 ht hb (by omega) (by omega) ?_
      by_cases b0 : b = 0
      · rw [if_pos b0]; rw [if_pos (Or.inl b0)] at hQ; exact hQ
      · rw [if_neg b0]; rw [if_neg (by omega)] at hQ; exact hQ
    rcases hx with h | h | h | h <;> subst h
    · rw [zst_1]; exact s
    · rw [zst_2]; exact s
    · rw [zst_3]; exact s
    · rw [zst_6]; exact s
set_option maxRecDepth 20000 in
theorem c_148 {sc : List Int} {d : Nat} {t : xm_W} {m : Nat → Nat → Int} {a b : Int} (ht : t.length < 900000) (ha : 0 ≤ a ∧ a ≤ 6) (hb : 0 ≤ b ∧ b ≤ 6) : xm_X (xm_old sc) xm_mt (d + 1) 148 [.inl (a), .inl (b)] (yy_W (m) t) = some (some (.inl (sp_under a b)), (yy_W (m) t)) := by
  refine xm_X_of (M := xm_m148) rfl ⟨xm_EQ.eq (xb_148_0 ?_), ?_, rfl, Nat.le_of_ble_eq_true rfl, xw_hd0⟩
  · unfold sp_under
    rcases (show a = 0 ∨ (a = 1 ∨ a = 2 ∨ a = 3 ∨ a = 6) ∨ a = 4 ∨ a = 5 by omega) with h | h | h | h
    · subst h
      refine l_148_0 ht hb.1 (by decide) (by decide) ?_
      by_cases b0 : b = 0
      · rw [if_pos b0, if_pos (Or.inl b0)]
      · rw [if_neg b0, if_neg (by omega)]
    · refine l_148_1 ht hb.1 (by decide) (by decide) h ?_
      by_cases b0 : b = 0 ∨ a = b
      · rw [if_pos b0, if_pos (by omega)]
      · rw [if_neg b0, if_neg (by omega)]
    · subst h
      refine xb_148_4 ?_
      rw [if_pos (by decide), if_neg (by decide)]
      by_cases e : 4 = b
      · rw [if_pos e, if_pos (by omega)]
      · rw [if_neg e, zz_st ht, zst_4, show xm_w ((0 : Int) + 1) = 1 from rfl]
        refine l_148_1 (x := 1) (i := 1) ht hb.1 (by decide) (by decide) (by decide) ?_
        by_cases b0 : b = 0 ∨ 1 = b
        · rw [if_pos b0, if_pos (by omega)]
        · rw [if_neg b0, if_neg (by omega)]
    · subst h
      refine xb_148_4 ?_
      rw [if_pos (by decide), if_neg (by decide)]
      by_cases e : 5 = b
      · rw [if_pos e, if_pos (by omega)]
      · rw [if_neg e, zz_st ht, zst_5, show xm_w ((0 : Int) + 1) = 1 from rfl]
        refine l_148_1 (x := 2) (i := 1) ht hb.1 (by decide) (by decide) (by decide) ?_
        by_cases b0 : b = 0 ∨ 2 = b
        · rw [if_pos b0, if_pos (by omega)]
        · rw [if_neg b0, if_neg (by omega)]
  · show (_ == _ || _ == _) = true
    unfold sp_under
    split <;> rfl
set_option maxRecDepth 20000 in
theorem oc_148 {F : Int → xm_W → Prop} {sc : List Int} {d : Nat} {t : xm_W} {m : Nat → Nat → Int} {a b : Int} (ht : t.length < 900000) (ha : 0 ≤ a ∧ a ≤ 6) (hb : 0 ≤ b ∧ b ≤ 6) : xm_Oi (xm_X (xm_old sc) xm_mt (d + 1) 148 [.inl (a), .inl (b)] (yy_W (m) t)) F = F (sp_under a b) (yy_W (m) t) := congrArg (fun x => xm_Oi x F) (c_148 ht ha hb)
set_option maxRecDepth 20000 in
theorem a_106 {sc : List Int} {t : xm_W} {m : Nat → Nat → Int} {x1 x2 : Int} (hI : yy_I t m) (ht : t.length < 900000) : yy_A sc t m 106 1147 [.inl x1, .inl x2] true := by
  by_cases h : (0 ≤ x1 ∧ x1 ≤ m 1 4 - 1) ∧ (0 ≤ x2 ∧ x2 ≤ 6)
  · obtain ⟨⟨e0, e3, e1, e2⟩, hR⟩ := yy_I_0 hI
    obtain ⟨a0, a1, a2, a3, a4, a5⟩ := id hR
    obtain ⟨r, rfl⟩ : ∃ r : Nat, x1 = r := ⟨x1.toNat, by omega⟩
    have hr5 : r < 5 := by omega
    obtain ⟨b0, b1, b2, b3, b4, b5, b6⟩ := a5 r hr5
    have g7 := hI.2.1.1.2.2.2.2.2.2
    have hq := yy_rdn8 hr5
    have er : ((r : Int)).toNat = r := Int.toNat_natCast r
    have f0 : m (8 + 2 * r) 0 = m 75 (44 + 18 * r) := (g7 r hr5).1 0 (by decide)
    have f3 : m (8 + 2 * r) 3 = m 75 (47 + 18 * r) := by rw [(g7 r hr5).1 3 (by decide)]; congr 1; omega
    by_cases g : sp_under (m 75 (44 + 18 * r)) x2 = 0
    · have X1 : xm_X (xm_old sc) xm_mt (99 + 1) 106 [.inr (.inl (some 0)), .inl (r : Int), .inl x2] (yy_W m t) = some (some (.inl (-1000000005)), yy_W (yy_e m 5) t) := by
        refine xm_X_of (M := xm_m106) rfl ⟨xm_EQ.eq (xb_106_0 ?_), rfl, rfl, Nat.le_of_ble_eq_true rfl, yy_hd rfl (by decide)⟩
        rw [oc_141 (d := 97) (by omega) (by omega), zz_t h.1, oc_142 (d := 98), zz_t h.2, zr_0_0, zr_1_3, zq_3, zq_r1 (by omega) (by omega), er, xm_O_some, gf_0 hq, f0, oc_148 (d := 98) ht b0 h.2, if_pos g, oc_139 (d := 98) (by decide) (by decide)]
        rfl
      have f : yy_e m 5 75 = m 75 := yy_e75 (by decide)
      have X2 : xm_X (xm_old sc) xm_mt (99 + 1) 1147 [.inr (.inl (some 74)), .inl (r : Int), .inl x2] (yy_W (yy_e m 5) t) = some (some (.inl (-1000000005)), yy_W (yy_f (yy_e m 5) 5) t) := by
        refine xm_X_of (M := xm_m1147) rfl ⟨xm_EQ.eq (xb_1147_0 ?_), rfl, rfl, Nat.le_of_ble_eq_true rfl, yy_hd rfl (by decide)⟩
        rw [oc_1109 (d := 97) (by rw [f]; omega) (by rw [f]; omega), zz_t (by rw [f]; omega), oc_1103 (d := 98), zz_t h.2]
        rw [oc_1110 (d := 98) (by omega) (by omega) (by omega) (by omega), f, show (44 + 18 * (r : Int) + 0).toNat = 44 + 18 * r by omega, oc_1146 (d := 98), if_pos g, oc_1102 (d := 98) (by decide) (by decide)]
        rfl
      exact yy_Ao X1 X2 (yy_I_ef hI) yy_ef0 rfl
    · have X1 : xm_X (xm_old sc) xm_mt (99 + 1) 106 [.inr (.inl (some 0)), .inl (r : Int), .inl x2] (yy_W m t) = some (some (.inl (m 75 (47 + 18 * r))), yy_W m t) := by
        refine xm_X_of (M := xm_m106) rfl ⟨xm_EQ.eq (xb_106_0 ?_), rfl, rfl, Nat.le_of_ble_eq_true rfl, yy_hd rfl (by decide)⟩
        rw [oc_141 (d := 97) (by omega) (by omega), zz_t h.1, oc_142 (d := 98), zz_t h.2, zr_0_0, zr_1_3, zq_3, zq_r1 (by omega) (by omega), er, xm_O_some, gf_0 hq, f0, oc_148 (d := 98) ht b0 h.2, if_neg g]
        simp (disch := first | omega | (unfold xm_w; omega)) only [↓zy_at, xm_O_some, xm_Oi_some, xm_Ov_some, xm_Oq_some, ↓reduceIte, ↓zz_t, ↓zz_f, ↓zi_t, ↓zi_f, eq_self, yy_d_0, Int.reduceEq, Int.reduceLT, Int.reduceLE, Int.reduceNe, Int.reduceToNat, Int.reduceAdd, Int.reduceSub, Int.reduceMul, Int.reduceNeg, Nat.reduceAdd, Nat.reduceMul, Nat.reduceSub, Nat.reduceEqDiff, Nat.reduceLT, ne_eq, not_false_eq_true, not_true_eq_false, true_and, and_true, and_self, yy_s_eq, yy_s_ne, yy_c_eq, yy_c_ne, yy_u_eq, yy_u_ne, xm_w_id, yy_at, tdiv_pos, tmod_pos, ↓zr_0_0, ↓zr_0_1, ↓zr_0_2, ↓zr_0_3, ↓zr_0_4, ↓zf_0_5, ↓zs_0_5, ↓zr_0_6, ↓zr_0_7, ↓zr_0_8, ↓zr_0_9, ↓zr_0_10, ↓zr_1_0, ↓zf_1_1, ↓zs_1_1, ↓zf_1_2, ↓zs_1_2, ↓zr_1_3, ↓zf_1_4, ↓zs_1_4, ↓zr_1_5, ↓zf_1_6, ↓zs_1_6, ↓zr_1_7, ↓zr_1_8, ↓zr_1_9, ↓zq_3, ↓zq_r1, er, ↓gf_3 hq, f3]
      have X2 : xm_X (xm_old sc) xm_mt (99 + 1) 1147 [.inr (.inl (some 74)), .inl (r : Int), .inl x2] (yy_W m t) = some (some (.inl (m 75 (47 + 18 * r))), yy_W m t) := by
        refine xm_X_of (M := xm_m1147) rfl ⟨xm_EQ.eq (xb_1147_0 ?_), rfl, rfl, Nat.le_of_ble_eq_true rfl, yy_hd rfl (by decide)⟩
        rw [oc_1109 (d := 97) (by omega) (by omega), zz_t (by omega), oc_1103 (d := 98), zz_t h.2]
        rw [oc_1110 (d := 98) (by omega) (by omega) (by omega) (by omega), show (44 + 18 * (r : Int) + 0).toNat = 44 + 18 * r by omega, oc_1146 (d := 98), if_neg g, oc_1110 (d := 98) (by omega) (by omega) (by omega) (by omega), show (44 + 18 * (r : Int) + 3).toNat = 47 + 18 * r by omega]
      exact yy_Ao X1 X2 hI rfl rfl
  · exact r_106 hI h
