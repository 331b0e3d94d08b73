/-! MOVE: both sides -/
set_option maxRecDepth 20000 in
theorem c_705 {sc : List Int} {d : Nat} {t : xm_W} {m : Nat → Nat → Int} {r : Nat} {a n : Int} (hr : yy_sh r) (h : 0 ≤ m r 1 ∧ m r 1 ≤ 24) : xm_X (xm_old sc) xm_mt (d + 1) 705 [.inr (.inl (some r)), .inl (a), .inl (n)] (yy_W (m) t) = some (some (.inl (if 0 ≤ a ∧ 0 ≤ n ∧ a + n ≤ m r 1 then 1 else 0)), (yy_W (m) t)) := by
  refine xm_X_of (M := xm_m705) rfl ⟨xm_EQ.eq (xb_705_0 ?_), ?_, rfl, Nat.le_of_ble_eq_true rfl, yy_hds hr⟩
  · by_cases g1 : a < 0
    · rw [if_pos g1, if_neg (by omega)]
    · rw [if_neg g1]
      by_cases g2 : n < 0
      · rw [if_pos g2, if_neg (by omega)]
      · rw [if_neg g2, hf_1 hr]
        by_cases g3 : m r 1 < a
        · rw [if_pos g3, if_neg (by omega)]
        · rw [if_neg g3, hf_1 hr, xm_w_id (by omega) (by omega)]
          by_cases g4 : m r 1 - a < n
          · rw [if_pos g4, if_neg (by omega)]
          · rw [if_neg g4, if_pos (by omega)]
  · show (_ == _ || _ == _) = true
    split <;> rfl
set_option maxRecDepth 20000 in
theorem oc_705 {F : Int → xm_W → Prop} {sc : List Int} {d : Nat} {t : xm_W} {m : Nat → Nat → Int} {r : Nat} {a n : Int} (hr : yy_sh r) (h : 0 ≤ m r 1 ∧ m r 1 ≤ 24) : xm_Oi (xm_X (xm_old sc) xm_mt (d + 1) 705 [.inr (.inl (some r)), .inl (a), .inl (n)] (yy_W (m) t)) F = F (if 0 ≤ a ∧ 0 ≤ n ∧ a + n ≤ m r 1 then 1 else 0) (yy_W (m) t) := congrArg (fun x => xm_Oi x F) (c_705 hr h)
set_option maxRecDepth 20000 in
theorem zc_sh {m : Nat → Nat → Int} {t : xm_W} {K : xm_W → Prop} {r r' : Nat} {a b n : Int} (hr : yy_sh r) (hr' : yy_sh r') (h0 : 0 ≤ a) (h1 : 0 ≤ b) (h2 : 0 ≤ n) (h3 : a + n ≤ 24) (h4 : b + n ≤ 24) : xm_O (xm_copy (yy_W m t) (r + 1) a (r' + 1) b n) K = K (yy_W (yy_c m (r' + 1) (yy_cp (m (r + 1)) (m (r' + 1)) a.toNat b.toNat n.toNat)) t) := congrArg (fun x => xm_O x K) (yy_copy hr.2 hr'.2 h0 h1 h2 h3 h4)
set_option maxRecDepth 20000 in
theorem l_1199a {sc : List Int} {d : Nat} {t : xm_W} {Q : Option xm_V × xm_W → Prop} {i a j b n : Nat} (hi : i < 4) (ha : a + n ≤ 24) : ∀ (k : Nat) (m : Nat → Nat → Int) (p : Nat), p + k = n → (∀ m', (∀ c, c ≠ 86 → m' c = m c) ∧ (∀ q : Nat, m' 86 q = if p ≤ q ∧ q < n then m 85 (24 * i + a + q) else m 86 q) → xm_EQ (xm_old sc) xm_sta (xm_X (xm_old sc) xm_mt (d)) xm_c1199 86 [some (.inr (.inl (some 74))), some (.inl ((i : Int))), some (.inl ((a : Int))), some (.inl ((j : Int))), some (.inl ((b : Int))), some (.inl ((n : Int))), some (.inl ((0 : Int)))] [] (yy_W (m') t) Q) → xm_EQ (xm_old sc) xm_sta (xm_X (xm_old sc) xm_mt (d)) xm_c1199 65 [some (.inr (.inl (some 74))), some (.inl ((i : Int))), some (.inl ((a : Int))), some (.inl ((j : Int))), some (.inl ((b : Int))), some (.inl ((n : Int))), some (.inl ((p : Int)))] [] (yy_W (m) t) Q
  | 0, m, p, hk, hQ => by
    refine xb_1199_65 ?_
    rw [if_neg (by omega)]
    exact hQ m ⟨fun c _ => rfl, fun q => by rw [if_neg (by omega)]⟩
  | k + 1, m, p, hk, hQ => by
    refine xb_1199_65 ?_
    rw [if_pos (by omega)]
    simp (disch := first | omega | (unfold xm_w; omega)) only [↓zy_at, xm_O_some, xm_Oi_some, xm_Ov_some, xm_Oq_some, ↓reduceIte, ↓zz_t, ↓zz_f, ↓zi_t, ↓zi_f, eq_self, yy_d_0, Int.reduceEq, Int.reduceLT, Int.reduceLE, Int.reduceNe, Int.reduceToNat, Int.reduceAdd, Int.reduceSub, Int.reduceMul, Int.reduceNeg, Nat.reduceAdd, Nat.reduceMul, Nat.reduceSub, Nat.reduceEqDiff, Nat.reduceLT, ne_eq, not_false_eq_true, not_true_eq_false, true_and, and_true, and_self, yy_s_eq, yy_s_ne, yy_c_eq, yy_c_ne, yy_u_eq, yy_u_ne, xm_w_id, yy_at, tdiv_pos, tmod_pos, ↓zr_74_0, ↓zr_74_1, ↓zr_74_2, ↓zf_74_3, ↓zs_74_3, ↓zf_74_4, ↓zs_74_4, ↓zr_74_5, ↓zf_74_6, ↓zs_74_6, ↓zf_74_7, ↓zs_74_7, ↓zf_74_8, ↓zs_74_8, ↓zf_74_9, ↓zs_74_9, ↓zr_74_10, ↓zr_74_11, ↓zr_74_12, ↓zf_74_13, ↓zs_74_13, ↓zr_74_14, ↓zf_74_15, ↓zs_74_15, ↓zf_74_16, ↓zs_74_16, ↓zf_74_17, ↓zs_74_17, ↓zr_74_18, ↓zr_74_19, ↓zr_74_20, ↓zr_74_21, ↓zi_85, ↓zt_85, ↓zi_86, ↓zt_86]
    rw [show (p : Int) + 1 = ((p + 1 : Nat) : Int) from rfl]
    refine l_1199a hi ha k _ (p + 1) (by omega) (fun m' ⟨h1, h2⟩ => hQ m' ⟨fun c hc => ?_, fun q => ?_⟩)
    · rw [h1 c hc, yy_s_ne hc]
    · rw [h2 q]
      by_cases e : q = p
      · subst e
        rw [if_neg (by omega), if_pos (by omega), Int.toNat_natCast, yy_s_eq, yy_u_eq]
        congr 1 <;> omega
      · rw [Int.toNat_natCast, yy_s_eq, yy_u_ne e, yy_s_ne (by decide)]
        by_cases e2 : p ≤ q ∧ q < n
        · rw [if_pos (by omega), if_pos e2]
        · rw [if_neg (by omega), if_neg e2]
set_option maxRecDepth 20000 in
theorem l_1199b {sc : List Int} {d : Nat} {t : xm_W} {Q : Option xm_V × xm_W → Prop} {i a j b n : Nat} (hj : j < 4) (hb : b + n ≤ 24) : ∀ (k : Nat) (m : Nat → Nat → Int) (p : Nat), p + k = n → (∀ m', (∀ c, c ≠ 85 → m' c = m c) ∧ (∀ q : Nat, m' 85 q = if 24 * j + b + p ≤ q ∧ q < 24 * j + b + n then m 86 (q - (24 * j + b)) else m 85 q) → Q ((some (.inl ((n : Int))), (yy_W (m') t)))) → xm_EQ (xm_old sc) xm_sta (xm_X (xm_old sc) xm_mt (d)) xm_c1199 86 [some (.inr (.inl (some 74))), some (.inl ((i : Int))), some (.inl ((a : Int))), some (.inl ((j : Int))), some (.inl ((b : Int))), some (.inl ((n : Int))), some (.inl ((p : Int)))] [] (yy_W (m) t) Q
  | 0, m, p, hk, hQ => by
    refine xb_1199_86 ?_
    rw [if_neg (by omega)]
    exact hQ m ⟨fun c _ => rfl, fun q => by rw [if_neg (by omega)]⟩
  | k + 1, m, p, hk, hQ => by
    refine xb_1199_86 ?_
    rw [if_pos (by omega)]
    simp (disch := first | omega | (unfold xm_w; omega)) only [↓zy_at, xm_O_some, xm_Oi_some, xm_Ov_some, xm_Oq_some, ↓reduceIte, ↓zz_t, ↓zz_f, ↓zi_t, ↓zi_f, eq_self, yy_d_0, Int.reduceEq, Int.reduceLT, Int.reduceLE, Int.reduceNe, Int.reduceToNat, Int.reduceAdd, Int.reduceSub, Int.reduceMul, Int.reduceNeg, Nat.reduceAdd, Nat.reduceMul, Nat.reduceSub, Nat.reduceEqDiff, Nat.reduceLT, ne_eq, not_false_eq_true, not_true_eq_false, true_and, and_true, and_self, yy_s_eq, yy_s_ne, yy_c_eq, yy_c_ne, yy_u_eq, yy_u_ne, xm_w_id, yy_at, tdiv_pos, tmod_pos, ↓zr_74_0, ↓zr_74_1, ↓zr_74_2, ↓zf_74_3, ↓zs_74_3, ↓zf_74_4, ↓zs_74_4, ↓zr_74_5, ↓zf_74_6, ↓zs_74_6, ↓zf_74_7, ↓zs_74_7, ↓zf_74_8, ↓zs_74_8, ↓zf_74_9, ↓zs_74_9, ↓zr_74_10, ↓zr_74_11, ↓zr_74_12, ↓zf_74_13, ↓zs_74_13, ↓zr_74_14, ↓zf_74_15, ↓zs_74_15, ↓zf_74_16, ↓zs_74_16, ↓zf_74_17, ↓zs_74_17, ↓zr_74_18, ↓zr_74_19, ↓zr_74_20, ↓zr_74_21, ↓zi_85, ↓zt_85, ↓zi_86, ↓zt_86]
    rw [show (p : Int) + 1 = ((p + 1 : Nat) : Int) from rfl]
    refine l_1199b hj hb k _ (p + 1) (by omega) (fun m' ⟨h1, h2⟩ => hQ m' ⟨fun c hc => ?_, fun q => ?_⟩)
    · rw [h1 c hc, yy_s_ne hc]
    · rw [h2 q]
      by_cases e : q = 24 * j + b + p
      · subst e
        rw [if_neg (by omega), if_pos (by omega), yy_s_eq, show (24 * (j : Int) + b + p).toNat = 24 * j + b + p by omega, yy_u_eq]
        congr 1 <;> omega
      · rw [yy_s_eq, yy_u_ne (by omega), yy_s_ne (by decide)]
        by_cases e2 : 24 * j + b + p ≤ q ∧ q < 24 * j + b + n
        · rw [if_pos (by omega), if_pos e2]
        · rw [if_neg (by omega), if_neg e2]
set_option maxRecDepth 20000 in
theorem a_130 {sc : List Int} {t : xm_W} {m : Nat → Nat → Int} {x1 x2 x3 x4 x5 : Int} (hI : yy_I t m) (hv : x5 < 2147483648) : yy_A sc t m 130 1199 [.inl x1, .inl x2, .inl x3, .inl x4, .inl x5] true := by
  by_cases h : (0 ≤ x1 ∧ x1 ≤ 3) ∧ (0 ≤ x3 ∧ x3 ≤ 3)
  · obtain ⟨i, rfl⟩ : ∃ i : Nat, x1 = i := ⟨x1.toNat, by omega⟩
    obtain ⟨j, rfl⟩ : ∃ j : Nat, x3 = j := ⟨x3.toNat, by omega⟩
    have hS := hI.2.2.2.2.1
    obtain ⟨s1, s2, s3, s4, s5⟩ := hS i (by omega)
    obtain ⟨u1, u2, u3, u4, u5⟩ := hS j (by omega)
    have hr : yy_sh (66 + 2 * i) := by have := yy_sh66 (i := (i : Int)) (by omega) (by omega); rwa [Int.toNat_natCast] at this
    have hq : yy_sh (66 + 2 * j) := by have := yy_sh66 (i := (j : Int)) (by omega) (by omega); rwa [Int.toNat_natCast] at this
    have ei : ((i : Int)).toNat = i := Int.toNat_natCast i
    have ej : ((j : Int)).toNat = j := Int.toNat_natCast j
    have o : ∀ e c, c ≠ 65 → yy_e m e c = m c := fun e c hc => yy_e75 hc
    by_cases b0 : m 83 i = 0
    · have X1 : xm_X (xm_old sc) xm_mt (99 + 1) 130 [.inr (.inl (some 0)), .inl (i : Int), .inl x2, .inl (j : Int), .inl x4, .inl x5] (yy_W m t) = some (some (.inl (-1000000002)), yy_W (yy_e m 2) t) := by
        refine xm_X_of (M := xm_m130) rfl ⟨xm_EQ.eq (xb_130_0 ?_), rfl, rfl, Nat.le_of_ble_eq_true rfl, yy_hd rfl (by decide)⟩
        simp (disch := first | omega | (unfold xm_w; omega)) only [↓zy_at, xm_O_some, xm_Oi_some, xm_Ov_some, xm_Oq_some, ↓reduceIte, ↓zz_t, ↓zz_f, ↓zi_t, ↓zi_f, eq_self, yy_d_0, Int.reduceEq, Int.reduceLT, Int.reduceLE, Int.reduceNe, Int.reduceToNat, Int.reduceAdd, Int.reduceSub, Int.reduceMul, Int.reduceNeg, Nat.reduceAdd, Nat.reduceMul, Nat.reduceSub, Nat.reduceEqDiff, Nat.reduceLT, ne_eq, not_false_eq_true, not_true_eq_false, true_and, and_true, and_self, yy_s_eq, yy_s_ne, yy_c_eq, yy_c_ne, yy_u_eq, yy_u_ne, xm_w_id, yy_at, tdiv_pos, tmod_pos, ↓oc_147, ↓zr_0_0, ↓zr_0_1, ↓zr_0_2, ↓zr_0_3, ↓zr_0_4, ↓zf_0_5, ↓zs_0_5, ↓zr_0_6, ↓zr_0_7, ↓zr_0_8, ↓zr_0_9, ↓zr_0_10, ↓zq_64, ↓zq_sh, ei, ej, ↓oc_702 hr, s1, b0, ↓oc_139]
      have X2 : xm_X (xm_old sc) xm_mt (99 + 1) 1199 [.inr (.inl (some 74)), .inl (i : Int), .inl x2, .inl (j : Int), .inl x4, .inl x5] (yy_W (yy_e m 2) t) = some (some (.inl (-1000000002)), yy_W (yy_f (yy_e m 2) 2) t) := by
        refine xm_X_of (M := xm_m1199) rfl ⟨xm_EQ.eq (xb_1199_0 ?_), rfl, rfl, Nat.le_of_ble_eq_true rfl, yy_hd rfl (by decide)⟩
        simp (disch := first | omega | (unfold xm_w; omega)) only [↓zy_at, xm_O_some, xm_Oi_some, xm_Ov_some, xm_Oq_some, ↓reduceIte, ↓zz_t, ↓zz_f, ↓zi_t, ↓zi_f, eq_self, yy_d_0, Int.reduceEq, Int.reduceLT, Int.reduceLE, Int.reduceNe, Int.reduceToNat, Int.reduceAdd, Int.reduceSub, Int.reduceMul, Int.reduceNeg, Nat.reduceAdd, Nat.reduceMul, Nat.reduceSub, Nat.reduceEqDiff, Nat.reduceLT, ne_eq, not_false_eq_true, not_true_eq_false, true_and, and_true, and_self, yy_s_eq, yy_s_ne, yy_c_eq, yy_c_ne, yy_u_eq, yy_u_ne, xm_w_id, yy_at, tdiv_pos, tmod_pos, ↓oc_1196, ↓zr_74_0, ↓zr_74_1, ↓zr_74_2, ↓zf_74_3, ↓zs_74_3, ↓zf_74_4, ↓zs_74_4, ↓zr_74_5, ↓zf_74_6, ↓zs_74_6, ↓zf_74_7, ↓zs_74_7, ↓zf_74_8, ↓zs_74_8, ↓zf_74_9, ↓zs_74_9, ↓zr_74_10, ↓zr_74_11, ↓zr_74_12, ↓zf_74_13, ↓zs_74_13, ↓zr_74_14, ↓zf_74_15, ↓zs_74_15, ↓zf_74_16, ↓zs_74_16, ↓zf_74_17, ↓zs_74_17, ↓zr_74_18, ↓zr_74_19, ↓zr_74_20, ↓zr_74_21, ↓zi_83, ↓zt_83, ↓zi_84, ↓zt_84, ei, ej, o, b0, ↓oc_1102]
      exact yy_Ao X1 X2 (yy_I_ef hI) yy_ef0 rfl
    · by_cases b1 : m 83 j = 0
      · have X1 : xm_X (xm_old sc) xm_mt (99 + 1) 130 [.inr (.inl (some 0)), .inl (i : Int), .inl x2, .inl (j : Int), .inl x4, .inl x5] (yy_W m t) = some (some (.inl (-1000000002)), yy_W (yy_e m 2) t) := by
          refine xm_X_of (M := xm_m130) rfl ⟨xm_EQ.eq (xb_130_0 ?_), rfl, rfl, Nat.le_of_ble_eq_true rfl, yy_hd rfl (by decide)⟩
          simp (disch := first | omega | (unfold xm_w; omega)) only [↓zy_at, xm_O_some, xm_Oi_some, xm_Ov_some, xm_Oq_some, ↓reduceIte, ↓zz_t, ↓zz_f, ↓zi_t, ↓zi_f, eq_self, yy_d_0, Int.reduceEq, Int.reduceLT, Int.reduceLE, Int.reduceNe, Int.reduceToNat, Int.reduceAdd, Int.reduceSub, Int.reduceMul, Int.reduceNeg, Nat.reduceAdd, Nat.reduceMul, Nat.reduceSub, Nat.reduceEqDiff, Nat.reduceLT, ne_eq, not_false_eq_true, not_true_eq_false, true_and, and_true, and_self, yy_s_eq, yy_s_ne, yy_c_eq, yy_c_ne, yy_u_eq, yy_u_ne, xm_w_id, yy_at, tdiv_pos, tmod_pos, ↓oc_147, ↓zr_0_0, ↓zr_0_1, ↓zr_0_2, ↓zr_0_3, ↓zr_0_4, ↓zf_0_5, ↓zs_0_5, ↓zr_0_6, ↓zr_0_7, ↓zr_0_8, ↓zr_0_9, ↓zr_0_10, ↓zq_64, ↓zq_sh, ei, ej, ↓oc_702 hr, s1, b0, ↓oc_702 hq, u1, b1, ↓oc_139]
        have X2 : xm_X (xm_old sc) xm_mt (99 + 1) 1199 [.inr (.inl (some 74)), .inl (i : Int), .inl x2, .inl (j : Int), .inl x4, .inl x5] (yy_W (yy_e m 2) t) = some (some (.inl (-1000000002)), yy_W (yy_f (yy_e m 2) 2) t) := by
          refine xm_X_of (M := xm_m1199) rfl ⟨xm_EQ.eq (xb_1199_0 ?_), rfl, rfl, Nat.le_of_ble_eq_true rfl, yy_hd rfl (by decide)⟩
          simp (disch := first | omega | (unfold xm_w; omega)) only [↓zy_at, xm_O_some, xm_Oi_some, xm_Ov_some, xm_Oq_some, ↓reduceIte, ↓zz_t, ↓zz_f, ↓zi_t, ↓zi_f, eq_self, yy_d_0, Int.reduceEq, Int.reduceLT, Int.reduceLE, Int.reduceNe, Int.reduceToNat, Int.reduceAdd, Int.reduceSub, Int.reduceMul, Int.reduceNeg, Nat.reduceAdd, Nat.reduceMul, Nat.reduceSub, Nat.reduceEqDiff, Nat.reduceLT, ne_eq, not_false_eq_true, not_true_eq_false, true_and, and_true, and_self, yy_s_eq, yy_s_ne, yy_c_eq, yy_c_ne, yy_u_eq, yy_u_ne, xm_w_id, yy_at, tdiv_pos, tmod_pos, ↓oc_1196, ↓zr_74_0, ↓zr_74_1, ↓zr_74_2, ↓zf_74_3, ↓zs_74_3, ↓zf_74_4, ↓zs_74_4, ↓zr_74_5, ↓zf_74_6, ↓zs_74_6, ↓zf_74_7, ↓zs_74_7, ↓zf_74_8, ↓zs_74_8, ↓zf_74_9, ↓zs_74_9, ↓zr_74_10, ↓zr_74_11, ↓zr_74_12, ↓zf_74_13, ↓zs_74_13, ↓zr_74_14, ↓zf_74_15, ↓zs_74_15, ↓zf_74_16, ↓zs_74_16, ↓zf_74_17, ↓zs_74_17, ↓zr_74_18, ↓zr_74_19, ↓zr_74_20, ↓zr_74_21, ↓zi_83, ↓zt_83, ↓zi_84, ↓zt_84, ei, ej, o, b0, b1, ↓oc_1102]
        exact yy_Ao X1 X2 (yy_I_ef hI) yy_ef0 rfl
      · by_cases bb : m 83 i = m 83 j
        · by_cases g : (0 ≤ x2 ∧ 0 ≤ x5 ∧ x2 + x5 ≤ m 84 i) ∧ (0 ≤ x4 ∧ 0 ≤ x5 ∧ x4 + x5 ≤ m 84 j)
          · obtain ⟨a, rfl⟩ : ∃ a : Nat, x2 = a := ⟨x2.toNat, by omega⟩
            obtain ⟨b, rfl⟩ : ∃ b : Nat, x4 = b := ⟨x4.toNat, by omega⟩
            obtain ⟨n, rfl⟩ : ∃ n : Nat, x5 = n := ⟨x5.toNat, by omega⟩
            have X1 : xm_X (xm_old sc) xm_mt (99 + 1) 130 [.inr (.inl (some 0)), .inl (i : Int), .inl (a : Int), .inl (j : Int), .inl (b : Int), .inl (n : Int)] (yy_W m t) = some (some (.inl (n : Int)), yy_W (yy_c m (66 + 2 * j + 1) (yy_cp (m (66 + 2 * i + 1)) (m (66 + 2 * j + 1)) a b n)) t) := by
              refine xm_X_of (M := xm_m130) rfl ⟨xm_EQ.eq (xb_130_0 ?_), rfl, rfl, Nat.le_of_ble_eq_true rfl, yy_hd rfl (by decide)⟩
              simp (disch := first | omega | (unfold xm_w; omega)) only [↓zy_at, xm_O_some, xm_Oi_some, xm_Ov_some, xm_Oq_some, ↓reduceIte, ↓zz_t, ↓zz_f, ↓zi_t, ↓zi_f, eq_self, yy_d_0, Int.reduceEq, Int.reduceLT, Int.reduceLE, Int.reduceNe, Int.reduceToNat, Int.reduceAdd, Int.reduceSub, Int.reduceMul, Int.reduceNeg, Nat.reduceAdd, Nat.reduceMul, Nat.reduceSub, Nat.reduceEqDiff, Nat.reduceLT, ne_eq, not_false_eq_true, not_true_eq_false, true_and, and_true, and_self, yy_s_eq, yy_s_ne, yy_c_eq, yy_c_ne, yy_u_eq, yy_u_ne, xm_w_id, yy_at, tdiv_pos, tmod_pos, ↓oc_147, ↓zr_0_0, ↓zr_0_1, ↓zr_0_2, ↓zr_0_3, ↓zr_0_4, ↓zf_0_5, ↓zs_0_5, ↓zr_0_6, ↓zr_0_7, ↓zr_0_8, ↓zr_0_9, ↓zr_0_10, ↓zq_64, ↓zq_sh, ei, ej, ↓oc_702 hr, s1, ↓oc_702 hq, u1, ↓hf_0 hr, ↓hf_0 hq]
              have g1 : 0 ≤ (a : Int) ∧ 0 ≤ (n : Int) ∧ (a : Int) + n ≤ m (66 + 2 * i) 1 := by omega
              have g2 : 0 ≤ (b : Int) ∧ 0 ≤ (n : Int) ∧ (b : Int) + n ≤ m (66 + 2 * j) 1 := by omega
              rw [oc_705 (d := 98) hr (by omega), if_pos g1]
              simp (disch := first | omega | (unfold xm_w; omega)) only [↓zy_at, xm_O_some, xm_Oi_some, xm_Ov_some, xm_Oq_some, ↓reduceIte, ↓zz_t, ↓zz_f, ↓zi_t, ↓zi_f, eq_self, yy_d_0, Int.reduceEq, Int.reduceLT, Int.reduceLE, Int.reduceNe, Int.reduceToNat, Int.reduceAdd, Int.reduceSub, Int.reduceMul, Int.reduceNeg, Nat.reduceAdd, Nat.reduceMul, Nat.reduceSub, Nat.reduceEqDiff, Nat.reduceLT, ne_eq, not_false_eq_true, not_true_eq_false, true_and, and_true, and_self, yy_s_eq, yy_s_ne, yy_c_eq, yy_c_ne, yy_u_eq, yy_u_ne, xm_w_id, yy_at, tdiv_pos, tmod_pos]
              rw [oc_705 (d := 98) hq (by omega), if_pos g2]
              simp (disch := first | omega | (unfold xm_w; omega)) only [↓zy_at, xm_O_some, xm_Oi_some, xm_Ov_some, xm_Oq_some, ↓reduceIte, ↓zz_t, ↓zz_f, ↓zi_t, ↓zi_f, eq_self, yy_d_0, Int.reduceEq, Int.reduceLT, Int.reduceLE, Int.reduceNe, Int.reduceToNat, Int.reduceAdd, Int.reduceSub, Int.reduceMul, Int.reduceNeg, Nat.reduceAdd, Nat.reduceMul, Nat.reduceSub, Nat.reduceEqDiff, Nat.reduceLT, ne_eq, not_false_eq_true, not_true_eq_false, true_and, and_true, and_self, yy_s_eq, yy_s_ne, yy_c_eq, yy_c_ne, yy_u_eq, yy_u_ne, xm_w_id, yy_at, tdiv_pos, tmod_pos, ↓hr_2 hr, ↓hr_2 hq]
              rw [zc_sh hr hq (by omega) (by omega) (by omega) (by omega) (by omega), Int.toNat_natCast, Int.toNat_natCast, Int.toNat_natCast]
            have f : ∀ c, 74 ≤ c → yy_c m (66 + 2 * j + 1) (yy_cp (m (66 + 2 * i + 1)) (m (66 + 2 * j + 1)) a b n) c = m c := fun c hc => yy_c_ne (by omega)
            generalize hm1 : yy_c m (66 + 2 * j + 1) (yy_cp (m (66 + 2 * i + 1)) (m (66 + 2 * j + 1)) a b n) = m1 at X1 f
            have X2 : ∃ m2, xm_X (xm_old sc) xm_mt (99 + 1) 1199 [.inr (.inl (some 74)), .inl (i : Int), .inl (a : Int), .inl (j : Int), .inl (b : Int), .inl (n : Int)] (yy_W m1 t) = some (some (.inl (n : Int)), yy_W m2 t) ∧ (∀ c, c ≠ 85 → c ≠ 86 → m2 c = m1 c) ∧ ∀ q : Nat, m2 85 q = if 24 * j + b ≤ q ∧ q < 24 * j + b + n then m 85 (24 * i + a + (q - (24 * j + b))) else m 85 q := by
              have key : ∀ {Q : Option xm_V × xm_W → Prop}, (∀ m2, ((∀ c, c ≠ 85 → c ≠ 86 → m2 c = m1 c) ∧ ∀ q : Nat, m2 85 q = if 24 * j + b ≤ q ∧ q < 24 * j + b + n then m 85 (24 * i + a + (q - (24 * j + b))) else m 85 q) → Q (some (.inl (n : Int)), yy_W m2 t)) → xm_EQ (xm_old sc) xm_sta (xm_X (xm_old sc) xm_mt 99) xm_m1199.2.2.2.2.2.2.2 0 (xm_loc xm_m1199.2.2.1 [.inr (.inl (some 74)), .inl (i : Int), .inl (a : Int), .inl (j : Int), .inl (b : Int), .inl (n : Int)]) [] (yy_W m1 t) Q := by
                intro Q hQ
                refine xb_1199_0 ?_
                simp (disch := first | omega | (unfold xm_w; omega)) only [↓zy_at, xm_O_some, xm_Oi_some, xm_Ov_some, xm_Oq_some, ↓reduceIte, ↓zz_t, ↓zz_f, ↓zi_t, ↓zi_f, eq_self, yy_d_0, Int.reduceEq, Int.reduceLT, Int.reduceLE, Int.reduceNe, Int.reduceToNat, Int.reduceAdd, Int.reduceSub, Int.reduceMul, Int.reduceNeg, Nat.reduceAdd, Nat.reduceMul, Nat.reduceSub, Nat.reduceEqDiff, Nat.reduceLT, ne_eq, not_false_eq_true, not_true_eq_false, true_and, and_true, and_self, yy_s_eq, yy_s_ne, yy_c_eq, yy_c_ne, yy_u_eq, yy_u_ne, xm_w_id, yy_at, tdiv_pos, tmod_pos, ↓oc_1196, ↓zr_74_0, ↓zr_74_1, ↓zr_74_2, ↓zf_74_3, ↓zs_74_3, ↓zf_74_4, ↓zs_74_4, ↓zr_74_5, ↓zf_74_6, ↓zs_74_6, ↓zf_74_7, ↓zs_74_7, ↓zf_74_8, ↓zs_74_8, ↓zf_74_9, ↓zs_74_9, ↓zr_74_10, ↓zr_74_11, ↓zr_74_12, ↓zf_74_13, ↓zs_74_13, ↓zr_74_14, ↓zf_74_15, ↓zs_74_15, ↓zf_74_16, ↓zs_74_16, ↓zf_74_17, ↓zs_74_17, ↓zr_74_18, ↓zr_74_19, ↓zr_74_20, ↓zr_74_21, ↓zi_83, ↓zt_83, ↓zi_84, ↓zt_84, ei, ej, f, b0, b1, bb]
                refine l_1199a (d := 99) (i := i) (a := a) (j := j) (b := b) (n := n) (by omega) (by omega) n m1 0 (by omega) (fun m3 ⟨h1, h2⟩ => ?_)
                refine l_1199b (d := 99) (i := i) (a := a) (j := j) (b := b) (n := n) (by omega) (by omega) n m3 0 (by omega) (fun m4 ⟨h3, h4⟩ => ?_)
                refine hQ m4 ⟨fun c c1 c2 => by rw [h3 c c1, h1 c c2], fun q => ?_⟩
                rw [h4 q, Nat.add_zero]
                by_cases e : 24 * j + b ≤ q ∧ q < 24 * j + b + n
                · rw [if_pos e, if_pos e, h2, if_pos (by omega), f 85 (by decide)]
                · rw [if_neg e, if_neg e, h1 85 (by decide), f 85 (by decide)]
              obtain ⟨q, h1, m', h2, h3⟩ := yx_of (y := 1199) (M := xm_m1199) (sc := sc) (d := 99) (as := [.inr (.inl (some 74)), .inl (i : Int), .inl (a : Int), .inl (j : Int), .inl (b : Int), .inl (n : Int)]) (w := yy_W m1 t) (Q := fun q => ∃ m2, q = (some (.inl (n : Int)), yy_W m2 t) ∧ ((∀ c, c ≠ 85 → c ≠ 86 → m2 c = m1 c) ∧ ∀ q : Nat, m2 85 q = if 24 * j + b ≤ q ∧ q < 24 * j + b + n then m 85 (24 * i + a + (q - (24 * j + b))) else m 85 q)) rfl (key fun m' h => ⟨m', rfl, h⟩) (fun q ⟨m', h, _⟩ => by rw [h]; rfl) rfl (Nat.le_of_ble_eq_true rfl) (yy_hd rfl (by decide))
              exact ⟨m', by rw [h1, h2], h3⟩
            obtain ⟨m2, X2, f2, q2⟩ := X2
            refine yy_Ao X1 X2 (yy_I_sh hI (fun k hk => ?_) (fun c hc x y z => ?_)) ?_ rfl
            · obtain ⟨v1, v2, v3, v4, v5⟩ := hS k hk
              have k0 : m2 (66 + 2 * k) = m (66 + 2 * k) := by rw [f2 _ (by omega) (by omega), ← hm1, yy_c_ne (by omega)]
              have k1 : m2 83 = m 83 := by rw [f2 _ (by omega) (by omega), f 83 (by omega)]
              have k2 : m2 84 = m 84 := by rw [f2 _ (by omega) (by omega), f 84 (by omega)]
              rw [k0, k1, k2]
              refine ⟨v1, v2, v3, v4, fun p hp => ?_⟩
              rw [f2 (67 + 2 * k) (by omega) (by omega), ← hm1, q2]
              by_cases e : k = j
              · subst e
                rw [show 67 + 2 * k = 66 + 2 * k + 1 by omega, yy_c_eq]
                unfold yy_cp
                by_cases e2 : b ≤ p ∧ p < b + n
                · rw [if_pos e2, if_pos (by omega)]
                  have := s5 (a + (p - b)) (by omega)
                  rw [show 66 + 2 * i + 1 = 67 + 2 * i by omega, show 24 * i + a + (24 * k + p - (24 * k + b)) = 24 * i + (a + (p - b)) by omega]
                  exact this
                · rw [if_neg e2, if_neg (by omega)]
                  have := v5 p hp
                  rw [show 67 + 2 * k = 66 + 2 * k + 1 by omega] at this; exact this
              · rw [yy_c_ne (by omega), if_neg (by omega)]; exact v5 p hp
            · unfold yy_no at x
              rw [f2 c (by omega) (by omega), ← hm1, yy_c_ne (by omega)]
            · rw [f2 0 (by decide) (by decide), ← hm1, yy_c_ne (by omega)]
          · have X1 : xm_X (xm_old sc) xm_mt (99 + 1) 130 [.inr (.inl (some 0)), .inl (i : Int), .inl x2, .inl (j : Int), .inl x4, .inl x5] (yy_W m t) = some (some (.inl (-1000000001)), yy_W (yy_e m 1) t) := by
              refine xm_X_of (M := xm_m130) rfl ⟨xm_EQ.eq (xb_130_0 ?_), rfl, rfl, Nat.le_of_ble_eq_true rfl, yy_hd rfl (by decide)⟩
              simp (disch := first | omega | (unfold xm_w; omega)) only [↓zy_at, xm_O_some, xm_Oi_some, xm_Ov_some, xm_Oq_some, ↓reduceIte, ↓zz_t, ↓zz_f, ↓zi_t, ↓zi_f, eq_self, yy_d_0, Int.reduceEq, Int.reduceLT, Int.reduceLE, Int.reduceNe, Int.reduceToNat, Int.reduceAdd, Int.reduceSub, Int.reduceMul, Int.reduceNeg, Nat.reduceAdd, Nat.reduceMul, Nat.reduceSub, Nat.reduceEqDiff, Nat.reduceLT, ne_eq, not_false_eq_true, not_true_eq_false, true_and, and_true, and_self, yy_s_eq, yy_s_ne, yy_c_eq, yy_c_ne, yy_u_eq, yy_u_ne, xm_w_id, yy_at, tdiv_pos, tmod_pos, ↓oc_147, ↓zr_0_0, ↓zr_0_1, ↓zr_0_2, ↓zr_0_3, ↓zr_0_4, ↓zf_0_5, ↓zs_0_5, ↓zr_0_6, ↓zr_0_7, ↓zr_0_8, ↓zr_0_9, ↓zr_0_10, ↓zq_64, ↓zq_sh, ei, ej, ↓oc_702 hr, s1, ↓oc_702 hq, u1, ↓hf_0 hr, ↓hf_0 hq]
              rw [oc_705 (d := 98) hr (by omega)]
              by_cases g1 : 0 ≤ x2 ∧ 0 ≤ x5 ∧ x2 + x5 ≤ m (66 + 2 * i) 1
              · rw [if_pos g1]
                simp (disch := first | omega | (unfold xm_w; omega)) only [↓zy_at, xm_O_some, xm_Oi_some, xm_Ov_some, xm_Oq_some, ↓reduceIte, ↓zz_t, ↓zz_f, ↓zi_t, ↓zi_f, eq_self, yy_d_0, Int.reduceEq, Int.reduceLT, Int.reduceLE, Int.reduceNe, Int.reduceToNat, Int.reduceAdd, Int.reduceSub, Int.reduceMul, Int.reduceNeg, Nat.reduceAdd, Nat.reduceMul, Nat.reduceSub, Nat.reduceEqDiff, Nat.reduceLT, ne_eq, not_false_eq_true, not_true_eq_false, true_and, and_true, and_self, yy_s_eq, yy_s_ne, yy_c_eq, yy_c_ne, yy_u_eq, yy_u_ne, xm_w_id, yy_at, tdiv_pos, tmod_pos]
                have g2 : ¬ (0 ≤ x4 ∧ 0 ≤ x5 ∧ x4 + x5 ≤ m (66 + 2 * j) 1) := by omega
                rw [oc_705 (d := 98) hq (by omega), if_neg g2]
                simp (disch := first | omega | (unfold xm_w; omega)) only [↓zy_at, xm_O_some, xm_Oi_some, xm_Ov_some, xm_Oq_some, ↓reduceIte, ↓zz_t, ↓zz_f, ↓zi_t, ↓zi_f, eq_self, yy_d_0, Int.reduceEq, Int.reduceLT, Int.reduceLE, Int.reduceNe, Int.reduceToNat, Int.reduceAdd, Int.reduceSub, Int.reduceMul, Int.reduceNeg, Nat.reduceAdd, Nat.reduceMul, Nat.reduceSub, Nat.reduceEqDiff, Nat.reduceLT, ne_eq, not_false_eq_true, not_true_eq_false, true_and, and_true, and_self, yy_s_eq, yy_s_ne, yy_c_eq, yy_c_ne, yy_u_eq, yy_u_ne, xm_w_id, yy_at, tdiv_pos, tmod_pos, ↓oc_139]
              · rw [if_neg g1]
                simp (disch := first | omega | (unfold xm_w; omega)) only [↓zy_at, xm_O_some, xm_Oi_some, xm_Ov_some, xm_Oq_some, ↓reduceIte, ↓zz_t, ↓zz_f, ↓zi_t, ↓zi_f, eq_self, yy_d_0, Int.reduceEq, Int.reduceLT, Int.reduceLE, Int.reduceNe, Int.reduceToNat, Int.reduceAdd, Int.reduceSub, Int.reduceMul, Int.reduceNeg, Nat.reduceAdd, Nat.reduceMul, Nat.reduceSub, Nat.reduceEqDiff, Nat.reduceLT, ne_eq, not_false_eq_true, not_true_eq_false, true_and, and_true, and_self, yy_s_eq, yy_s_ne, yy_c_eq, yy_c_ne, yy_u_eq, yy_u_ne, xm_w_id, yy_at, tdiv_pos, tmod_pos, ↓oc_139]
            have X2 : xm_X (xm_old sc) xm_mt (99 + 1) 1199 [.inr (.inl (some 74)), .inl (i : Int), .inl x2, .inl (j : Int), .inl x4, .inl x5] (yy_W (yy_e m 1) t) = some (some (.inl (-1000000001)), yy_W (yy_f (yy_e m 1) 1) t) := by
              refine xm_X_of (M := xm_m1199) rfl ⟨xm_EQ.eq (xb_1199_0 ?_), rfl, rfl, Nat.le_of_ble_eq_true rfl, yy_hd rfl (by decide)⟩
              by_cases g1 : x5 < 0
              · simp (disch := first | omega | (unfold xm_w; omega)) only [↓zy_at, xm_O_some, xm_Oi_some, xm_Ov_some, xm_Oq_some, ↓reduceIte, ↓zz_t, ↓zz_f, ↓zi_t, ↓zi_f, eq_self, yy_d_0, Int.reduceEq, Int.reduceLT, Int.reduceLE, Int.reduceNe, Int.reduceToNat, Int.reduceAdd, Int.reduceSub, Int.reduceMul, Int.reduceNeg, Nat.reduceAdd, Nat.reduceMul, Nat.reduceSub, Nat.reduceEqDiff, Nat.reduceLT, ne_eq, not_false_eq_true, not_true_eq_false, true_and, and_true, and_self, yy_s_eq, yy_s_ne, yy_c_eq, yy_c_ne, yy_u_eq, yy_u_ne, xm_w_id, yy_at, tdiv_pos, tmod_pos, ↓oc_1196, ↓zr_74_0, ↓zr_74_1, ↓zr_74_2, ↓zf_74_3, ↓zs_74_3, ↓zf_74_4, ↓zs_74_4, ↓zr_74_5, ↓zf_74_6, ↓zs_74_6, ↓zf_74_7, ↓zs_74_7, ↓zf_74_8, ↓zs_74_8, ↓zf_74_9, ↓zs_74_9, ↓zr_74_10, ↓zr_74_11, ↓zr_74_12, ↓zf_74_13, ↓zs_74_13, ↓zr_74_14, ↓zf_74_15, ↓zs_74_15, ↓zf_74_16, ↓zs_74_16, ↓zf_74_17, ↓zs_74_17, ↓zr_74_18, ↓zr_74_19, ↓zr_74_20, ↓zr_74_21, ↓zi_83, ↓zt_83, ↓zi_84, ↓zt_84, ei, ej, o, bb, ↓oc_1102]
              · by_cases g2 : x2 < 0
                · simp (disch := first | omega | (unfold xm_w; omega)) only [↓zy_at, xm_O_some, xm_Oi_some, xm_Ov_some, xm_Oq_some, ↓reduceIte, ↓zz_t, ↓zz_f, ↓zi_t, ↓zi_f, eq_self, yy_d_0, Int.reduceEq, Int.reduceLT, Int.reduceLE, Int.reduceNe, Int.reduceToNat, Int.reduceAdd, Int.reduceSub, Int.reduceMul, Int.reduceNeg, Nat.reduceAdd, Nat.reduceMul, Nat.reduceSub, Nat.reduceEqDiff, Nat.reduceLT, ne_eq, not_false_eq_true, not_true_eq_false, true_and, and_true, and_self, yy_s_eq, yy_s_ne, yy_c_eq, yy_c_ne, yy_u_eq, yy_u_ne, xm_w_id, yy_at, tdiv_pos, tmod_pos, ↓oc_1196, ↓zr_74_0, ↓zr_74_1, ↓zr_74_2, ↓zf_74_3, ↓zs_74_3, ↓zf_74_4, ↓zs_74_4, ↓zr_74_5, ↓zf_74_6, ↓zs_74_6, ↓zf_74_7, ↓zs_74_7, ↓zf_74_8, ↓zs_74_8, ↓zf_74_9, ↓zs_74_9, ↓zr_74_10, ↓zr_74_11, ↓zr_74_12, ↓zf_74_13, ↓zs_74_13, ↓zr_74_14, ↓zf_74_15, ↓zs_74_15, ↓zf_74_16, ↓zs_74_16, ↓zf_74_17, ↓zs_74_17, ↓zr_74_18, ↓zr_74_19, ↓zr_74_20, ↓zr_74_21, ↓zi_83, ↓zt_83, ↓zi_84, ↓zt_84, ei, ej, o, bb, ↓oc_1102]
                · by_cases g3 : x4 < 0
                  · simp (disch := first | omega | (unfold xm_w; omega)) only [↓zy_at, xm_O_some, xm_Oi_some, xm_Ov_some, xm_Oq_some, ↓reduceIte, ↓zz_t, ↓zz_f, ↓zi_t, ↓zi_f, eq_self, yy_d_0, Int.reduceEq, Int.reduceLT, Int.reduceLE, Int.reduceNe, Int.reduceToNat, Int.reduceAdd, Int.reduceSub, Int.reduceMul, Int.reduceNeg, Nat.reduceAdd, Nat.reduceMul, Nat.reduceSub, Nat.reduceEqDiff, Nat.reduceLT, ne_eq, not_false_eq_true, not_true_eq_false, true_and, and_true, and_self, yy_s_eq, yy_s_ne, yy_c_eq, yy_c_ne, yy_u_eq, yy_u_ne, xm_w_id, yy_at, tdiv_pos, tmod_pos, ↓oc_1196, ↓zr_74_0, ↓zr_74_1, ↓zr_74_2, ↓zf_74_3, ↓zs_74_3, ↓zf_74_4, ↓zs_74_4, ↓zr_74_5, ↓zf_74_6, ↓zs_74_6, ↓zf_74_7, ↓zs_74_7, ↓zf_74_8, ↓zs_74_8, ↓zf_74_9, ↓zs_74_9, ↓zr_74_10, ↓zr_74_11, ↓zr_74_12, ↓zf_74_13, ↓zs_74_13, ↓zr_74_14, ↓zf_74_15, ↓zs_74_15, ↓zf_74_16, ↓zs_74_16, ↓zf_74_17, ↓zs_74_17, ↓zr_74_18, ↓zr_74_19, ↓zr_74_20, ↓zr_74_21, ↓zi_83, ↓zt_83, ↓zi_84, ↓zt_84, ei, ej, o, bb, ↓oc_1102]
                  · by_cases g4 : m 84 i - x5 < x2
                    · simp (disch := first | omega | (unfold xm_w; omega)) only [↓zy_at, xm_O_some, xm_Oi_some, xm_Ov_some, xm_Oq_some, ↓reduceIte, ↓zz_t, ↓zz_f, ↓zi_t, ↓zi_f, eq_self, yy_d_0, Int.reduceEq, Int.reduceLT, Int.reduceLE, Int.reduceNe, Int.reduceToNat, Int.reduceAdd, Int.reduceSub, Int.reduceMul, Int.reduceNeg, Nat.reduceAdd, Nat.reduceMul, Nat.reduceSub, Nat.reduceEqDiff, Nat.reduceLT, ne_eq, not_false_eq_true, not_true_eq_false, true_and, and_true, and_self, yy_s_eq, yy_s_ne, yy_c_eq, yy_c_ne, yy_u_eq, yy_u_ne, xm_w_id, yy_at, tdiv_pos, tmod_pos, ↓oc_1196, ↓zr_74_0, ↓zr_74_1, ↓zr_74_2, ↓zf_74_3, ↓zs_74_3, ↓zf_74_4, ↓zs_74_4, ↓zr_74_5, ↓zf_74_6, ↓zs_74_6, ↓zf_74_7, ↓zs_74_7, ↓zf_74_8, ↓zs_74_8, ↓zf_74_9, ↓zs_74_9, ↓zr_74_10, ↓zr_74_11, ↓zr_74_12, ↓zf_74_13, ↓zs_74_13, ↓zr_74_14, ↓zf_74_15, ↓zs_74_15, ↓zf_74_16, ↓zs_74_16, ↓zf_74_17, ↓zs_74_17, ↓zr_74_18, ↓zr_74_19, ↓zr_74_20, ↓zr_74_21, ↓zi_83, ↓zt_83, ↓zi_84, ↓zt_84, ei, ej, o, bb, ↓oc_1102]
                    · simp (disch := first | omega | (unfold xm_w; omega)) only [↓zy_at, xm_O_some, xm_Oi_some, xm_Ov_some, xm_Oq_some, ↓reduceIte, ↓zz_t, ↓zz_f, ↓zi_t, ↓zi_f, eq_self, yy_d_0, Int.reduceEq, Int.reduceLT, Int.reduceLE, Int.reduceNe, Int.reduceToNat, Int.reduceAdd, Int.reduceSub, Int.reduceMul, Int.reduceNeg, Nat.reduceAdd, Nat.reduceMul, Nat.reduceSub, Nat.reduceEqDiff, Nat.reduceLT, ne_eq, not_false_eq_true, not_true_eq_false, true_and, and_true, and_self, yy_s_eq, yy_s_ne, yy_c_eq, yy_c_ne, yy_u_eq, yy_u_ne, xm_w_id, yy_at, tdiv_pos, tmod_pos, ↓oc_1196, ↓zr_74_0, ↓zr_74_1, ↓zr_74_2, ↓zf_74_3, ↓zs_74_3, ↓zf_74_4, ↓zs_74_4, ↓zr_74_5, ↓zf_74_6, ↓zs_74_6, ↓zf_74_7, ↓zs_74_7, ↓zf_74_8, ↓zs_74_8, ↓zf_74_9, ↓zs_74_9, ↓zr_74_10, ↓zr_74_11, ↓zr_74_12, ↓zf_74_13, ↓zs_74_13, ↓zr_74_14, ↓zf_74_15, ↓zs_74_15, ↓zf_74_16, ↓zs_74_16, ↓zf_74_17, ↓zs_74_17, ↓zr_74_18, ↓zr_74_19, ↓zr_74_20, ↓zr_74_21, ↓zi_83, ↓zt_83, ↓zi_84, ↓zt_84, ei, ej, o, bb, ↓oc_1102]
            exact yy_Ao X1 X2 (yy_I_ef hI) yy_ef0 rfl
        · have X1 : xm_X (xm_old sc) xm_mt (99 + 1) 130 [.inr (.inl (some 0)), .inl (i : Int), .inl x2, .inl (j : Int), .inl x4, .inl x5] (yy_W m t) = some (some (.inl (-1000000005)), yy_W (yy_e m 5) t) := by
            refine xm_X_of (M := xm_m130) rfl ⟨xm_EQ.eq (xb_130_0 ?_), rfl, rfl, Nat.le_of_ble_eq_true rfl, yy_hd rfl (by decide)⟩
            simp (disch := first | omega | (unfold xm_w; omega)) only [↓zy_at, xm_O_some, xm_Oi_some, xm_Ov_some, xm_Oq_some, ↓reduceIte, ↓zz_t, ↓zz_f, ↓zi_t, ↓zi_f, eq_self, yy_d_0, Int.reduceEq, Int.reduceLT, Int.reduceLE, Int.reduceNe, Int.reduceToNat, Int.reduceAdd, Int.reduceSub, Int.reduceMul, Int.reduceNeg, Nat.reduceAdd, Nat.reduceMul, Nat.reduceSub, Nat.reduceEqDiff, Nat.reduceLT, ne_eq, not_false_eq_true, not_true_eq_false, true_and, and_true, and_self, yy_s_eq, yy_s_ne, yy_c_eq, yy_c_ne, yy_u_eq, yy_u_ne, xm_w_id, yy_at, tdiv_pos, tmod_pos, ↓oc_147, ↓zr_0_0, ↓zr_0_1, ↓zr_0_2, ↓zr_0_3, ↓zr_0_4, ↓zf_0_5, ↓zs_0_5, ↓zr_0_6, ↓zr_0_7, ↓zr_0_8, ↓zr_0_9, ↓zr_0_10, ↓zq_64, ↓zq_sh, ei, ej, ↓oc_702 hr, s1, ↓oc_702 hq, u1, ↓hf_0 hr, ↓hf_0 hq, ↓oc_139]
          have X2 : xm_X (xm_old sc) xm_mt (99 + 1) 1199 [.inr (.inl (some 74)), .inl (i : Int), .inl x2, .inl (j : Int), .inl x4, .inl x5] (yy_W (yy_e m 5) t) = some (some (.inl (-1000000005)), yy_W (yy_f (yy_e m 5) 5) t) := by
            refine xm_X_of (M := xm_m1199) rfl ⟨xm_EQ.eq (xb_1199_0 ?_), rfl, rfl, Nat.le_of_ble_eq_true rfl, yy_hd rfl (by decide)⟩
            simp (disch := first | omega | (unfold xm_w; omega)) only [↓zy_at, xm_O_some, xm_Oi_some, xm_Ov_some, xm_Oq_some, ↓reduceIte, ↓zz_t, ↓zz_f, ↓zi_t, ↓zi_f, eq_self, yy_d_0, Int.reduceEq, Int.reduceLT, Int.reduceLE, Int.reduceNe, Int.reduceToNat, Int.reduceAdd, Int.reduceSub, Int.reduceMul, Int.reduceNeg, Nat.reduceAdd, Nat.reduceMul, Nat.reduceSub, Nat.reduceEqDiff, Nat.reduceLT, ne_eq, not_false_eq_true, not_true_eq_false, true_and, and_true, and_self, yy_s_eq, yy_s_ne, yy_c_eq, yy_c_ne, yy_u_eq, yy_u_ne, xm_w_id, yy_at, tdiv_pos, tmod_pos, ↓oc_1196, ↓zr_74_0, ↓zr_74_1, ↓zr_74_2, ↓zf_74_3, ↓zs_74_3, ↓zf_74_4, ↓zs_74_4, ↓zr_74_5, ↓zf_74_6, ↓zs_74_6, ↓zf_74_7, ↓zs_74_7, ↓zf_74_8, ↓zs_74_8, ↓zf_74_9, ↓zs_74_9, ↓zr_74_10, ↓zr_74_11, ↓zr_74_12, ↓zf_74_13, ↓zs_74_13, ↓zr_74_14, ↓zf_74_15, ↓zs_74_15, ↓zf_74_16, ↓zs_74_16, ↓zf_74_17, ↓zs_74_17, ↓zr_74_18, ↓zr_74_19, ↓zr_74_20, ↓zr_74_21, ↓zi_83, ↓zt_83, ↓zi_84, ↓zt_84, ei, ej, o, ↓oc_1102]
          exact yy_Ao X1 X2 (yy_I_ef hI) yy_ef0 rfl
  · exact r_130 hI h
