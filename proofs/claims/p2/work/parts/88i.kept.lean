/-! WHAT IS KEPT: image, restore; untell -/
set_option maxRecDepth 20000 in
theorem sg_G_q {s s' : Nat → Int} (h : ∀ k, k < 673 → s' k = s k) (hG : sg_G s) : sg_G s' :=
  ⟨sg_W_q (fun k hk => h k (by omega)) hG.1, by rw [h 1 (by omega)]; exact hG.2.1, by rw [h 4 (by omega)]; exact hG.2.2.1, by rw [h 5 (by omega)]; exact hG.2.2.2.1, fun k hk => by rw [h _ (by omega)]; exact hG.2.2.2.2 k hk⟩
set_option maxRecDepth 20000 in
theorem yy_DR_q {m m' : Nat → Nat → Int} {a : Nat} {s s' : Nat → Int} (hm : ∀ c, (c = a ∨ c = a + 1 ∨ c = a + 2) → m' c = m c) (h : ∀ k, k < 673 → s' k = s k) (hD : yy_DR m a s) : yy_DR m' a s' := by
  obtain ⟨a1, a2, a3, a4, a5⟩ := yy_DR_r hm hD
  exact ⟨by rw [h 4 (by omega)]; exact a1, by rw [h 5 (by omega)]; exact a2, by rw [h 6 (by omega)]; exact a3, fun k hk => by rw [h _ (by omega)]; exact a4 k hk, fun k hk => by rw [h _ (by omega)]; exact a5 k hk⟩
set_option maxRecDepth 20000 in
theorem yy_CD_DR {m m1 : Nat → Nat → Int} {a b : Nat} {s : Nat → Int} (hC : yy_CD m m1 a b) (hD : yy_DR m a s) : yy_DR m1 b s := by
  obtain ⟨g1, g2, g3, g4, g5⟩ := hC
  obtain ⟨a1, a2, a3, a4, a5⟩ := hD
  exact ⟨by rw [g1]; exact a1, by rw [g2]; exact a2, by rw [g3]; exact a3, fun k hk => by rw [g4 k hk]; exact a4 k hk, fun k hk => by rw [g5 k hk]; exact a5 k hk⟩
set_option maxRecDepth 20000 in
theorem a_133 {sc : List Int} {t : xm_W} {m : Nat → Nat → Int} (hI : yy_I t m) (hb : m 0 5 ≤ 1000000) : yy_A sc t m 133 1203 [] true := by
  obtain ⟨hG, hX, hR, hK, hS, hP⟩ := id hI
  obtain ⟨k1, k2, k3⟩ := id hK
  obtain ⟨m1, X1, f1, g0, hC, hD⟩ := c_133 (sc := sc) (d := 96) (t := t) (m := m) (yy_TX_tx hX.2.1) (yy_TX_tx hX.2.2) k2 hb
  have f74 : m1 74 = m 74 := f1 74 (by decide) (by decide)
  have f75 : m1 75 = m 75 := f1 75 (by decide) (by decide)
  have X2 := c_1203 (sc := sc) (d := 96) (t := t) (m := m1) (by rw [f74, ← k1]; exact k2) (by rw [f74, ← k1]; exact hb)
  have o : ∀ c, c ≠ 74 → c ≠ 76 → (c < 38 ∨ 58 ≤ c) → c ≠ 0 → yy_s (yy_c m1 76 (yy_cp (m1 75) (m1 76) 0 0 673)) 74 4 (m1 74 4 + 1) c = m c := fun c a b d e => by rw [yy_s_ne a, yy_c_ne b, f1 c d e]
  have o1 : ∀ c, c ≠ 74 → c ≠ 76 → yy_s (yy_c m1 76 (yy_cp (m1 75) (m1 76) 0 0 673)) 74 4 (m1 74 4 + 1) c = m1 c := fun c a b => by rw [yy_s_ne a, yy_c_ne b]
  have o76 : ∀ k, k < 673 → yy_s (yy_c m1 76 (yy_cp (m1 75) (m1 76) 0 0 673)) 74 4 (m1 74 4 + 1) 76 k = m 75 k := fun k hk => by rw [yy_s_ne (by decide), yy_c_eq, yy_cp0 hk, f75]
  have o74 : ∀ k, k ≠ 4 → yy_s (yy_c m1 76 (yy_cp (m1 75) (m1 76) 0 0 673)) 74 4 (m1 74 4 + 1) 74 k = m 74 k := fun k hk => by rw [yy_s_eq, yy_u_ne hk, yy_c_ne (by decide), f74]
  have o05 : yy_s (yy_c m1 76 (yy_cp (m1 75) (m1 76) 0 0 673)) 74 4 (m1 74 4 + 1) 0 5 = m 0 5 + 1 := by rw [o1 0 (by decide) (by decide), g0, if_pos rfl]
  have o744 : yy_s (yy_c m1 76 (yy_cp (m1 75) (m1 76) 0 0 673)) 74 4 (m1 74 4 + 1) 74 4 = m 74 4 + 1 := by rw [yy_s_eq, yy_u_eq, f74]
  refine ⟨_, _, _, _, _, X1, X2, ⟨?_, ?_, ?_, ⟨?_, ?_, fun _ => ⟨?_, ?_, ?_⟩⟩, ?_, ?_⟩, by omega, by omega, ?_, fun _ => ?_⟩
  · rw [o 75 (by decide) (by decide) (by decide) (by decide)]; exact hG
  · rw [o 75 (by decide) (by decide) (by decide) (by decide)]
    exact yy_MX_r (fun c hc => o c (by omega) (by omega) (by omega) (by omega)) hX
  · rw [o 75 (by decide) (by decide) (by decide) (by decide)]
    exact yy_DR_r (fun c hc => o c (by omega) (by omega) (by omega) (by omega)) hR
  · rw [o05, o744, k1]
  · rw [o05]; omega
  · exact sg_G_q o76 hG
  · exact yy_MX_q (sg_W_T hG.1) (fun k hk => o76 k (by omega)) (fun c hc => o1 c (by omega) (by omega)) (yy_CP_MX hC hX)
  · exact yy_DR_q (fun c hc => o1 c (by omega) (by omega)) o76 (yy_CD_DR hD hR)
  · exact yy_SH_r (fun c hc => o c (by omega) (by omega) (by omega) (by omega)) hS
  · unfold yy_SP
    rw [o74 3 (by decide), o74 15 (by decide), o 61 (by decide) (by decide) (by decide) (by decide)]; exact hP
  · rw [o05]; omega
  · rw [f74, k1]
set_option maxRecDepth 20000 in
theorem a_134 {sc : List Int} {t : xm_W} {m : Nat → Nat → Int} (hI : yy_I t m) : yy_A sc t m 134 1204 [] true := by
  obtain ⟨hG, hX, hR, hK, hS, hP⟩ := id hI
  obtain ⟨k1, k2, k3⟩ := id hK
  by_cases h : m 0 5 = 0
  · exact yy_Ao (f_134 (d := 96) h) (f_1204 (d := 96) (by rw [yy_e75 (by decide), ← k1]; exact h)) (yy_I_ef hI) yy_ef0 rfl
  · obtain ⟨kG, kX, kD⟩ := k3 (by omega)
    obtain ⟨m1, X1, f1, gC⟩ := c_402_38_1 (sc := sc) (d := 97) (t := t) (m := m) (yy_TX_tx kX.2.1) (yy_TX_tx kX.2.2)
    obtain ⟨m2, X2, f2, gD⟩ := c_302_55_35 (sc := sc) (d := 98) (t := t) (m := m1)
    have f : ∀ c, (c = 0 ∨ (18 ≤ c ∧ c < 35) ∨ 38 ≤ c) → m2 c = m c := fun c hc => by rw [f2 c (by omega), f1 c (by omega)]
    have M : yy_MX t m2 1 (m 76) := yy_MX_r (fun c hc => f2 c (by omega)) (yy_CP_MX gC kX)
    have D : yy_DR m2 35 (m 76) := yy_CD_DR gD (yy_DR_r (fun c hc => f1 c (by omega)) kD)
    have L1 : xm_X (xm_old sc) xm_mt (99 + 1) 134 [.inr (.inl (some 0))] (yy_W m t) = some (some (.inl (m2 1 2)), yy_W m2 t) := by
      refine xm_X_of (M := xm_m134) rfl ⟨xm_EQ.eq (xb_134_0 ?_), rfl, rfl, Nat.le_of_ble_eq_true rfl, yy_hd rfl (by decide)⟩
      simp (disch := first | omega | (unfold xm_w; omega)) only [↓zy_at, xm_O_some, xm_Oi_some, xm_Ov_some, xm_Oq_some, ↓reduceIte, ↓zz_t, ↓zz_f, ↓zi_t, ↓zi_f, eq_self, yy_d_0, Int.reduceEq, Int.reduceLT, Int.reduceLE, Int.reduceNe, Int.reduceToNat, Int.reduceAdd, Int.reduceSub, Int.reduceMul, Int.reduceNeg, Nat.reduceAdd, Nat.reduceMul, Nat.reduceSub, Nat.reduceEqDiff, Nat.reduceLT, ne_eq, not_false_eq_true, not_true_eq_false, true_and, and_true, and_self, yy_s_eq, yy_s_ne, yy_c_eq, yy_c_ne, yy_u_eq, yy_u_ne, xm_w_id, yy_at, tdiv_pos, tmod_pos, ↓zr_0_0, ↓zr_0_1, ↓zr_0_2, ↓zr_0_3, ↓zr_0_4, ↓zf_0_5, ↓zs_0_5, ↓zr_0_6, ↓zr_0_7, ↓zr_0_8, ↓zr_0_9, ↓zr_0_10]
      rw [X1]
      simp (disch := first | omega | (unfold xm_w; omega)) only [↓zy_at, xm_O_some, xm_Oi_some, xm_Ov_some, xm_Oq_some, ↓reduceIte, ↓zz_t, ↓zz_f, ↓zi_t, ↓zi_f, eq_self, yy_d_0, Int.reduceEq, Int.reduceLT, Int.reduceLE, Int.reduceNe, Int.reduceToNat, Int.reduceAdd, Int.reduceSub, Int.reduceMul, Int.reduceNeg, Nat.reduceAdd, Nat.reduceMul, Nat.reduceSub, Nat.reduceEqDiff, Nat.reduceLT, ne_eq, not_false_eq_true, not_true_eq_false, true_and, and_true, and_self, yy_s_eq, yy_s_ne, yy_c_eq, yy_c_ne, yy_u_eq, yy_u_ne, xm_w_id, yy_at, tdiv_pos, tmod_pos, ↓zr_0_0, ↓zr_0_1, ↓zr_0_2, ↓zr_0_3, ↓zr_0_4, ↓zf_0_5, ↓zs_0_5, ↓zr_0_6, ↓zr_0_7, ↓zr_0_8, ↓zr_0_9, ↓zr_0_10]
      rw [X2]
      simp (disch := first | omega | (unfold xm_w; omega)) only [↓zy_at, xm_O_some, xm_Oi_some, xm_Ov_some, xm_Oq_some, ↓reduceIte, ↓zz_t, ↓zz_f, ↓zi_t, ↓zi_f, eq_self, yy_d_0, Int.reduceEq, Int.reduceLT, Int.reduceLE, Int.reduceNe, Int.reduceToNat, Int.reduceAdd, Int.reduceSub, Int.reduceMul, Int.reduceNeg, Nat.reduceAdd, Nat.reduceMul, Nat.reduceSub, Nat.reduceEqDiff, Nat.reduceLT, ne_eq, not_false_eq_true, not_true_eq_false, true_and, and_true, and_self, yy_s_eq, yy_s_ne, yy_c_eq, yy_c_ne, yy_u_eq, yy_u_ne, xm_w_id, yy_at, tdiv_pos, tmod_pos, ↓zr_0_0, ↓zr_0_1, ↓zr_0_2, ↓zr_0_3, ↓zr_0_4, ↓zf_0_5, ↓zs_0_5, ↓zr_0_6, ↓zr_0_7, ↓zr_0_8, ↓zr_0_9, ↓zr_0_10, ↓zr_1_0, ↓zf_1_1, ↓zs_1_1, ↓zf_1_2, ↓zs_1_2, ↓zr_1_3, ↓zf_1_4, ↓zs_1_4, ↓zr_1_5, ↓zf_1_6, ↓zs_1_6, ↓zr_1_7, ↓zr_1_8, ↓zr_1_9]
    have L2 : xm_X (xm_old sc) xm_mt (99 + 1) 1204 [.inr (.inl (some 74))] (yy_W m2 t) = some (some (.inl (m2 76 1)), yy_W (yy_c m2 75 (yy_cp (m2 76) (m2 75) 0 0 673)) t) := by
      refine xm_X_of (M := xm_m1204) rfl ⟨xm_EQ.eq (xb_1204_0 ?_), rfl, rfl, Nat.le_of_ble_eq_true rfl, yy_hd rfl (by decide)⟩
      have e4 : m2 74 4 = m 0 5 := by rw [f 74 (by omega), ← k1]
      simp (disch := first | omega | (unfold xm_w; omega)) only [↓zy_at, xm_O_some, xm_Oi_some, xm_Ov_some, xm_Oq_some, ↓reduceIte, ↓zz_t, ↓zz_f, ↓zi_t, ↓zi_f, eq_self, yy_d_0, Int.reduceEq, Int.reduceLT, Int.reduceLE, Int.reduceNe, Int.reduceToNat, Int.reduceAdd, Int.reduceSub, Int.reduceMul, Int.reduceNeg, Nat.reduceAdd, Nat.reduceMul, Nat.reduceSub, Nat.reduceEqDiff, Nat.reduceLT, ne_eq, not_false_eq_true, not_true_eq_false, true_and, and_true, and_self, yy_s_eq, yy_s_ne, yy_c_eq, yy_c_ne, yy_u_eq, yy_u_ne, xm_w_id, yy_at, tdiv_pos, tmod_pos, ↓zr_74_0, ↓zr_74_1, ↓zr_74_2, ↓zf_74_3, ↓zs_74_3, ↓zf_74_4, ↓zs_74_4, ↓zr_74_5, ↓zf_74_6, ↓zs_74_6, ↓zf_74_7, ↓zs_74_7, ↓zf_74_8, ↓zs_74_8, ↓zf_74_9, ↓zs_74_9, ↓zr_74_10, ↓zr_74_11, ↓zr_74_12, ↓zf_74_13, ↓zs_74_13, ↓zr_74_14, ↓zf_74_15, ↓zs_74_15, ↓zf_74_16, ↓zs_74_16, ↓zf_74_17, ↓zs_74_17, ↓zr_74_18, ↓zr_74_19, ↓zr_74_20, ↓zr_74_21, e4]
      rw [oc_1105_76_75 (d := 98)]
      simp (disch := first | omega | (unfold xm_w; omega)) only [↓zy_at, xm_O_some, xm_Oi_some, xm_Ov_some, xm_Oq_some, ↓reduceIte, ↓zz_t, ↓zz_f, ↓zi_t, ↓zi_f, eq_self, yy_d_0, Int.reduceEq, Int.reduceLT, Int.reduceLE, Int.reduceNe, Int.reduceToNat, Int.reduceAdd, Int.reduceSub, Int.reduceMul, Int.reduceNeg, Nat.reduceAdd, Nat.reduceMul, Nat.reduceSub, Nat.reduceEqDiff, Nat.reduceLT, ne_eq, not_false_eq_true, not_true_eq_false, true_and, and_true, and_self, yy_s_eq, yy_s_ne, yy_c_eq, yy_c_ne, yy_u_eq, yy_u_ne, xm_w_id, yy_at, tdiv_pos, tmod_pos, ↓zr_74_0, ↓zr_74_1, ↓zr_74_2, ↓zf_74_3, ↓zs_74_3, ↓zf_74_4, ↓zs_74_4, ↓zr_74_5, ↓zf_74_6, ↓zs_74_6, ↓zf_74_7, ↓zs_74_7, ↓zf_74_8, ↓zs_74_8, ↓zf_74_9, ↓zs_74_9, ↓zr_74_10, ↓zr_74_11, ↓zr_74_12, ↓zf_74_13, ↓zs_74_13, ↓zr_74_14, ↓zf_74_15, ↓zs_74_15, ↓zf_74_16, ↓zs_74_16, ↓zf_74_17, ↓zs_74_17, ↓zr_74_18, ↓zr_74_19, ↓zr_74_20, ↓zr_74_21, ↓zi_75, ↓zt_75]
      rw [yy_cp0 (by decide)]
    have o75 : ∀ k, k < 673 → yy_c m2 75 (yy_cp (m2 76) (m2 75) 0 0 673) 75 k = m 76 k := fun k hk => by rw [yy_c_eq, yy_cp0 hk, f 76 (by omega)]
    have o : ∀ c, c ≠ 75 → yy_c m2 75 (yy_cp (m2 76) (m2 75) 0 0 673) c = m2 c := fun c hc => yy_c_ne hc
    refine yy_Ao L1 L2 (yy_I_75 hI (sg_G_q o75 kG) (yy_MX_q (sg_W_T kG.1) (fun k hk => o75 k (by omega)) (fun c hc => o c (by omega)) M) (yy_DR_q (fun c hc => o c (by omega)) o75 D) (fun c hc a b d e => ?_)) ?_ ?_
    · rw [o c e, f c (by omega)]
    · rw [o 0 (by decide), f 0 (by omega)]
    · rw [M.1.2.1, f 76 (by omega)]
set_option maxRecDepth 20000 in
theorem sg_R_q2 {s s' : Nat → Int} (h : ∀ k, (k < 4 ∨ (8 ≤ k ∧ k < 134)) → s' k = s k) (hR : sg_R s) : sg_R s' := by
  obtain ⟨a0, a1, a2, a3, a4, a5⟩ := hR
  refine ⟨by rw [h 0 (by omega)]; exact a0, by rw [h 1 (by omega)]; exact a1, by rw [h 2 (by omega)]; exact a2, by rw [h 3 (by omega)]; exact a3, fun k hk => by rw [h _ (by omega)]; exact a4 k hk, fun i hi => ?_⟩
  obtain ⟨b0, b1, b2, b3, b4, b5, b6⟩ := a5 i hi
  rw [h _ (by omega), h _ (by omega), h _ (by omega), h _ (by omega), h _ (by omega), h _ (by omega)]
  exact ⟨b0, b1, b2, b3, b4, b5, fun k hk => by rw [h _ (by omega)]; exact b6 k hk⟩
set_option maxRecDepth 20000 in
theorem sg_W_qT {s s' : Nat → Int} {r : Int} (h : ∀ k, (k < 4 ∨ (8 ≤ k ∧ k < 339)) → s' k = s k) (T0 : sg_T s' 0) (T1 : sg_T s' 1) (hW : sg_W s r) : sg_W s' r := by
  obtain ⟨hR, hO, hS, -, -⟩ := hW
  have h3 := hR.2.2.2.1
  have e3 : s' 3 = s 3 := h _ (by omega)
  have e1 : s' 1 = s 1 := h _ (by omega)
  have ep : ∀ i w : Nat, (i : Int) < s 3 → w < 5 → sg_p s' i w = sg_p s i w := fun i w hi hw => h _ (by omega)
  refine ⟨sg_R_q2 (fun k hk => h k (by omega)) hR, ⟨fun i hi => ?_, fun i j hij hj => ?_⟩, fun i hi => ?_, T0, T1⟩
  · rw [e3] at hi
    have := hO.1 i hi
    unfold sg_E at this ⊢
    rw [ep i 0 hi (by decide), ep i 1 hi (by decide), ep i 2 hi (by decide), ep i 3 hi (by decide), ep i 4 hi (by decide), e1]; exact this
  · rw [e3] at hj
    have := hO.2 i j hij hj
    unfold sg_lt at this ⊢
    rw [ep i 3 (by omega) (by decide), ep i 4 (by omega) (by decide), ep j 3 hj (by decide), ep j 4 hj (by decide)]; exact this
  · rw [e3] at hi
    have := hS i hi
    have c := (hO.1 i hi).1.1
    rw [ep i 3 hi (by decide), ep i 0 hi (by decide), e1, sg_k_eq (h 2 (by omega)) (h _ (by omega))]
    exact this
set_option maxRecDepth 20000 in
theorem yy_MR_q {m m' : Nat → Nat → Int} {b : Nat} {s s' : Nat → Int} (h : ∀ k, (k < 4 ∨ (8 ≤ k ∧ k < 339)) → s' k = s k) (hm : ∀ c, (c = b ∨ c = b + 1 ∨ c = b + 3 ∨ (b + 7 ≤ c ∧ c < b + 17)) → m' c = m c) (hM : yy_MR m b s) : yy_MR m' b s' := by
  obtain ⟨e1, e2, e3, e4, e5, e6, e7⟩ := yy_MR_fr hm hM
  exact ⟨by rw [h 2 (by omega)]; exact e1, by rw [h 1 (by omega)]; exact e2, by rw [h 0 (by omega)]; exact e3, by rw [h 3 (by omega)]; exact e4, fun k hk => by rw [h _ (by omega)]; exact e5 k hk, fun k hk => by rw [h _ (by omega)]; exact e6 k hk, fun i hi => ⟨fun k hk => by rw [h _ (by omega)]; exact (e7 i hi).1 k hk, fun k hk => by rw [h _ (by omega)]; exact (e7 i hi).2 k hk⟩⟩
/-! an act on a text (and on the desk) -/
set_option maxRecDepth 20000 in
theorem yy_I_tx {t : xm_W} {m m' : Nat → Nat → Int} (hI : yy_I t m) (T : ∀ v, v < 2 → sg_T (m' 75) v) (X : ∀ v, v < 2 → yy_TX t (m' 75) v (m' 5 v)) (hD : sg_D (m' 75)) (hR : yy_DR m' 35 (m' 75)) (h75 : ∀ k, (k < 4 ∨ (8 ≤ k ∧ k < 339)) → m' 75 k = m 75 k) (h : ∀ c, c < 87 → ¬ yy_no c → ¬ (35 ≤ c ∧ c < 38) → c ≠ 5 → c ≠ 75 → m' c = m c) : yy_I t m' := by
  obtain ⟨⟨hW, h1, -⟩, hX, -⟩ := id hI
  exact yy_I_75 hI ⟨sg_W_qT h75 (T 0 (by decide)) (T 1 (by decide)) hW, by rw [h75 1 (by omega)]; exact h1, hD⟩ ⟨yy_MR_q h75 (fun c hc => h c (by omega) (by unfold yy_no; omega) (by omega) (by omega) (by omega)) hX.1, X 0 (by decide), X 1 (by decide)⟩ hR (fun c hc h1 h2 h3 h4 => h c hc h1 h3 (by omega) h4)
/-! the cells of the texts may grow -/
set_option maxRecDepth 20000 in
theorem yy_I_t {t t' : xm_W} {m : Nat → Nat → Int} (h : ∀ (a : Nat) c, t[a]? = some c → t'[a]? = some c) (hI : yy_I t m) : yy_I t' m := by
  have x : ∀ s u z, yy_TX t s u z → yy_TX t' s u z := by
    intro s u z hX
    rcases hX with hX | ⟨h0, a, a', e, c1, c2⟩
    · exact Or.inl hX
    · exact Or.inr ⟨h0, a, a', e, h _ _ c1, h _ _ c2⟩
  have y : ∀ b s, yy_MX t m b s → yy_MX t' m b s := fun b s hM => ⟨hM.1, x _ _ _ hM.2.1, x _ _ _ hM.2.2⟩
  obtain ⟨a, b, c, ⟨k1, k2, k3⟩, e, f⟩ := hI
  exact ⟨a, y _ _ b, c, ⟨k1, k2, fun hp => ⟨(k3 hp).1, y _ _ (k3 hp).2.1, (k3 hp).2.2⟩⟩, e, f⟩
/-! one text changes: the other's steps stay -/
set_option maxRecDepth 20000 in
theorem sg_T_x {s s' : Nat → Int} {v : Nat} (h : ∀ k, 339 + 125 * v ≤ k → k < 464 + 125 * v → s' k = s k) (hT : sg_T s v) : sg_T s' v := by
  have b := hT.1
  have tn : sg_tn s' v = sg_tn s v := h _ (by omega) (by omega)
  have tw : ∀ k : Nat, k < 60 → sg_tw s' v k = sg_tw s v k := fun k hk => h _ (by omega) (by omega)
  have tv : ∀ k : Nat, k < 60 → sg_tv s' v k = sg_tv s v k := fun k hk => h _ (by omega) (by omega)
  have td : ∀ k : Nat, k ≤ 60 → sg_d s' v k = sg_d s v k := by
    intro k
    induction k with
    | zero => intro _; rfl
    | succ k ih => intro hk; unfold sg_d; rw [ih (by omega), tw k (by omega)]
  refine ⟨by rw [tn]; exact b, fun h => ?_, fun k hk => ?_⟩
  · rw [tn] at h ⊢; rw [td _ (by omega)]; exact hT.2.1 h
  · rw [tn] at hk
    have := hT.2.2 k hk
    unfold sg_tok at this ⊢
    rw [tw k (by omega), tv k (by omega), td k (by omega)]; exact this
set_option maxRecDepth 20000 in
theorem yy_TX_x {t : xm_W} {s s' : Nat → Int} {v : Nat} {z : Int} (h : ∀ k, 339 + 125 * v ≤ k → k < 464 + 125 * v → s' k = s k) (hs : sg_tn s v ≤ 60) (hX : yy_TX t s v z) : yy_TX t s' v z := by
  have tn : sg_tn s' v = sg_tn s v := h _ (by omega) (by omega)
  have tw : ∀ k : Nat, k < 60 → sg_tw s' v k = sg_tw s v k := fun k hk => h _ (by omega) (by omega)
  have tv : ∀ k : Nat, k < 60 → sg_tv s' v k = sg_tv s v k := fun k hk => h _ (by omega) (by omega)
  rcases hX with hX | ⟨h0, a, a', e, c1, c2⟩
  · exact Or.inl ⟨by rw [tn]; exact hX.1, hX.2⟩
  · refine Or.inr ⟨by rw [tn]; exact h0, a, a', e, c1, ?_⟩
    rw [c2, tn]
    have : yy_R (sg_tn s v).toNat (sg_sg s v) = yy_R (sg_tn s v).toNat (sg_sg s' v) := yy_R_ext (yy_R_len) fun k hk => by
      rw [yy_R_get hk]
      unfold sg_sg
      rw [tw k (by omega), tv k (by omega)]
    rw [this]
set_option maxRecDepth 20000 in
theorem a_112 {sc : List Int} {t : xm_W} {m : Nat → Nat → Int} {x1 : Int} (hI : yy_I t m) : yy_A sc t m 112 1127 [.inl x1] true := by
  by_cases h : 0 ≤ x1 ∧ x1 ≤ 1
  · obtain ⟨u, rfl⟩ : ∃ u : Nat, x1 = u := ⟨x1.toNat, by omega⟩
    obtain ⟨hG, hX, hR, hK, hS, hP⟩ := id hI
    have X1 := c_112 (sc := sc) (d := 96) (t := t) (m := m) h
    have X2 := c_1127 (sc := sc) (d := 96) (t := t) (m := yy_s m 5 ((u : Int)).toNat 0) h
    have f75 : yy_s m 5 ((u : Int)).toNat 0 75 = m 75 := yy_s_ne (by decide)
    have eu : (339 + 125 * (u : Int)).toNat = 339 + 125 * u := by omega
    rw [f75, eu] at X2
    rw [Int.toNat_natCast] at X1 X2
    have e75 : yy_s (yy_s m 5 u 0) 75 (339 + 125 * u) 0 75 = yy_u (m 75) (339 + 125 * u) 0 := by rw [yy_s_eq, yy_s_ne (by decide)]
    have o : ∀ k, k ≠ 339 + 125 * u → yy_u (m 75) (339 + 125 * u) 0 k = m 75 k := fun k hk => yy_u_ne hk
    have t0 : ∀ v, v < 2 → sg_T (m 75) v := fun v hv => by
      rcases (show v = 0 ∨ v = 1 by omega) with e | e <;> subst e
      · exact hG.1.2.2.2.1
      · exact hG.1.2.2.2.2
    have x0 : ∀ v, v < 2 → yy_TX t (m 75) v (m 5 v) := fun v hv => by
      rcases (show v = 0 ∨ v = 1 by omega) with e | e <;> subst e
      · exact hX.2.1
      · exact hX.2.2
    have z : sg_tn (yy_u (m 75) (339 + 125 * u) 0) u = 0 := yy_u_eq
    refine yy_Ao X1 X2 (yy_I_tx hI (fun v hv => ?_) (fun v hv => ?_) ?_ ?_ (fun k hk => ?_) (fun c hc a b e f => ?_)) ?_ ?_
    · rw [e75]
      by_cases e : v = u
      · subst e; exact ⟨by rw [z]; decide, by rw [z]; omega, fun k hk => by rw [z] at hk; omega⟩
      · exact sg_T_x (fun k h1 h2 => o k (by omega)) (t0 v hv)
    · rw [e75, yy_s_ne (by decide), yy_s_eq]
      by_cases e : v = u
      · subst e; rw [yy_u_eq]; exact Or.inl ⟨z, rfl⟩
      · rw [yy_u_ne e]; exact yy_TX_x (fun k h1 h2 => o k (by omega)) (t0 v hv).1.2 (x0 v hv)
    · rw [e75]; exact sg_D_eq (o _ (by omega)) (o _ (by omega)) (fun k hk => o k (by omega)) hG.2.2
    · rw [e75]; exact yy_DR_eq (fun c hc => by rw [yy_s_ne (by omega), yy_s_ne (by omega)]) (o _ (by omega)) (o _ (by omega)) (o _ (by omega)) (fun k hk => o k (by omega)) hR
    · rw [e75]; exact o k (by omega)
    · rw [yy_s_ne f, yy_s_ne e]
    · rw [yy_s_ne (by decide), yy_s_ne (by decide)]
    · rcases x0 u (by omega) with ⟨a, b⟩ | ⟨a, c, c', b, -⟩
      · rw [if_pos b, if_neg (by show ¬ 0 < sg_tn (m 75) u; omega)]
      · rw [if_neg (by rw [b]; intro h; cases h), if_pos (by exact a)]
  · exact r_112 hI h
