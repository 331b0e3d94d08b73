set_option maxRecDepth 20000 in
theorem a_103 {sc : List Int} {t : xm_W} {m : Nat → Nat → Int} {x1 : Int} (hI : yy_I t m) : yy_A sc t m 103 1141 [.inl x1] true := by
  by_cases h : 0 ≤ x1 ∧ x1 ≤ 9
  · obtain ⟨⟨hW, h1, hD⟩, hX, hR, -⟩ := id hI
    obtain ⟨⟨e1, e2, e3, e4, e5, e6, e7⟩, t0, t1⟩ := id hX
    have h3 := hW.1.2.2.2.1
    have o : ∀ k, k ≠ 2 → yy_u (m 75) 2 x1 k = m 75 k := fun k hk => yy_u_ne hk
    have R : sg_R (yy_u (m 75) 2 x1) := by
      obtain ⟨a0, a1, a2, a3, a4, a5⟩ := hW.1
      refine ⟨by rw [o _ (by omega)]; exact a0, by rw [o _ (by omega)]; exact a1, by rw [yy_u_eq]; exact h, by rw [o _ (by omega)]; exact a3, fun k hk => by rw [o _ (by omega)]; exact a4 k hk, fun i hi => ?_⟩
      obtain ⟨b0, b1, b2, b3, b4, b5, b6⟩ := a5 i hi
      rw [o _ (by omega), o _ (by omega), o _ (by omega), o _ (by omega), o _ (by omega), o _ (by omega)]
      exact ⟨b0, b1, b2, b3, b4, b5, fun k hk => by rw [o _ (by omega)]; exact b6 k hk⟩
    have ep : ∀ i w : Nat, sg_p (yy_u (m 75) 2 x1) i w = sg_p (m 75) i w := fun i w => o _ (by omega)
    have O : sg_O (yy_u (m 75) 2 x1) 0 := by
      refine ⟨fun i hi => ?_, fun i j hij hj => ?_⟩
      · rw [o _ (by omega)] at hi
        have := hW.2.1.1 i hi
        unfold sg_E at this ⊢
        rw [ep, ep, ep, ep, ep, o _ (by omega)]; exact this
      · rw [o _ (by omega)] at hj
        have := hW.2.1.2 i j hij hj
        unfold sg_lt at this ⊢
        rw [ep, ep, ep, ep]; exact this
    have B : sg_B (yy_u (m 75) 2 x1) := ⟨R.2.2.1, by rw [o _ (by omega)]; omega, fun i hi => ⟨(O.1 i hi).1.1, (O.1 i hi).1.2.2.2.1⟩⟩
    have H3 : 0 ≤ yy_u (m 75) 2 x1 3 ∧ yy_u (m 75) 2 x1 3 ≤ 41 := by rw [o _ (by omega)]; omega
    have co : ∀ k, k ≠ 3 → (k < 134 ∨ 339 ≤ k) → k ≠ 2 → sg_clr (sg_K (yy_u (m 75) 2 x1) 0 (-1)) (yy_u (m 75) 2 x1) k = m 75 k := fun k a b c => by rw [sg_clr_o H3 a b, o k c]
    have W : sg_W (sg_clr (sg_K (yy_u (m 75) 2 x1) 0 (-1)) (yy_u (m 75) 2 x1)) 0 := by
      obtain ⟨g, c1, c2, c3⟩ := sg_clr_p (K := sg_K (yy_u (m 75) 2 x1) 0 (-1)) H3
      refine ⟨sg_R_eq (fun k a b => sg_clr_o H3 b (Or.inl a)) (by rw [o 3 (by omega)] at c1; omega) R, sg_clr_O H3 O, sg_clr_S H3 O (fun i hi hK => ?_), sg_T_eq (by decide) (fun k a b => co k (by omega) (Or.inr a) (by omega)) hW.2.2.2.1, sg_T_eq (by decide) (fun k a b => co k (by omega) (Or.inr a) (by omega)) hW.2.2.2.2⟩
      unfold sg_K at hK
      rw [decide_eq_true_iff] at hK
      exact hK.2.2
    have M : yy_MR (yy_s m 1 1 x1) 1 (yy_u (m 75) 2 x1) := by
      refine ⟨by rw [yy_u_eq]; simp (disch := first | omega | (unfold xm_w; omega)) only [↓zy_at, xm_O_some, xm_Oi_some, xm_Ov_some, xm_Oq_some, ↓reduceIte, ↓zz_t, ↓zz_f, ↓zi_t, ↓zi_f, eq_self, yy_d_0, Int.reduceEq, Int.reduceLT, Int.reduceLE, Int.reduceNe, Int.reduceToNat, Int.reduceAdd, Int.reduceSub, Int.reduceMul, Int.reduceNeg, Nat.reduceAdd, Nat.reduceMul, Nat.reduceSub, Nat.reduceEqDiff, Nat.reduceLT, ne_eq, not_false_eq_true, not_true_eq_false, true_and, and_true, and_self, yy_s_eq, yy_s_ne, yy_c_eq, yy_c_ne, yy_u_eq, yy_u_ne, xm_w_id, yy_at, tdiv_pos, tmod_pos], by rw [o _ (by omega)]; simp (disch := first | omega | (unfold xm_w; omega)) only [↓zy_at, xm_O_some, xm_Oi_some, xm_Ov_some, xm_Oq_some, ↓reduceIte, ↓zz_t, ↓zz_f, ↓zi_t, ↓zi_f, eq_self, yy_d_0, Int.reduceEq, Int.reduceLT, Int.reduceLE, Int.reduceNe, Int.reduceToNat, Int.reduceAdd, Int.reduceSub, Int.reduceMul, Int.reduceNeg, Nat.reduceAdd, Nat.reduceMul, Nat.reduceSub, Nat.reduceEqDiff, Nat.reduceLT, ne_eq, not_false_eq_true, not_true_eq_false, true_and, and_true, and_self, yy_s_eq, yy_s_ne, yy_c_eq, yy_c_ne, yy_u_eq, yy_u_ne, xm_w_id, yy_at, tdiv_pos, tmod_pos]; exact e2, by rw [o _ (by omega)]; simp (disch := first | omega | (unfold xm_w; omega)) only [↓zy_at, xm_O_some, xm_Oi_some, xm_Ov_some, xm_Oq_some, ↓reduceIte, ↓zz_t, ↓zz_f, ↓zi_t, ↓zi_f, eq_self, yy_d_0, Int.reduceEq, Int.reduceLT, Int.reduceLE, Int.reduceNe, Int.reduceToNat, Int.reduceAdd, Int.reduceSub, Int.reduceMul, Int.reduceNeg, Nat.reduceAdd, Nat.reduceMul, Nat.reduceSub, Nat.reduceEqDiff, Nat.reduceLT, ne_eq, not_false_eq_true, not_true_eq_false, true_and, and_true, and_self, yy_s_eq, yy_s_ne, yy_c_eq, yy_c_ne, yy_u_eq, yy_u_ne, xm_w_id, yy_at, tdiv_pos, tmod_pos]; exact e3, by rw [o _ (by omega)]; simp (disch := first | omega | (unfold xm_w; omega)) only [↓zy_at, xm_O_some, xm_Oi_some, xm_Ov_some, xm_Oq_some, ↓reduceIte, ↓zz_t, ↓zz_f, ↓zi_t, ↓zi_f, eq_self, yy_d_0, Int.reduceEq, Int.reduceLT, Int.reduceLE, Int.reduceNe, Int.reduceToNat, Int.reduceAdd, Int.reduceSub, Int.reduceMul, Int.reduceNeg, Nat.reduceAdd, Nat.reduceMul, Nat.reduceSub, Nat.reduceEqDiff, Nat.reduceLT, ne_eq, not_false_eq_true, not_true_eq_false, true_and, and_true, and_self, yy_s_eq, yy_s_ne, yy_c_eq, yy_c_ne, yy_u_eq, yy_u_ne, xm_w_id, yy_at, tdiv_pos, tmod_pos]; exact e4, fun k hk => by rw [o _ (by omega)]; simp (disch := first | omega | (unfold xm_w; omega)) only [↓zy_at, xm_O_some, xm_Oi_some, xm_Ov_some, xm_Oq_some, ↓reduceIte, ↓zz_t, ↓zz_f, ↓zi_t, ↓zi_f, eq_self, yy_d_0, Int.reduceEq, Int.reduceLT, Int.reduceLE, Int.reduceNe, Int.reduceToNat, Int.reduceAdd, Int.reduceSub, Int.reduceMul, Int.reduceNeg, Nat.reduceAdd, Nat.reduceMul, Nat.reduceSub, Nat.reduceEqDiff, Nat.reduceLT, ne_eq, not_false_eq_true, not_true_eq_false, true_and, and_true, and_self, yy_s_eq, yy_s_ne, yy_c_eq, yy_c_ne, yy_u_eq, yy_u_ne, xm_w_id, yy_at, tdiv_pos, tmod_pos]; exact e5 k hk, fun k hk => by rw [o _ (by omega)]; simp (disch := first | omega | (unfold xm_w; omega)) only [↓zy_at, xm_O_some, xm_Oi_some, xm_Ov_some, xm_Oq_some, ↓reduceIte, ↓zz_t, ↓zz_f, ↓zi_t, ↓zi_f, eq_self, yy_d_0, Int.reduceEq, Int.reduceLT, Int.reduceLE, Int.reduceNe, Int.reduceToNat, Int.reduceAdd, Int.reduceSub, Int.reduceMul, Int.reduceNeg, Nat.reduceAdd, Nat.reduceMul, Nat.reduceSub, Nat.reduceEqDiff, Nat.reduceLT, ne_eq, not_false_eq_true, not_true_eq_false, true_and, and_true, and_self, yy_s_eq, yy_s_ne, yy_c_eq, yy_c_ne, yy_u_eq, yy_u_ne, xm_w_id, yy_at, tdiv_pos, tmod_pos]; exact e6 k hk, fun i hi => ⟨fun k hk => by rw [o _ (by omega)]; simp (disch := first | omega | (unfold xm_w; omega)) only [↓zy_at, xm_O_some, xm_Oi_some, xm_Ov_some, xm_Oq_some, ↓reduceIte, ↓zz_t, ↓zz_f, ↓zi_t, ↓zi_f, eq_self, yy_d_0, Int.reduceEq, Int.reduceLT, Int.reduceLE, Int.reduceNe, Int.reduceToNat, Int.reduceAdd, Int.reduceSub, Int.reduceMul, Int.reduceNeg, Nat.reduceAdd, Nat.reduceMul, Nat.reduceSub, Nat.reduceEqDiff, Nat.reduceLT, ne_eq, not_false_eq_true, not_true_eq_false, true_and, and_true, and_self, yy_s_eq, yy_s_ne, yy_c_eq, yy_c_ne, yy_u_eq, yy_u_ne, xm_w_id, yy_at, tdiv_pos, tmod_pos]; exact (e7 i hi).1 k hk, fun k hk => by rw [o _ (by omega)]; simp (disch := first | omega | (unfold xm_w; omega)) only [↓zy_at, xm_O_some, xm_Oi_some, xm_Ov_some, xm_Oq_some, ↓reduceIte, ↓zz_t, ↓zz_f, ↓zi_t, ↓zi_f, eq_self, yy_d_0, Int.reduceEq, Int.reduceLT, Int.reduceLE, Int.reduceNe, Int.reduceToNat, Int.reduceAdd, Int.reduceSub, Int.reduceMul, Int.reduceNeg, Nat.reduceAdd, Nat.reduceMul, Nat.reduceSub, Nat.reduceEqDiff, Nat.reduceLT, ne_eq, not_false_eq_true, not_true_eq_false, true_and, and_true, and_self, yy_s_eq, yy_s_ne, yy_c_eq, yy_c_ne, yy_u_eq, yy_u_ne, xm_w_id, yy_at, tdiv_pos, tmod_pos]; exact (e7 i hi).2 k hk⟩⟩
    obtain ⟨m1, c1, g1, g2, g3⟩ := c_409_1g (sc := sc) (d := 96) (t := t) (m := yy_s m 1 1 x1) M B (by rw [o _ (by omega)]; exact h3.2)
    have X1 : xm_X (xm_old sc) xm_mt (99 + 1) 103 [.inr (.inl (some 0)), .inl x1] (yy_W m t) = some (some (.inl (m 1 1)), yy_W m1 t) := by
      refine xm_X_of (M := xm_m103) rfl ⟨xm_EQ.eq (xb_103_0 ?_), rfl, rfl, Nat.le_of_ble_eq_true rfl, yy_hd rfl (by decide)⟩
      simp (disch := first | omega | (unfold xm_w; omega)) only [↓zy_at, xm_O_some, xm_Oi_some, xm_Ov_some, xm_Oq_some, ↓reduceIte, ↓zz_t, ↓zz_f, ↓zi_t, ↓zi_f, eq_self, yy_d_0, Int.reduceEq, Int.reduceLT, Int.reduceLE, Int.reduceNe, Int.reduceToNat, Int.reduceAdd, Int.reduceSub, Int.reduceMul, Int.reduceNeg, Nat.reduceAdd, Nat.reduceMul, Nat.reduceSub, Nat.reduceEqDiff, Nat.reduceLT, ne_eq, not_false_eq_true, not_true_eq_false, true_and, and_true, and_self, yy_s_eq, yy_s_ne, yy_c_eq, yy_c_ne, yy_u_eq, yy_u_ne, xm_w_id, yy_at, tdiv_pos, tmod_pos, ↓oc_142, ↓oc_143, ↓zr_0_0, ↓zr_0_1, ↓zr_0_2, ↓zr_0_3, ↓zr_0_4, ↓zf_0_5, ↓zs_0_5, ↓zr_0_6, ↓zr_0_7, ↓zr_0_8, ↓zr_0_9, ↓zr_0_10, ↓zr_1_0, ↓zf_1_1, ↓zs_1_1, ↓zf_1_2, ↓zs_1_2, ↓zr_1_3, ↓zf_1_4, ↓zs_1_4, ↓zr_1_5, ↓zf_1_6, ↓zs_1_6, ↓zr_1_7, ↓zr_1_8, ↓zr_1_9, ↓zi_2, ↓zt_2]
      rw [c1]
      simp (disch := first | omega | (unfold xm_w; omega)) only [↓zy_at, xm_O_some, xm_Oi_some, xm_Ov_some, xm_Oq_some, ↓reduceIte, ↓zz_t, ↓zz_f, ↓zi_t, ↓zi_f, eq_self, yy_d_0, Int.reduceEq, Int.reduceLT, Int.reduceLE, Int.reduceNe, Int.reduceToNat, Int.reduceAdd, Int.reduceSub, Int.reduceMul, Int.reduceNeg, Nat.reduceAdd, Nat.reduceMul, Nat.reduceSub, Nat.reduceEqDiff, Nat.reduceLT, ne_eq, not_false_eq_true, not_true_eq_false, true_and, and_true, and_self, yy_s_eq, yy_s_ne, yy_c_eq, yy_c_ne, yy_u_eq, yy_u_ne, xm_w_id, yy_at, tdiv_pos, tmod_pos]
    have f75 : m1 75 = m 75 := by rw [g1 75 (by omega), yy_s_ne (by decide)]
    have X2 : xm_X (xm_old sc) xm_mt (99 + 1) 1141 [.inr (.inl (some 74)), .inl x1] (yy_W m1 t) = some (some (.inl (m 75 2)), yy_W (yy_c m1 75 (sg_clr (sg_K (yy_u (m 75) 2 x1) 0 (-1)) (yy_u (m 75) 2 x1))) t) := by
      refine xm_X_of (M := xm_m1141) rfl ⟨xm_EQ.eq (xb_1141_0 ?_), rfl, rfl, Nat.le_of_ble_eq_true rfl, yy_hd rfl (by decide)⟩
      simp (disch := first | omega | (unfold xm_w; omega)) only [↓zy_at, xm_O_some, xm_Oi_some, xm_Ov_some, xm_Oq_some, ↓reduceIte, ↓zz_t, ↓zz_f, ↓zi_t, ↓zi_f, eq_self, yy_d_0, Int.reduceEq, Int.reduceLT, Int.reduceLE, Int.reduceNe, Int.reduceToNat, Int.reduceAdd, Int.reduceSub, Int.reduceMul, Int.reduceNeg, Nat.reduceAdd, Nat.reduceMul, Nat.reduceSub, Nat.reduceEqDiff, Nat.reduceLT, ne_eq, not_false_eq_true, not_true_eq_false, true_and, and_true, and_self, yy_s_eq, yy_s_ne, yy_c_eq, yy_c_ne, yy_u_eq, yy_u_ne, xm_w_id, yy_at, tdiv_pos, tmod_pos, ↓oc_1103, ↓oc_1108, ↓zr_74_0, ↓zr_74_1, ↓zr_74_2, ↓zf_74_3, ↓zs_74_3, ↓zf_74_4, ↓zs_74_4, ↓zr_74_5, ↓zf_74_6, ↓zs_74_6, ↓zf_74_7, ↓zs_74_7, ↓zf_74_8, ↓zs_74_8, ↓zf_74_9, ↓zs_74_9, ↓zr_74_10, ↓zr_74_11, ↓zr_74_12, ↓zf_74_13, ↓zs_74_13, ↓zr_74_14, ↓zf_74_15, ↓zs_74_15, ↓zf_74_16, ↓zs_74_16, ↓zf_74_17, ↓zs_74_17, ↓zr_74_18, ↓zr_74_19, ↓zr_74_20, ↓zr_74_21, ↓zi_75, ↓zt_75, ↓oc_1113, f75]
      have e : yy_s m1 75 2 x1 = yy_c m1 75 (yy_u (m 75) 2 x1) := by unfold yy_s; rw [f75]
      rw [e, oc_1132 (d := 94) (by rw [yy_c_eq]; exact B), yy_c_eq, yy_c_c]
    refine yy_Ao X1 X2 (yy_I_mo hI (by rw [yy_c_eq]; exact W) ?_ ?_ (fun k hk => ?_) (fun c hc a b d => ?_)) ?_ e1
    · rw [yy_c_eq, co 1 (by decide) (Or.inl (by decide)) (by omega)]; exact h1
    · rw [yy_c_eq]
      refine yy_MX_fr (sg_W_T hW) hX ?_ (yy_MR_fr (fun c hc => by rw [yy_c_ne (by omega)]) g2) (fun k a b => co k (by omega) (Or.inr a) (by omega))
      rw [yy_c_ne (by decide), g1 5 (by omega), yy_s_ne (by decide)]
    · rw [yy_c_eq]; exact co k (by omega) (by omega) (by omega)
    · rw [yy_c_ne d, g1 c (by omega), yy_s_ne (by omega)]
    · rw [yy_c_ne (by decide), g1 0 (by omega), yy_s_ne (by decide)]
  · exact r_103 hI h
/-! names, pile, stack: cells that the relation doesn't speak of -/
set_option maxRecDepth 20000 in
theorem yy_I_rd {t : xm_W} {m m1 m2 : Nat → Nat → Int} (hI : yy_I t m) (h1 : ∀ c, ¬ yy_no c → m1 c = m c) (h2 : ∀ c, ¬ yy_no c → m2 c = m1 c) : yy_I t m2 := yy_I_n (fun c hc => by rw [h2 c hc, h1 c hc]) hI
set_option maxRecDepth 20000 in
theorem a_105 {sc : List Int} {t : xm_W} {m : Nat → Nat → Int} {x1 x2 : Int} (hI : yy_I t m) : yy_A sc t m 105 1145 [.inl x1, .inl x2] true := by
  by_cases h : (0 ≤ x1 ∧ x1 ≤ m 1 4 - 1) ∧ (0 ≤ x2 ∧ x2 ≤ 19)
  · obtain ⟨⟨e0, e3, e1, e2⟩, hR⟩ := yy_I_0 hI
    have b0 := hR.1
    obtain ⟨r, rfl⟩ : ∃ r : Nat, x1 = r := ⟨x1.toNat, by omega⟩
    have X1 : xm_X (xm_old sc) xm_mt (99 + 1) 105 [.inr (.inl (some 0)), .inl (r : Int), .inl x2] (yy_W m t) = some (some (.inl (sg_rf (m 75) r x2)), yy_W m t) := by
      refine xm_X_of (M := xm_m105) rfl ⟨xm_EQ.eq (xb_105_0 ?_), rfl, rfl, Nat.le_of_ble_eq_true rfl, yy_hd rfl (by decide)⟩
      rw [oc_141 (d := 97) (by omega) (by omega), zz_t h.1, oc_144 (d := 97), zz_t h.2, zr_0_0, oc_412_1 (d := 96) (by omega) hI.2.1.1 hR h.2]
    have X2 : xm_X (xm_old sc) xm_mt (99 + 1) 1145 [.inr (.inl (some 74)), .inl (r : Int), .inl x2] (yy_W m t) = some (some (.inl (sg_rf (m 75) r x2)), yy_W m t) := by
      refine xm_X_of (M := xm_m1145) rfl ⟨xm_EQ.eq (xb_1145_0 ?_), rfl, rfl, Nat.le_of_ble_eq_true rfl, yy_hd rfl (by decide)⟩
      rw [oc_1109 (d := 97) (by omega) (by omega), zz_t (by omega), oc_1103 (d := 98), zz_t h.2, oc_1144 (d := 96) (by omega) rfl hR h.2]
    exact yy_Ao X1 X2 hI rfl rfl
  · exact r_105 hI h
set_option maxRecDepth 20000 in
theorem a_116 {sc : List Int} {t : xm_W} {m : Nat → Nat → Int} {x1 x2 : Int} (hI : yy_I t m) : yy_A sc t m 116 1162 [.inl x1, .inl x2] true := by
  by_cases h : (0 ≤ x1 ∧ x1 ≤ m 1 6 - 1) ∧ (0 ≤ x2 ∧ x2 ≤ 4)
  · obtain ⟨⟨e0, e3, e1, e2⟩, hR⟩ := yy_I_0 hI
    have b3 := hR.2.2.2.1
    have f := hI.2.1.1.2.2.2.2.2.1 (x1 * 5 + x2).toNat (by omega)
    have f : m 4 (x1 * 5 + x2).toNat = m 75 (134 + 5 * x1 + x2).toNat := by rw [show (134 + 5 * x1 + x2).toNat = 134 + (x1 * 5 + x2).toNat by omega]; exact f
    have X1 : xm_X (xm_old sc) xm_mt (99 + 1) 116 [.inr (.inl (some 0)), .inl x1, .inl x2] (yy_W m t) = some (some (.inl (m 75 (134 + 5 * x1 + x2).toNat)), yy_W m t) := by
      refine xm_X_of (M := xm_m116) rfl ⟨xm_EQ.eq (xb_116_0 ?_), rfl, rfl, Nat.le_of_ble_eq_true rfl, yy_hd rfl (by decide)⟩
      simp (disch := first | omega | (unfold xm_w; omega)) only [↓zy_at, xm_O_some, xm_Oi_some, xm_Ov_some, xm_Oq_some, ↓reduceIte, ↓zz_t, ↓zz_f, ↓zi_t, ↓zi_f, eq_self, yy_d_0, Int.reduceEq, Int.reduceLT, Int.reduceLE, Int.reduceNe, Int.reduceToNat, Int.reduceAdd, Int.reduceSub, Int.reduceMul, Int.reduceNeg, Nat.reduceAdd, Nat.reduceMul, Nat.reduceSub, Nat.reduceEqDiff, Nat.reduceLT, ne_eq, not_false_eq_true, not_true_eq_false, true_and, and_true, and_self, yy_s_eq, yy_s_ne, yy_c_eq, yy_c_ne, yy_u_eq, yy_u_ne, xm_w_id, yy_at, tdiv_pos, tmod_pos, ↓oc_142, ↓zr_0_0, ↓zr_0_1, ↓zr_0_2, ↓zr_0_3, ↓zr_0_4, ↓zf_0_5, ↓zs_0_5, ↓zr_0_6, ↓zr_0_7, ↓zr_0_8, ↓zr_0_9, ↓zr_0_10, ↓zr_1_0, ↓zf_1_1, ↓zs_1_1, ↓zf_1_2, ↓zs_1_2, ↓zr_1_3, ↓zf_1_4, ↓zs_1_4, ↓zr_1_5, ↓zf_1_6, ↓zs_1_6, ↓zr_1_7, ↓zr_1_8, ↓zr_1_9, ↓zi_4, ↓zt_4, f]
    have X2 : xm_X (xm_old sc) xm_mt (99 + 1) 1162 [.inr (.inl (some 74)), .inl x1, .inl x2] (yy_W m t) = some (some (.inl (m 75 (134 + 5 * x1 + x2).toNat)), yy_W m t) := by
      refine xm_X_of (M := xm_m1162) rfl ⟨xm_EQ.eq (xb_1162_0 ?_), rfl, rfl, Nat.le_of_ble_eq_true rfl, yy_hd rfl (by decide)⟩
      rw [e3] at h
      simp (disch := first | omega | (unfold xm_w; omega)) only [↓zy_at, xm_O_some, xm_Oi_some, xm_Ov_some, xm_Oq_some, ↓reduceIte, ↓zz_t, ↓zz_f, ↓zi_t, ↓zi_f, eq_self, yy_d_0, Int.reduceEq, Int.reduceLT, Int.reduceLE, Int.reduceNe, Int.reduceToNat, Int.reduceAdd, Int.reduceSub, Int.reduceMul, Int.reduceNeg, Nat.reduceAdd, Nat.reduceMul, Nat.reduceSub, Nat.reduceEqDiff, Nat.reduceLT, ne_eq, not_false_eq_true, not_true_eq_false, true_and, and_true, and_self, yy_s_eq, yy_s_ne, yy_c_eq, yy_c_ne, yy_u_eq, yy_u_ne, xm_w_id, yy_at, tdiv_pos, tmod_pos, ↓oc_1103, ↓zr_74_0, ↓zr_74_1, ↓zr_74_2, ↓zf_74_3, ↓zs_74_3, ↓zf_74_4, ↓zs_74_4, ↓zr_74_5, ↓zf_74_6, ↓zs_74_6, ↓zf_74_7, ↓zs_74_7, ↓zf_74_8, ↓zs_74_8, ↓zf_74_9, ↓zs_74_9, ↓zr_74_10, ↓zr_74_11, ↓zr_74_12, ↓zf_74_13, ↓zs_74_13, ↓zr_74_14, ↓zf_74_15, ↓zs_74_15, ↓zf_74_16, ↓zs_74_16, ↓zf_74_17, ↓zs_74_17, ↓zr_74_18, ↓zr_74_19, ↓zr_74_20, ↓zr_74_21, ↓zi_75, ↓zt_75, ↓oc_1112]
    exact yy_Ao X1 X2 hI rfl rfl
  · exact r_116 hI h
set_option maxRecDepth 20000 in
theorem a_117 {sc : List Int} {t : xm_W} {m : Nat → Nat → Int} {x1 x2 : Int} (hI : yy_I t m) : yy_A sc t m 117 1168 [.inl x1, .inl x2] true := by
  by_cases h : (0 ≤ x1 ∧ x1 ≤ 35) ∧ (0 ≤ x2 ∧ x2 ≤ 4)
  · obtain ⟨m1, c1, g1⟩ := c_413_1g (sc := sc) (d := 94) (t := t) (m := m) (y := x2) hI.2.1 hI.1.1 h.1
    have f75 : m1 75 = m 75 := g1 75 (by decide) (by decide)
    obtain ⟨m2, c2, g2⟩ := c_1167 (sc := sc) (d := 94) (t := t) (m := m1) (y := x2) f75 hI.1.1 h.1
    have X1 : xm_X (xm_old sc) xm_mt (99 + 1) 117 [.inr (.inl (some 0)), .inl x1, .inl x2] (yy_W m t) = some (some (.inl (sg_cf (m 75) x1 x2)), yy_W m1 t) := by
      refine xm_X_of (M := xm_m117) rfl ⟨xm_EQ.eq (xb_117_0 ?_), rfl, rfl, Nat.le_of_ble_eq_true rfl, yy_hd rfl (by decide)⟩
      rw [oc_143 (d := 97), zz_t h.1, oc_145 (d := 97), zz_t h.2, zr_0_0, c1, xm_Oi_some]
    have X2 : xm_X (xm_old sc) xm_mt (99 + 1) 1168 [.inr (.inl (some 74)), .inl x1, .inl x2] (yy_W m1 t) = some (some (.inl (sg_cf (m 75) x1 x2)), yy_W m2 t) := by
      refine xm_X_of (M := xm_m1168) rfl ⟨xm_EQ.eq (xb_1168_0 ?_), rfl, rfl, Nat.le_of_ble_eq_true rfl, yy_hd rfl (by decide)⟩
      rw [oc_1108 (d := 97), zz_t h.1, oc_1103 (d := 98), zz_t h.2, c2, xm_Oi_some]
    exact yy_Ao X1 X2 (yy_I_rd hI (fun c hc => g1 c (by unfold yy_no at hc; omega) (by unfold yy_no at hc; omega)) (fun c hc => g2 c (by unfold yy_no at hc; omega) (by unfold yy_no at hc; omega))) (by rw [g2 0 (by decide) (by decide), g1 0 (by decide) (by decide)]) rfl
  · exact r_117 hI h
set_option maxRecDepth 20000 in
theorem a_118 {sc : List Int} {t : xm_W} {m : Nat → Nat → Int} {x1 x2 x3 x4 : Int} (hI : yy_I t m) : yy_A sc t m 118 1170 [.inl x1, .inl x2, .inl x3, .inl x4] true := by
  by_cases h : (0 ≤ x1 ∧ x1 ≤ 35) ∧ (0 ≤ x2 ∧ x2 ≤ 1) ∧ (0 ≤ x3 ∧ x3 ≤ 40) ∧ (0 ≤ x4 ∧ x4 ≤ 1)
  · have X1 : xm_X (xm_old sc) xm_mt (99 + 1) 118 [.inr (.inl (some 0)), .inl x1, .inl x2, .inl x3, .inl x4] (yy_W m t) = some (some (.inl (if x4 = 0 then (sg_tr (m 75) x2 x3.toNat x1 0).1 else (sg_tr (m 75) x2 x3.toNat x1 0).2)), yy_W m t) := by
      refine xm_X_of (M := xm_m118) rfl ⟨xm_EQ.eq (xb_118_0 ?_), rfl, rfl, Nat.le_of_ble_eq_true rfl, yy_hd rfl (by decide)⟩
      rw [oc_143 (d := 97), zz_t h.1, oc_142 (d := 98), zz_t h.2.1, oc_142 (d := 98), zz_t h.2.2.1, oc_142 (d := 98), zz_t h.2.2.2, zr_0_0, oc_418_1g (d := 96) hI.2.1.1 hI.1.1 h.1 h.2.2.1]
    obtain ⟨m2, c2, g1, g2, g3⟩ := c_1169 (sc := sc) (d := 95) (t := t) (m := m) (bl := x2) (b2 := if x2 = 0 then 1 else 0) rfl rfl hI.1.1 h.1 h.2.2.1
    have X2 : xm_X (xm_old sc) xm_mt (99 + 1) 1170 [.inr (.inl (some 74)), .inl x1, .inl x2, .inl x3, .inl x4] (yy_W m t) = some (some (.inl (if x4 = 0 then (sg_tr (m 75) x2 x3.toNat x1 0).1 else (sg_tr (m 75) x2 x3.toNat x1 0).2)), yy_W m2 t) := by
      refine xm_X_of (M := xm_m1170) rfl ⟨xm_EQ.eq (xb_1170_0 ?_), rfl, rfl, Nat.le_of_ble_eq_true rfl, yy_hd rfl (by decide)⟩
      rw [oc_1108 (d := 97), zz_t h.1, oc_1103 (d := 98), zz_t h.2.1, oc_1103 (d := 98), zz_t h.2.2.1, oc_1103 (d := 98), zz_t h.2.2.2]
      by_cases e : x2 = 0
      · rw [if_pos e] at c2
        rw [if_pos e, c2, xm_Oi_some]
        by_cases e4 : x4 = 0
        · rw [if_pos e4, if_pos e4]
        · rw [if_neg e4, if_neg e4, zf_74_13, g3]
      · rw [if_neg e] at c2
        rw [if_neg e, c2, xm_Oi_some]
        by_cases e4 : x4 = 0
        · rw [if_pos e4, if_pos e4]
        · rw [if_neg e4, if_neg e4, zf_74_13, g3]
    refine yy_Ao X1 X2 (yy_I_no (fun c hc h1 h2 h3 => g1 c h3) ?_ ?_ ?_ ?_ hI) (g1 0 (by decide)) rfl
    · rw [g1 61 (by decide)]; exact hI.2.2.2.2.2.2.1
    · exact g2 3 (by decide)
    · exact g2 4 (by decide)
    · rw [g2 15 (by decide)]; exact hI.2.2.2.2.2.2.2
  · exact r_118 hI h
set_option maxRecDepth 20000 in
theorem a_121 {sc : List Int} {t : xm_W} {m : Nat → Nat → Int} {x1 x2 x3 : Int} (hI : yy_I t m) : yy_A sc t m 121 1174 [.inl x1, .inl x2, .inl x3] true := by
  by_cases h : (0 ≤ x1 ∧ x1 ≤ 99) ∧ (0 ≤ x2 ∧ x2 ≤ 59) ∧ (0 ≤ x3 ∧ x3 ≤ 1)
  · obtain ⟨m1, c1, g1⟩ := c_121 (sc := sc) (d := 96) (t := t) (m := m) h.1 h.2.1 h.2.2
    obtain ⟨m2, c2, g2⟩ := c_1174 (sc := sc) (d := 96) (t := t) (m := m1) h.1 h.2.1 h.2.2
    exact yy_Ao c1 c2 (yy_I_rd hI (fun c hc => g1 c (by unfold yy_no at hc; omega)) (fun c hc => g2 c (by unfold yy_no at hc; omega))) (by rw [g2 0 (by decide), g1 0 (by decide)]) rfl
  · exact r_121 hI h
set_option maxRecDepth 20000 in
theorem a_127 {sc : List Int} {t : xm_W} {m : Nat → Nat → Int} {x1 : Int} (hI : yy_I t m) : yy_A sc t m 127 1195 [.inl x1] false := by
  have hs := hI.2.2.2.2.2
  have X1 : ∃ z m1, xm_X (xm_old sc) xm_mt (99 + 1) 127 [.inr (.inl (some 0)), .inl x1] (yy_W m t) = some (some (.inl z), yy_W m1 t) ∧ ∀ c, c ≠ 65 → m1 c = m c := by
    by_cases h : 0 ≤ x1 ∧ x1 ≤ m 61 1 - 1
    · refine ⟨m 62 x1.toNat, m, ?_, fun _ _ => rfl⟩
      have hs1 := hs.2.1
      refine xm_X_of (M := xm_m127) rfl ⟨xm_EQ.eq (xb_127_0 ?_), rfl, rfl, Nat.le_of_ble_eq_true rfl, yy_hd rfl (by decide)⟩
      simp (disch := first | omega | (unfold xm_w; omega)) only [↓zy_at, xm_O_some, xm_Oi_some, xm_Ov_some, xm_Oq_some, ↓reduceIte, ↓zz_t, ↓zz_f, ↓zi_t, ↓zi_f, eq_self, yy_d_0, Int.reduceEq, Int.reduceLT, Int.reduceLE, Int.reduceNe, Int.reduceToNat, Int.reduceAdd, Int.reduceSub, Int.reduceMul, Int.reduceNeg, Nat.reduceAdd, Nat.reduceMul, Nat.reduceSub, Nat.reduceEqDiff, Nat.reduceLT, ne_eq, not_false_eq_true, not_true_eq_false, true_and, and_true, and_self, yy_s_eq, yy_s_ne, yy_c_eq, yy_c_ne, yy_u_eq, yy_u_ne, xm_w_id, yy_at, tdiv_pos, tmod_pos, ↓oc_142, ↓zr_0_0, ↓zr_0_1, ↓zr_0_2, ↓zr_0_3, ↓zr_0_4, ↓zf_0_5, ↓zs_0_5, ↓zr_0_6, ↓zr_0_7, ↓zr_0_8, ↓zr_0_9, ↓zr_0_10, ↓zr_61_0, ↓zf_61_1, ↓zs_61_1, ↓zf_61_2, ↓zs_61_2, ↓zf_61_3, ↓zs_61_3, ↓zf_61_4, ↓zs_61_4, ↓zi_62, ↓zt_62]
    · exact ⟨_, _, f_127 (d := 96) hs.2.1.1 hs.2.1.2 h, fun c hc => yy_s_ne hc⟩
  obtain ⟨z, m1, c1, g1⟩ := X1
  have e74 : m1 74 = m 74 := g1 74 (by decide)
  have X2 : ∃ z m2, xm_X (xm_old sc) xm_mt (99 + 1) 1195 [.inr (.inl (some 74)), .inl x1] (yy_W m1 t) = some (some (.inl z), yy_W m2 t) ∧ ∀ c, c ≠ 78 → m2 c = m1 c := by
    by_cases h : 0 ≤ x1 ∧ x1 ≤ m1 74 15 - 1
    · refine ⟨m1 82 x1.toNat, m1, ?_, fun _ _ => rfl⟩
      have := hs.2.2
      rw [← e74] at this
      refine xm_X_of (M := xm_m1195) rfl ⟨xm_EQ.eq (xb_1195_0 ?_), rfl, rfl, Nat.le_of_ble_eq_true rfl, yy_hd rfl (by decide)⟩
      simp (disch := first | omega | (unfold xm_w; omega)) only [↓zy_at, xm_O_some, xm_Oi_some, xm_Ov_some, xm_Oq_some, ↓reduceIte, ↓zz_t, ↓zz_f, ↓zi_t, ↓zi_f, eq_self, yy_d_0, Int.reduceEq, Int.reduceLT, Int.reduceLE, Int.reduceNe, Int.reduceToNat, Int.reduceAdd, Int.reduceSub, Int.reduceMul, Int.reduceNeg, Nat.reduceAdd, Nat.reduceMul, Nat.reduceSub, Nat.reduceEqDiff, Nat.reduceLT, ne_eq, not_false_eq_true, not_true_eq_false, true_and, and_true, and_self, yy_s_eq, yy_s_ne, yy_c_eq, yy_c_ne, yy_u_eq, yy_u_ne, xm_w_id, yy_at, tdiv_pos, tmod_pos, ↓oc_1103, ↓zr_74_0, ↓zr_74_1, ↓zr_74_2, ↓zf_74_3, ↓zs_74_3, ↓zf_74_4, ↓zs_74_4, ↓zr_74_5, ↓zf_74_6, ↓zs_74_6, ↓zf_74_7, ↓zs_74_7, ↓zf_74_8, ↓zs_74_8, ↓zf_74_9, ↓zs_74_9, ↓zr_74_10, ↓zr_74_11, ↓zr_74_12, ↓zf_74_13, ↓zs_74_13, ↓zr_74_14, ↓zf_74_15, ↓zs_74_15, ↓zf_74_16, ↓zs_74_16, ↓zf_74_17, ↓zs_74_17, ↓zr_74_18, ↓zr_74_19, ↓zr_74_20, ↓zr_74_21, ↓zi_82, ↓zt_82]
    · exact ⟨_, _, f_1195 (d := 96) (by rw [e74]; exact hs.2.2.1) (by rw [e74]; exact hs.2.2.2) h, fun c hc => yy_s_ne hc⟩
  obtain ⟨z', m2, c2, g2⟩ := X2
  exact ⟨z, m1, t, z', m2, c1, c2, yy_I_rd hI (fun c hc => g1 c (by unfold yy_no at hc; omega)) (fun c hc => g2 c (by unfold yy_no at hc; omega)), by omega, by omega, by rw [g2 0 (by decide), g1 0 (by decide)]; omega, fun h => by cases h⟩
