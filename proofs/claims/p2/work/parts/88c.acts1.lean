set_option maxRecDepth 20000 in
theorem yy_I_75 {t : xm_W} {m m' : Nat → Nat → Int} (hI : yy_I t m) (hG : sg_G (m' 75)) (hX : yy_MX t m' 1 (m' 75)) (hD : yy_DR m' 35 (m' 75)) (h : ∀ c, c < 87 → ¬ yy_no c → ¬ (1 ≤ c ∧ c < 18) → ¬ (35 ≤ c ∧ c < 38) → c ≠ 75 → m' c = m c) : yy_I t m' := by
  obtain ⟨a, b, c, d, e, f⟩ := hI
  have h0 : m' 0 = m 0 := h 0 (by decide) (by unfold yy_no; omega) (by omega) (by omega) (by decide)
  have h74 : m' 74 = m 74 := h 74 (by decide) (by unfold yy_no; omega) (by omega) (by omega) (by decide)
  have h61 : m' 61 = m 61 := h 61 (by decide) (by unfold yy_no; omega) (by omega) (by omega) (by decide)
  refine ⟨hG, hX, hD, yy_KE_r (fun c hc => h c (by omega) (by unfold yy_no; omega) (by omega) (by omega) (by omega)) (by rw [h0]) (by rw [h74]) d, yy_SH_r (fun c hc => h c (by omega) (by unfold yy_no; omega) (by omega) (by omega) (by omega)) e, ?_⟩
  unfold yy_SP
  rw [h74, h61]; exact f
/-! the desk stays in the row where the moor alone changes -/
set_option maxRecDepth 20000 in
theorem sg_D_eq {s s' : Nat → Int} (h4 : s' 4 = s 4) (h5 : s' 5 = s 5) (h : ∀ k, 589 ≤ k → s' k = s k) (hD : sg_D s) : sg_D s' :=
  ⟨by rw [h4]; exact hD.1, by rw [h5]; exact hD.2.1, fun k hk => by rw [h _ (by omega)]; exact hD.2.2 k hk⟩
set_option maxRecDepth 20000 in
theorem yy_DR_eq {m m' : Nat → Nat → Int} {a : Nat} {s s' : Nat → Int} (hm : ∀ c, (c = a ∨ c = a + 1 ∨ c = a + 2) → m' c = m c) (h4 : s' 4 = s 4) (h5 : s' 5 = s 5) (h6 : s' 6 = s 6) (h : ∀ k, 589 ≤ k → s' k = s k) (hD : yy_DR m a s) : yy_DR m' a s' := by
  obtain ⟨a1, a2, a3, a4, a5⟩ := yy_DR_r hm hD
  exact ⟨by rw [h4]; exact a1, by rw [h5]; exact a2, by rw [h6]; exact a3, fun k hk => by rw [h _ (by omega)]; exact a4 k hk, fun k hk => by rw [h _ (by omega)]; exact a5 k hk⟩
set_option maxRecDepth 20000 in
theorem sg_R_q {s s' : Nat → Int} (h : ∀ k, (k < 4 ∨ (8 ≤ k ∧ k < 589)) → s' k = s k) (hR : sg_R s) : sg_R s' := by
  obtain ⟨a0, a1, a2, a3, a4, a5⟩ := hR
  refine ⟨by rw [h 0 (by omega)]; exact a0, by rw [h 1 (by omega)]; exact a1, by rw [h 2 (by omega)]; exact a2, by rw [h 3 (by omega)]; exact a3, fun k hk => by rw [h _ (by omega)]; exact a4 k hk, fun i hi => ?_⟩
  obtain ⟨b0, b1, b2, b3, b4, b5, b6⟩ := a5 i hi
  rw [h _ (by omega), h _ (by omega), h _ (by omega), h _ (by omega), h _ (by omega), h _ (by omega)]
  exact ⟨b0, b1, b2, b3, b4, b5, fun k hk => by rw [h _ (by omega)]; exact b6 k hk⟩
set_option maxRecDepth 20000 in
theorem sg_W_q {s s' : Nat → Int} {r : Int} (h : ∀ k, (k < 4 ∨ (8 ≤ k ∧ k < 589)) → s' k = s k) (hW : sg_W s r) : sg_W s' r := by
  obtain ⟨hR, hO, hS, hT, hT1⟩ := hW
  have h3 := hR.2.2.2.1
  have e3 : s' 3 = s 3 := h _ (by omega)
  have e1 : s' 1 = s 1 := h _ (by omega)
  have ep : ∀ i w : Nat, (i : Int) < s 3 → w < 5 → sg_p s' i w = sg_p s i w := fun i w hi hw => h _ (by omega)
  refine ⟨sg_R_q h hR, ⟨fun i hi => ?_, fun i j hij hj => ?_⟩, fun i hi => ?_, sg_T_eq (by decide) (fun k h1 h2 => h k (by omega)) hT, sg_T_eq (by decide) (fun k h1 h2 => h k (by omega)) hT1⟩
  · rw [e3] at hi
    have := hO.1 i hi
    unfold sg_E at this ⊢
    rw [ep i 0 hi (by decide), ep i 1 hi (by decide), ep i 2 hi (by decide), ep i 3 hi (by decide), ep i 4 hi (by decide), e1]; exact this
  · rw [e3] at hj
    have := hO.2 i j hij hj
    unfold sg_lt at this ⊢
    rw [ep i 3 (by omega) (by decide), ep i 4 (by omega) (by decide), ep j 3 hj (by decide), ep j 4 hj (by decide)]; exact this
  · rw [e3] at hi
    have := hS i hi
    have c := (hO.1 i hi).1.1
    rw [ep i 3 hi (by decide), ep i 0 hi (by decide), e1, sg_k_eq (h 2 (by omega)) (h _ (by omega))]
    exact this
set_option maxRecDepth 20000 in
theorem yy_MX_q {t : xm_W} {m m' : Nat → Nat → Int} {b : Nat} {s s' : Nat → Int} (hT : sg_tn s 0 ≤ 60 ∧ sg_tn s 1 ≤ 60) (h : ∀ k, (k < 4 ∨ (8 ≤ k ∧ k < 589)) → s' k = s k) (hm : ∀ c, (b ≤ c ∧ c < b + 17) → m' c = m c) (hM : yy_MX t m b s) : yy_MX t m' b s' := by
  obtain ⟨e1, e2, e3, e4, e5, e6, e7⟩ := hM.1
  have hb := hm b (by omega)
  refine ⟨⟨by rw [hb, h 2 (by omega)]; exact e1, by rw [hb, h 1 (by omega)]; exact e2, by rw [hb, h 0 (by omega)]; exact e3, by rw [hb, h 3 (by omega)]; exact e4, fun k hk => by rw [hm _ (by omega), h _ (by omega)]; exact e5 k hk, fun k hk => by rw [hm _ (by omega), h _ (by omega)]; exact e6 k hk, fun i hi => ⟨fun k hk => by rw [hm _ (by omega), h _ (by omega)]; exact (e7 i hi).1 k hk, fun k hk => by rw [hm _ (by omega), h _ (by omega)]; exact (e7 i hi).2 k hk⟩⟩, ?_, ?_⟩
  · rw [hm _ (by omega)]; exact yy_TX_eq (by decide) hT.1 (fun k h1 h2 => h k (by omega)) hM.2.1
  · rw [hm _ (by omega)]; exact yy_TX_eq (by decide) hT.2 (fun k h1 h2 => h k (by omega)) hM.2.2
/-! an act on the desk alone -/
set_option maxRecDepth 20000 in
theorem yy_I_dk {t : xm_W} {m m' : Nat → Nat → Int} (hI : yy_I t m) (h : ∀ c, c < 87 → ¬ yy_no c → ¬ (35 ≤ c ∧ c < 38) → c ≠ 75 → m' c = m c) (h75 : ∀ k, (k < 4 ∨ (8 ≤ k ∧ k < 589)) → m' 75 k = m 75 k) (hD : sg_D (m' 75)) (hR : yy_DR m' 35 (m' 75)) : yy_I t m' := by
  obtain ⟨⟨hW, h1, -⟩, hX, -⟩ := id hI
  exact yy_I_75 hI ⟨sg_W_q h75 hW, by rw [h75 1 (by omega)]; exact h1, hD⟩ (by
    obtain ⟨⟨e1, e2, e3, e4, e5, e6, e7⟩, t0, t1⟩ := hX
    have hb : m' 1 = m 1 := h 1 (by decide) (by unfold yy_no; omega) (by omega) (by decide)
    have hm : ∀ c, c = 2 ∨ c = 4 ∨ c = 5 ∨ (8 ≤ c ∧ c < 18) → m' c = m c := fun c hc => h c (by omega) (by unfold yy_no; omega) (by omega) (by omega)
    refine ⟨⟨by rw [hb, h75 2 (by omega)]; exact e1, by rw [hb, h75 1 (by omega)]; exact e2, by rw [hb, h75 0 (by omega)]; exact e3, by rw [hb, h75 3 (by omega)]; exact e4, fun k hk => by rw [hm _ (by omega), h75 _ (by omega)]; exact e5 k hk, fun k hk => by rw [hm _ (by omega), h75 _ (by omega)]; exact e6 k hk, fun i hi => ⟨fun k hk => by rw [hm _ (by omega), h75 _ (by omega)]; exact (e7 i hi).1 k hk, fun k hk => by rw [hm _ (by omega), h75 _ (by omega)]; exact (e7 i hi).2 k hk⟩⟩, ?_, ?_⟩
    · rw [show (1 + 4 : Nat) = 5 from rfl, hm 5 (by omega)]; exact yy_TX_eq (by decide) (sg_W_T hW).1 (fun k h1 h2 => h75 k (by omega)) t0
    · rw [show (1 + 4 : Nat) = 5 from rfl, hm 5 (by omega)]; exact yy_TX_eq (by decide) (sg_W_T hW).2 (fun k h1 h2 => h75 k (by omega)) t1) hR (fun c hc h1 h2 h3 h4 => h c hc h1 h3 h4)
set_option maxRecDepth 20000 in
theorem a_115 {sc : List Int} {t : xm_W} {m : Nat → Nat → Int} {x1 : Int} (hI : yy_I t m) : yy_A sc t m 115 1161 [.inl x1] true := by
  obtain ⟨⟨hW, h1, hD⟩, hX, hR, -⟩ := id hI
  obtain ⟨d1, d2, d3, d4, d5⟩ := id hR
  have e75 : yy_s (yy_s m 35 4 x1) 75 6 x1 75 = yy_u (m 75) 6 x1 := by rw [yy_s_eq, yy_s_ne (by decide)]
  have o : ∀ k, k ≠ 6 → yy_u (m 75) 6 x1 k = m 75 k := fun k hk => yy_u_ne hk
  refine yy_Ao (c_115 (d := 99)) (c_1161 (d := 98)) (yy_I_dk hI (fun c hc h1 h2 h3 => by rw [yy_s_ne h3, yy_s_ne (by omega)]) (fun k hk => by rw [e75]; exact o k (by omega)) (by rw [e75]; exact sg_D_eq (o _ (by decide)) (o _ (by decide)) (fun k hk => o k (by omega)) hD) ?_) ?_ ?_
  · rw [e75]
    refine ⟨?_, ?_, ?_, fun k hk => ?_, fun k hk => ?_⟩
    · rw [o _ (by decide)]; simp (disch := first | omega | (unfold xm_w; omega)) only [↓zy_at, xm_O_some, xm_Oi_some, xm_Ov_some, xm_Oq_some, ↓reduceIte, ↓zz_t, ↓zz_f, ↓zi_t, ↓zi_f, eq_self, yy_d_0, Int.reduceEq, Int.reduceLT, Int.reduceLE, Int.reduceNe, Int.reduceToNat, Int.reduceAdd, Int.reduceSub, Int.reduceMul, Int.reduceNeg, Nat.reduceAdd, Nat.reduceMul, Nat.reduceSub, Nat.reduceEqDiff, Nat.reduceLT, ne_eq, not_false_eq_true, not_true_eq_false, true_and, and_true, and_self, yy_s_eq, yy_s_ne, yy_c_eq, yy_c_ne, yy_u_eq, yy_u_ne, xm_w_id, yy_at, tdiv_pos, tmod_pos]; exact d1
    · rw [o _ (by decide)]; simp (disch := first | omega | (unfold xm_w; omega)) only [↓zy_at, xm_O_some, xm_Oi_some, xm_Ov_some, xm_Oq_some, ↓reduceIte, ↓zz_t, ↓zz_f, ↓zi_t, ↓zi_f, eq_self, yy_d_0, Int.reduceEq, Int.reduceLT, Int.reduceLE, Int.reduceNe, Int.reduceToNat, Int.reduceAdd, Int.reduceSub, Int.reduceMul, Int.reduceNeg, Nat.reduceAdd, Nat.reduceMul, Nat.reduceSub, Nat.reduceEqDiff, Nat.reduceLT, ne_eq, not_false_eq_true, not_true_eq_false, true_and, and_true, and_self, yy_s_eq, yy_s_ne, yy_c_eq, yy_c_ne, yy_u_eq, yy_u_ne, xm_w_id, yy_at, tdiv_pos, tmod_pos]; exact d2
    · rw [yy_u_eq]; simp (disch := first | omega | (unfold xm_w; omega)) only [↓zy_at, xm_O_some, xm_Oi_some, xm_Ov_some, xm_Oq_some, ↓reduceIte, ↓zz_t, ↓zz_f, ↓zi_t, ↓zi_f, eq_self, yy_d_0, Int.reduceEq, Int.reduceLT, Int.reduceLE, Int.reduceNe, Int.reduceToNat, Int.reduceAdd, Int.reduceSub, Int.reduceMul, Int.reduceNeg, Nat.reduceAdd, Nat.reduceMul, Nat.reduceSub, Nat.reduceEqDiff, Nat.reduceLT, ne_eq, not_false_eq_true, not_true_eq_false, true_and, and_true, and_self, yy_s_eq, yy_s_ne, yy_c_eq, yy_c_ne, yy_u_eq, yy_u_ne, xm_w_id, yy_at, tdiv_pos, tmod_pos]
    · rw [o _ (by omega)]; simp (disch := first | omega | (unfold xm_w; omega)) only [↓zy_at, xm_O_some, xm_Oi_some, xm_Ov_some, xm_Oq_some, ↓reduceIte, ↓zz_t, ↓zz_f, ↓zi_t, ↓zi_f, eq_self, yy_d_0, Int.reduceEq, Int.reduceLT, Int.reduceLE, Int.reduceNe, Int.reduceToNat, Int.reduceAdd, Int.reduceSub, Int.reduceMul, Int.reduceNeg, Nat.reduceAdd, Nat.reduceMul, Nat.reduceSub, Nat.reduceEqDiff, Nat.reduceLT, ne_eq, not_false_eq_true, not_true_eq_false, true_and, and_true, and_self, yy_s_eq, yy_s_ne, yy_c_eq, yy_c_ne, yy_u_eq, yy_u_ne, xm_w_id, yy_at, tdiv_pos, tmod_pos]; exact d4 k hk
    · rw [o _ (by omega)]; simp (disch := first | omega | (unfold xm_w; omega)) only [↓zy_at, xm_O_some, xm_Oi_some, xm_Ov_some, xm_Oq_some, ↓reduceIte, ↓zz_t, ↓zz_f, ↓zi_t, ↓zi_f, eq_self, yy_d_0, Int.reduceEq, Int.reduceLT, Int.reduceLE, Int.reduceNe, Int.reduceToNat, Int.reduceAdd, Int.reduceSub, Int.reduceMul, Int.reduceNeg, Nat.reduceAdd, Nat.reduceMul, Nat.reduceSub, Nat.reduceEqDiff, Nat.reduceLT, ne_eq, not_false_eq_true, not_true_eq_false, true_and, and_true, and_self, yy_s_eq, yy_s_ne, yy_c_eq, yy_c_ne, yy_u_eq, yy_u_ne, xm_w_id, yy_at, tdiv_pos, tmod_pos]; exact d5 k hk
  · rw [yy_s_ne (by decide), yy_s_ne (by decide)]
  · rw [d3]; rw [yy_s_ne (by decide)]
set_option maxRecDepth 20000 in
theorem a_135 {sc : List Int} {t : xm_W} {m : Nat → Nat → Int} {x1 : Int} (hI : yy_I t m) : yy_A sc t m 135 1205 [.inl x1] true := by
  obtain ⟨⟨hW, h1, hD⟩, hX, hR, -⟩ := id hI
  obtain ⟨d1, d2, d3, d4, d5⟩ := id hR
  obtain ⟨g1, g2, g3⟩ := id hD
  by_cases h : m 75 5 = 24
  · exact yy_Ao (f_135 (d := 96) (by omega)) (f_1205 (d := 96) (by rw [yy_e75 (by decide)]; exact h)) (yy_I_ef hI) yy_ef0 rfl
  · have f5 : yy_s (yy_s m 37 (m 35 3).toNat x1) 35 3 (m 35 3 + 1) 75 = m 75 := by rw [yy_s_ne (by decide), yy_s_ne (by decide)]
    refine yy_Ao (c_135 (d := 96) (by omega) (by omega)) (c_1205 (d := 96) (by rw [f5]; omega) (by rw [f5]; omega)) ?_ ?_ ?_
    · rw [f5, d2]
      have e75 : yy_s (yy_s (yy_s (yy_s m 37 (m 75 5).toNat x1) 35 3 (m 75 5 + 1)) 75 (649 + m 75 5).toNat x1) 75 5 (m 75 5 + 1) 75 = yy_u (yy_u (m 75) (649 + m 75 5).toNat x1) 5 (m 75 5 + 1) := by
        rw [yy_s_eq, yy_s_eq, yy_s_ne (by decide), yy_s_ne (by decide)]
      have o : ∀ k, k ≠ 5 → k ≠ (649 + m 75 5).toNat → yy_u (yy_u (m 75) (649 + m 75 5).toNat x1) 5 (m 75 5 + 1) k = m 75 k := fun k h1 h2 => by rw [yy_u_ne h1, yy_u_ne h2]
      refine yy_I_dk hI (fun c hc h1 h2 h3 => by rw [yy_s_ne h3, yy_s_ne h3, yy_s_ne (by omega), yy_s_ne (by omega)]) (fun k hk => by rw [e75]; exact o k (by omega) (by omega)) (by rw [e75]; exact ⟨by rw [o _ (by decide) (by omega)]; exact g1, by rw [yy_u_eq]; omega, fun k hk => by rw [o _ (by omega) (by omega)]; exact g3 k hk⟩) ?_
      rw [e75]
      refine ⟨?_, ?_, ?_, fun k hk => ?_, fun k hk => ?_⟩
      · rw [o _ (by decide) (by omega)]; simp (disch := first | omega | (unfold xm_w; omega)) only [↓zy_at, xm_O_some, xm_Oi_some, xm_Ov_some, xm_Oq_some, ↓reduceIte, ↓zz_t, ↓zz_f, ↓zi_t, ↓zi_f, eq_self, yy_d_0, Int.reduceEq, Int.reduceLT, Int.reduceLE, Int.reduceNe, Int.reduceToNat, Int.reduceAdd, Int.reduceSub, Int.reduceMul, Int.reduceNeg, Nat.reduceAdd, Nat.reduceMul, Nat.reduceSub, Nat.reduceEqDiff, Nat.reduceLT, ne_eq, not_false_eq_true, not_true_eq_false, true_and, and_true, and_self, yy_s_eq, yy_s_ne, yy_c_eq, yy_c_ne, yy_u_eq, yy_u_ne, xm_w_id, yy_at, tdiv_pos, tmod_pos]; exact d1
      · rw [yy_u_eq]; simp (disch := first | omega | (unfold xm_w; omega)) only [↓zy_at, xm_O_some, xm_Oi_some, xm_Ov_some, xm_Oq_some, ↓reduceIte, ↓zz_t, ↓zz_f, ↓zi_t, ↓zi_f, eq_self, yy_d_0, Int.reduceEq, Int.reduceLT, Int.reduceLE, Int.reduceNe, Int.reduceToNat, Int.reduceAdd, Int.reduceSub, Int.reduceMul, Int.reduceNeg, Nat.reduceAdd, Nat.reduceMul, Nat.reduceSub, Nat.reduceEqDiff, Nat.reduceLT, ne_eq, not_false_eq_true, not_true_eq_false, true_and, and_true, and_self, yy_s_eq, yy_s_ne, yy_c_eq, yy_c_ne, yy_u_eq, yy_u_ne, xm_w_id, yy_at, tdiv_pos, tmod_pos]
      · rw [o _ (by decide) (by omega)]; simp (disch := first | omega | (unfold xm_w; omega)) only [↓zy_at, xm_O_some, xm_Oi_some, xm_Ov_some, xm_Oq_some, ↓reduceIte, ↓zz_t, ↓zz_f, ↓zi_t, ↓zi_f, eq_self, yy_d_0, Int.reduceEq, Int.reduceLT, Int.reduceLE, Int.reduceNe, Int.reduceToNat, Int.reduceAdd, Int.reduceSub, Int.reduceMul, Int.reduceNeg, Nat.reduceAdd, Nat.reduceMul, Nat.reduceSub, Nat.reduceEqDiff, Nat.reduceLT, ne_eq, not_false_eq_true, not_true_eq_false, true_and, and_true, and_self, yy_s_eq, yy_s_ne, yy_c_eq, yy_c_ne, yy_u_eq, yy_u_ne, xm_w_id, yy_at, tdiv_pos, tmod_pos]; exact d3
      · rw [o _ (by omega) (by omega)]; simp (disch := first | omega | (unfold xm_w; omega)) only [↓zy_at, xm_O_some, xm_Oi_some, xm_Ov_some, xm_Oq_some, ↓reduceIte, ↓zz_t, ↓zz_f, ↓zi_t, ↓zi_f, eq_self, yy_d_0, Int.reduceEq, Int.reduceLT, Int.reduceLE, Int.reduceNe, Int.reduceToNat, Int.reduceAdd, Int.reduceSub, Int.reduceMul, Int.reduceNeg, Nat.reduceAdd, Nat.reduceMul, Nat.reduceSub, Nat.reduceEqDiff, Nat.reduceLT, ne_eq, not_false_eq_true, not_true_eq_false, true_and, and_true, and_self, yy_s_eq, yy_s_ne, yy_c_eq, yy_c_ne, yy_u_eq, yy_u_ne, xm_w_id, yy_at, tdiv_pos, tmod_pos]; exact d4 k hk
      · simp (disch := first | omega | (unfold xm_w; omega)) only [↓zy_at, xm_O_some, xm_Oi_some, xm_Ov_some, xm_Oq_some, ↓reduceIte, ↓zz_t, ↓zz_f, ↓zi_t, ↓zi_f, eq_self, yy_d_0, Int.reduceEq, Int.reduceLT, Int.reduceLE, Int.reduceNe, Int.reduceToNat, Int.reduceAdd, Int.reduceSub, Int.reduceMul, Int.reduceNeg, Nat.reduceAdd, Nat.reduceMul, Nat.reduceSub, Nat.reduceEqDiff, Nat.reduceLT, ne_eq, not_false_eq_true, not_true_eq_false, true_and, and_true, and_self, yy_s_eq, yy_s_ne, yy_c_eq, yy_c_ne, yy_u_eq, yy_u_ne, xm_w_id, yy_at, tdiv_pos, tmod_pos]
        by_cases e : k = (m 75 5).toNat
        · subst e
          rw [yy_u_eq, show 649 + (m 75 5).toNat = (649 + m 75 5).toNat by omega, yy_u_eq]
        · rw [yy_u_ne e, yy_u_ne (by omega)]; exact d5 k hk
    · rw [yy_s_ne (by decide), yy_s_ne (by decide), yy_s_ne (by decide), yy_s_ne (by decide)]
    · rw [f5, d2]
set_option maxRecDepth 20000 in
theorem a_137 {sc : List Int} {t : xm_W} {m : Nat → Nat → Int} {x1 : Int} (hI : yy_I t m) : yy_A sc t m 137 1207 [.inl x1] false := by
  by_cases h : 0 ≤ x1 ∧ x1 ≤ 7
  · exact ⟨_, _, _, _, _, c_137 (d := 96) h, c_1207 (d := 96) h, hI, by omega, by omega, by omega, fun h => by cases h⟩
  · exact ⟨_, _, _, _, _, f_137 (d := 96) h, f_1207 (d := 96) h, yy_I_ef hI, by omega, by omega, by rw [yy_ef0]; omega, fun h => by cases h⟩
set_option maxRecDepth 20000 in
theorem a_138 {sc : List Int} {t : xm_W} {m : Nat → Nat → Int} {x1 : Int} (hI : yy_I t m) : yy_A sc t m 138 1208 [.inl x1] false := by
  by_cases h : 1 ≤ x1 ∧ x1 ≤ 6
  · exact ⟨_, _, _, _, _, c_138 (d := 96) h, c_1208 (d := 96) h, hI, by omega, by omega, by omega, fun h => by cases h⟩
  · exact ⟨_, _, _, _, _, f_138 (d := 96) h, f_1208 (d := 96) h, yy_I_ef hI, by omega, by omega, by rw [yy_ef0]; omega, fun h => by cases h⟩
/-! a walk over the prints of both sides -/
set_option maxRecDepth 20000 in
theorem sg_clr_W {s : Nat → Int} (hW : sg_W s 0) (K : Nat → Bool) (hS : ∀ i : Nat, (i : Int) < s 3 → K i = true → s 1 ≤ sg_p s i 3 + sg_k s (sg_p s i 0)) : sg_W (sg_clr K s) 0 := by
  have h3 := hW.1.2.2.2.1
  have h3' : 0 ≤ s 3 ∧ s 3 ≤ 41 := by omega
  obtain ⟨g, c1, c2, c3⟩ := sg_clr_p (K := K) h3'
  exact ⟨sg_R_eq (fun k h h' => sg_clr_o h3' h' (Or.inl h)) (by omega) hW.1, sg_clr_O h3' hW.2.1, sg_clr_S h3' hW.2.1 hS, sg_T_eq (by decide) (fun k h h' => sg_clr_o h3' (by omega) (Or.inr h)) hW.2.2.2.1, sg_T_eq (by decide) (fun k h h' => sg_clr_o h3' (by omega) (Or.inr h)) hW.2.2.2.2⟩
set_option maxRecDepth 20000 in
theorem yy_Fb_n {m m' : Nat → Nat → Int} (h : yy_Fb m m' 1) : ∀ c, (18 ≤ c ∨ c = 0 ∨ c = 5) → m' c = m c := fun c hc => h c (by omega)
set_option maxRecDepth 20000 in
theorem sg_clr_D {K : Nat → Bool} {s : Nat → Int} (h3 : 0 ≤ s 3 ∧ s 3 ≤ 41) (hD : sg_D s) : sg_D (sg_clr K s) :=
  sg_D_eq (sg_clr_o h3 (by decide) (Or.inl (by decide))) (sg_clr_o h3 (by decide) (Or.inl (by decide))) (fun k hk => sg_clr_o h3 (by omega) (Or.inr (by omega))) hD
/-! an act on the moor alone, the reference's row being what the class's moor holds -/
set_option maxRecDepth 20000 in
theorem yy_I_mo {t : xm_W} {m m' : Nat → Nat → Int} (hI : yy_I t m) (hW : sg_W (m' 75) 0) (h1 : m' 75 1 ≤ 9999) (hX : yy_MX t m' 1 (m' 75)) (ho : ∀ k, (k = 4 ∨ k = 5 ∨ k = 6 ∨ 589 ≤ k) → m' 75 k = m 75 k) (h : ∀ c, c < 87 → ¬ yy_no c → ¬ (1 ≤ c ∧ c < 18) → c ≠ 75 → m' c = m c) : yy_I t m' :=
  yy_I_75 hI ⟨hW, h1, sg_D_eq (ho _ (by omega)) (ho _ (by omega)) (fun k hk => ho k (by omega)) hI.1.2.2⟩ hX (yy_DR_eq (fun c hc => h c (by omega) (by unfold yy_no; omega) (by omega) (by omega)) (ho _ (by omega)) (ho _ (by omega)) (ho _ (by omega)) (fun k hk => ho k (by omega)) hI.2.2.1) (fun c hc a b _ d => h c hc a b d)
set_option maxRecDepth 20000 in
theorem a_102 {sc : List Int} {t : xm_W} {m : Nat → Nat → Int} {x1 x2 : Int} (hI : yy_I t m) : yy_A sc t m 102 1140 [.inl x1, .inl x2] true := by
  by_cases h : (0 ≤ x1 ∧ x1 ≤ 35) ∧ (0 ≤ x2 ∧ x2 ≤ 3)
  · obtain ⟨⟨hW, h1, hD⟩, hX, hR, -⟩ := id hI
    obtain ⟨⟨e1, e2, e3, e4, e5, e6, e7⟩, t0, t1⟩ := id hX
    have h3 := hW.1.2.2.2.1
    -- the row with the ground anew
    have o : ∀ k, k ≠ (8 + x1).toNat → yy_u (m 75) (8 + x1).toNat x2 k = m 75 k := fun k hk => yy_u_ne hk
    have R : sg_R (yy_u (m 75) (8 + x1).toNat x2) := by
      obtain ⟨a0, a1, a2, a3, a4, a5⟩ := hW.1
      refine ⟨by rw [o _ (by omega)]; exact a0, by rw [o _ (by omega)]; exact a1, by rw [o _ (by omega)]; exact a2, by rw [o _ (by omega)]; exact a3, fun k hk => ?_, fun i hi => ?_⟩
      · by_cases e : 8 + k = (8 + x1).toNat
        · rw [e, yy_u_eq]; exact h.2
        · rw [o _ e]; exact a4 k hk
      · obtain ⟨b0, b1, b2, b3, b4, b5, b6⟩ := a5 i hi
        rw [o _ (by omega), o _ (by omega), o _ (by omega), o _ (by omega), o _ (by omega), o _ (by omega)]
        exact ⟨b0, b1, b2, b3, b4, b5, fun k hk => by rw [o _ (by omega)]; exact b6 k hk⟩
    have ep : ∀ i w : Nat, sg_p (yy_u (m 75) (8 + x1).toNat x2) i w = sg_p (m 75) i w := fun i w => o _ (by omega)
    have O : sg_O (yy_u (m 75) (8 + x1).toNat x2) 0 := by
      refine ⟨fun i hi => ?_, fun i j hij hj => ?_⟩
      · rw [o _ (by omega)] at hi
        have := hW.2.1.1 i hi
        unfold sg_E at this ⊢
        rw [ep, ep, ep, ep, ep, o _ (by omega)]; exact this
      · rw [o _ (by omega)] at hj
        have := hW.2.1.2 i j hij hj
        unfold sg_lt at this ⊢
        rw [ep, ep, ep, ep]; exact this
    have B : sg_B (yy_u (m 75) (8 + x1).toNat x2) := ⟨R.2.2.1, by rw [o _ (by omega)]; omega, fun i hi => ⟨(O.1 i hi).1.1, (O.1 i hi).1.2.2.2.1⟩⟩
    have H3 : 0 ≤ yy_u (m 75) (8 + x1).toNat x2 3 ∧ yy_u (m 75) (8 + x1).toNat x2 3 ≤ 41 := by rw [o _ (by omega)]; omega
    have co : ∀ k, k ≠ 3 → (k < 134 ∨ 339 ≤ k) → k ≠ (8 + x1).toNat → sg_clr (sg_K (yy_u (m 75) (8 + x1).toNat x2) 0 (-1)) (yy_u (m 75) (8 + x1).toNat x2) k = m 75 k := fun k a b c => by rw [sg_clr_o H3 a b, o k c]
    have W : sg_W (sg_clr (sg_K (yy_u (m 75) (8 + x1).toNat x2) 0 (-1)) (yy_u (m 75) (8 + x1).toNat x2)) 0 := by
      obtain ⟨g, c1, c2, c3⟩ := sg_clr_p (K := sg_K (yy_u (m 75) (8 + x1).toNat x2) 0 (-1)) H3
      refine ⟨sg_R_eq (fun k a b => sg_clr_o H3 b (Or.inl a)) (by rw [o 3 (by omega)] at c1; omega) R, sg_clr_O H3 O, sg_clr_S H3 O (fun i hi hK => ?_), sg_T_eq (by decide) (fun k a b => co k (by omega) (Or.inr a) (by omega)) hW.2.2.2.1, sg_T_eq (by decide) (fun k a b => co k (by omega) (Or.inr a) (by omega)) hW.2.2.2.2⟩
      unfold sg_K at hK
      rw [decide_eq_true_iff] at hK
      exact hK.2.2
    -- the class
    have M : yy_MR (yy_s m 2 x1.toNat x2) 1 (yy_u (m 75) (8 + x1).toNat x2) := by
      refine ⟨by rw [o _ (by omega)]; simp (disch := first | omega | (unfold xm_w; omega)) only [↓zy_at, xm_O_some, xm_Oi_some, xm_Ov_some, xm_Oq_some, ↓reduceIte, ↓zz_t, ↓zz_f, ↓zi_t, ↓zi_f, eq_self, yy_d_0, Int.reduceEq, Int.reduceLT, Int.reduceLE, Int.reduceNe, Int.reduceToNat, Int.reduceAdd, Int.reduceSub, Int.reduceMul, Int.reduceNeg, Nat.reduceAdd, Nat.reduceMul, Nat.reduceSub, Nat.reduceEqDiff, Nat.reduceLT, ne_eq, not_false_eq_true, not_true_eq_false, true_and, and_true, and_self, yy_s_eq, yy_s_ne, yy_c_eq, yy_c_ne, yy_u_eq, yy_u_ne, xm_w_id, yy_at, tdiv_pos, tmod_pos]; exact e1, by rw [o _ (by omega)]; simp (disch := first | omega | (unfold xm_w; omega)) only [↓zy_at, xm_O_some, xm_Oi_some, xm_Ov_some, xm_Oq_some, ↓reduceIte, ↓zz_t, ↓zz_f, ↓zi_t, ↓zi_f, eq_self, yy_d_0, Int.reduceEq, Int.reduceLT, Int.reduceLE, Int.reduceNe, Int.reduceToNat, Int.reduceAdd, Int.reduceSub, Int.reduceMul, Int.reduceNeg, Nat.reduceAdd, Nat.reduceMul, Nat.reduceSub, Nat.reduceEqDiff, Nat.reduceLT, ne_eq, not_false_eq_true, not_true_eq_false, true_and, and_true, and_self, yy_s_eq, yy_s_ne, yy_c_eq, yy_c_ne, yy_u_eq, yy_u_ne, xm_w_id, yy_at, tdiv_pos, tmod_pos]; exact e2, by rw [o _ (by omega)]; simp (disch := first | omega | (unfold xm_w; omega)) only [↓zy_at, xm_O_some, xm_Oi_some, xm_Ov_some, xm_Oq_some, ↓reduceIte, ↓zz_t, ↓zz_f, ↓zi_t, ↓zi_f, eq_self, yy_d_0, Int.reduceEq, Int.reduceLT, Int.reduceLE, Int.reduceNe, Int.reduceToNat, Int.reduceAdd, Int.reduceSub, Int.reduceMul, Int.reduceNeg, Nat.reduceAdd, Nat.reduceMul, Nat.reduceSub, Nat.reduceEqDiff, Nat.reduceLT, ne_eq, not_false_eq_true, not_true_eq_false, true_and, and_true, and_self, yy_s_eq, yy_s_ne, yy_c_eq, yy_c_ne, yy_u_eq, yy_u_ne, xm_w_id, yy_at, tdiv_pos, tmod_pos]; exact e3, by rw [o _ (by omega)]; simp (disch := first | omega | (unfold xm_w; omega)) only [↓zy_at, xm_O_some, xm_Oi_some, xm_Ov_some, xm_Oq_some, ↓reduceIte, ↓zz_t, ↓zz_f, ↓zi_t, ↓zi_f, eq_self, yy_d_0, Int.reduceEq, Int.reduceLT, Int.reduceLE, Int.reduceNe, Int.reduceToNat, Int.reduceAdd, Int.reduceSub, Int.reduceMul, Int.reduceNeg, Nat.reduceAdd, Nat.reduceMul, Nat.reduceSub, Nat.reduceEqDiff, Nat.reduceLT, ne_eq, not_false_eq_true, not_true_eq_false, true_and, and_true, and_self, yy_s_eq, yy_s_ne, yy_c_eq, yy_c_ne, yy_u_eq, yy_u_ne, xm_w_id, yy_at, tdiv_pos, tmod_pos]; exact e4, fun k hk => ?_, fun k hk => by rw [o _ (by omega)]; simp (disch := first | omega | (unfold xm_w; omega)) only [↓zy_at, xm_O_some, xm_Oi_some, xm_Ov_some, xm_Oq_some, ↓reduceIte, ↓zz_t, ↓zz_f, ↓zi_t, ↓zi_f, eq_self, yy_d_0, Int.reduceEq, Int.reduceLT, Int.reduceLE, Int.reduceNe, Int.reduceToNat, Int.reduceAdd, Int.reduceSub, Int.reduceMul, Int.reduceNeg, Nat.reduceAdd, Nat.reduceMul, Nat.reduceSub, Nat.reduceEqDiff, Nat.reduceLT, ne_eq, not_false_eq_true, not_true_eq_false, true_and, and_true, and_self, yy_s_eq, yy_s_ne, yy_c_eq, yy_c_ne, yy_u_eq, yy_u_ne, xm_w_id, yy_at, tdiv_pos, tmod_pos]; exact e6 k hk, fun i hi => ⟨fun k hk => by rw [o _ (by omega)]; simp (disch := first | omega | (unfold xm_w; omega)) only [↓zy_at, xm_O_some, xm_Oi_some, xm_Ov_some, xm_Oq_some, ↓reduceIte, ↓zz_t, ↓zz_f, ↓zi_t, ↓zi_f, eq_self, yy_d_0, Int.reduceEq, Int.reduceLT, Int.reduceLE, Int.reduceNe, Int.reduceToNat, Int.reduceAdd, Int.reduceSub, Int.reduceMul, Int.reduceNeg, Nat.reduceAdd, Nat.reduceMul, Nat.reduceSub, Nat.reduceEqDiff, Nat.reduceLT, ne_eq, not_false_eq_true, not_true_eq_false, true_and, and_true, and_self, yy_s_eq, yy_s_ne, yy_c_eq, yy_c_ne, yy_u_eq, yy_u_ne, xm_w_id, yy_at, tdiv_pos, tmod_pos]; exact (e7 i hi).1 k hk, fun k hk => by rw [o _ (by omega)]; simp (disch := first | omega | (unfold xm_w; omega)) only [↓zy_at, xm_O_some, xm_Oi_some, xm_Ov_some, xm_Oq_some, ↓reduceIte, ↓zz_t, ↓zz_f, ↓zi_t, ↓zi_f, eq_self, yy_d_0, Int.reduceEq, Int.reduceLT, Int.reduceLE, Int.reduceNe, Int.reduceToNat, Int.reduceAdd, Int.reduceSub, Int.reduceMul, Int.reduceNeg, Nat.reduceAdd, Nat.reduceMul, Nat.reduceSub, Nat.reduceEqDiff, Nat.reduceLT, ne_eq, not_false_eq_true, not_true_eq_false, true_and, and_true, and_self, yy_s_eq, yy_s_ne, yy_c_eq, yy_c_ne, yy_u_eq, yy_u_ne, xm_w_id, yy_at, tdiv_pos, tmod_pos]; exact (e7 i hi).2 k hk⟩⟩
      simp (disch := first | omega | (unfold xm_w; omega)) only [↓zy_at, xm_O_some, xm_Oi_some, xm_Ov_some, xm_Oq_some, ↓reduceIte, ↓zz_t, ↓zz_f, ↓zi_t, ↓zi_f, eq_self, yy_d_0, Int.reduceEq, Int.reduceLT, Int.reduceLE, Int.reduceNe, Int.reduceToNat, Int.reduceAdd, Int.reduceSub, Int.reduceMul, Int.reduceNeg, Nat.reduceAdd, Nat.reduceMul, Nat.reduceSub, Nat.reduceEqDiff, Nat.reduceLT, ne_eq, not_false_eq_true, not_true_eq_false, true_and, and_true, and_self, yy_s_eq, yy_s_ne, yy_c_eq, yy_c_ne, yy_u_eq, yy_u_ne, xm_w_id, yy_at, tdiv_pos, tmod_pos]
      by_cases e : k = x1.toNat
      · subst e; rw [yy_u_eq, show 8 + x1.toNat = (8 + x1).toNat by omega, yy_u_eq]
      · rw [yy_u_ne e, o _ (by omega)]; exact e5 k hk
    obtain ⟨m1, c1, g1, g2, g3⟩ := c_409_1g (sc := sc) (d := 96) (t := t) (m := yy_s m 2 x1.toNat x2) M B (by rw [o _ (by omega)]; exact h3.2)
    have X1 : xm_X (xm_old sc) xm_mt (99 + 1) 102 [.inr (.inl (some 0)), .inl x1, .inl x2] (yy_W m t) = some (some (.inl (m 2 x1.toNat)), yy_W m1 t) := by
      refine xm_X_of (M := xm_m102) rfl ⟨xm_EQ.eq (xb_102_0 ?_), rfl, rfl, Nat.le_of_ble_eq_true rfl, yy_hd rfl (by decide)⟩
      simp (disch := first | omega | (unfold xm_w; omega)) only [↓zy_at, xm_O_some, xm_Oi_some, xm_Ov_some, xm_Oq_some, ↓reduceIte, ↓zz_t, ↓zz_f, ↓zi_t, ↓zi_f, eq_self, yy_d_0, Int.reduceEq, Int.reduceLT, Int.reduceLE, Int.reduceNe, Int.reduceToNat, Int.reduceAdd, Int.reduceSub, Int.reduceMul, Int.reduceNeg, Nat.reduceAdd, Nat.reduceMul, Nat.reduceSub, Nat.reduceEqDiff, Nat.reduceLT, ne_eq, not_false_eq_true, not_true_eq_false, true_and, and_true, and_self, yy_s_eq, yy_s_ne, yy_c_eq, yy_c_ne, yy_u_eq, yy_u_ne, xm_w_id, yy_at, tdiv_pos, tmod_pos, ↓oc_142, ↓oc_143, ↓zr_0_0, ↓zr_0_1, ↓zr_0_2, ↓zr_0_3, ↓zr_0_4, ↓zf_0_5, ↓zs_0_5, ↓zr_0_6, ↓zr_0_7, ↓zr_0_8, ↓zr_0_9, ↓zr_0_10, ↓zr_1_0, ↓zf_1_1, ↓zs_1_1, ↓zf_1_2, ↓zs_1_2, ↓zr_1_3, ↓zf_1_4, ↓zs_1_4, ↓zr_1_5, ↓zf_1_6, ↓zs_1_6, ↓zr_1_7, ↓zr_1_8, ↓zr_1_9, ↓zi_2, ↓zt_2]
      rw [c1]
      simp (disch := first | omega | (unfold xm_w; omega)) only [↓zy_at, xm_O_some, xm_Oi_some, xm_Ov_some, xm_Oq_some, ↓reduceIte, ↓zz_t, ↓zz_f, ↓zi_t, ↓zi_f, eq_self, yy_d_0, Int.reduceEq, Int.reduceLT, Int.reduceLE, Int.reduceNe, Int.reduceToNat, Int.reduceAdd, Int.reduceSub, Int.reduceMul, Int.reduceNeg, Nat.reduceAdd, Nat.reduceMul, Nat.reduceSub, Nat.reduceEqDiff, Nat.reduceLT, ne_eq, not_false_eq_true, not_true_eq_false, true_and, and_true, and_self, yy_s_eq, yy_s_ne, yy_c_eq, yy_c_ne, yy_u_eq, yy_u_ne, xm_w_id, yy_at, tdiv_pos, tmod_pos]
    have f75 : m1 75 = m 75 := by rw [g1 75 (by omega), yy_s_ne (by decide)]
    have X2 : xm_X (xm_old sc) xm_mt (99 + 1) 1140 [.inr (.inl (some 74)), .inl x1, .inl x2] (yy_W m1 t) = some (some (.inl (m 75 (8 + x1).toNat)), yy_W (yy_c m1 75 (sg_clr (sg_K (yy_u (m 75) (8 + x1).toNat x2) 0 (-1)) (yy_u (m 75) (8 + x1).toNat x2))) t) := by
      refine xm_X_of (M := xm_m1140) rfl ⟨xm_EQ.eq (xb_1140_0 ?_), rfl, rfl, Nat.le_of_ble_eq_true rfl, yy_hd rfl (by decide)⟩
      simp (disch := first | omega | (unfold xm_w; omega)) only [↓zy_at, xm_O_some, xm_Oi_some, xm_Ov_some, xm_Oq_some, ↓reduceIte, ↓zz_t, ↓zz_f, ↓zi_t, ↓zi_f, eq_self, yy_d_0, Int.reduceEq, Int.reduceLT, Int.reduceLE, Int.reduceNe, Int.reduceToNat, Int.reduceAdd, Int.reduceSub, Int.reduceMul, Int.reduceNeg, Nat.reduceAdd, Nat.reduceMul, Nat.reduceSub, Nat.reduceEqDiff, Nat.reduceLT, ne_eq, not_false_eq_true, not_true_eq_false, true_and, and_true, and_self, yy_s_eq, yy_s_ne, yy_c_eq, yy_c_ne, yy_u_eq, yy_u_ne, xm_w_id, yy_at, tdiv_pos, tmod_pos, ↓oc_1103, ↓oc_1108, ↓zr_74_0, ↓zr_74_1, ↓zr_74_2, ↓zf_74_3, ↓zs_74_3, ↓zf_74_4, ↓zs_74_4, ↓zr_74_5, ↓zf_74_6, ↓zs_74_6, ↓zf_74_7, ↓zs_74_7, ↓zf_74_8, ↓zs_74_8, ↓zf_74_9, ↓zs_74_9, ↓zr_74_10, ↓zr_74_11, ↓zr_74_12, ↓zf_74_13, ↓zs_74_13, ↓zr_74_14, ↓zf_74_15, ↓zs_74_15, ↓zf_74_16, ↓zs_74_16, ↓zf_74_17, ↓zs_74_17, ↓zr_74_18, ↓zr_74_19, ↓zr_74_20, ↓zr_74_21, ↓zi_75, ↓zt_75, ↓oc_1113, f75]
      have e : yy_s m1 75 (8 + x1).toNat x2 = yy_c m1 75 (yy_u (m 75) (8 + x1).toNat x2) := by unfold yy_s; rw [f75]
      rw [e, oc_1132 (d := 94) (by rw [yy_c_eq]; exact B), yy_c_eq, yy_c_c]
    refine yy_Ao X1 X2 (yy_I_mo hI (by rw [yy_c_eq]; exact W) ?_ ?_ (fun k hk => ?_) (fun c hc a b d => ?_)) ?_ ?_
    · rw [yy_c_eq, co 1 (by decide) (Or.inl (by decide)) (by omega)]; exact h1
    · rw [yy_c_eq]
      refine yy_MX_fr (sg_W_T hW) hX ?_ (yy_MR_fr (fun c hc => by rw [yy_c_ne (by omega)]) g2) (fun k a b => co k (by omega) (Or.inr a) (by omega))
      rw [yy_c_ne (by decide), g1 5 (by omega), yy_s_ne (by decide)]
    · rw [yy_c_eq]; exact co k (by omega) (by omega) (by omega)
    · rw [yy_c_ne d, g1 c (by omega), yy_s_ne (by omega)]
    · rw [yy_c_ne (by decide), g1 0 (by omega), yy_s_ne (by decide)]
    · have := e5 x1.toNat (by omega)
      rw [show (8 + x1).toNat = 8 + x1.toNat by omega]; exact this
  · exact r_102 hI h
