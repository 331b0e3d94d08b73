set_option maxRecDepth 20000 in
theorem sg_W_rd0 {s s' : Nat → Int} {r : Int} (h : ∀ k, k ≠ 0 → (k < 44 ∨ 134 ≤ k) → s' k = s k) (hR : sg_R s') (hW : sg_W s r) : sg_W s' r := by
  obtain ⟨-, hO, hS, hT, hT1⟩ := hW
  have e3 : s' 3 = s 3 := h _ (by decide) (Or.inl (by decide))
  have e1 : s' 1 = s 1 := h _ (by decide) (Or.inl (by decide))
  have ep : ∀ i w, sg_p s' i w = sg_p s i w := fun i w => h _ (by omega) (Or.inr (by omega))
  refine ⟨hR, ⟨fun i hi => ?_, fun i j hij hj => ?_⟩, fun i hi => ?_, sg_T_eq (by decide) (fun k h1 _ => h k (by omega) (Or.inr (by omega))) hT, sg_T_eq (by decide) (fun k h1 _ => h k (by omega) (Or.inr (by omega))) hT1⟩
  · rw [e3] at hi
    have := hO.1 i hi
    unfold sg_E at this ⊢
    rw [ep, ep, ep, ep, ep, e1]; exact this
  · rw [e3] at hj
    have := hO.2 i j hij hj
    unfold sg_lt at this ⊢
    rw [ep, ep, ep, ep]; exact this
  · rw [e3] at hi
    have := hS i hi
    rw [ep, ep, e1, sg_k_eq (h 2 (by decide) (Or.inl (by decide))) (h _ (by have := (hO.1 i hi).1.1; omega) (Or.inl (by have := (hO.1 i hi).1.1; omega)))]
    exact this
/-! an act on one rider: both sides behind it -/
set_option maxRecDepth 20000 in
theorem yy_I_rr {t : xm_W} {m m' : Nat → Nat → Int} (hI : yy_I t m) (hR : sg_R (m' 75)) (h75 : ∀ k, k ≠ 0 → (k < 44 ∨ 134 ≤ k) → m' 75 k = m 75 k) (h0 : m' 1 4 = m' 75 0) (h1 : ∀ k, k ≠ 4 → m' 1 k = m 1 k) (hr : ∀ i, i < 5 → (∀ k, k < 6 → m' (8 + 2 * i) k = m' 75 (44 + 18 * i + k)) ∧ ∀ k, k < 12 → m' (9 + 2 * i) k = m' 75 (50 + 18 * i + k)) (h : ∀ c, c < 87 → ¬ yy_no c → ¬ (8 ≤ c ∧ c < 18) → c ≠ 1 → c ≠ 75 → m' c = m c) : yy_I t m' := by
  obtain ⟨⟨hW, hh, hD⟩, hX, -⟩ := id hI
  obtain ⟨⟨e1, e2, e3, e4, e5, e6, e7⟩, t0, t1⟩ := id hX
  have hT := sg_W_T hW
  refine yy_I_mo hI (sg_W_rd0 h75 hR hW) (by rw [h75 1 (by decide) (by omega)]; exact hh) ⟨⟨by rw [h1 1 (by decide), h75 2 (by decide) (by omega)]; exact e1, by rw [h1 2 (by decide), h75 1 (by decide) (by omega)]; exact e2, h0, by rw [h1 6 (by decide), h75 3 (by decide) (by omega)]; exact e4, fun k hk => by rw [h 2 (by decide) (by unfold yy_no; omega) (by omega) (by decide) (by decide), h75 _ (by omega) (by omega)]; exact e5 k hk, fun k hk => by rw [h 4 (by decide) (by unfold yy_no; omega) (by omega) (by decide) (by decide), h75 _ (by omega) (by omega)]; exact e6 k hk, hr⟩, ?_, ?_⟩ (fun k hk => h75 k (by omega) (by omega)) (fun c hc a b e => h c hc a (by omega) (by omega) e)
  · rw [show (1 + 4 : Nat) = 5 from rfl, h 5 (by decide) (by unfold yy_no; omega) (by omega) (by decide) (by decide)]; exact yy_TX_eq (by decide) hT.1 (fun k a b => h75 k (by omega) (by omega)) t0
  · rw [show (1 + 4 : Nat) = 5 from rfl, h 5 (by decide) (by unfold yy_no; omega) (by omega) (by decide) (by decide)]; exact yy_TX_eq (by decide) hT.2 (fun k a b => h75 k (by omega) (by omega)) t1
set_option maxRecDepth 20000 in
theorem a_104 {sc : List Int} {t : xm_W} {m : Nat → Nat → Int} {x1 x2 : Int} (hI : yy_I t m) : yy_A sc t m 104 1142 [.inl x1, .inl x2] true := by
  by_cases h : (0 ≤ x1 ∧ x1 ≤ 69) ∧ (0 ≤ x2 ∧ x2 ≤ 35)
  · obtain ⟨⟨e0, e3, e1, e2⟩, hR⟩ := yy_I_0 hI
    obtain ⟨a0, a1, a2, a3, a4, a5⟩ := id hR
    obtain ⟨⟨g1, g2, g3, g4, g5, g6, g7⟩, t0, t1⟩ := id hI.2.1
    by_cases h5 : m 75 0 = 5
    · have X1 : xm_X (xm_old sc) xm_mt (99 + 1) 104 [.inr (.inl (some 0)), .inl x1, .inl x2] (yy_W m t) = some (some (.inl (-1000000004)), yy_W (yy_e m 4) t) := by
        refine xm_X_of (M := xm_m104) rfl ⟨xm_EQ.eq (xb_104_0 ?_), rfl, rfl, Nat.le_of_ble_eq_true rfl, yy_hd rfl (by decide)⟩
        simp (disch := first | omega | (unfold xm_w; omega)) only [↓zy_at, xm_O_some, xm_Oi_some, xm_Ov_some, xm_Oq_some, ↓reduceIte, ↓zz_t, ↓zz_f, ↓zi_t, ↓zi_f, eq_self, yy_d_0, Int.reduceEq, Int.reduceLT, Int.reduceLE, Int.reduceNe, Int.reduceToNat, Int.reduceAdd, Int.reduceSub, Int.reduceMul, Int.reduceNeg, Nat.reduceAdd, Nat.reduceMul, Nat.reduceSub, Nat.reduceEqDiff, Nat.reduceLT, ne_eq, not_false_eq_true, not_true_eq_false, true_and, and_true, and_self, yy_s_eq, yy_s_ne, yy_c_eq, yy_c_ne, yy_u_eq, yy_u_ne, xm_w_id, yy_at, tdiv_pos, tmod_pos, ↓oc_142, ↓oc_143, ↓zr_0_0, ↓zr_0_1, ↓zr_0_2, ↓zr_0_3, ↓zr_0_4, ↓zf_0_5, ↓zs_0_5, ↓zr_0_6, ↓zr_0_7, ↓zr_0_8, ↓zr_0_9, ↓zr_0_10, ↓zr_1_0, ↓zf_1_1, ↓zs_1_1, ↓zf_1_2, ↓zs_1_2, ↓zr_1_3, ↓zf_1_4, ↓zs_1_4, ↓zr_1_5, ↓zf_1_6, ↓zs_1_6, ↓zr_1_7, ↓zr_1_8, ↓zr_1_9, e0, h5, ↓oc_139]
      have X2 : xm_X (xm_old sc) xm_mt (99 + 1) 1142 [.inr (.inl (some 74)), .inl x1, .inl x2] (yy_W (yy_e m 4) t) = some (some (.inl (-1000000004)), yy_W (yy_f (yy_e m 4) 4) t) := by
        have f : yy_e m 4 75 = m 75 := yy_e75 (by decide)
        refine xm_X_of (M := xm_m1142) rfl ⟨xm_EQ.eq (xb_1142_0 ?_), rfl, rfl, Nat.le_of_ble_eq_true rfl, yy_hd rfl (by decide)⟩
        simp (disch := first | omega | (unfold xm_w; omega)) only [↓zy_at, xm_O_some, xm_Oi_some, xm_Ov_some, xm_Oq_some, ↓reduceIte, ↓zz_t, ↓zz_f, ↓zi_t, ↓zi_f, eq_self, yy_d_0, Int.reduceEq, Int.reduceLT, Int.reduceLE, Int.reduceNe, Int.reduceToNat, Int.reduceAdd, Int.reduceSub, Int.reduceMul, Int.reduceNeg, Nat.reduceAdd, Nat.reduceMul, Nat.reduceSub, Nat.reduceEqDiff, Nat.reduceLT, ne_eq, not_false_eq_true, not_true_eq_false, true_and, and_true, and_self, yy_s_eq, yy_s_ne, yy_c_eq, yy_c_ne, yy_u_eq, yy_u_ne, xm_w_id, yy_at, tdiv_pos, tmod_pos, ↓oc_1103, ↓oc_1108, ↓zr_74_0, ↓zr_74_1, ↓zr_74_2, ↓zf_74_3, ↓zs_74_3, ↓zf_74_4, ↓zs_74_4, ↓zr_74_5, ↓zf_74_6, ↓zs_74_6, ↓zf_74_7, ↓zs_74_7, ↓zf_74_8, ↓zs_74_8, ↓zf_74_9, ↓zs_74_9, ↓zr_74_10, ↓zr_74_11, ↓zr_74_12, ↓zf_74_13, ↓zs_74_13, ↓zr_74_14, ↓zf_74_15, ↓zs_74_15, ↓zf_74_16, ↓zs_74_16, ↓zf_74_17, ↓zs_74_17, ↓zr_74_18, ↓zr_74_19, ↓zr_74_20, ↓zr_74_21, ↓zi_75, ↓zt_75, f, h5, ↓oc_1102]
      exact yy_Ao X1 X2 (yy_I_ef hI) yy_ef0 rfl
    · obtain ⟨r, hr⟩ : ∃ r : Nat, m 75 0 = r := ⟨(m 75 0).toNat, by omega⟩
      have er : (m 1 4).toNat = r := by omega
      have X1 := c_104 (sc := sc) (d := 96) (t := t) (m := m) h.1 h.2 (by omega) (by omega)
      rw [er] at X1
      generalize hm1 : yy_s (yy_s (yy_s (yy_s (yy_s (yy_s (yy_s m (8 + 2 * r) 0 (x1 / 10)) (8 + 2 * r) 1 (x1 % 10)) (8 + 2 * r) 2 x2) (8 + 2 * r) 3 0) (8 + 2 * r) 4 0) (8 + 2 * r) 5 0) 1 4 (m 1 4 + 1) = m1 at X1
      have o1 : ∀ c, c ≠ 8 + 2 * r → c ≠ 1 → m1 c = m c := fun c c1 c2 => by subst hm1; simp (disch := first | omega | (unfold xm_w; omega)) only [↓zy_at, xm_O_some, xm_Oi_some, xm_Ov_some, xm_Oq_some, ↓reduceIte, ↓zz_t, ↓zz_f, ↓zi_t, ↓zi_f, eq_self, yy_d_0, Int.reduceEq, Int.reduceLT, Int.reduceLE, Int.reduceNe, Int.reduceToNat, Int.reduceAdd, Int.reduceSub, Int.reduceMul, Int.reduceNeg, Nat.reduceAdd, Nat.reduceMul, Nat.reduceSub, Nat.reduceEqDiff, Nat.reduceLT, ne_eq, not_false_eq_true, not_true_eq_false, true_and, and_true, and_self, yy_s_eq, yy_s_ne, yy_c_eq, yy_c_ne, yy_u_eq, yy_u_ne, xm_w_id, yy_at, tdiv_pos, tmod_pos]
      have o2 : ∀ k, m1 1 k = if k = 4 then m 1 4 + 1 else m 1 k := fun k => by
        subst hm1; rw [yy_s_eq]; unfold yy_u; simp (disch := first | omega | (unfold xm_w; omega)) only [↓zy_at, xm_O_some, xm_Oi_some, xm_Ov_some, xm_Oq_some, ↓reduceIte, ↓zz_t, ↓zz_f, ↓zi_t, ↓zi_f, eq_self, yy_d_0, Int.reduceEq, Int.reduceLT, Int.reduceLE, Int.reduceNe, Int.reduceToNat, Int.reduceAdd, Int.reduceSub, Int.reduceMul, Int.reduceNeg, Nat.reduceAdd, Nat.reduceMul, Nat.reduceSub, Nat.reduceEqDiff, Nat.reduceLT, ne_eq, not_false_eq_true, not_true_eq_false, true_and, and_true, and_self, yy_s_eq, yy_s_ne, yy_c_eq, yy_c_ne, yy_u_eq, yy_u_ne, xm_w_id, yy_at, tdiv_pos, tmod_pos]
      have o3 : ∀ k, m1 (8 + 2 * r) k = if k = 0 then x1 / 10 else if k = 1 then x1 % 10 else if k = 2 then x2 else if k = 3 ∨ k = 4 ∨ k = 5 then 0 else m (8 + 2 * r) k := fun k => by
        subst hm1
        rw [yy_s_ne (by omega), yy_s_eq, yy_s_eq, yy_s_eq, yy_s_eq, yy_s_eq, yy_s_eq]
        unfold yy_u
        repeat' split
        all_goals first | rfl | omega
      have f75 : m1 75 = m 75 := o1 75 (by omega) (by decide)
      obtain ⟨m2, X2, k1, k2⟩ := c_1142 (sc := sc) (d := 96) (t := t) (m := m1) h.1 h.2 (by rw [f75]; omega) (by rw [f75]; omega)
      rw [f75, hr, Int.toNat_natCast] at k2
      have ot : ∀ k, k ≠ 0 → (k < 44 ∨ 134 ≤ k) → m2 75 k = m 75 k := fun k a b => by
        rw [k2, if_neg a, if_neg (by omega), if_neg (by omega), if_neg (by omega), if_neg (by omega)]
      have oi : ∀ i k, i < 5 → k < 18 → i ≠ r → m2 75 (44 + 18 * i + k) = m 75 (44 + 18 * i + k) := fun i k hi hk hne => by
        rw [k2, if_neg (by omega), if_neg (by omega), if_neg (by omega), if_neg (by omega), if_neg (by omega)]
      have oj : ∀ k, k < 12 → m2 75 (50 + 18 * r + k) = m 75 (50 + 18 * r + k) := fun k hk => by
        rw [k2, if_neg (by omega), if_neg (by omega), if_neg (by omega), if_neg (by omega), if_neg (by omega)]
      have v0 : m2 75 (44 + 18 * r) = x1 / 10 := by rw [k2, if_neg (by omega), if_pos rfl]
      have v1 : m2 75 (45 + 18 * r) = x1 % 10 := by rw [k2, if_neg (by omega), if_neg (by omega), if_pos rfl]
      have v2 : m2 75 (46 + 18 * r) = x2 := by rw [k2, if_neg (by omega), if_neg (by omega), if_neg (by omega), if_pos rfl]
      have v3 : m2 75 (47 + 18 * r) = 0 := by rw [k2, if_neg (by omega), if_neg (by omega), if_neg (by omega), if_neg (by omega), if_pos (by omega)]
      have v4 : m2 75 (48 + 18 * r) = 0 := by rw [k2, if_neg (by omega), if_neg (by omega), if_neg (by omega), if_neg (by omega), if_pos (by omega)]
      have v5 : m2 75 (49 + 18 * r) = 0 := by rw [k2, if_neg (by omega), if_neg (by omega), if_neg (by omega), if_neg (by omega), if_pos (by omega)]
      have v9 : m2 75 0 = m 75 0 + 1 := by rw [k2, if_pos rfl, hr]
      refine yy_Ao X1 X2 (yy_I_rr hI ⟨by omega, by rw [ot 1 (by decide) (by omega)]; exact a1, by rw [ot 2 (by decide) (by omega)]; exact a2, by rw [ot 3 (by decide) (by omega)]; exact a3, fun k hk => by rw [ot _ (by omega) (by omega)]; exact a4 k hk, fun i hi => ?_⟩ ot ?_ (fun k hk => ?_) (fun i hi => ⟨fun k hk => ?_, fun k hk => ?_⟩) (fun c hc a b e f => ?_)) ?_ ?_
      · obtain ⟨b0, b1, b2, b3, b4, b5, b6⟩ := a5 i hi
        by_cases e : i = r
        · subst e
          rw [v0, v1, v2, v3, v4, v5]
          exact ⟨by omega, by omega, h.2, by omega, by omega, by omega, fun k hk => by rw [oj k hk]; exact b6 k hk⟩
        · have q := fun k hk => oi i k hi hk e
          have q0 := q 0 (by decide)
          have q1 := q 1 (by decide)
          have q2 := q 2 (by decide)
          have q3 := q 3 (by decide)
          have q4 := q 4 (by decide)
          have q5 := q 5 (by decide)
          rw [show 44 + 18 * i + 0 = 44 + 18 * i by omega] at q0
          rw [show 44 + 18 * i + 1 = 45 + 18 * i by omega] at q1
          rw [show 44 + 18 * i + 2 = 46 + 18 * i by omega] at q2
          rw [show 44 + 18 * i + 3 = 47 + 18 * i by omega] at q3
          rw [show 44 + 18 * i + 4 = 48 + 18 * i by omega] at q4
          rw [show 44 + 18 * i + 5 = 49 + 18 * i by omega] at q5
          rw [q0, q1, q2, q3, q4, q5]
          exact ⟨b0, b1, b2, b3, b4, b5, fun k hk => by have := q (6 + k) (by omega); rw [show 44 + 18 * i + (6 + k) = 50 + 18 * i + k by omega] at this; rw [this]; exact b6 k hk⟩
      · rw [k1 1 (by decide), o2, if_pos rfl, v9, e0]
      · rw [k1 1 (by decide), o2, if_neg hk]
      · rw [k1 _ (by omega)]
        by_cases e : i = r
        · subst e
          rw [o3]
          rcases (show k = 0 ∨ k = 1 ∨ k = 2 ∨ k = 3 ∨ k = 4 ∨ k = 5 by omega) with h | h | h | h | h | h <;> subst h
          · rw [if_pos rfl]; exact v0.symm
          · rw [if_neg (by decide), if_pos rfl, show 44 + 18 * i + 1 = 45 + 18 * i by omega]; exact v1.symm
          · rw [if_neg (by decide), if_neg (by decide), if_pos rfl, show 44 + 18 * i + 2 = 46 + 18 * i by omega]; exact v2.symm
          · rw [if_neg (by decide), if_neg (by decide), if_neg (by decide), if_pos (by omega), show 44 + 18 * i + 3 = 47 + 18 * i by omega]; exact v3.symm
          · rw [if_neg (by decide), if_neg (by decide), if_neg (by decide), if_pos (by omega), show 44 + 18 * i + 4 = 48 + 18 * i by omega]; exact v4.symm
          · rw [if_neg (by decide), if_neg (by decide), if_neg (by decide), if_pos (by omega), show 44 + 18 * i + 5 = 49 + 18 * i by omega]; exact v5.symm
        · rw [o1 _ (by omega) (by omega), oi i k hi (by omega) e]; exact (g7 i hi).1 k hk
      · rw [k1 _ (by omega), o1 _ (by omega) (by omega)]
        by_cases e : i = r
        · subst e; rw [oj k hk]; exact (g7 i hi).2 k hk
        · have := oi i (6 + k) hi (by omega) e
          rw [show 44 + 18 * i + (6 + k) = 50 + 18 * i + k by omega] at this
          rw [this]; exact (g7 i hi).2 k hk
      · unfold yy_no at a
        rw [k1 c f, o1 c (by omega) e]
      · rw [k1 0 (by decide), o1 0 (by omega) (by decide)]
      · rw [f75, e0]
  · exact r_104 hI h
