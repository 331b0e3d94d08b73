theorem l_1157e {sc : List Int} {d : Nat} {t : xm_W} {Q : Option xm_V × xm_W → Prop} {n : Int} : ∀ (k : Nat) (m : Nat → Nat → Int) (i : Int), n - i = k → m 75 3 = 0 → m 75 0 = 0 → 0 ≤ m 75 1 → m 75 1 + k ≤ 20000 → 0 ≤ i → n ≤ 24 → Q ((none, (yy_W (yy_s m 75 1 (m 75 1 + k)) t))) → xm_EQ (xm_old sc) xm_sta (xm_X (xm_old sc) xm_mt (d + 2)) xm_c1157 2 [some (.inr (.inl (some 74))), some (.inl (n)), some (.inl (i))] [] (yy_W (m) t) Q
  | 0, m, i, hk, h, h1, h2, h3, h4, h5, hQ => by
    refine xb_1157_2 ?_
    rw [if_neg (by omega)]
    rw [show yy_s m 75 1 (m 75 1 + ((0 : Nat) : Int)) = m by rw [show m 75 1 + ((0 : Nat) : Int) = m 75 1 by omega]; exact yy_s_id] at hQ
    exact hQ
  | k + 1, m, i, hk, h, h1, h2, h3, h4, h5, hQ => by
    refine xb_1157_2 ?_
    rw [if_pos (by omega), oc_1156e h h1 h2 (by omega), xm_w_id (by omega) (by omega)]
    have e : ∀ j, yy_s m 75 1 (m 75 1 + 1) 75 j = if j = 1 then m 75 1 + 1 else m 75 j := fun j => by rw [yy_s_eq]; rfl
    refine l_1157e k _ (i + 1) (by omega) ?_ ?_ ?_ ?_ (by omega) h5 ?_
    · rw [e]; exact h
    · rw [e]; exact h1
    · rw [e, if_pos rfl]; omega
    · rw [e, if_pos rfl]; omega
    · rw [e, if_pos rfl, yy_s_same, show m 75 1 + 1 + (k : Int) = m 75 1 + ((k + 1 : Nat) : Int) by omega]; exact hQ
theorem c_1157e {sc : List Int} {d : Nat} {t : xm_W} {m : Nat → Nat → Int} {n : Int} (h : m 75 3 = 0) (h1 : m 75 0 = 0) (h2 : 0 ≤ m 75 1) (h3 : m 75 1 ≤ 10000) (h4 : 0 ≤ n) (h5 : n ≤ 24) : xm_X (xm_old sc) xm_mt (d + 3) 1157 [.inr (.inl (some 74)), .inl (n)] (yy_W (m) t) = some (none, (yy_W (yy_s m 75 1 (m 75 1 + n)) t)) := by
  refine xm_X_of (M := xm_m1157) rfl ⟨xm_EQ.eq (xb_1157_0 ?_), rfl, rfl, Nat.le_of_ble_eq_true rfl, yy_hd rfl (by decide)⟩
  refine l_1157e n.toNat m 0 (by omega) h h1 h2 (by omega) (by omega) h5 ?_
  rw [show ((n.toNat : Nat) : Int) = n by omega]
theorem oc_1157e {F : xm_W → Prop} {sc : List Int} {d : Nat} {t : xm_W} {m : Nat → Nat → Int} {n : Int} (h : m 75 3 = 0) (h1 : m 75 0 = 0) (h2 : 0 ≤ m 75 1) (h3 : m 75 1 ≤ 10000) (h4 : 0 ≤ n) (h5 : n ≤ 24) : xm_Ov (xm_X (xm_old sc) xm_mt (d + 3) 1157 [.inr (.inl (some 74)), .inl (n)] (yy_W (m) t)) F = F (yy_W (yy_s m 75 1 (m 75 1 + n)) t) := congrArg (fun x => xm_Ov x F) (c_1157e h h1 h2 h3 h4 h5)
theorem c_1158e {sc : List Int} {d : Nat} {t : xm_W} {m : Nat → Nat → Int} {x1 : Int} (h1 : 1 ≤ x1 ∧ x1 ≤ 24) (h : m 75 3 = 0) (h2 : m 75 0 = 0) (h3 : 0 ≤ m 75 1) (h4 : m 75 1 + x1 ≤ 9999) : xm_X (xm_old sc) xm_mt (d + 4) 1158 [.inr (.inl (some 74)), .inl (x1)] (yy_W (m) t) = some (some (.inl (0)), (yy_W (yy_s m 75 1 (m 75 1 + x1)) t)) := by
  refine xm_X_of (M := xm_m1158) rfl ⟨xm_EQ.eq (xb_1158_0 ?_), rfl, rfl, Nat.le_of_ble_eq_true rfl, yy_hd rfl (by decide)⟩
  simp (disch := first | omega | (unfold xm_w; omega)) only [↓zy_at, xm_O_some, xm_Oi_some, xm_Ov_some, xm_Oq_some, ↓reduceIte, ↓zz_t, ↓zz_f, ↓zi_t, ↓zi_f, eq_self, yy_d_0, Int.reduceEq, Int.reduceLT, Int.reduceLE, Int.reduceNe, Int.reduceToNat, Int.reduceAdd, Int.reduceSub, Int.reduceMul, Int.reduceNeg, Nat.reduceAdd, Nat.reduceMul, Nat.reduceSub, Nat.reduceEqDiff, Nat.reduceLT, ne_eq, not_false_eq_true, not_true_eq_false, true_and, and_true, and_self, yy_s_eq, yy_s_ne, yy_c_eq, yy_c_ne, yy_u_eq, yy_u_ne, xm_w_id, yy_at, tdiv_pos, tmod_pos, ↓oc_1103, ↓zr_74_0, ↓zr_74_1, ↓zr_74_2, ↓zf_74_3, ↓zs_74_3, ↓zf_74_4, ↓zs_74_4, ↓zr_74_5, ↓zf_74_6, ↓zs_74_6, ↓zf_74_7, ↓zs_74_7, ↓zf_74_8, ↓zs_74_8, ↓zf_74_9, ↓zs_74_9, ↓zr_74_10, ↓zr_74_11, ↓zr_74_12, ↓zf_74_13, ↓zs_74_13, ↓zr_74_14, ↓zf_74_15, ↓zs_74_15, ↓zf_74_16, ↓zs_74_16, ↓zf_74_17, ↓zs_74_17, ↓zr_74_18, ↓zr_74_19, ↓zr_74_20, ↓zr_74_21, ↓zi_75, ↓zt_75, ↓oc_1157e h h2, h]
theorem oc_1158e {F : Int → xm_W → Prop} {sc : List Int} {d : Nat} {t : xm_W} {m : Nat → Nat → Int} {x1 : Int} (h1 : 1 ≤ x1 ∧ x1 ≤ 24) (h : m 75 3 = 0) (h2 : m 75 0 = 0) (h3 : 0 ≤ m 75 1) (h4 : m 75 1 + x1 ≤ 9999) : xm_Oi (xm_X (xm_old sc) xm_mt (d + 4) 1158 [.inr (.inl (some 74)), .inl (x1)] (yy_W (m) t)) F = F (0) (yy_W (yy_s m 75 1 (m 75 1 + x1)) t) := congrArg (fun x => xm_Oi x F) (c_1158e h1 h h2 h3 h4)
theorem c_1159 {sc : List Int} {d : Nat} {t : xm_W} {m : Nat → Nat → Int} : xm_X (xm_old sc) xm_mt (d + 1) 1159 [.inr (.inl (some 74))] (yy_W (m) t) = some (some (.inl (xm_ushr (xm_w (xm_w (m 75 6 * 1103515245) + 12345)) 8)), (yy_W (yy_s m 75 6 (xm_w (xm_w (m 75 6 * 1103515245) + 12345))) t)) := by
  refine xm_X_of (M := xm_m1159) rfl ⟨xm_EQ.eq (xb_1159_0 ?_), rfl, rfl, Nat.le_of_ble_eq_true rfl, yy_hd rfl (by decide)⟩
  simp (disch := first | omega | (unfold xm_w; omega)) only [↓zy_at, xm_O_some, xm_Oi_some, xm_Ov_some, xm_Oq_some, ↓reduceIte, ↓zz_t, ↓zz_f, ↓zi_t, ↓zi_f, eq_self, yy_d_0, Int.reduceEq, Int.reduceLT, Int.reduceLE, Int.reduceNe, Int.reduceToNat, Int.reduceAdd, Int.reduceSub, Int.reduceMul, Int.reduceNeg, Nat.reduceAdd, Nat.reduceMul, Nat.reduceSub, Nat.reduceEqDiff, Nat.reduceLT, ne_eq, not_false_eq_true, not_true_eq_false, true_and, and_true, and_self, yy_s_eq, yy_s_ne, yy_c_eq, yy_c_ne, yy_u_eq, yy_u_ne, xm_w_id, yy_at, tdiv_pos, tmod_pos, ↓zr_74_0, ↓zr_74_1, ↓zr_74_2, ↓zf_74_3, ↓zs_74_3, ↓zf_74_4, ↓zs_74_4, ↓zr_74_5, ↓zf_74_6, ↓zs_74_6, ↓zf_74_7, ↓zs_74_7, ↓zf_74_8, ↓zs_74_8, ↓zf_74_9, ↓zs_74_9, ↓zr_74_10, ↓zr_74_11, ↓zr_74_12, ↓zf_74_13, ↓zs_74_13, ↓zr_74_14, ↓zf_74_15, ↓zs_74_15, ↓zf_74_16, ↓zs_74_16, ↓zf_74_17, ↓zs_74_17, ↓zr_74_18, ↓zr_74_19, ↓zr_74_20, ↓zr_74_21, ↓zi_75, ↓zt_75]
theorem oc_1159 {F : Int → xm_W → Prop} {sc : List Int} {d : Nat} {t : xm_W} {m : Nat → Nat → Int} : xm_Oi (xm_X (xm_old sc) xm_mt (d + 1) 1159 [.inr (.inl (some 74))] (yy_W (m) t)) F = F (xm_ushr (xm_w (xm_w (m 75 6 * 1103515245) + 12345)) 8) (yy_W (yy_s m 75 6 (xm_w (xm_w (m 75 6 * 1103515245) + 12345))) t) := congrArg (fun x => xm_Oi x F) (c_1159)
theorem l_1160e {sc : List Int} {d : Nat} {t : xm_W} {Q : Option xm_V × xm_W → Prop} {n : Int} : ∀ (k : Nat) (m : Nat → Nat → Int) (i : Int), n - i = k → m 75 3 = 0 → m 75 0 = 0 → 0 ≤ m 75 1 → m 75 1 + k ≤ 20000 → 0 ≤ i → n ≤ 24 → (∀ m', (∀ c, c ≠ 75 → m' c = m c) → Q ((some (.inl (0)), (yy_W (m') t)))) → xm_EQ (xm_old sc) xm_sta (xm_X (xm_old sc) xm_mt (d + 2)) xm_c1160 23 [some (.inr (.inl (some 74))), some (.inl (n)), some (.inl (i))] [] (yy_W (m) t) Q
  | 0, m, i, hk, h, h1, h2, h3, h4, h5, hQ => by
    refine xb_1160_23 ?_
    rw [if_neg (by omega)]
    simp (disch := first | omega | (unfold xm_w; omega)) only [↓zy_at, xm_O_some, xm_Oi_some, xm_Ov_some, xm_Oq_some, ↓reduceIte, ↓zz_t, ↓zz_f, ↓zi_t, ↓zi_f, eq_self, yy_d_0, Int.reduceEq, Int.reduceLT, Int.reduceLE, Int.reduceNe, Int.reduceToNat, Int.reduceAdd, Int.reduceSub, Int.reduceMul, Int.reduceNeg, Nat.reduceAdd, Nat.reduceMul, Nat.reduceSub, Nat.reduceEqDiff, Nat.reduceLT, ne_eq, not_false_eq_true, not_true_eq_false, true_and, and_true, and_self, yy_s_eq, yy_s_ne, yy_c_eq, yy_c_ne, yy_u_eq, yy_u_ne, xm_w_id, yy_at, tdiv_pos, tmod_pos, ↓zr_74_0, ↓zr_74_1, ↓zr_74_2, ↓zf_74_3, ↓zs_74_3, ↓zf_74_4, ↓zs_74_4, ↓zr_74_5, ↓zf_74_6, ↓zs_74_6, ↓zf_74_7, ↓zs_74_7, ↓zf_74_8, ↓zs_74_8, ↓zf_74_9, ↓zs_74_9, ↓zr_74_10, ↓zr_74_11, ↓zr_74_12, ↓zf_74_13, ↓zs_74_13, ↓zr_74_14, ↓zf_74_15, ↓zs_74_15, ↓zf_74_16, ↓zs_74_16, ↓zf_74_17, ↓zs_74_17, ↓zr_74_18, ↓zr_74_19, ↓zr_74_20, ↓zr_74_21, ↓zi_75, ↓zt_75, h]
    exact hQ m fun c _ => rfl
  | k + 1, m, i, hk, h, h1, h2, h3, h4, h5, hQ => by
    refine xb_1160_23 ?_
    rw [if_pos (by omega)]
    simp (disch := first | omega | (unfold xm_w; omega)) only [↓zy_at, xm_O_some, xm_Oi_some, xm_Ov_some, xm_Oq_some, ↓reduceIte, ↓zz_t, ↓zz_f, ↓zi_t, ↓zi_f, eq_self, yy_d_0, Int.reduceEq, Int.reduceLT, Int.reduceLE, Int.reduceNe, Int.reduceToNat, Int.reduceAdd, Int.reduceSub, Int.reduceMul, Int.reduceNeg, Nat.reduceAdd, Nat.reduceMul, Nat.reduceSub, Nat.reduceEqDiff, Nat.reduceLT, ne_eq, not_false_eq_true, not_true_eq_false, true_and, and_true, and_self, yy_s_eq, yy_s_ne, yy_c_eq, yy_c_ne, yy_u_eq, yy_u_ne, xm_w_id, yy_at, tdiv_pos, tmod_pos, ↓zr_74_0, ↓zr_74_1, ↓zr_74_2, ↓zf_74_3, ↓zs_74_3, ↓zf_74_4, ↓zs_74_4, ↓zr_74_5, ↓zf_74_6, ↓zs_74_6, ↓zf_74_7, ↓zs_74_7, ↓zf_74_8, ↓zs_74_8, ↓zf_74_9, ↓zs_74_9, ↓zr_74_10, ↓zr_74_11, ↓zr_74_12, ↓zf_74_13, ↓zs_74_13, ↓zr_74_14, ↓zf_74_15, ↓zs_74_15, ↓zf_74_16, ↓zs_74_16, ↓zf_74_17, ↓zs_74_17, ↓zr_74_18, ↓zr_74_19, ↓zr_74_20, ↓zr_74_21, ↓zi_75, ↓zt_75, ↓oc_1156e h h1]
    rw [oc_1159]
    simp (disch := first | omega | (unfold xm_w; omega)) only [↓zy_at, xm_O_some, xm_Oi_some, xm_Ov_some, xm_Oq_some, ↓reduceIte, ↓zz_t, ↓zz_f, ↓zi_t, ↓zi_f, eq_self, yy_d_0, Int.reduceEq, Int.reduceLT, Int.reduceLE, Int.reduceNe, Int.reduceToNat, Int.reduceAdd, Int.reduceSub, Int.reduceMul, Int.reduceNeg, Nat.reduceAdd, Nat.reduceMul, Nat.reduceSub, Nat.reduceEqDiff, Nat.reduceLT, ne_eq, not_false_eq_true, not_true_eq_false, true_and, and_true, and_self, yy_s_eq, yy_s_ne, yy_c_eq, yy_c_ne, yy_u_eq, yy_u_ne, xm_w_id, yy_at, tdiv_pos, tmod_pos]
    rw [oc_1132e (m := yy_s (yy_s m 75 1 (m 75 1 + 1)) 75 6 _) (by simp (disch := first | omega | (unfold xm_w; omega)) only [↓zy_at, xm_O_some, xm_Oi_some, xm_Ov_some, xm_Oq_some, ↓reduceIte, ↓zz_t, ↓zz_f, ↓zi_t, ↓zi_f, eq_self, yy_d_0, Int.reduceEq, Int.reduceLT, Int.reduceLE, Int.reduceNe, Int.reduceToNat, Int.reduceAdd, Int.reduceSub, Int.reduceMul, Int.reduceNeg, Nat.reduceAdd, Nat.reduceMul, Nat.reduceSub, Nat.reduceEqDiff, Nat.reduceLT, ne_eq, not_false_eq_true, not_true_eq_false, true_and, and_true, and_self, yy_s_eq, yy_s_ne, yy_c_eq, yy_c_ne, yy_u_eq, yy_u_ne, xm_w_id, yy_at, tdiv_pos, tmod_pos, h])]
    refine l_1160e k _ (i + 1) (by omega) ?_ ?_ ?_ ?_ (by omega) h5 (fun m' hm => hQ m' fun c c1 => ?_)
    · simp (disch := first | omega | (unfold xm_w; omega)) only [↓zy_at, xm_O_some, xm_Oi_some, xm_Ov_some, xm_Oq_some, ↓reduceIte, ↓zz_t, ↓zz_f, ↓zi_t, ↓zi_f, eq_self, yy_d_0, Int.reduceEq, Int.reduceLT, Int.reduceLE, Int.reduceNe, Int.reduceToNat, Int.reduceAdd, Int.reduceSub, Int.reduceMul, Int.reduceNeg, Nat.reduceAdd, Nat.reduceMul, Nat.reduceSub, Nat.reduceEqDiff, Nat.reduceLT, ne_eq, not_false_eq_true, not_true_eq_false, true_and, and_true, and_self, yy_s_eq, yy_s_ne, yy_c_eq, yy_c_ne, yy_u_eq, yy_u_ne, xm_w_id, yy_at, tdiv_pos, tmod_pos, h]
    · simp (disch := first | omega | (unfold xm_w; omega)) only [↓zy_at, xm_O_some, xm_Oi_some, xm_Ov_some, xm_Oq_some, ↓reduceIte, ↓zz_t, ↓zz_f, ↓zi_t, ↓zi_f, eq_self, yy_d_0, Int.reduceEq, Int.reduceLT, Int.reduceLE, Int.reduceNe, Int.reduceToNat, Int.reduceAdd, Int.reduceSub, Int.reduceMul, Int.reduceNeg, Nat.reduceAdd, Nat.reduceMul, Nat.reduceSub, Nat.reduceEqDiff, Nat.reduceLT, ne_eq, not_false_eq_true, not_true_eq_false, true_and, and_true, and_self, yy_s_eq, yy_s_ne, yy_c_eq, yy_c_ne, yy_u_eq, yy_u_ne, xm_w_id, yy_at, tdiv_pos, tmod_pos, h1]
    · simp (disch := first | omega | (unfold xm_w; omega)) only [↓zy_at, xm_O_some, xm_Oi_some, xm_Ov_some, xm_Oq_some, ↓reduceIte, ↓zz_t, ↓zz_f, ↓zi_t, ↓zi_f, eq_self, yy_d_0, Int.reduceEq, Int.reduceLT, Int.reduceLE, Int.reduceNe, Int.reduceToNat, Int.reduceAdd, Int.reduceSub, Int.reduceMul, Int.reduceNeg, Nat.reduceAdd, Nat.reduceMul, Nat.reduceSub, Nat.reduceEqDiff, Nat.reduceLT, ne_eq, not_false_eq_true, not_true_eq_false, true_and, and_true, and_self, yy_s_eq, yy_s_ne, yy_c_eq, yy_c_ne, yy_u_eq, yy_u_ne, xm_w_id, yy_at, tdiv_pos, tmod_pos]; omega
    · simp (disch := first | omega | (unfold xm_w; omega)) only [↓zy_at, xm_O_some, xm_Oi_some, xm_Ov_some, xm_Oq_some, ↓reduceIte, ↓zz_t, ↓zz_f, ↓zi_t, ↓zi_f, eq_self, yy_d_0, Int.reduceEq, Int.reduceLT, Int.reduceLE, Int.reduceNe, Int.reduceToNat, Int.reduceAdd, Int.reduceSub, Int.reduceMul, Int.reduceNeg, Nat.reduceAdd, Nat.reduceMul, Nat.reduceSub, Nat.reduceEqDiff, Nat.reduceLT, ne_eq, not_false_eq_true, not_true_eq_false, true_and, and_true, and_self, yy_s_eq, yy_s_ne, yy_c_eq, yy_c_ne, yy_u_eq, yy_u_ne, xm_w_id, yy_at, tdiv_pos, tmod_pos]; omega
    · rw [hm c c1]; simp (disch := first | omega | (unfold xm_w; omega)) only [↓zy_at, xm_O_some, xm_Oi_some, xm_Ov_some, xm_Oq_some, ↓reduceIte, ↓zz_t, ↓zz_f, ↓zi_t, ↓zi_f, eq_self, yy_d_0, Int.reduceEq, Int.reduceLT, Int.reduceLE, Int.reduceNe, Int.reduceToNat, Int.reduceAdd, Int.reduceSub, Int.reduceMul, Int.reduceNeg, Nat.reduceAdd, Nat.reduceMul, Nat.reduceSub, Nat.reduceEqDiff, Nat.reduceLT, ne_eq, not_false_eq_true, not_true_eq_false, true_and, and_true, and_self, yy_s_eq, yy_s_ne, yy_c_eq, yy_c_ne, yy_u_eq, yy_u_ne, xm_w_id, yy_at, tdiv_pos, tmod_pos]
theorem c_1160e {sc : List Int} {d : Nat} {t : xm_W} {m : Nat → Nat → Int} {n : Int} (h0 : 1 ≤ n ∧ n ≤ 24) (h : m 75 3 = 0) (h1 : m 75 0 = 0) (h2 : 0 ≤ m 75 1) (h3 : m 75 1 + n ≤ 9999) : ∃ m', xm_X (xm_old sc) xm_mt (d + 4) 1160 [.inr (.inl (some 74)), .inl (n)] (yy_W m t) = some (some (.inl (0)), yy_W m' t) ∧ (∀ c, c ≠ 75 → m' c = m c) := by
  have key : ∀ {Q : Option xm_V × xm_W → Prop}, (∀ m', ((∀ c, c ≠ 75 → m' c = m c)) → Q (some (.inl (0)), yy_W m' t)) → xm_EQ (xm_old sc) xm_sta (xm_X (xm_old sc) xm_mt (d + 3)) xm_m1160.2.2.2.2.2.2.2 0 (xm_loc xm_m1160.2.2.1 [.inr (.inl (some 74)), .inl (n)]) [] (yy_W m t) Q := by
    intro Q hQ
    refine xb_1160_0 ?_
    simp (disch := first | omega | (unfold xm_w; omega)) only [↓zy_at, xm_O_some, xm_Oi_some, xm_Ov_some, xm_Oq_some, ↓reduceIte, ↓zz_t, ↓zz_f, ↓zi_t, ↓zi_f, eq_self, yy_d_0, Int.reduceEq, Int.reduceLT, Int.reduceLE, Int.reduceNe, Int.reduceToNat, Int.reduceAdd, Int.reduceSub, Int.reduceMul, Int.reduceNeg, Nat.reduceAdd, Nat.reduceMul, Nat.reduceSub, Nat.reduceEqDiff, Nat.reduceLT, ne_eq, not_false_eq_true, not_true_eq_false, true_and, and_true, and_self, yy_s_eq, yy_s_ne, yy_c_eq, yy_c_ne, yy_u_eq, yy_u_ne, xm_w_id, yy_at, tdiv_pos, tmod_pos, ↓oc_1103, ↓zr_74_0, ↓zr_74_1, ↓zr_74_2, ↓zf_74_3, ↓zs_74_3, ↓zf_74_4, ↓zs_74_4, ↓zr_74_5, ↓zf_74_6, ↓zs_74_6, ↓zf_74_7, ↓zs_74_7, ↓zf_74_8, ↓zs_74_8, ↓zf_74_9, ↓zs_74_9, ↓zr_74_10, ↓zr_74_11, ↓zr_74_12, ↓zf_74_13, ↓zs_74_13, ↓zr_74_14, ↓zf_74_15, ↓zs_74_15, ↓zf_74_16, ↓zs_74_16, ↓zf_74_17, ↓zs_74_17, ↓zr_74_18, ↓zr_74_19, ↓zr_74_20, ↓zr_74_21, ↓zi_75, ↓zt_75]
    exact l_1160e (d := d + 1) n.toNat m 0 (by omega) h h1 h2 (by omega) (by omega) h0.2 hQ
  obtain ⟨q, h1, m', h2, h3⟩ := yx_of (y := 1160) (M := xm_m1160) (sc := sc) (d := d + 3) (as := [.inr (.inl (some 74)), .inl (n)]) (w := yy_W m t) (Q := fun q => ∃ m', q = (some (.inl (0)), yy_W m' t) ∧ ((∀ c, c ≠ 75 → m' c = m c))) rfl (key fun m' h => ⟨m', rfl, h⟩) (fun q ⟨m', h, _⟩ => by rw [h]; rfl) rfl (Nat.le_of_ble_eq_true rfl) (yy_hd rfl (by decide))
  exact ⟨m', by rw [h1, h2], h3⟩
theorem c_1163e {sc : List Int} {d : Nat} {t : xm_W} {m : Nat → Nat → Int} {y : Int} (h : m 75 3 = 0) : xm_X (xm_old sc) xm_mt (d + 1) 1163 [.inr (.inl (some 74)), .inl (y)] (yy_W (m) t) = some (some (.inl (-1)), (yy_W (m) t)) := by
  refine xm_X_of (M := xm_m1163) rfl ⟨xm_EQ.eq (xb_1163_0 ?_), rfl, rfl, Nat.le_of_ble_eq_true rfl, yy_hd rfl (by decide)⟩
  refine xb_1163_4 ?_
  simp (disch := first | omega | (unfold xm_w; omega)) only [↓zy_at, xm_O_some, xm_Oi_some, xm_Ov_some, xm_Oq_some, ↓reduceIte, ↓zz_t, ↓zz_f, ↓zi_t, ↓zi_f, eq_self, yy_d_0, Int.reduceEq, Int.reduceLT, Int.reduceLE, Int.reduceNe, Int.reduceToNat, Int.reduceAdd, Int.reduceSub, Int.reduceMul, Int.reduceNeg, Nat.reduceAdd, Nat.reduceMul, Nat.reduceSub, Nat.reduceEqDiff, Nat.reduceLT, ne_eq, not_false_eq_true, not_true_eq_false, true_and, and_true, and_self, yy_s_eq, yy_s_ne, yy_c_eq, yy_c_ne, yy_u_eq, yy_u_ne, xm_w_id, yy_at, tdiv_pos, tmod_pos, ↓zr_74_0, ↓zr_74_1, ↓zr_74_2, ↓zf_74_3, ↓zs_74_3, ↓zf_74_4, ↓zs_74_4, ↓zr_74_5, ↓zf_74_6, ↓zs_74_6, ↓zf_74_7, ↓zs_74_7, ↓zf_74_8, ↓zs_74_8, ↓zf_74_9, ↓zs_74_9, ↓zr_74_10, ↓zr_74_11, ↓zr_74_12, ↓zf_74_13, ↓zs_74_13, ↓zr_74_14, ↓zf_74_15, ↓zs_74_15, ↓zf_74_16, ↓zs_74_16, ↓zf_74_17, ↓zs_74_17, ↓zr_74_18, ↓zr_74_19, ↓zr_74_20, ↓zr_74_21, ↓zi_75, ↓zt_75, h]
theorem oc_1163e {F : Int → xm_W → Prop} {sc : List Int} {d : Nat} {t : xm_W} {m : Nat → Nat → Int} {y : Int} (h : m 75 3 = 0) : xm_Oi (xm_X (xm_old sc) xm_mt (d + 1) 1163 [.inr (.inl (some 74)), .inl (y)] (yy_W (m) t)) F = F (-1) (yy_W (m) t) := congrArg (fun x => xm_Oi x F) (c_1163e h)
theorem c_1164e {sc : List Int} {d : Nat} {t : xm_W} {m : Nat → Nat → Int} {y : Int} (h : m 75 3 = 0) : xm_X (xm_old sc) xm_mt (d + 1) 1164 [.inr (.inl (some 74)), .inl (y)] (yy_W (m) t) = some (some (.inl (0)), (yy_W (m) t)) := by
  refine xm_X_of (M := xm_m1164) rfl ⟨xm_EQ.eq (xb_1164_0 ?_), rfl, rfl, Nat.le_of_ble_eq_true rfl, yy_hd rfl (by decide)⟩
  refine xb_1164_4 ?_
  simp (disch := first | omega | (unfold xm_w; omega)) only [↓zy_at, xm_O_some, xm_Oi_some, xm_Ov_some, xm_Oq_some, ↓reduceIte, ↓zz_t, ↓zz_f, ↓zi_t, ↓zi_f, eq_self, yy_d_0, Int.reduceEq, Int.reduceLT, Int.reduceLE, Int.reduceNe, Int.reduceToNat, Int.reduceAdd, Int.reduceSub, Int.reduceMul, Int.reduceNeg, Nat.reduceAdd, Nat.reduceMul, Nat.reduceSub, Nat.reduceEqDiff, Nat.reduceLT, ne_eq, not_false_eq_true, not_true_eq_false, true_and, and_true, and_self, yy_s_eq, yy_s_ne, yy_c_eq, yy_c_ne, yy_u_eq, yy_u_ne, xm_w_id, yy_at, tdiv_pos, tmod_pos, ↓zr_74_0, ↓zr_74_1, ↓zr_74_2, ↓zf_74_3, ↓zs_74_3, ↓zf_74_4, ↓zs_74_4, ↓zr_74_5, ↓zf_74_6, ↓zs_74_6, ↓zf_74_7, ↓zs_74_7, ↓zf_74_8, ↓zs_74_8, ↓zf_74_9, ↓zs_74_9, ↓zr_74_10, ↓zr_74_11, ↓zr_74_12, ↓zf_74_13, ↓zs_74_13, ↓zr_74_14, ↓zf_74_15, ↓zs_74_15, ↓zf_74_16, ↓zs_74_16, ↓zf_74_17, ↓zs_74_17, ↓zr_74_18, ↓zr_74_19, ↓zr_74_20, ↓zr_74_21, ↓zi_75, ↓zt_75, h]
theorem oc_1164e {F : Int → xm_W → Prop} {sc : List Int} {d : Nat} {t : xm_W} {m : Nat → Nat → Int} {y : Int} (h : m 75 3 = 0) : xm_Oi (xm_X (xm_old sc) xm_mt (d + 1) 1164 [.inr (.inl (some 74)), .inl (y)] (yy_W (m) t)) F = F (0) (yy_W (m) t) := congrArg (fun x => xm_Oi x F) (c_1164e h)
theorem c_1165e {sc : List Int} {d : Nat} {t : xm_W} {m : Nat → Nat → Int} {y : Int} (h : m 75 3 = 0) : xm_X (xm_old sc) xm_mt (d + 1) 1165 [.inr (.inl (some 74)), .inl (y)] (yy_W (m) t) = some (some (.inl (0)), (yy_W (m) t)) := by
  refine xm_X_of (M := xm_m1165) rfl ⟨xm_EQ.eq (xb_1165_0 ?_), rfl, rfl, Nat.le_of_ble_eq_true rfl, yy_hd rfl (by decide)⟩
  refine xb_1165_4 ?_
  simp (disch := first | omega | (unfold xm_w; omega)) only [↓zy_at, xm_O_some, xm_Oi_some, xm_Ov_some, xm_Oq_some, ↓reduceIte, ↓zz_t, ↓zz_f, ↓zi_t, ↓zi_f, eq_self, yy_d_0, Int.reduceEq, Int.reduceLT, Int.reduceLE, Int.reduceNe, Int.reduceToNat, Int.reduceAdd, Int.reduceSub, Int.reduceMul, Int.reduceNeg, Nat.reduceAdd, Nat.reduceMul, Nat.reduceSub, Nat.reduceEqDiff, Nat.reduceLT, ne_eq, not_false_eq_true, not_true_eq_false, true_and, and_true, and_self, yy_s_eq, yy_s_ne, yy_c_eq, yy_c_ne, yy_u_eq, yy_u_ne, xm_w_id, yy_at, tdiv_pos, tmod_pos, ↓zr_74_0, ↓zr_74_1, ↓zr_74_2, ↓zf_74_3, ↓zs_74_3, ↓zf_74_4, ↓zs_74_4, ↓zr_74_5, ↓zf_74_6, ↓zs_74_6, ↓zf_74_7, ↓zs_74_7, ↓zf_74_8, ↓zs_74_8, ↓zf_74_9, ↓zs_74_9, ↓zr_74_10, ↓zr_74_11, ↓zr_74_12, ↓zf_74_13, ↓zs_74_13, ↓zr_74_14, ↓zf_74_15, ↓zs_74_15, ↓zf_74_16, ↓zs_74_16, ↓zf_74_17, ↓zs_74_17, ↓zr_74_18, ↓zr_74_19, ↓zr_74_20, ↓zr_74_21, ↓zi_75, ↓zt_75, h]
theorem oc_1165e {F : Int → xm_W → Prop} {sc : List Int} {d : Nat} {t : xm_W} {m : Nat → Nat → Int} {y : Int} (h : m 75 3 = 0) : xm_Oi (xm_X (xm_old sc) xm_mt (d + 1) 1165 [.inr (.inl (some 74)), .inl (y)] (yy_W (m) t)) F = F (0) (yy_W (m) t) := congrArg (fun x => xm_Oi x F) (c_1165e h)
theorem c_1104 {sc : List Int} {d : Nat} {x l g : Int} {w : xm_W} : xm_X (xm_old sc) xm_mt (d + 1) 1104 [.inl (x), .inl (l), .inl (g)] (w) = some (some (.inl (if x < l then l else if g < x then g else x)), (w)) := by
  refine xm_X_of (M := xm_m1104) rfl ⟨xm_EQ.eq (xb_1104_0 ?_), rfl, rfl, Nat.le_of_ble_eq_true rfl, xw_hd0⟩
  split
  · rfl
  · split <;> rfl
theorem oc_1104 {F : Int → xm_W → Prop} {sc : List Int} {d : Nat} {x l g : Int} {w : xm_W} : xm_Oi (xm_X (xm_old sc) xm_mt (d + 1) 1104 [.inl (x), .inl (l), .inl (g)] (w)) F = F (if x < l then l else if g < x then g else x) (w) := congrArg (fun x => xm_Oi x F) (c_1104)
theorem c_1166e {sc : List Int} {d : Nat} {t : xm_W} {m : Nat → Nat → Int} {y : Int} (h : m 75 3 = 0) (h1 : m 75 464 = 0) : xm_X (xm_old sc) xm_mt (d + 2) 1166 [.inr (.inl (some 74)), .inl (y)] (yy_W (m) t) = some (some (.inl (99)), (yy_W (m) t)) := by
  refine xm_X_of (M := xm_m1166) rfl ⟨xm_EQ.eq (xb_1166_0 ?_), rfl, rfl, Nat.le_of_ble_eq_true rfl, yy_hd rfl (by decide)⟩
  simp (disch := first | omega | (unfold xm_w; omega)) only [↓zy_at, xm_O_some, xm_Oi_some, xm_Ov_some, xm_Oq_some, ↓reduceIte, ↓zz_t, ↓zz_f, ↓zi_t, ↓zi_f, eq_self, yy_d_0, Int.reduceEq, Int.reduceLT, Int.reduceLE, Int.reduceNe, Int.reduceToNat, Int.reduceAdd, Int.reduceSub, Int.reduceMul, Int.reduceNeg, Nat.reduceAdd, Nat.reduceMul, Nat.reduceSub, Nat.reduceEqDiff, Nat.reduceLT, ne_eq, not_false_eq_true, not_true_eq_false, true_and, and_true, and_self, yy_s_eq, yy_s_ne, yy_c_eq, yy_c_ne, yy_u_eq, yy_u_ne, xm_w_id, yy_at, tdiv_pos, tmod_pos, ↓zr_74_0, ↓zr_74_1, ↓zr_74_2, ↓zf_74_3, ↓zs_74_3, ↓zf_74_4, ↓zs_74_4, ↓zr_74_5, ↓zf_74_6, ↓zs_74_6, ↓zf_74_7, ↓zs_74_7, ↓zf_74_8, ↓zs_74_8, ↓zf_74_9, ↓zs_74_9, ↓zr_74_10, ↓zr_74_11, ↓zr_74_12, ↓zf_74_13, ↓zs_74_13, ↓zr_74_14, ↓zf_74_15, ↓zs_74_15, ↓zf_74_16, ↓zs_74_16, ↓zf_74_17, ↓zs_74_17, ↓zr_74_18, ↓zr_74_19, ↓zr_74_20, ↓zr_74_21, ↓zi_75, ↓zt_75, ↓oc_1163e h]
  rw [oc_1125 (by decide)]
  rw [zz_f (by simp (disch := first | omega | (unfold xm_w; omega)) only [↓zy_at, xm_O_some, xm_Oi_some, xm_Ov_some, xm_Oq_some, ↓reduceIte, ↓zz_t, ↓zz_f, ↓zi_t, ↓zi_f, eq_self, yy_d_0, Int.reduceEq, Int.reduceLT, Int.reduceLE, Int.reduceNe, Int.reduceToNat, Int.reduceAdd, Int.reduceSub, Int.reduceMul, Int.reduceNeg, Nat.reduceAdd, Nat.reduceMul, Nat.reduceSub, Nat.reduceEqDiff, Nat.reduceLT, ne_eq, not_false_eq_true, not_true_eq_false, true_and, and_true, and_self, yy_s_eq, yy_s_ne, yy_c_eq, yy_c_ne, yy_u_eq, yy_u_ne, xm_w_id, yy_at, tdiv_pos, tmod_pos, h1])]
  simp (disch := first | omega | (unfold xm_w; omega)) only [↓zy_at, xm_O_some, xm_Oi_some, xm_Ov_some, xm_Oq_some, ↓reduceIte, ↓zz_t, ↓zz_f, ↓zi_t, ↓zi_f, eq_self, yy_d_0, Int.reduceEq, Int.reduceLT, Int.reduceLE, Int.reduceNe, Int.reduceToNat, Int.reduceAdd, Int.reduceSub, Int.reduceMul, Int.reduceNeg, Nat.reduceAdd, Nat.reduceMul, Nat.reduceSub, Nat.reduceEqDiff, Nat.reduceLT, ne_eq, not_false_eq_true, not_true_eq_false, true_and, and_true, and_self, yy_s_eq, yy_s_ne, yy_c_eq, yy_c_ne, yy_u_eq, yy_u_ne, xm_w_id, yy_at, tdiv_pos, tmod_pos, ↓oc_1104]
theorem oc_1166e {F : Int → xm_W → Prop} {sc : List Int} {d : Nat} {t : xm_W} {m : Nat → Nat → Int} {y : Int} (h : m 75 3 = 0) (h1 : m 75 464 = 0) : xm_Oi (xm_X (xm_old sc) xm_mt (d + 2) 1166 [.inr (.inl (some 74)), .inl (y)] (yy_W (m) t)) F = F (99) (yy_W (m) t) := congrArg (fun x => xm_Oi x F) (c_1166e h h1)
theorem c_1167e {sc : List Int} {d : Nat} {t : xm_W} {m : Nat → Nat → Int} {x y : Int} (h : m 75 3 = 0) (h1 : m 75 464 = 0) (h2 : 0 ≤ x ∧ x ≤ 35) : xm_X (xm_old sc) xm_mt (d + 3) 1167 [.inr (.inl (some 74)), .inl (x), .inl (y)] (yy_W (m) t) = some (some (.inl (if y = 0 then m 75 (8 + x).toNat else if y = 1 then 0 else if y = 2 then -1 else if y = 3 then 0 else 99)), (yy_W (m) t)) := by
  refine xm_X_of (M := xm_m1167) rfl ⟨xm_EQ.eq (xb_1167_0 ?_), rfl, rfl, Nat.le_of_ble_eq_true rfl, yy_hd rfl (by decide)⟩
  simp (disch := first | omega | (unfold xm_w; omega)) only [↓zy_at, xm_O_some, xm_Oi_some, xm_Ov_some, xm_Oq_some, ↓reduceIte, ↓zz_t, ↓zz_f, ↓zi_t, ↓zi_f, eq_self, yy_d_0, Int.reduceEq, Int.reduceLT, Int.reduceLE, Int.reduceNe, Int.reduceToNat, Int.reduceAdd, Int.reduceSub, Int.reduceMul, Int.reduceNeg, Nat.reduceAdd, Nat.reduceMul, Nat.reduceSub, Nat.reduceEqDiff, Nat.reduceLT, ne_eq, not_false_eq_true, not_true_eq_false, true_and, and_true, and_self, yy_s_eq, yy_s_ne, yy_c_eq, yy_c_ne, yy_u_eq, yy_u_ne, xm_w_id, yy_at, tdiv_pos, tmod_pos, ↓zr_74_0, ↓zr_74_1, ↓zr_74_2, ↓zf_74_3, ↓zs_74_3, ↓zf_74_4, ↓zs_74_4, ↓zr_74_5, ↓zf_74_6, ↓zs_74_6, ↓zf_74_7, ↓zs_74_7, ↓zf_74_8, ↓zs_74_8, ↓zf_74_9, ↓zs_74_9, ↓zr_74_10, ↓zr_74_11, ↓zr_74_12, ↓zf_74_13, ↓zs_74_13, ↓zr_74_14, ↓zf_74_15, ↓zs_74_15, ↓zf_74_16, ↓zs_74_16, ↓zf_74_17, ↓zs_74_17, ↓zr_74_18, ↓zr_74_19, ↓zr_74_20, ↓zr_74_21, ↓zi_75, ↓zt_75, ↓oc_1163e h, ↓oc_1164e h, ↓oc_1165e h, ↓oc_1166e h h1]
  split
  · rfl
  · split
    · rfl
    · split
      · rfl
      · split <;> rfl
theorem oc_1167e {F : Int → xm_W → Prop} {sc : List Int} {d : Nat} {t : xm_W} {m : Nat → Nat → Int} {x y : Int} (h : m 75 3 = 0) (h1 : m 75 464 = 0) (h2 : 0 ≤ x ∧ x ≤ 35) : xm_Oi (xm_X (xm_old sc) xm_mt (d + 3) 1167 [.inr (.inl (some 74)), .inl (x), .inl (y)] (yy_W (m) t)) F = F (if y = 0 then m 75 (8 + x).toNat else if y = 1 then 0 else if y = 2 then -1 else if y = 3 then 0 else 99) (yy_W (m) t) := congrArg (fun x => xm_Oi x F) (c_1167e h h1 h2)
theorem c_1168e {sc : List Int} {d : Nat} {t : xm_W} {m : Nat → Nat → Int} {x1 x2 : Int} (h1 : 0 ≤ x1 ∧ x1 ≤ 35) (h2 : 0 ≤ x2 ∧ x2 ≤ 4) (h : m 75 3 = 0) (h3 : m 75 464 = 0) : xm_X (xm_old sc) xm_mt (d + 4) 1168 [.inr (.inl (some 74)), .inl (x1), .inl (x2)] (yy_W (m) t) = some (some (.inl (if x2 = 0 then m 75 (8 + x1).toNat else if x2 = 1 then 0 else if x2 = 2 then -1 else if x2 = 3 then 0 else 99)), (yy_W (m) t)) := by
  refine xm_X_of (M := xm_m1168) rfl ⟨xm_EQ.eq (xb_1168_0 ?_), rfl, rfl, Nat.le_of_ble_eq_true rfl, yy_hd rfl (by decide)⟩
  simp (disch := first | omega | (unfold xm_w; omega)) only [↓zy_at, xm_O_some, xm_Oi_some, xm_Ov_some, xm_Oq_some, ↓reduceIte, ↓zz_t, ↓zz_f, ↓zi_t, ↓zi_f, eq_self, yy_d_0, Int.reduceEq, Int.reduceLT, Int.reduceLE, Int.reduceNe, Int.reduceToNat, Int.reduceAdd, Int.reduceSub, Int.reduceMul, Int.reduceNeg, Nat.reduceAdd, Nat.reduceMul, Nat.reduceSub, Nat.reduceEqDiff, Nat.reduceLT, ne_eq, not_false_eq_true, not_true_eq_false, true_and, and_true, and_self, yy_s_eq, yy_s_ne, yy_c_eq, yy_c_ne, yy_u_eq, yy_u_ne, xm_w_id, yy_at, tdiv_pos, tmod_pos, ↓oc_1108, ↓oc_1103, ↓oc_1167e h h3]
theorem oc_1168e {F : Int → xm_W → Prop} {sc : List Int} {d : Nat} {t : xm_W} {m : Nat → Nat → Int} {x1 x2 : Int} (h1 : 0 ≤ x1 ∧ x1 ≤ 35) (h2 : 0 ≤ x2 ∧ x2 ≤ 4) (h : m 75 3 = 0) (h3 : m 75 464 = 0) : xm_Oi (xm_X (xm_old sc) xm_mt (d + 4) 1168 [.inr (.inl (some 74)), .inl (x1), .inl (x2)] (yy_W (m) t)) F = F (if x2 = 0 then m 75 (8 + x1).toNat else if x2 = 1 then 0 else if x2 = 2 then -1 else if x2 = 3 then 0 else 99) (yy_W (m) t) := congrArg (fun x => xm_Oi x F) (c_1168e h1 h2 h h3)
theorem c_1169e {sc : List Int} {d : Nat} {t : xm_W} {m : Nat → Nat → Int} {x bl n : Int} (h : m 75 3 = 0) (h2 : 0 ≤ x ∧ x ≤ 35) : xm_X (xm_old sc) xm_mt (d + 2) 1169 [.inr (.inl (some 74)), .inl (x), .inl (bl), .inl (n)] (yy_W (m) t) = some (some (.inl (x)), (yy_W (yy_s m 74 13 0) t)) := by
  refine xm_X_of (M := xm_m1169) rfl ⟨xm_EQ.eq (xb_1169_0 ?_), rfl, rfl, Nat.le_of_ble_eq_true rfl, yy_hd rfl (by decide)⟩
  simp (disch := first | omega | (unfold xm_w; omega)) only [↓zy_at, xm_O_some, xm_Oi_some, xm_Ov_some, xm_Oq_some, ↓reduceIte, ↓zz_t, ↓zz_f, ↓zi_t, ↓zi_f, eq_self, yy_d_0, Int.reduceEq, Int.reduceLT, Int.reduceLE, Int.reduceNe, Int.reduceToNat, Int.reduceAdd, Int.reduceSub, Int.reduceMul, Int.reduceNeg, Nat.reduceAdd, Nat.reduceMul, Nat.reduceSub, Nat.reduceEqDiff, Nat.reduceLT, ne_eq, not_false_eq_true, not_true_eq_false, true_and, and_true, and_self, yy_s_eq, yy_s_ne, yy_c_eq, yy_c_ne, yy_u_eq, yy_u_ne, xm_w_id, yy_at, tdiv_pos, tmod_pos, ↓zr_74_0, ↓zr_74_1, ↓zr_74_2, ↓zf_74_3, ↓zs_74_3, ↓zf_74_4, ↓zs_74_4, ↓zr_74_5, ↓zf_74_6, ↓zs_74_6, ↓zf_74_7, ↓zs_74_7, ↓zf_74_8, ↓zs_74_8, ↓zf_74_9, ↓zs_74_9, ↓zr_74_10, ↓zr_74_11, ↓zr_74_12, ↓zf_74_13, ↓zs_74_13, ↓zr_74_14, ↓zf_74_15, ↓zs_74_15, ↓zf_74_16, ↓zs_74_16, ↓zf_74_17, ↓zs_74_17, ↓zr_74_18, ↓zr_74_19, ↓zr_74_20, ↓zr_74_21]
  refine xb_1169_7 ?_
  by_cases e : 0 < n
  · simp (disch := first | omega | (unfold xm_w; omega)) only [↓zy_at, xm_O_some, xm_Oi_some, xm_Ov_some, xm_Oq_some, ↓reduceIte, ↓zz_t, ↓zz_f, ↓zi_t, ↓zi_f, eq_self, yy_d_0, Int.reduceEq, Int.reduceLT, Int.reduceLE, Int.reduceNe, Int.reduceToNat, Int.reduceAdd, Int.reduceSub, Int.reduceMul, Int.reduceNeg, Nat.reduceAdd, Nat.reduceMul, Nat.reduceSub, Nat.reduceEqDiff, Nat.reduceLT, ne_eq, not_false_eq_true, not_true_eq_false, true_and, and_true, and_self, yy_s_eq, yy_s_ne, yy_c_eq, yy_c_ne, yy_u_eq, yy_u_ne, xm_w_id, yy_at, tdiv_pos, tmod_pos, ↓zr_74_0, ↓zr_74_1, ↓zr_74_2, ↓zf_74_3, ↓zs_74_3, ↓zf_74_4, ↓zs_74_4, ↓zr_74_5, ↓zf_74_6, ↓zs_74_6, ↓zf_74_7, ↓zs_74_7, ↓zf_74_8, ↓zs_74_8, ↓zf_74_9, ↓zs_74_9, ↓zr_74_10, ↓zr_74_11, ↓zr_74_12, ↓zf_74_13, ↓zs_74_13, ↓zr_74_14, ↓zf_74_15, ↓zs_74_15, ↓zf_74_16, ↓zs_74_16, ↓zf_74_17, ↓zs_74_17, ↓zr_74_18, ↓zr_74_19, ↓zr_74_20, ↓zr_74_21]
    rw [oc_1163e (by simp (disch := first | omega | (unfold xm_w; omega)) only [↓zy_at, xm_O_some, xm_Oi_some, xm_Ov_some, xm_Oq_some, ↓reduceIte, ↓zz_t, ↓zz_f, ↓zi_t, ↓zi_f, eq_self, yy_d_0, Int.reduceEq, Int.reduceLT, Int.reduceLE, Int.reduceNe, Int.reduceToNat, Int.reduceAdd, Int.reduceSub, Int.reduceMul, Int.reduceNeg, Nat.reduceAdd, Nat.reduceMul, Nat.reduceSub, Nat.reduceEqDiff, Nat.reduceLT, ne_eq, not_false_eq_true, not_true_eq_false, true_and, and_true, and_self, yy_s_eq, yy_s_ne, yy_c_eq, yy_c_ne, yy_u_eq, yy_u_ne, xm_w_id, yy_at, tdiv_pos, tmod_pos, h])]
    simp (disch := first | omega | (unfold xm_w; omega)) only [↓zy_at, xm_O_some, xm_Oi_some, xm_Ov_some, xm_Oq_some, ↓reduceIte, ↓zz_t, ↓zz_f, ↓zi_t, ↓zi_f, eq_self, yy_d_0, Int.reduceEq, Int.reduceLT, Int.reduceLE, Int.reduceNe, Int.reduceToNat, Int.reduceAdd, Int.reduceSub, Int.reduceMul, Int.reduceNeg, Nat.reduceAdd, Nat.reduceMul, Nat.reduceSub, Nat.reduceEqDiff, Nat.reduceLT, ne_eq, not_false_eq_true, not_true_eq_false, true_and, and_true, and_self, yy_s_eq, yy_s_ne, yy_c_eq, yy_c_ne, yy_u_eq, yy_u_ne, xm_w_id, yy_at, tdiv_pos, tmod_pos, ↓zr_74_0, ↓zr_74_1, ↓zr_74_2, ↓zf_74_3, ↓zs_74_3, ↓zf_74_4, ↓zs_74_4, ↓zr_74_5, ↓zf_74_6, ↓zs_74_6, ↓zf_74_7, ↓zs_74_7, ↓zf_74_8, ↓zs_74_8, ↓zf_74_9, ↓zs_74_9, ↓zr_74_10, ↓zr_74_11, ↓zr_74_12, ↓zf_74_13, ↓zs_74_13, ↓zr_74_14, ↓zf_74_15, ↓zs_74_15, ↓zf_74_16, ↓zs_74_16, ↓zf_74_17, ↓zs_74_17, ↓zr_74_18, ↓zr_74_19, ↓zr_74_20, ↓zr_74_21]
    refine xb_1169_7 ?_
    simp (disch := first | omega | (unfold xm_w; omega)) only [↓zy_at, xm_O_some, xm_Oi_some, xm_Ov_some, xm_Oq_some, ↓reduceIte, ↓zz_t, ↓zz_f, ↓zi_t, ↓zi_f, eq_self, yy_d_0, Int.reduceEq, Int.reduceLT, Int.reduceLE, Int.reduceNe, Int.reduceToNat, Int.reduceAdd, Int.reduceSub, Int.reduceMul, Int.reduceNeg, Nat.reduceAdd, Nat.reduceMul, Nat.reduceSub, Nat.reduceEqDiff, Nat.reduceLT, ne_eq, not_false_eq_true, not_true_eq_false, true_and, and_true, and_self, yy_s_eq, yy_s_ne, yy_c_eq, yy_c_ne, yy_u_eq, yy_u_ne, xm_w_id, yy_at, tdiv_pos, tmod_pos]
  · simp (disch := first | omega | (unfold xm_w; omega)) only [↓zy_at, xm_O_some, xm_Oi_some, xm_Ov_some, xm_Oq_some, ↓reduceIte, ↓zz_t, ↓zz_f, ↓zi_t, ↓zi_f, eq_self, yy_d_0, Int.reduceEq, Int.reduceLT, Int.reduceLE, Int.reduceNe, Int.reduceToNat, Int.reduceAdd, Int.reduceSub, Int.reduceMul, Int.reduceNeg, Nat.reduceAdd, Nat.reduceMul, Nat.reduceSub, Nat.reduceEqDiff, Nat.reduceLT, ne_eq, not_false_eq_true, not_true_eq_false, true_and, and_true, and_self, yy_s_eq, yy_s_ne, yy_c_eq, yy_c_ne, yy_u_eq, yy_u_ne, xm_w_id, yy_at, tdiv_pos, tmod_pos, ↓zr_74_0, ↓zr_74_1, ↓zr_74_2, ↓zf_74_3, ↓zs_74_3, ↓zf_74_4, ↓zs_74_4, ↓zr_74_5, ↓zf_74_6, ↓zs_74_6, ↓zf_74_7, ↓zs_74_7, ↓zf_74_8, ↓zs_74_8, ↓zf_74_9, ↓zs_74_9, ↓zr_74_10, ↓zr_74_11, ↓zr_74_12, ↓zf_74_13, ↓zs_74_13, ↓zr_74_14, ↓zf_74_15, ↓zs_74_15, ↓zf_74_16, ↓zs_74_16, ↓zf_74_17, ↓zs_74_17, ↓zr_74_18, ↓zr_74_19, ↓zr_74_20, ↓zr_74_21]
theorem oc_1169e {F : Int → xm_W → Prop} {sc : List Int} {d : Nat} {t : xm_W} {m : Nat → Nat → Int} {x bl n : Int} (h : m 75 3 = 0) (h2 : 0 ≤ x ∧ x ≤ 35) : xm_Oi (xm_X (xm_old sc) xm_mt (d + 2) 1169 [.inr (.inl (some 74)), .inl (x), .inl (bl), .inl (n)] (yy_W (m) t)) F = F (x) (yy_W (yy_s m 74 13 0) t) := congrArg (fun x => xm_Oi x F) (c_1169e h h2)
theorem c_1170e {sc : List Int} {d : Nat} {t : xm_W} {m : Nat → Nat → Int} {x1 x2 x3 x4 : Int} (h1 : 0 ≤ x1 ∧ x1 ≤ 35) (h2 : 0 ≤ x2 ∧ x2 ≤ 1) (h3 : 0 ≤ x3 ∧ x3 ≤ 40) (h4 : 0 ≤ x4 ∧ x4 ≤ 1) (h : m 75 3 = 0) : xm_X (xm_old sc) xm_mt (d + 4) 1170 [.inr (.inl (some 74)), .inl (x1), .inl (x2), .inl (x3), .inl (x4)] (yy_W (m) t) = some (some (.inl (if x4 = 0 then x1 else 0)), (yy_W (yy_s m 74 13 0) t)) := by
  refine xm_X_of (M := xm_m1170) rfl ⟨xm_EQ.eq (xb_1170_0 ?_), rfl, rfl, Nat.le_of_ble_eq_true rfl, yy_hd rfl (by decide)⟩
  by_cases e : x2 = 0
  · by_cases e4 : x4 = 0
    · simp (disch := first | omega | (unfold xm_w; omega)) only [↓zy_at, xm_O_some, xm_Oi_some, xm_Ov_some, xm_Oq_some, ↓reduceIte, ↓zz_t, ↓zz_f, ↓zi_t, ↓zi_f, eq_self, yy_d_0, Int.reduceEq, Int.reduceLT, Int.reduceLE, Int.reduceNe, Int.reduceToNat, Int.reduceAdd, Int.reduceSub, Int.reduceMul, Int.reduceNeg, Nat.reduceAdd, Nat.reduceMul, Nat.reduceSub, Nat.reduceEqDiff, Nat.reduceLT, ne_eq, not_false_eq_true, not_true_eq_false, true_and, and_true, and_self, yy_s_eq, yy_s_ne, yy_c_eq, yy_c_ne, yy_u_eq, yy_u_ne, xm_w_id, yy_at, tdiv_pos, tmod_pos, ↓oc_1108, ↓oc_1103, ↓oc_1169e h, ↓zr_74_0, ↓zr_74_1, ↓zr_74_2, ↓zf_74_3, ↓zs_74_3, ↓zf_74_4, ↓zs_74_4, ↓zr_74_5, ↓zf_74_6, ↓zs_74_6, ↓zf_74_7, ↓zs_74_7, ↓zf_74_8, ↓zs_74_8, ↓zf_74_9, ↓zs_74_9, ↓zr_74_10, ↓zr_74_11, ↓zr_74_12, ↓zf_74_13, ↓zs_74_13, ↓zr_74_14, ↓zf_74_15, ↓zs_74_15, ↓zf_74_16, ↓zs_74_16, ↓zf_74_17, ↓zs_74_17, ↓zr_74_18, ↓zr_74_19, ↓zr_74_20, ↓zr_74_21]
      rw [if_pos e4]
    · simp (disch := first | omega | (unfold xm_w; omega)) only [↓zy_at, xm_O_some, xm_Oi_some, xm_Ov_some, xm_Oq_some, ↓reduceIte, ↓zz_t, ↓zz_f, ↓zi_t, ↓zi_f, eq_self, yy_d_0, Int.reduceEq, Int.reduceLT, Int.reduceLE, Int.reduceNe, Int.reduceToNat, Int.reduceAdd, Int.reduceSub, Int.reduceMul, Int.reduceNeg, Nat.reduceAdd, Nat.reduceMul, Nat.reduceSub, Nat.reduceEqDiff, Nat.reduceLT, ne_eq, not_false_eq_true, not_true_eq_false, true_and, and_true, and_self, yy_s_eq, yy_s_ne, yy_c_eq, yy_c_ne, yy_u_eq, yy_u_ne, xm_w_id, yy_at, tdiv_pos, tmod_pos, ↓oc_1108, ↓oc_1103, ↓oc_1169e h, ↓zr_74_0, ↓zr_74_1, ↓zr_74_2, ↓zf_74_3, ↓zs_74_3, ↓zf_74_4, ↓zs_74_4, ↓zr_74_5, ↓zf_74_6, ↓zs_74_6, ↓zf_74_7, ↓zs_74_7, ↓zf_74_8, ↓zs_74_8, ↓zf_74_9, ↓zs_74_9, ↓zr_74_10, ↓zr_74_11, ↓zr_74_12, ↓zf_74_13, ↓zs_74_13, ↓zr_74_14, ↓zf_74_15, ↓zs_74_15, ↓zf_74_16, ↓zs_74_16, ↓zf_74_17, ↓zs_74_17, ↓zr_74_18, ↓zr_74_19, ↓zr_74_20, ↓zr_74_21]
      rw [if_neg e4]
  · by_cases e4 : x4 = 0
    · simp (disch := first | omega | (unfold xm_w; omega)) only [↓zy_at, xm_O_some, xm_Oi_some, xm_Ov_some, xm_Oq_some, ↓reduceIte, ↓zz_t, ↓zz_f, ↓zi_t, ↓zi_f, eq_self, yy_d_0, Int.reduceEq, Int.reduceLT, Int.reduceLE, Int.reduceNe, Int.reduceToNat, Int.reduceAdd, Int.reduceSub, Int.reduceMul, Int.reduceNeg, Nat.reduceAdd, Nat.reduceMul, Nat.reduceSub, Nat.reduceEqDiff, Nat.reduceLT, ne_eq, not_false_eq_true, not_true_eq_false, true_and, and_true, and_self, yy_s_eq, yy_s_ne, yy_c_eq, yy_c_ne, yy_u_eq, yy_u_ne, xm_w_id, yy_at, tdiv_pos, tmod_pos, ↓oc_1108, ↓oc_1103, ↓oc_1169e h, ↓zr_74_0, ↓zr_74_1, ↓zr_74_2, ↓zf_74_3, ↓zs_74_3, ↓zf_74_4, ↓zs_74_4, ↓zr_74_5, ↓zf_74_6, ↓zs_74_6, ↓zf_74_7, ↓zs_74_7, ↓zf_74_8, ↓zs_74_8, ↓zf_74_9, ↓zs_74_9, ↓zr_74_10, ↓zr_74_11, ↓zr_74_12, ↓zf_74_13, ↓zs_74_13, ↓zr_74_14, ↓zf_74_15, ↓zs_74_15, ↓zf_74_16, ↓zs_74_16, ↓zf_74_17, ↓zs_74_17, ↓zr_74_18, ↓zr_74_19, ↓zr_74_20, ↓zr_74_21]
      rw [if_pos e4]
    · simp (disch := first | omega | (unfold xm_w; omega)) only [↓zy_at, xm_O_some, xm_Oi_some, xm_Ov_some, xm_Oq_some, ↓reduceIte, ↓zz_t, ↓zz_f, ↓zi_t, ↓zi_f, eq_self, yy_d_0, Int.reduceEq, Int.reduceLT, Int.reduceLE, Int.reduceNe, Int.reduceToNat, Int.reduceAdd, Int.reduceSub, Int.reduceMul, Int.reduceNeg, Nat.reduceAdd, Nat.reduceMul, Nat.reduceSub, Nat.reduceEqDiff, Nat.reduceLT, ne_eq, not_false_eq_true, not_true_eq_false, true_and, and_true, and_self, yy_s_eq, yy_s_ne, yy_c_eq, yy_c_ne, yy_u_eq, yy_u_ne, xm_w_id, yy_at, tdiv_pos, tmod_pos, ↓oc_1108, ↓oc_1103, ↓oc_1169e h, ↓zr_74_0, ↓zr_74_1, ↓zr_74_2, ↓zf_74_3, ↓zs_74_3, ↓zf_74_4, ↓zs_74_4, ↓zr_74_5, ↓zf_74_6, ↓zs_74_6, ↓zf_74_7, ↓zs_74_7, ↓zf_74_8, ↓zs_74_8, ↓zf_74_9, ↓zs_74_9, ↓zr_74_10, ↓zr_74_11, ↓zr_74_12, ↓zf_74_13, ↓zs_74_13, ↓zr_74_14, ↓zf_74_15, ↓zs_74_15, ↓zf_74_16, ↓zs_74_16, ↓zf_74_17, ↓zs_74_17, ↓zr_74_18, ↓zr_74_19, ↓zr_74_20, ↓zr_74_21]
      rw [if_neg e4]
theorem oc_1170e {F : Int → xm_W → Prop} {sc : List Int} {d : Nat} {t : xm_W} {m : Nat → Nat → Int} {x1 x2 x3 x4 : Int} (h1 : 0 ≤ x1 ∧ x1 ≤ 35) (h2 : 0 ≤ x2 ∧ x2 ≤ 1) (h3 : 0 ≤ x3 ∧ x3 ≤ 40) (h4 : 0 ≤ x4 ∧ x4 ≤ 1) (h : m 75 3 = 0) : xm_Oi (xm_X (xm_old sc) xm_mt (d + 4) 1170 [.inr (.inl (some 74)), .inl (x1), .inl (x2), .inl (x3), .inl (x4)] (yy_W (m) t)) F = F (if x4 = 0 then x1 else 0) (yy_W (yy_s m 74 13 0) t) := congrArg (fun x => xm_Oi x F) (c_1170e h1 h2 h3 h4 h)
theorem l_1105_75_77 {sc : List Int} {d : Nat} {t : xm_W} {m : Nat → Nat → Int} {Q : Option xm_V × xm_W → Prop} (hQ : Q ((none, (yy_W (yy_c m 77 (yy_cp (m 75) (m 77) 0 0 339)) t)))) : ∀ (k i : Nat), i + k = 339 → xm_EQ (xm_old sc) xm_sta (xm_X (xm_old sc) xm_mt (d)) xm_c1105 2 [some (.inr (.inl (some 75))), some (.inr (.inl (some 77))), some (.inl (339)), some (.inl ((i : Int)))] [] (yy_W (yy_c m 77 (yy_cp (m 75) (m 77) 0 0 i)) t) Q
  | 0, i, hi => by
    refine xb_1105_2 ?_
    rw [if_neg (by omega)]
    rw [show i = 339 by omega]
    exact hQ
  | k + 1, i, hi => by
    refine xb_1105_2 ?_
    rw [if_pos (by omega)]
    simp (disch := first | omega | (unfold xm_w; omega)) only [↓zy_at, xm_O_some, xm_Oi_some, xm_Ov_some, xm_Oq_some, ↓reduceIte, ↓zz_t, ↓zz_f, ↓zi_t, ↓zi_f, eq_self, yy_d_0, Int.reduceEq, Int.reduceLT, Int.reduceLE, Int.reduceNe, Int.reduceToNat, Int.reduceAdd, Int.reduceSub, Int.reduceMul, Int.reduceNeg, Nat.reduceAdd, Nat.reduceMul, Nat.reduceSub, Nat.reduceEqDiff, Nat.reduceLT, ne_eq, not_false_eq_true, not_true_eq_false, true_and, and_true, and_self, yy_s_eq, yy_s_ne, yy_c_eq, yy_c_ne, yy_u_eq, yy_u_ne, xm_w_id, yy_at, tdiv_pos, tmod_pos, ↓zi_75, ↓zt_75, ↓zi_77, ↓zt_77, Int.toNat_natCast]
    have := l_1105_75_77 (sc := sc) (d := d) hQ k (i + 1) (by omega)
    rw [show ((i + 1 : Nat) : Int) = (i : Int) + 1 by omega] at this
    have e : yy_s (yy_c m 77 (yy_cp (m 75) (m 77) 0 0 i)) 77 i (m 75 i) = yy_c m 77 (yy_cp (m 75) (m 77) 0 0 (i + 1)) := by
      unfold yy_s
      rw [yy_c_c, yy_c_eq]
      congr 1
      funext q
      unfold yy_u yy_cp
      by_cases e1 : q = i
      · subst e1
        rw [if_pos rfl, if_pos (by omega)]; congr 1; omega
      · rw [if_neg e1]
        by_cases e2 : q < i
        · rw [if_pos (by omega), if_pos (by omega)]
        · rw [if_neg (by omega), if_neg (by omega)]
    rw [e]
    exact this
theorem c_1105_75_77 {sc : List Int} {d : Nat} {t : xm_W} {m : Nat → Nat → Int} : xm_X (xm_old sc) xm_mt (d + 1) 1105 [.inr (.inl (some 75)), .inr (.inl (some 77)), .inl (339)] (yy_W (m) t) = some (none, (yy_W (yy_c m 77 (yy_cp (m 75) (m 77) 0 0 339)) t)) := by
  refine xm_X_of (M := xm_m1105) rfl ⟨xm_EQ.eq (xb_1105_0 ?_), rfl, rfl, Nat.le_of_ble_eq_true rfl, xw_hd0⟩
  have := l_1105_75_77 (sc := sc) (d := d) (t := t) (m := m) (Q := fun q => (none, (yy_W (yy_c m 77 (yy_cp (m 75) (m 77) 0 0 339)) t)) = q) rfl 339 0 rfl
  have e : yy_c m 77 (yy_cp (m 75) (m 77) 0 0 0) = m := by
    rw [show yy_cp (m 75) (m 77) 0 0 0 = m 77 from funext fun q => by unfold yy_cp; rw [if_neg (by omega)]]
    exact yy_c_id
  rw [e] at this
  exact this
theorem oc_1105_75_77 {F : xm_W → Prop} {sc : List Int} {d : Nat} {t : xm_W} {m : Nat → Nat → Int} : xm_Ov (xm_X (xm_old sc) xm_mt (d + 1) 1105 [.inr (.inl (some 75)), .inr (.inl (some 77)), .inl (339)] (yy_W (m) t)) F = F (yy_W (yy_c m 77 (yy_cp (m 75) (m 77) 0 0 339)) t) := congrArg (fun x => xm_Ov x F) (c_1105_75_77)
theorem l_1105_77_75 {sc : List Int} {d : Nat} {t : xm_W} {m : Nat → Nat → Int} {Q : Option xm_V × xm_W → Prop} (hQ : Q ((none, (yy_W (yy_c m 75 (yy_cp (m 77) (m 75) 0 0 339)) t)))) : ∀ (k i : Nat), i + k = 339 → xm_EQ (xm_old sc) xm_sta (xm_X (xm_old sc) xm_mt (d)) xm_c1105 2 [some (.inr (.inl (some 77))), some (.inr (.inl (some 75))), some (.inl (339)), some (.inl ((i : Int)))] [] (yy_W (yy_c m 75 (yy_cp (m 77) (m 75) 0 0 i)) t) Q
  | 0, i, hi => by
    refine xb_1105_2 ?_
    rw [if_neg (by omega)]
    rw [show i = 339 by omega]
    exact hQ
  | k + 1, i, hi => by
    refine xb_1105_2 ?_
    rw [if_pos (by omega)]
    simp (disch := first | omega | (unfold xm_w; omega)) only [↓zy_at, xm_O_some, xm_Oi_some, xm_Ov_some, xm_Oq_some, ↓reduceIte, ↓zz_t, ↓zz_f, ↓zi_t, ↓zi_f, eq_self, yy_d_0, Int.reduceEq, Int.reduceLT, Int.reduceLE, Int.reduceNe, Int.reduceToNat, Int.reduceAdd, Int.reduceSub, Int.reduceMul, Int.reduceNeg, Nat.reduceAdd, Nat.reduceMul, Nat.reduceSub, Nat.reduceEqDiff, Nat.reduceLT, ne_eq, not_false_eq_true, not_true_eq_false, true_and, and_true, and_self, yy_s_eq, yy_s_ne, yy_c_eq, yy_c_ne, yy_u_eq, yy_u_ne, xm_w_id, yy_at, tdiv_pos, tmod_pos, ↓zi_77, ↓zt_77, ↓zi_75, ↓zt_75, Int.toNat_natCast]
    have := l_1105_77_75 (sc := sc) (d := d) hQ k (i + 1) (by omega)
    rw [show ((i + 1 : Nat) : Int) = (i : Int) + 1 by omega] at this
    have e : yy_s (yy_c m 75 (yy_cp (m 77) (m 75) 0 0 i)) 75 i (m 77 i) = yy_c m 75 (yy_cp (m 77) (m 75) 0 0 (i + 1)) := by
      unfold yy_s
      rw [yy_c_c, yy_c_eq]
      congr 1
      funext q
      unfold yy_u yy_cp
      by_cases e1 : q = i
      · subst e1
        rw [if_pos rfl, if_pos (by omega)]; congr 1; omega
      · rw [if_neg e1]
        by_cases e2 : q < i
        · rw [if_pos (by omega), if_pos (by omega)]
        · rw [if_neg (by omega), if_neg (by omega)]
    rw [e]
    exact this
theorem c_1105_77_75 {sc : List Int} {d : Nat} {t : xm_W} {m : Nat → Nat → Int} : xm_X (xm_old sc) xm_mt (d + 1) 1105 [.inr (.inl (some 77)), .inr (.inl (some 75)), .inl (339)] (yy_W (m) t) = some (none, (yy_W (yy_c m 75 (yy_cp (m 77) (m 75) 0 0 339)) t)) := by
  refine xm_X_of (M := xm_m1105) rfl ⟨xm_EQ.eq (xb_1105_0 ?_), rfl, rfl, Nat.le_of_ble_eq_true rfl, xw_hd0⟩
  have := l_1105_77_75 (sc := sc) (d := d) (t := t) (m := m) (Q := fun q => (none, (yy_W (yy_c m 75 (yy_cp (m 77) (m 75) 0 0 339)) t)) = q) rfl 339 0 rfl
  have e : yy_c m 75 (yy_cp (m 77) (m 75) 0 0 0) = m := by
    rw [show yy_cp (m 77) (m 75) 0 0 0 = m 75 from funext fun q => by unfold yy_cp; rw [if_neg (by omega)]]
    exact yy_c_id
  rw [e] at this
  exact this
theorem oc_1105_77_75 {F : xm_W → Prop} {sc : List Int} {d : Nat} {t : xm_W} {m : Nat → Nat → Int} : xm_Ov (xm_X (xm_old sc) xm_mt (d + 1) 1105 [.inr (.inl (some 77)), .inr (.inl (some 75)), .inl (339)] (yy_W (m) t)) F = F (yy_W (yy_c m 75 (yy_cp (m 77) (m 75) 0 0 339)) t) := congrArg (fun x => xm_Ov x F) (c_1105_77_75)
theorem l_1105_75_76 {sc : List Int} {d : Nat} {t : xm_W} {m : Nat → Nat → Int} {Q : Option xm_V × xm_W → Prop} (hQ : Q ((none, (yy_W (yy_c m 76 (yy_cp (m 75) (m 76) 0 0 673)) t)))) : ∀ (k i : Nat), i + k = 673 → xm_EQ (xm_old sc) xm_sta (xm_X (xm_old sc) xm_mt (d)) xm_c1105 2 [some (.inr (.inl (some 75))), some (.inr (.inl (some 76))), some (.inl (673)), some (.inl ((i : Int)))] [] (yy_W (yy_c m 76 (yy_cp (m 75) (m 76) 0 0 i)) t) Q
  | 0, i, hi => by
    refine xb_1105_2 ?_
    rw [if_neg (by omega)]
    rw [show i = 673 by omega]
    exact hQ
  | k + 1, i, hi => by
    refine xb_1105_2 ?_
    rw [if_pos (by omega)]
    simp (disch := first | omega | (unfold xm_w; omega)) only [↓zy_at, xm_O_some, xm_Oi_some, xm_Ov_some, xm_Oq_some, ↓reduceIte, ↓zz_t, ↓zz_f, ↓zi_t, ↓zi_f, eq_self, yy_d_0, Int.reduceEq, Int.reduceLT, Int.reduceLE, Int.reduceNe, Int.reduceToNat, Int.reduceAdd, Int.reduceSub, Int.reduceMul, Int.reduceNeg, Nat.reduceAdd, Nat.reduceMul, Nat.reduceSub, Nat.reduceEqDiff, Nat.reduceLT, ne_eq, not_false_eq_true, not_true_eq_false, true_and, and_true, and_self, yy_s_eq, yy_s_ne, yy_c_eq, yy_c_ne, yy_u_eq, yy_u_ne, xm_w_id, yy_at, tdiv_pos, tmod_pos, ↓zi_75, ↓zt_75, ↓zi_76, ↓zt_76, Int.toNat_natCast]
    have := l_1105_75_76 (sc := sc) (d := d) hQ k (i + 1) (by omega)
    rw [show ((i + 1 : Nat) : Int) = (i : Int) + 1 by omega] at this
    have e : yy_s (yy_c m 76 (yy_cp (m 75) (m 76) 0 0 i)) 76 i (m 75 i) = yy_c m 76 (yy_cp (m 75) (m 76) 0 0 (i + 1)) := by
      unfold yy_s
      rw [yy_c_c, yy_c_eq]
      congr 1
      funext q
      unfold yy_u yy_cp
      by_cases e1 : q = i
      · subst e1
        rw [if_pos rfl, if_pos (by omega)]; congr 1; omega
      · rw [if_neg e1]
        by_cases e2 : q < i
        · rw [if_pos (by omega), if_pos (by omega)]
        · rw [if_neg (by omega), if_neg (by omega)]
    rw [e]
    exact this
theorem c_1105_75_76 {sc : List Int} {d : Nat} {t : xm_W} {m : Nat → Nat → Int} : xm_X (xm_old sc) xm_mt (d + 1) 1105 [.inr (.inl (some 75)), .inr (.inl (some 76)), .inl (673)] (yy_W (m) t) = some (none, (yy_W (yy_c m 76 (yy_cp (m 75) (m 76) 0 0 673)) t)) := by
  refine xm_X_of (M := xm_m1105) rfl ⟨xm_EQ.eq (xb_1105_0 ?_), rfl, rfl, Nat.le_of_ble_eq_true rfl, xw_hd0⟩
  have := l_1105_75_76 (sc := sc) (d := d) (t := t) (m := m) (Q := fun q => (none, (yy_W (yy_c m 76 (yy_cp (m 75) (m 76) 0 0 673)) t)) = q) rfl 673 0 rfl
  have e : yy_c m 76 (yy_cp (m 75) (m 76) 0 0 0) = m := by
    rw [show yy_cp (m 75) (m 76) 0 0 0 = m 76 from funext fun q => by unfold yy_cp; rw [if_neg (by omega)]]
    exact yy_c_id
  rw [e] at this
  exact this
theorem oc_1105_75_76 {F : xm_W → Prop} {sc : List Int} {d : Nat} {t : xm_W} {m : Nat → Nat → Int} : xm_Ov (xm_X (xm_old sc) xm_mt (d + 1) 1105 [.inr (.inl (some 75)), .inr (.inl (some 76)), .inl (673)] (yy_W (m) t)) F = F (yy_W (yy_c m 76 (yy_cp (m 75) (m 76) 0 0 673)) t) := congrArg (fun x => xm_Ov x F) (c_1105_75_76)
theorem l_1105_76_75 {sc : List Int} {d : Nat} {t : xm_W} {m : Nat → Nat → Int} {Q : Option xm_V × xm_W → Prop} (hQ : Q ((none, (yy_W (yy_c m 75 (yy_cp (m 76) (m 75) 0 0 673)) t)))) : ∀ (k i : Nat), i + k = 673 → xm_EQ (xm_old sc) xm_sta (xm_X (xm_old sc) xm_mt (d)) xm_c1105 2 [some (.inr (.inl (some 76))), some (.inr (.inl (some 75))), some (.inl (673)), some (.inl ((i : Int)))] [] (yy_W (yy_c m 75 (yy_cp (m 76) (m 75) 0 0 i)) t) Q
  | 0, i, hi => by
    refine xb_1105_2 ?_
    rw [if_neg (by omega)]
    rw [show i = 673 by omega]
    exact hQ
  | k + 1, i, hi => by
    refine xb_1105_2 ?_
    rw [if_pos (by omega)]
    simp (disch := first | omega | (unfold xm_w; omega)) only [↓zy_at, xm_O_some, xm_Oi_some, xm_Ov_some, xm_Oq_some, ↓reduceIte, ↓zz_t, ↓zz_f, ↓zi_t, ↓zi_f, eq_self, yy_d_0, Int.reduceEq, Int.reduceLT, Int.reduceLE, Int.reduceNe, Int.reduceToNat, Int.reduceAdd, Int.reduceSub, Int.reduceMul, Int.reduceNeg, Nat.reduceAdd, Nat.reduceMul, Nat.reduceSub, Nat.reduceEqDiff, Nat.reduceLT, ne_eq, not_false_eq_true, not_true_eq_false, true_and, and_true, and_self, yy_s_eq, yy_s_ne, yy_c_eq, yy_c_ne, yy_u_eq, yy_u_ne, xm_w_id, yy_at, tdiv_pos, tmod_pos, ↓zi_76, ↓zt_76, ↓zi_75, ↓zt_75, Int.toNat_natCast]
    have := l_1105_76_75 (sc := sc) (d := d) hQ k (i + 1) (by omega)
    rw [show ((i + 1 : Nat) : Int) = (i : Int) + 1 by omega] at this
    have e : yy_s (yy_c m 75 (yy_cp (m 76) (m 75) 0 0 i)) 75 i (m 76 i) = yy_c m 75 (yy_cp (m 76) (m 75) 0 0 (i + 1)) := by
      unfold yy_s
      rw [yy_c_c, yy_c_eq]
      congr 1
      funext q
      unfold yy_u yy_cp
      by_cases e1 : q = i
      · subst e1
        rw [if_pos rfl, if_pos (by omega)]; congr 1; omega
      · rw [if_neg e1]
        by_cases e2 : q < i
        · rw [if_pos (by omega), if_pos (by omega)]
        · rw [if_neg (by omega), if_neg (by omega)]
    rw [e]
    exact this
theorem c_1105_76_75 {sc : List Int} {d : Nat} {t : xm_W} {m : Nat → Nat → Int} : xm_X (xm_old sc) xm_mt (d + 1) 1105 [.inr (.inl (some 76)), .inr (.inl (some 75)), .inl (673)] (yy_W (m) t) = some (none, (yy_W (yy_c m 75 (yy_cp (m 76) (m 75) 0 0 673)) t)) := by
  refine xm_X_of (M := xm_m1105) rfl ⟨xm_EQ.eq (xb_1105_0 ?_), rfl, rfl, Nat.le_of_ble_eq_true rfl, xw_hd0⟩
  have := l_1105_76_75 (sc := sc) (d := d) (t := t) (m := m) (Q := fun q => (none, (yy_W (yy_c m 75 (yy_cp (m 76) (m 75) 0 0 673)) t)) = q) rfl 673 0 rfl
  have e : yy_c m 75 (yy_cp (m 76) (m 75) 0 0 0) = m := by
    rw [show yy_cp (m 76) (m 75) 0 0 0 = m 75 from funext fun q => by unfold yy_cp; rw [if_neg (by omega)]]
    exact yy_c_id
  rw [e] at this
  exact this
theorem oc_1105_76_75 {F : xm_W → Prop} {sc : List Int} {d : Nat} {t : xm_W} {m : Nat → Nat → Int} : xm_Ov (xm_X (xm_old sc) xm_mt (d + 1) 1105 [.inr (.inl (some 76)), .inr (.inl (some 75)), .inl (673)] (yy_W (m) t)) F = F (yy_W (yy_c m 75 (yy_cp (m 76) (m 75) 0 0 673)) t) := congrArg (fun x => xm_Ov x F) (c_1105_76_75)
theorem c_1106 {sc : List Int} {d : Nat} {t : xm_W} {m : Nat → Nat → Int} : xm_X (xm_old sc) xm_mt (d + 2) 1106 [.inr (.inl (some 74))] (yy_W (m) t) = some (none, (yy_W (yy_c m 77 (yy_cp (m 75) (m 77) 0 0 339)) t)) := by
  refine xm_X_of (M := xm_m1106) rfl ⟨xm_EQ.eq (xb_1106_0 ?_), rfl, rfl, Nat.le_of_ble_eq_true rfl, yy_hd rfl (by decide)⟩
  simp (disch := first | omega | (unfold xm_w; omega)) only [↓zy_at, xm_O_some, xm_Oi_some, xm_Ov_some, xm_Oq_some, ↓reduceIte, ↓zz_t, ↓zz_f, ↓zi_t, ↓zi_f, eq_self, yy_d_0, Int.reduceEq, Int.reduceLT, Int.reduceLE, Int.reduceNe, Int.reduceToNat, Int.reduceAdd, Int.reduceSub, Int.reduceMul, Int.reduceNeg, Nat.reduceAdd, Nat.reduceMul, Nat.reduceSub, Nat.reduceEqDiff, Nat.reduceLT, ne_eq, not_false_eq_true, not_true_eq_false, true_and, and_true, and_self, yy_s_eq, yy_s_ne, yy_c_eq, yy_c_ne, yy_u_eq, yy_u_ne, xm_w_id, yy_at, tdiv_pos, tmod_pos, ↓zr_74_0, ↓zr_74_1, ↓zr_74_2, ↓zf_74_3, ↓zs_74_3, ↓zf_74_4, ↓zs_74_4, ↓zr_74_5, ↓zf_74_6, ↓zs_74_6, ↓zf_74_7, ↓zs_74_7, ↓zf_74_8, ↓zs_74_8, ↓zf_74_9, ↓zs_74_9, ↓zr_74_10, ↓zr_74_11, ↓zr_74_12, ↓zf_74_13, ↓zs_74_13, ↓zr_74_14, ↓zf_74_15, ↓zs_74_15, ↓zf_74_16, ↓zs_74_16, ↓zf_74_17, ↓zs_74_17, ↓zr_74_18, ↓zr_74_19, ↓zr_74_20, ↓zr_74_21, ↓oc_1105_75_77]
theorem oc_1106 {F : xm_W → Prop} {sc : List Int} {d : Nat} {t : xm_W} {m : Nat → Nat → Int} : xm_Ov (xm_X (xm_old sc) xm_mt (d + 2) 1106 [.inr (.inl (some 74))] (yy_W (m) t)) F = F (yy_W (yy_c m 77 (yy_cp (m 75) (m 77) 0 0 339)) t) := congrArg (fun x => xm_Ov x F) (c_1106)
theorem c_1107 {sc : List Int} {d : Nat} {t : xm_W} {m : Nat → Nat → Int} : xm_X (xm_old sc) xm_mt (d + 2) 1107 [.inr (.inl (some 74))] (yy_W (m) t) = some (none, (yy_W (yy_c m 75 (yy_cp (m 77) (m 75) 0 0 339)) t)) := by
  refine xm_X_of (M := xm_m1107) rfl ⟨xm_EQ.eq (xb_1107_0 ?_), rfl, rfl, Nat.le_of_ble_eq_true rfl, yy_hd rfl (by decide)⟩
  simp (disch := first | omega | (unfold xm_w; omega)) only [↓zy_at, xm_O_some, xm_Oi_some, xm_Ov_some, xm_Oq_some, ↓reduceIte, ↓zz_t, ↓zz_f, ↓zi_t, ↓zi_f, eq_self, yy_d_0, Int.reduceEq, Int.reduceLT, Int.reduceLE, Int.reduceNe, Int.reduceToNat, Int.reduceAdd, Int.reduceSub, Int.reduceMul, Int.reduceNeg, Nat.reduceAdd, Nat.reduceMul, Nat.reduceSub, Nat.reduceEqDiff, Nat.reduceLT, ne_eq, not_false_eq_true, not_true_eq_false, true_and, and_true, and_self, yy_s_eq, yy_s_ne, yy_c_eq, yy_c_ne, yy_u_eq, yy_u_ne, xm_w_id, yy_at, tdiv_pos, tmod_pos, ↓zr_74_0, ↓zr_74_1, ↓zr_74_2, ↓zf_74_3, ↓zs_74_3, ↓zf_74_4, ↓zs_74_4, ↓zr_74_5, ↓zf_74_6, ↓zs_74_6, ↓zf_74_7, ↓zs_74_7, ↓zf_74_8, ↓zs_74_8, ↓zf_74_9, ↓zs_74_9, ↓zr_74_10, ↓zr_74_11, ↓zr_74_12, ↓zf_74_13, ↓zs_74_13, ↓zr_74_14, ↓zf_74_15, ↓zs_74_15, ↓zf_74_16, ↓zs_74_16, ↓zf_74_17, ↓zs_74_17, ↓zr_74_18, ↓zr_74_19, ↓zr_74_20, ↓zr_74_21, ↓oc_1105_77_75]
theorem oc_1107 {F : xm_W → Prop} {sc : List Int} {d : Nat} {t : xm_W} {m : Nat → Nat → Int} : xm_Ov (xm_X (xm_old sc) xm_mt (d + 2) 1107 [.inr (.inl (some 74))] (yy_W (m) t)) F = F (yy_W (yy_c m 75 (yy_cp (m 77) (m 75) 0 0 339)) t) := congrArg (fun x => xm_Ov x F) (c_1107)
