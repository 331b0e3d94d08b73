set_option maxRecDepth 20000 in
theorem sg_N_i {s : Nat → Int} (h : 0 ≤ s 3) : ((sg_N s : Nat) : Int) = s 3 := by unfold sg_N; omega
set_option maxRecDepth 20000 in
theorem l_1143g {sc : List Int} {d : Nat} {t : xm_W} {m : Nat → Nat → Int} {s : Nat → Int} {Q : Option xm_V × xm_W → Prop} {v : Int} (hs : m 75 = s) (h3 : 0 ≤ s 3 ∧ s 3 ≤ 40) (hQ : Q ((some (.inl (sg_cn s 4 v (sg_N s))), (yy_W (m) t)))) : ∀ (k i : Nat), ((i + k : Nat) : Int) = s 3 → xm_EQ (xm_old sc) xm_sta (xm_X (xm_old sc) xm_mt (d + 1)) xm_c1143 4 [some (.inr (.inl (some 74))), some (.inl (v)), some (.inl ((sg_cn s 4 v i))), some (.inl ((i : Int)))] [] (yy_W (m) t) Q
  | 0, i, hk => by
    have e : i = sg_N s := by unfold sg_N; omega
    refine xb_1143_4 ?_
    simp (disch := first | omega | (unfold xm_w; omega)) only [↓zy_at, xm_O_some, xm_Oi_some, xm_Ov_some, xm_Oq_some, ↓reduceIte, ↓zz_t, ↓zz_f, ↓zi_t, ↓zi_f, eq_self, yy_d_0, Int.reduceEq, Int.reduceLT, Int.reduceLE, Int.reduceNe, Int.reduceToNat, Int.reduceAdd, Int.reduceSub, Int.reduceMul, Int.reduceNeg, Nat.reduceAdd, Nat.reduceMul, Nat.reduceSub, Nat.reduceEqDiff, Nat.reduceLT, ne_eq, not_false_eq_true, not_true_eq_false, true_and, and_true, and_self, yy_s_eq, yy_s_ne, yy_c_eq, yy_c_ne, yy_u_eq, yy_u_ne, xm_w_id, yy_at, tdiv_pos, tmod_pos, ↓zr_74_0, ↓zr_74_1, ↓zr_74_2, ↓zf_74_3, ↓zs_74_3, ↓zf_74_4, ↓zs_74_4, ↓zr_74_5, ↓zf_74_6, ↓zs_74_6, ↓zf_74_7, ↓zs_74_7, ↓zf_74_8, ↓zs_74_8, ↓zf_74_9, ↓zs_74_9, ↓zr_74_10, ↓zr_74_11, ↓zr_74_12, ↓zf_74_13, ↓zs_74_13, ↓zr_74_14, ↓zf_74_15, ↓zs_74_15, ↓zf_74_16, ↓zs_74_16, ↓zf_74_17, ↓zs_74_17, ↓zr_74_18, ↓zr_74_19, ↓zr_74_20, ↓zr_74_21, ↓zi_75, ↓zt_75, hs]
    rw [e]; exact hQ
  | k + 1, i, hk => by
    have cb := sg_cn_b (s := s) (w := 4) (v := v) i
    have := l_1143g (sc := sc) (d := d) (t := t) (Q := Q) hs h3 hQ k (i + 1) (by omega)
    rw [show ((i + 1 : Nat) : Int) = (i : Int) + 1 by omega] at this
    unfold sg_cn at this
    refine xb_1143_4 ?_
    simp (disch := first | omega | (unfold xm_w; omega)) only [↓zy_at, xm_O_some, xm_Oi_some, xm_Ov_some, xm_Oq_some, ↓reduceIte, ↓zz_t, ↓zz_f, ↓zi_t, ↓zi_f, eq_self, yy_d_0, Int.reduceEq, Int.reduceLT, Int.reduceLE, Int.reduceNe, Int.reduceToNat, Int.reduceAdd, Int.reduceSub, Int.reduceMul, Int.reduceNeg, Nat.reduceAdd, Nat.reduceMul, Nat.reduceSub, Nat.reduceEqDiff, Nat.reduceLT, ne_eq, not_false_eq_true, not_true_eq_false, true_and, and_true, and_self, yy_s_eq, yy_s_ne, yy_c_eq, yy_c_ne, yy_u_eq, yy_u_ne, xm_w_id, yy_at, tdiv_pos, tmod_pos, ↓zr_74_0, ↓zr_74_1, ↓zr_74_2, ↓zf_74_3, ↓zs_74_3, ↓zf_74_4, ↓zs_74_4, ↓zr_74_5, ↓zf_74_6, ↓zs_74_6, ↓zf_74_7, ↓zs_74_7, ↓zf_74_8, ↓zs_74_8, ↓zf_74_9, ↓zs_74_9, ↓zr_74_10, ↓zr_74_11, ↓zr_74_12, ↓zf_74_13, ↓zs_74_13, ↓zr_74_14, ↓zf_74_15, ↓zs_74_15, ↓zf_74_16, ↓zs_74_16, ↓zf_74_17, ↓zs_74_17, ↓zr_74_18, ↓zr_74_19, ↓zr_74_20, ↓zr_74_21, ↓zi_75, ↓zt_75, hs]
    rw [oc_1112_4 (by omega), hs]
    split
    · rename_i g; rw [if_pos g] at this; exact this
    · rename_i g; rw [if_neg g] at this; exact this
set_option maxRecDepth 20000 in
theorem c_1143 {sc : List Int} {d : Nat} {t : xm_W} {m : Nat → Nat → Int} {s : Nat → Int} {v : Int} (hs : m 75 = s) (h3 : 0 ≤ s 3 ∧ s 3 ≤ 40) : xm_X (xm_old sc) xm_mt (d + 2) 1143 [.inr (.inl (some 74)), .inl (v)] (yy_W (m) t) = some (some (.inl (sg_cn s 4 v (sg_N s))), (yy_W (m) t)) := by
  refine xm_X_of (M := xm_m1143) rfl ⟨xm_EQ.eq (xb_1143_0 ?_), rfl, rfl, Nat.le_of_ble_eq_true rfl, yy_hd rfl (by decide)⟩
  exact l_1143g (d := d) hs h3 rfl (sg_N s) 0 (by unfold sg_N; omega)
set_option maxRecDepth 20000 in
theorem oc_1143 {F : Int → xm_W → Prop} {sc : List Int} {d : Nat} {t : xm_W} {m : Nat → Nat → Int} {s : Nat → Int} {v : Int} (hs : m 75 = s) (h3 : 0 ≤ s 3 ∧ s 3 ≤ 40) : xm_Oi (xm_X (xm_old sc) xm_mt (d + 2) 1143 [.inr (.inl (some 74)), .inl (v)] (yy_W (m) t)) F = F (sg_cn s 4 v (sg_N s)) (yy_W (m) t) := congrArg (fun x => xm_Oi x F) (c_1143 hs h3)
set_option maxRecDepth 20000 in
theorem l_1164g {sc : List Int} {d : Nat} {t : xm_W} {m : Nat → Nat → Int} {s : Nat → Int} {Q : Option xm_V × xm_W → Prop} {v : Int} (hs : m 75 = s) (h3 : 0 ≤ s 3 ∧ s 3 ≤ 40) (hQ : Q ((some (.inl (sg_cn s 0 v (sg_N s))), (yy_W (m) t)))) : ∀ (k i : Nat), ((i + k : Nat) : Int) = s 3 → xm_EQ (xm_old sc) xm_sta (xm_X (xm_old sc) xm_mt (d + 1)) xm_c1164 4 [some (.inr (.inl (some 74))), some (.inl (v)), some (.inl ((sg_cn s 0 v i))), some (.inl ((i : Int)))] [] (yy_W (m) t) Q
  | 0, i, hk => by
    have e : i = sg_N s := by unfold sg_N; omega
    refine xb_1164_4 ?_
    simp (disch := first | omega | (unfold xm_w; omega)) only [↓zy_at, xm_O_some, xm_Oi_some, xm_Ov_some, xm_Oq_some, ↓reduceIte, ↓zz_t, ↓zz_f, ↓zi_t, ↓zi_f, eq_self, yy_d_0, Int.reduceEq, Int.reduceLT, Int.reduceLE, Int.reduceNe, Int.reduceToNat, Int.reduceAdd, Int.reduceSub, Int.reduceMul, Int.reduceNeg, Nat.reduceAdd, Nat.reduceMul, Nat.reduceSub, Nat.reduceEqDiff, Nat.reduceLT, ne_eq, not_false_eq_true, not_true_eq_false, true_and, and_true, and_self, yy_s_eq, yy_s_ne, yy_c_eq, yy_c_ne, yy_u_eq, yy_u_ne, xm_w_id, yy_at, tdiv_pos, tmod_pos, ↓zr_74_0, ↓zr_74_1, ↓zr_74_2, ↓zf_74_3, ↓zs_74_3, ↓zf_74_4, ↓zs_74_4, ↓zr_74_5, ↓zf_74_6, ↓zs_74_6, ↓zf_74_7, ↓zs_74_7, ↓zf_74_8, ↓zs_74_8, ↓zf_74_9, ↓zs_74_9, ↓zr_74_10, ↓zr_74_11, ↓zr_74_12, ↓zf_74_13, ↓zs_74_13, ↓zr_74_14, ↓zf_74_15, ↓zs_74_15, ↓zf_74_16, ↓zs_74_16, ↓zf_74_17, ↓zs_74_17, ↓zr_74_18, ↓zr_74_19, ↓zr_74_20, ↓zr_74_21, ↓zi_75, ↓zt_75, hs]
    rw [e]; exact hQ
  | k + 1, i, hk => by
    have cb := sg_cn_b (s := s) (w := 0) (v := v) i
    have := l_1164g (sc := sc) (d := d) (t := t) (Q := Q) hs h3 hQ k (i + 1) (by omega)
    rw [show ((i + 1 : Nat) : Int) = (i : Int) + 1 by omega] at this
    unfold sg_cn at this
    refine xb_1164_4 ?_
    simp (disch := first | omega | (unfold xm_w; omega)) only [↓zy_at, xm_O_some, xm_Oi_some, xm_Ov_some, xm_Oq_some, ↓reduceIte, ↓zz_t, ↓zz_f, ↓zi_t, ↓zi_f, eq_self, yy_d_0, Int.reduceEq, Int.reduceLT, Int.reduceLE, Int.reduceNe, Int.reduceToNat, Int.reduceAdd, Int.reduceSub, Int.reduceMul, Int.reduceNeg, Nat.reduceAdd, Nat.reduceMul, Nat.reduceSub, Nat.reduceEqDiff, Nat.reduceLT, ne_eq, not_false_eq_true, not_true_eq_false, true_and, and_true, and_self, yy_s_eq, yy_s_ne, yy_c_eq, yy_c_ne, yy_u_eq, yy_u_ne, xm_w_id, yy_at, tdiv_pos, tmod_pos, ↓zr_74_0, ↓zr_74_1, ↓zr_74_2, ↓zf_74_3, ↓zs_74_3, ↓zf_74_4, ↓zs_74_4, ↓zr_74_5, ↓zf_74_6, ↓zs_74_6, ↓zf_74_7, ↓zs_74_7, ↓zf_74_8, ↓zs_74_8, ↓zf_74_9, ↓zs_74_9, ↓zr_74_10, ↓zr_74_11, ↓zr_74_12, ↓zf_74_13, ↓zs_74_13, ↓zr_74_14, ↓zf_74_15, ↓zs_74_15, ↓zf_74_16, ↓zs_74_16, ↓zf_74_17, ↓zs_74_17, ↓zr_74_18, ↓zr_74_19, ↓zr_74_20, ↓zr_74_21, ↓zi_75, ↓zt_75, hs]
    rw [oc_1112_0 (by omega), hs]
    split
    · rename_i g; rw [if_pos g] at this; exact this
    · rename_i g; rw [if_neg g] at this; exact this
set_option maxRecDepth 20000 in
theorem c_1164 {sc : List Int} {d : Nat} {t : xm_W} {m : Nat → Nat → Int} {s : Nat → Int} {v : Int} (hs : m 75 = s) (h3 : 0 ≤ s 3 ∧ s 3 ≤ 40) : xm_X (xm_old sc) xm_mt (d + 2) 1164 [.inr (.inl (some 74)), .inl (v)] (yy_W (m) t) = some (some (.inl (sg_cn s 0 v (sg_N s))), (yy_W (m) t)) := by
  refine xm_X_of (M := xm_m1164) rfl ⟨xm_EQ.eq (xb_1164_0 ?_), rfl, rfl, Nat.le_of_ble_eq_true rfl, yy_hd rfl (by decide)⟩
  exact l_1164g (d := d) hs h3 rfl (sg_N s) 0 (by unfold sg_N; omega)
set_option maxRecDepth 20000 in
theorem oc_1164 {F : Int → xm_W → Prop} {sc : List Int} {d : Nat} {t : xm_W} {m : Nat → Nat → Int} {s : Nat → Int} {v : Int} (hs : m 75 = s) (h3 : 0 ≤ s 3 ∧ s 3 ≤ 40) : xm_Oi (xm_X (xm_old sc) xm_mt (d + 2) 1164 [.inr (.inl (some 74)), .inl (v)] (yy_W (m) t)) F = F (sg_cn s 0 v (sg_N s)) (yy_W (m) t) := congrArg (fun x => xm_Oi x F) (c_1164 hs h3)
set_option maxRecDepth 20000 in
theorem l_1163 {sc : List Int} {d : Nat} {t : xm_W} {m : Nat → Nat → Int} {s : Nat → Int} {Q : Option xm_V × xm_W → Prop} {c : Int} (hs : m 75 = s) (h3 : 0 ≤ s 3 ∧ s 3 ≤ 40) (hO : sg_O s 0) (hQ : Q ((some (.inl (sg_la s c (sg_N s))), (yy_W (m) t)))) : ∀ (k i : Nat) (u : Option xm_V), ((i + k : Nat) : Int) = s 3 → xm_EQ (xm_old sc) xm_sta (xm_X (xm_old sc) xm_mt (d + 1)) xm_c1163 4 [some (.inr (.inl (some 74))), some (.inl (c)), some (.inl ((sg_la s c i))), some (.inl ((i : Int))), u] [] (yy_W (m) t) Q
  | 0, i, u, hk => by
    have e : i = sg_N s := by unfold sg_N; omega
    refine xb_1163_4 ?_
    simp (disch := first | omega | (unfold xm_w; omega)) only [↓zy_at, xm_O_some, xm_Oi_some, xm_Ov_some, xm_Oq_some, ↓reduceIte, ↓zz_t, ↓zz_f, ↓zi_t, ↓zi_f, eq_self, yy_d_0, Int.reduceEq, Int.reduceLT, Int.reduceLE, Int.reduceNe, Int.reduceToNat, Int.reduceAdd, Int.reduceSub, Int.reduceMul, Int.reduceNeg, Nat.reduceAdd, Nat.reduceMul, Nat.reduceSub, Nat.reduceEqDiff, Nat.reduceLT, ne_eq, not_false_eq_true, not_true_eq_false, true_and, and_true, and_self, yy_s_eq, yy_s_ne, yy_c_eq, yy_c_ne, yy_u_eq, yy_u_ne, xm_w_id, yy_at, tdiv_pos, tmod_pos, ↓zr_74_0, ↓zr_74_1, ↓zr_74_2, ↓zf_74_3, ↓zs_74_3, ↓zf_74_4, ↓zs_74_4, ↓zr_74_5, ↓zf_74_6, ↓zs_74_6, ↓zf_74_7, ↓zs_74_7, ↓zf_74_8, ↓zs_74_8, ↓zf_74_9, ↓zs_74_9, ↓zr_74_10, ↓zr_74_11, ↓zr_74_12, ↓zf_74_13, ↓zs_74_13, ↓zr_74_14, ↓zf_74_15, ↓zs_74_15, ↓zf_74_16, ↓zs_74_16, ↓zf_74_17, ↓zs_74_17, ↓zr_74_18, ↓zr_74_19, ↓zr_74_20, ↓zr_74_21, ↓zi_75, ↓zt_75, hs]
    rw [e]; exact hQ
  | k + 1, i, u, hk => by
    have := fun u => l_1163 (sc := sc) (d := d) (t := t) (Q := Q) (c := c) hs h3 hO hQ k (i + 1) u (by omega)
    rw [show ((i + 1 : Nat) : Int) = (i : Int) + 1 by omega] at this
    unfold sg_la at this
    refine xb_1163_4 ?_
    rw [zr_74_0, zi_75, hs, zy_at (by decide) (by decide), show (3 : Int).toNat = 3 from rfl, if_pos (by omega), oc_1112_0 (by omega), hs, xm_w_id (by omega) (by omega)]
    by_cases g : sg_p s i 0 = c
    · rw [if_pos g] at this ⊢
      by_cases g1 : sg_la s c i = -1
      · rw [if_pos g1, if_neg (by decide)]
        exact this _
      · rw [if_neg g1]
        have lb := (sg_la_b (s := s) (c := c) i).resolve_left g1
        have el : sg_la s c i = (((sg_la s c i).toNat : Nat) : Int) := by omega
        have lt := hO.2 (sg_la s c i).toNat i (by omega) (by omega)
        unfold sg_lt at lt
        rw [oc_1112_3 (by omega), hs]
        rw [el, oc_1112_3 (by omega), hs]
        by_cases g2 : sg_p s (sg_la s c i).toNat 3 < sg_p s i 3
        · rw [if_pos g2, if_neg (by decide)]
          exact this _
        · rw [if_neg g2, oc_1112_3 (by omega), oc_1112_3 (by omega), hs, if_pos (by omega), oc_1112_4 (by omega), oc_1112_4 (by omega), hs, if_pos (by omega), if_neg (by decide)]
          exact this _
    · rw [if_neg g] at this ⊢
      exact this _
set_option maxRecDepth 20000 in
theorem c_1163 {sc : List Int} {d : Nat} {t : xm_W} {m : Nat → Nat → Int} {s : Nat → Int} {c : Int} (hs : m 75 = s) (h3 : 0 ≤ s 3 ∧ s 3 ≤ 40) (hO : sg_O s 0) : xm_X (xm_old sc) xm_mt (d + 2) 1163 [.inr (.inl (some 74)), .inl (c)] (yy_W (m) t) = some (some (.inl (sg_la s c (sg_N s))), (yy_W (m) t)) := by
  refine xm_X_of (M := xm_m1163) rfl ⟨xm_EQ.eq (xb_1163_0 ?_), rfl, rfl, Nat.le_of_ble_eq_true rfl, yy_hd rfl (by decide)⟩
  exact l_1163 (d := d) hs h3 hO rfl (sg_N s) 0 none (by unfold sg_N; omega)
set_option maxRecDepth 20000 in
theorem oc_1163 {F : Int → xm_W → Prop} {sc : List Int} {d : Nat} {t : xm_W} {m : Nat → Nat → Int} {s : Nat → Int} {c : Int} (hs : m 75 = s) (h3 : 0 ≤ s 3 ∧ s 3 ≤ 40) (hO : sg_O s 0) : xm_Oi (xm_X (xm_old sc) xm_mt (d + 2) 1163 [.inr (.inl (some 74)), .inl (c)] (yy_W (m) t)) F = F (sg_la s c (sg_N s)) (yy_W (m) t) := congrArg (fun x => xm_Oi x F) (c_1163 hs h3 hO)
set_option maxRecDepth 20000 in
theorem l_1165 {sc : List Int} {d : Nat} {t : xm_W} {m : Nat → Nat → Int} {s : Nat → Int} {Q : Option xm_V × xm_W → Prop} {c : Int} (hs : m 75 = s) (h3 : 0 ≤ s 3 ∧ s 3 ≤ 40) (hQ : Q ((some (.inl (sg_de s c (sg_N s))), (yy_W (m) t)))) : ∀ (k i : Nat), ((i + k : Nat) : Int) = s 3 → xm_EQ (xm_old sc) xm_sta (xm_X (xm_old sc) xm_mt (d + 1)) xm_c1165 4 [some (.inr (.inl (some 74))), some (.inl (c)), some (.inl ((sg_de s c i))), some (.inl ((i : Int)))] [] (yy_W (m) t) Q
  | 0, i, hk => by
    have e : i = sg_N s := by unfold sg_N; omega
    refine xb_1165_4 ?_
    simp (disch := first | omega | (unfold xm_w; omega)) only [↓zy_at, xm_O_some, xm_Oi_some, xm_Ov_some, xm_Oq_some, ↓reduceIte, ↓zz_t, ↓zz_f, ↓zi_t, ↓zi_f, eq_self, yy_d_0, Int.reduceEq, Int.reduceLT, Int.reduceLE, Int.reduceNe, Int.reduceToNat, Int.reduceAdd, Int.reduceSub, Int.reduceMul, Int.reduceNeg, Nat.reduceAdd, Nat.reduceMul, Nat.reduceSub, Nat.reduceEqDiff, Nat.reduceLT, ne_eq, not_false_eq_true, not_true_eq_false, true_and, and_true, and_self, yy_s_eq, yy_s_ne, yy_c_eq, yy_c_ne, yy_u_eq, yy_u_ne, xm_w_id, yy_at, tdiv_pos, tmod_pos, ↓zr_74_0, ↓zr_74_1, ↓zr_74_2, ↓zf_74_3, ↓zs_74_3, ↓zf_74_4, ↓zs_74_4, ↓zr_74_5, ↓zf_74_6, ↓zs_74_6, ↓zf_74_7, ↓zs_74_7, ↓zf_74_8, ↓zs_74_8, ↓zf_74_9, ↓zs_74_9, ↓zr_74_10, ↓zr_74_11, ↓zr_74_12, ↓zf_74_13, ↓zs_74_13, ↓zr_74_14, ↓zf_74_15, ↓zs_74_15, ↓zf_74_16, ↓zs_74_16, ↓zf_74_17, ↓zs_74_17, ↓zr_74_18, ↓zr_74_19, ↓zr_74_20, ↓zr_74_21, ↓zi_75, ↓zt_75, hs]
    rw [e]; exact hQ
  | k + 1, i, hk => by
    have := l_1165 (sc := sc) (d := d) (t := t) (Q := Q) hs h3 hQ k (i + 1) (by omega)
    rw [show ((i + 1 : Nat) : Int) = (i : Int) + 1 by omega] at this
    unfold sg_de at this
    refine xb_1165_4 ?_
    rw [zr_74_0, zi_75, hs, zy_at (by decide) (by decide), show (3 : Int).toNat = 3 from rfl, if_pos (by omega), oc_1112_0 (by omega), hs, xm_w_id (by omega) (by omega)]
    by_cases g : sg_p s i 0 = c
    · rw [if_pos g] at this ⊢
      rw [oc_1112_2 (by omega), hs]
      by_cases g2 : sg_de s c i < sg_p s i 2
      · rw [if_pos g2] at this ⊢
        rw [oc_1112_2 (by omega), hs]; exact this
      · rw [if_neg g2] at this ⊢; exact this
    · rw [if_neg g] at this ⊢; exact this
set_option maxRecDepth 20000 in
theorem c_1165 {sc : List Int} {d : Nat} {t : xm_W} {m : Nat → Nat → Int} {s : Nat → Int} {c : Int} (hs : m 75 = s) (h3 : 0 ≤ s 3 ∧ s 3 ≤ 40) : xm_X (xm_old sc) xm_mt (d + 2) 1165 [.inr (.inl (some 74)), .inl (c)] (yy_W (m) t) = some (some (.inl (sg_de s c (sg_N s))), (yy_W (m) t)) := by
  refine xm_X_of (M := xm_m1165) rfl ⟨xm_EQ.eq (xb_1165_0 ?_), rfl, rfl, Nat.le_of_ble_eq_true rfl, yy_hd rfl (by decide)⟩
  exact l_1165 (d := d) hs h3 rfl (sg_N s) 0 (by unfold sg_N; omega)
set_option maxRecDepth 20000 in
theorem oc_1165 {F : Int → xm_W → Prop} {sc : List Int} {d : Nat} {t : xm_W} {m : Nat → Nat → Int} {s : Nat → Int} {c : Int} (hs : m 75 = s) (h3 : 0 ≤ s 3 ∧ s 3 ≤ 40) : xm_Oi (xm_X (xm_old sc) xm_mt (d + 2) 1165 [.inr (.inl (some 74)), .inl (c)] (yy_W (m) t)) F = F (sg_de s c (sg_N s)) (yy_W (m) t) := congrArg (fun x => xm_Oi x F) (c_1165 hs h3)
set_option maxRecDepth 20000 in
theorem sg_nmD_ok2 {na : Nat → Int} {n dd a : Int} (h0 : na 110 = n) (h1 : na 100 = dd) (h2 : na 97 = a) : ∀ v, sg_nm 1 v → (fun v : Int => na v.toNat) v = sg_nmD n dd a v := by
  intro v hv
  unfold sg_nm at hv
  rw [if_neg (by decide)] at hv
  unfold sg_nmD
  show na v.toNat = _
  rcases hv with h | h | h <;> subst h
  · rw [if_pos rfl]; exact h0
  · rw [if_neg (by decide), if_pos rfl]; exact h1
  · rw [if_neg (by decide), if_neg (by decide)]; exact h2
set_option maxRecDepth 20000 in
theorem sg_age_b {s : Nat → Int} {c : Int} (hW : sg_W s 0) : 0 ≤ sg_age s c ∧ sg_age s c ≤ 99 := by
  obtain ⟨hR, hO, hS, hT, hT1⟩ := id hW
  obtain ⟨b0, b1, b2, b3, hso, hrd⟩ := id hR
  have hN := sg_N_i b3.1
  unfold sg_age
  rcases sg_la_b (s := s) (c := c) (sg_N s) with h | ⟨h, h', h2⟩
  · rw [if_pos h]; omega
  · rw [if_neg (by omega)]
    have x := hO.1 (sg_la s c (sg_N s)).toNat (by omega)
    have y := hS (sg_la s c (sg_N s)).toNat (by omega)
    have z := sg_k_r (c := sg_p s (sg_la s c (sg_N s)).toNat 0) b2
    omega
set_option maxRecDepth 20000 in
theorem c_1166 {sc : List Int} {d : Nat} {t : xm_W} {m : Nat → Nat → Int} {s : Nat → Int} {c : Int} (hs : m 75 = s) (hW : sg_W s 0) (hc : 0 ≤ c ∧ c ≤ 35) : ∃ m', xm_X (xm_old sc) xm_mt (d + 4) 1166 [.inr (.inl (some 74)), .inl (c)] (yy_W m t) = some (some (.inl (sg_db s c)), yy_W m' t) ∧ ∀ c, c ≠ 80 → c ≠ 81 → m' c = m c := by
  have key : ∀ {Q : Option xm_V × xm_W → Prop}, (∀ m', (∀ c, c ≠ 80 → c ≠ 81 → m' c = m c) → Q (some (.inl (sg_db s c)), yy_W m' t)) → xm_EQ (xm_old sc) xm_sta (xm_X (xm_old sc) xm_mt (d + 3)) xm_m1166.2.2.2.2.2.2.2 0 (xm_loc xm_m1166.2.2.1 [.inr (.inl (some 74)), .inl (c)]) [] (yy_W m t) Q := by
    intro Q hQ
    obtain ⟨hR, hO, hS, hT, hT1⟩ := id hW
    obtain ⟨b0, b1, b2, b3, hso, hrd⟩ := id hR
    have ag := sg_age_b (c := c) hW
    have hN := sg_N_i b3.1
    have h464 : m 75 (339 + 125 * (1 : Int)).toNat = sg_tn s 1 := by rw [hs]; rfl
    have rest : ∀ {F : Int → xm_W → Prop} A, A = sg_age s c → (∀ m1, (∀ c, c ≠ 80 → c ≠ 81 → m1 c = m c) → F (sg_db s c) (yy_W m1 t)) → ∀ (P : Prop), xm_Oi (xm_X (xm_old sc) xm_mt (d + 3) 1104 [.inl (A), .inl (0), .inl (99)] (yy_W (m) t)) F = P → ∀ (R : Prop), (0 < sg_tn s 1 → R) → (if (if 0 < sg_tn s 1 then (1 : Int) else 0) = 0 then P else R) := by
      intro F A hA hF P hP R hR
      by_cases h : 0 < sg_tn s 1
      · rw [zz_t h]; exact hR h
      · rw [zz_f h, ← hP, oc_1104]
        have := hF m fun _ _ _ => rfl
        unfold sg_db at this
        rw [if_neg h, ← hA] at this
        rw [if_neg (by omega), if_neg (by omega)]
        exact this
    have text : ∀ m1 : Nat → Nat → Int, (∀ c, c ≠ 80 → m1 c = m c) → m1 80 110 = sg_cn s 0 c (sg_N s) → m1 80 100 = sg_de s c (sg_N s) → m1 80 97 = sg_age s c → 0 < sg_tn s 1 → xm_Oi (xm_X (xm_old sc) xm_mt (d + 3) 1129 [.inr (.inl (some 74)), .inl (1)] (yy_W (m1) t)) (fun z23 w22 => xm_Oi (xm_X (xm_old sc) xm_mt (d + 3) 1104 [.inl z23, .inl 0, .inl 99] w22) (fun z25 w24 => Q (some (.inl z25), w24))) := by
      intro m1 h1 n0 n1 n2 h0
      obtain ⟨m2, e, g1⟩ := c_1129 (sc := sc) (d := d + 1) (t := t) (u := 1) (m := m1) (by decide) (by rw [h1 75 (by decide), hs]; exact hT1) (by rw [h1 75 (by decide), hs]; exact h0)
      rw [show ((1 : Nat) : Int) = 1 from rfl, h1 75 (by decide), hs, sg_val_congr hT1 (sg_nmD_ok2 n0 n1 n2)] at e
      rw [e, xm_Oi_some, oc_1104]
      have := hQ m2 fun c c1 c2 => by rw [g1 c c2, h1 c c1]
      unfold sg_db at this
      rw [if_pos h0] at this
      exact this
    refine xb_1166_0 ?_
    rw [oc_1163 hs b3 hO]
    rcases sg_la_b (s := s) (c := c) (sg_N s) with h | ⟨h, h', h2⟩
    · have ea : sg_age s c = 99 := by unfold sg_age; rw [if_pos h]
      rw [if_pos h, oc_1125 (by decide), h464]
      refine rest 99 ea.symm (fun m1 h => hQ m1 h) _ rfl _ (fun h0 => ?_)
      rw [zr_74_11, oc_1164 hs b3, zt_80 (by decide) (by decide), show (110 : Int).toNat = 110 from rfl, zr_74_11, oc_1165 (m := yy_s m 80 110 _) (by rw [yy_s_ne (by decide)]; exact hs) b3, zt_80 (by decide) (by decide), show (100 : Int).toNat = 100 from rfl, zr_74_11, zt_80 (by decide) (by decide), show (97 : Int).toNat = 97 from rfl]
      refine text _ (fun c hc => ?_) ?_ ?_ ?_ h0
      · simp (disch := first | omega | (unfold xm_w; omega)) only [↓zy_at, xm_O_some, xm_Oi_some, xm_Ov_some, xm_Oq_some, ↓reduceIte, ↓zz_t, ↓zz_f, ↓zi_t, ↓zi_f, eq_self, yy_d_0, Int.reduceEq, Int.reduceLT, Int.reduceLE, Int.reduceNe, Int.reduceToNat, Int.reduceAdd, Int.reduceSub, Int.reduceMul, Int.reduceNeg, Nat.reduceAdd, Nat.reduceMul, Nat.reduceSub, Nat.reduceEqDiff, Nat.reduceLT, ne_eq, not_false_eq_true, not_true_eq_false, true_and, and_true, and_self, yy_s_eq, yy_s_ne, yy_c_eq, yy_c_ne, yy_u_eq, yy_u_ne, xm_w_id, yy_at, tdiv_pos, tmod_pos]
      · simp (disch := first | omega | (unfold xm_w; omega)) only [↓zy_at, xm_O_some, xm_Oi_some, xm_Ov_some, xm_Oq_some, ↓reduceIte, ↓zz_t, ↓zz_f, ↓zi_t, ↓zi_f, eq_self, yy_d_0, Int.reduceEq, Int.reduceLT, Int.reduceLE, Int.reduceNe, Int.reduceToNat, Int.reduceAdd, Int.reduceSub, Int.reduceMul, Int.reduceNeg, Nat.reduceAdd, Nat.reduceMul, Nat.reduceSub, Nat.reduceEqDiff, Nat.reduceLT, ne_eq, not_false_eq_true, not_true_eq_false, true_and, and_true, and_self, yy_s_eq, yy_s_ne, yy_c_eq, yy_c_ne, yy_u_eq, yy_u_ne, xm_w_id, yy_at, tdiv_pos, tmod_pos]
      · simp (disch := first | omega | (unfold xm_w; omega)) only [↓zy_at, xm_O_some, xm_Oi_some, xm_Ov_some, xm_Oq_some, ↓reduceIte, ↓zz_t, ↓zz_f, ↓zi_t, ↓zi_f, eq_self, yy_d_0, Int.reduceEq, Int.reduceLT, Int.reduceLE, Int.reduceNe, Int.reduceToNat, Int.reduceAdd, Int.reduceSub, Int.reduceMul, Int.reduceNeg, Nat.reduceAdd, Nat.reduceMul, Nat.reduceSub, Nat.reduceEqDiff, Nat.reduceLT, ne_eq, not_false_eq_true, not_true_eq_false, true_and, and_true, and_self, yy_s_eq, yy_s_ne, yy_c_eq, yy_c_ne, yy_u_eq, yy_u_ne, xm_w_id, yy_at, tdiv_pos, tmod_pos]
      · simp (disch := first | omega | (unfold xm_w; omega)) only [↓zy_at, xm_O_some, xm_Oi_some, xm_Ov_some, xm_Oq_some, ↓reduceIte, ↓zz_t, ↓zz_f, ↓zi_t, ↓zi_f, eq_self, yy_d_0, Int.reduceEq, Int.reduceLT, Int.reduceLE, Int.reduceNe, Int.reduceToNat, Int.reduceAdd, Int.reduceSub, Int.reduceMul, Int.reduceNeg, Nat.reduceAdd, Nat.reduceMul, Nat.reduceSub, Nat.reduceEqDiff, Nat.reduceLT, ne_eq, not_false_eq_true, not_true_eq_false, true_and, and_true, and_self, yy_s_eq, yy_s_ne, yy_c_eq, yy_c_ne, yy_u_eq, yy_u_ne, xm_w_id, yy_at, tdiv_pos, tmod_pos]; exact ea.symm
    · have el : sg_la s c (sg_N s) = (((sg_la s c (sg_N s)).toNat : Nat) : Int) := by omega
      have ea : s 1 - sg_p s (sg_la s c (sg_N s)).toNat 3 = sg_age s c := by unfold sg_age; rw [if_neg (by omega)]
      rw [if_neg (by omega), zr_74_0, zi_75, hs, zy_at (by decide) (by decide), show (1 : Int).toNat = 1 from rfl]
      rw [el, oc_1112_3 (by omega), hs, oc_1125 (by decide), h464, ea, xm_w_id (by omega) (by omega)]
      refine rest _ rfl (fun m1 h => hQ m1 h) _ rfl _ (fun h0 => ?_)
      rw [zr_74_11, oc_1164 hs b3, zt_80 (by decide) (by decide), show (110 : Int).toNat = 110 from rfl, zr_74_11, oc_1165 (m := yy_s m 80 110 _) (by rw [yy_s_ne (by decide)]; exact hs) b3, zt_80 (by decide) (by decide), show (100 : Int).toNat = 100 from rfl, zr_74_11, zt_80 (by decide) (by decide), show (97 : Int).toNat = 97 from rfl]
      refine text _ (fun c hc => ?_) ?_ ?_ ?_ h0
      · simp (disch := first | omega | (unfold xm_w; omega)) only [↓zy_at, xm_O_some, xm_Oi_some, xm_Ov_some, xm_Oq_some, ↓reduceIte, ↓zz_t, ↓zz_f, ↓zi_t, ↓zi_f, eq_self, yy_d_0, Int.reduceEq, Int.reduceLT, Int.reduceLE, Int.reduceNe, Int.reduceToNat, Int.reduceAdd, Int.reduceSub, Int.reduceMul, Int.reduceNeg, Nat.reduceAdd, Nat.reduceMul, Nat.reduceSub, Nat.reduceEqDiff, Nat.reduceLT, ne_eq, not_false_eq_true, not_true_eq_false, true_and, and_true, and_self, yy_s_eq, yy_s_ne, yy_c_eq, yy_c_ne, yy_u_eq, yy_u_ne, xm_w_id, yy_at, tdiv_pos, tmod_pos]
      · simp (disch := first | omega | (unfold xm_w; omega)) only [↓zy_at, xm_O_some, xm_Oi_some, xm_Ov_some, xm_Oq_some, ↓reduceIte, ↓zz_t, ↓zz_f, ↓zi_t, ↓zi_f, eq_self, yy_d_0, Int.reduceEq, Int.reduceLT, Int.reduceLE, Int.reduceNe, Int.reduceToNat, Int.reduceAdd, Int.reduceSub, Int.reduceMul, Int.reduceNeg, Nat.reduceAdd, Nat.reduceMul, Nat.reduceSub, Nat.reduceEqDiff, Nat.reduceLT, ne_eq, not_false_eq_true, not_true_eq_false, true_and, and_true, and_self, yy_s_eq, yy_s_ne, yy_c_eq, yy_c_ne, yy_u_eq, yy_u_ne, xm_w_id, yy_at, tdiv_pos, tmod_pos]
      · simp (disch := first | omega | (unfold xm_w; omega)) only [↓zy_at, xm_O_some, xm_Oi_some, xm_Ov_some, xm_Oq_some, ↓reduceIte, ↓zz_t, ↓zz_f, ↓zi_t, ↓zi_f, eq_self, yy_d_0, Int.reduceEq, Int.reduceLT, Int.reduceLE, Int.reduceNe, Int.reduceToNat, Int.reduceAdd, Int.reduceSub, Int.reduceMul, Int.reduceNeg, Nat.reduceAdd, Nat.reduceMul, Nat.reduceSub, Nat.reduceEqDiff, Nat.reduceLT, ne_eq, not_false_eq_true, not_true_eq_false, true_and, and_true, and_self, yy_s_eq, yy_s_ne, yy_c_eq, yy_c_ne, yy_u_eq, yy_u_ne, xm_w_id, yy_at, tdiv_pos, tmod_pos]
      · simp (disch := first | omega | (unfold xm_w; omega)) only [↓zy_at, xm_O_some, xm_Oi_some, xm_Ov_some, xm_Oq_some, ↓reduceIte, ↓zz_t, ↓zz_f, ↓zi_t, ↓zi_f, eq_self, yy_d_0, Int.reduceEq, Int.reduceLT, Int.reduceLE, Int.reduceNe, Int.reduceToNat, Int.reduceAdd, Int.reduceSub, Int.reduceMul, Int.reduceNeg, Nat.reduceAdd, Nat.reduceMul, Nat.reduceSub, Nat.reduceEqDiff, Nat.reduceLT, ne_eq, not_false_eq_true, not_true_eq_false, true_and, and_true, and_self, yy_s_eq, yy_s_ne, yy_c_eq, yy_c_ne, yy_u_eq, yy_u_ne, xm_w_id, yy_at, tdiv_pos, tmod_pos]
  obtain ⟨q, h1, m', h2, h3⟩ := yx_of (y := 1166) (M := xm_m1166) (sc := sc) (d := d + 3) (as := [.inr (.inl (some 74)), .inl (c)]) (w := yy_W m t) (Q := fun q => ∃ m', q = (some (.inl (sg_db s c)), yy_W m' t) ∧ (∀ c, c ≠ 80 → c ≠ 81 → m' c = m c)) rfl (key fun m' h => ⟨m', rfl, h⟩) (fun q ⟨m', h, _⟩ => by rw [h]; rfl) rfl (Nat.le_of_ble_eq_true rfl) (yy_hd rfl (by decide))
  exact ⟨m', by rw [h1, h2], h3⟩
