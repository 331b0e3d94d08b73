set_option maxRecDepth 20000 in
theorem yy_s_c {m : Nat → Nat → Int} {c i : Nat} {f : Nat → Int} {v : Int} : yy_s (yy_c m c f) c i v = yy_c m c (yy_u f i v) := by unfold yy_s; rw [yy_c_c, yy_c_eq]
set_option maxRecDepth 20000 in
theorem yy_c_of {m m' : Nat → Nat → Int} {c : Nat} (h : ∀ k, k ≠ c → m' k = m k) : m' = yy_c m c (m' c) := by
  funext k
  by_cases e : k = c
  · subst e; rw [yy_c_eq]
  · rw [yy_c_ne e, h k e]
set_option maxRecDepth 20000 in
theorem c_1112_0 {sc : List Int} {d : Nat} {t : xm_W} {m : Nat → Nat → Int} {i : Nat} (h : i < 41) : xm_X (xm_old sc) xm_mt (d + 1) 1112 [.inr (.inl (some 74)), .inl ((i : Int)), .inl (0)] (yy_W (m) t) = some (some (.inl (sg_p (m 75) i 0)), (yy_W (m) t)) := by
  rw [c_1112 (by omega) (by omega) (by decide) (by decide)]
  unfold sg_p
  rw [show (134 + 5 * (i : Int) + 0).toNat = 134 + 5 * i + 0 by omega]
set_option maxRecDepth 20000 in
theorem oc_1112_0 {F : Int → xm_W → Prop} {sc : List Int} {d : Nat} {t : xm_W} {m : Nat → Nat → Int} {i : Nat} (h : i < 41) : xm_Oi (xm_X (xm_old sc) xm_mt (d + 1) 1112 [.inr (.inl (some 74)), .inl ((i : Int)), .inl (0)] (yy_W (m) t)) F = F (sg_p (m 75) i 0) (yy_W (m) t) := congrArg (fun x => xm_Oi x F) (c_1112_0 h)
set_option maxRecDepth 20000 in
theorem c_1112_1 {sc : List Int} {d : Nat} {t : xm_W} {m : Nat → Nat → Int} {i : Nat} (h : i < 41) : xm_X (xm_old sc) xm_mt (d + 1) 1112 [.inr (.inl (some 74)), .inl ((i : Int)), .inl (1)] (yy_W (m) t) = some (some (.inl (sg_p (m 75) i 1)), (yy_W (m) t)) := by
  rw [c_1112 (by omega) (by omega) (by decide) (by decide)]
  unfold sg_p
  rw [show (134 + 5 * (i : Int) + 1).toNat = 134 + 5 * i + 1 by omega]
set_option maxRecDepth 20000 in
theorem oc_1112_1 {F : Int → xm_W → Prop} {sc : List Int} {d : Nat} {t : xm_W} {m : Nat → Nat → Int} {i : Nat} (h : i < 41) : xm_Oi (xm_X (xm_old sc) xm_mt (d + 1) 1112 [.inr (.inl (some 74)), .inl ((i : Int)), .inl (1)] (yy_W (m) t)) F = F (sg_p (m 75) i 1) (yy_W (m) t) := congrArg (fun x => xm_Oi x F) (c_1112_1 h)
set_option maxRecDepth 20000 in
theorem c_1112_2 {sc : List Int} {d : Nat} {t : xm_W} {m : Nat → Nat → Int} {i : Nat} (h : i < 41) : xm_X (xm_old sc) xm_mt (d + 1) 1112 [.inr (.inl (some 74)), .inl ((i : Int)), .inl (2)] (yy_W (m) t) = some (some (.inl (sg_p (m 75) i 2)), (yy_W (m) t)) := by
  rw [c_1112 (by omega) (by omega) (by decide) (by decide)]
  unfold sg_p
  rw [show (134 + 5 * (i : Int) + 2).toNat = 134 + 5 * i + 2 by omega]
set_option maxRecDepth 20000 in
theorem oc_1112_2 {F : Int → xm_W → Prop} {sc : List Int} {d : Nat} {t : xm_W} {m : Nat → Nat → Int} {i : Nat} (h : i < 41) : xm_Oi (xm_X (xm_old sc) xm_mt (d + 1) 1112 [.inr (.inl (some 74)), .inl ((i : Int)), .inl (2)] (yy_W (m) t)) F = F (sg_p (m 75) i 2) (yy_W (m) t) := congrArg (fun x => xm_Oi x F) (c_1112_2 h)
set_option maxRecDepth 20000 in
theorem c_1112_3 {sc : List Int} {d : Nat} {t : xm_W} {m : Nat → Nat → Int} {i : Nat} (h : i < 41) : xm_X (xm_old sc) xm_mt (d + 1) 1112 [.inr (.inl (some 74)), .inl ((i : Int)), .inl (3)] (yy_W (m) t) = some (some (.inl (sg_p (m 75) i 3)), (yy_W (m) t)) := by
  rw [c_1112 (by omega) (by omega) (by decide) (by decide)]
  unfold sg_p
  rw [show (134 + 5 * (i : Int) + 3).toNat = 134 + 5 * i + 3 by omega]
set_option maxRecDepth 20000 in
theorem oc_1112_3 {F : Int → xm_W → Prop} {sc : List Int} {d : Nat} {t : xm_W} {m : Nat → Nat → Int} {i : Nat} (h : i < 41) : xm_Oi (xm_X (xm_old sc) xm_mt (d + 1) 1112 [.inr (.inl (some 74)), .inl ((i : Int)), .inl (3)] (yy_W (m) t)) F = F (sg_p (m 75) i 3) (yy_W (m) t) := congrArg (fun x => xm_Oi x F) (c_1112_3 h)
set_option maxRecDepth 20000 in
theorem c_1112_4 {sc : List Int} {d : Nat} {t : xm_W} {m : Nat → Nat → Int} {i : Nat} (h : i < 41) : xm_X (xm_old sc) xm_mt (d + 1) 1112 [.inr (.inl (some 74)), .inl ((i : Int)), .inl (4)] (yy_W (m) t) = some (some (.inl (sg_p (m 75) i 4)), (yy_W (m) t)) := by
  rw [c_1112 (by omega) (by omega) (by decide) (by decide)]
  unfold sg_p
  rw [show (134 + 5 * (i : Int) + 4).toNat = 134 + 5 * i + 4 by omega]
set_option maxRecDepth 20000 in
theorem oc_1112_4 {F : Int → xm_W → Prop} {sc : List Int} {d : Nat} {t : xm_W} {m : Nat → Nat → Int} {i : Nat} (h : i < 41) : xm_Oi (xm_X (xm_old sc) xm_mt (d + 1) 1112 [.inr (.inl (some 74)), .inl ((i : Int)), .inl (4)] (yy_W (m) t)) F = F (sg_p (m 75) i 4) (yy_W (m) t) := congrArg (fun x => xm_Oi x F) (c_1112_4 h)
set_option maxRecDepth 20000 in
theorem c_1130 {sc : List Int} {d : Nat} {t : xm_W} {m : Nat → Nat → Int} {c : Int} (h : 0 ≤ c ∧ c ≤ 35) (hf : 0 ≤ m 75 2 ∧ m 75 2 ≤ 9) : xm_X (xm_old sc) xm_mt (d + 1) 1130 [.inr (.inl (some 74)), .inl (c)] (yy_W (m) t) = some (some (.inl (sg_k (m 75) c)), (yy_W (m) t)) := by
  refine xm_X_of (M := xm_m1130) rfl ⟨xm_EQ.eq (xb_1130_0 ?_), rfl, rfl, Nat.le_of_ble_eq_true rfl, yy_hd rfl (by decide)⟩
  unfold sg_k
  by_cases h0 : m 75 (8 + c).toNat = 0
  · rw [if_pos h0]; simp (disch := first | omega | (unfold xm_w; omega)) only [↓zy_at, xm_O_some, xm_Oi_some, xm_Ov_some, xm_Oq_some, ↓reduceIte, ↓zz_t, ↓zz_f, ↓zi_t, ↓zi_f, eq_self, yy_d_0, Int.reduceEq, Int.reduceLT, Int.reduceLE, Int.reduceNe, Int.reduceToNat, Int.reduceAdd, Int.reduceSub, Int.reduceMul, Int.reduceNeg, Nat.reduceAdd, Nat.reduceMul, Nat.reduceSub, Nat.reduceEqDiff, Nat.reduceLT, ne_eq, not_false_eq_true, not_true_eq_false, true_and, and_true, and_self, yy_s_eq, yy_s_ne, yy_c_eq, yy_c_ne, yy_u_eq, yy_u_ne, xm_w_id, yy_at, tdiv_pos, tmod_pos, ↓zr_74_0, ↓zr_74_1, ↓zr_74_2, ↓zf_74_3, ↓zs_74_3, ↓zf_74_4, ↓zs_74_4, ↓zr_74_5, ↓zf_74_6, ↓zs_74_6, ↓zf_74_7, ↓zs_74_7, ↓zf_74_8, ↓zs_74_8, ↓zf_74_9, ↓zs_74_9, ↓zr_74_10, ↓zr_74_11, ↓zr_74_12, ↓zf_74_13, ↓zs_74_13, ↓zr_74_14, ↓zf_74_15, ↓zs_74_15, ↓zf_74_16, ↓zs_74_16, ↓zf_74_17, ↓zs_74_17, ↓zr_74_18, ↓zr_74_19, ↓zr_74_20, ↓zr_74_21, ↓zi_75, ↓zt_75, h0]
  · rw [if_neg h0]
    by_cases h1 : m 75 (8 + c).toNat = 1
    · rw [if_pos h1]; simp (disch := first | omega | (unfold xm_w; omega)) only [↓zy_at, xm_O_some, xm_Oi_some, xm_Ov_some, xm_Oq_some, ↓reduceIte, ↓zz_t, ↓zz_f, ↓zi_t, ↓zi_f, eq_self, yy_d_0, Int.reduceEq, Int.reduceLT, Int.reduceLE, Int.reduceNe, Int.reduceToNat, Int.reduceAdd, Int.reduceSub, Int.reduceMul, Int.reduceNeg, Nat.reduceAdd, Nat.reduceMul, Nat.reduceSub, Nat.reduceEqDiff, Nat.reduceLT, ne_eq, not_false_eq_true, not_true_eq_false, true_and, and_true, and_self, yy_s_eq, yy_s_ne, yy_c_eq, yy_c_ne, yy_u_eq, yy_u_ne, xm_w_id, yy_at, tdiv_pos, tmod_pos, ↓zr_74_0, ↓zr_74_1, ↓zr_74_2, ↓zf_74_3, ↓zs_74_3, ↓zf_74_4, ↓zs_74_4, ↓zr_74_5, ↓zf_74_6, ↓zs_74_6, ↓zf_74_7, ↓zs_74_7, ↓zf_74_8, ↓zs_74_8, ↓zf_74_9, ↓zs_74_9, ↓zr_74_10, ↓zr_74_11, ↓zr_74_12, ↓zf_74_13, ↓zs_74_13, ↓zr_74_14, ↓zf_74_15, ↓zs_74_15, ↓zf_74_16, ↓zs_74_16, ↓zf_74_17, ↓zs_74_17, ↓zr_74_18, ↓zr_74_19, ↓zr_74_20, ↓zr_74_21, ↓zi_75, ↓zt_75, h1]
    · rw [if_neg h1]
      by_cases h2 : m 75 (8 + c).toNat = 2
      · rw [if_pos h2]; simp (disch := first | omega | (unfold xm_w; omega)) only [↓zy_at, xm_O_some, xm_Oi_some, xm_Ov_some, xm_Oq_some, ↓reduceIte, ↓zz_t, ↓zz_f, ↓zi_t, ↓zi_f, eq_self, yy_d_0, Int.reduceEq, Int.reduceLT, Int.reduceLE, Int.reduceNe, Int.reduceToNat, Int.reduceAdd, Int.reduceSub, Int.reduceMul, Int.reduceNeg, Nat.reduceAdd, Nat.reduceMul, Nat.reduceSub, Nat.reduceEqDiff, Nat.reduceLT, ne_eq, not_false_eq_true, not_true_eq_false, true_and, and_true, and_self, yy_s_eq, yy_s_ne, yy_c_eq, yy_c_ne, yy_u_eq, yy_u_ne, xm_w_id, yy_at, tdiv_pos, tmod_pos, ↓zr_74_0, ↓zr_74_1, ↓zr_74_2, ↓zf_74_3, ↓zs_74_3, ↓zf_74_4, ↓zs_74_4, ↓zr_74_5, ↓zf_74_6, ↓zs_74_6, ↓zf_74_7, ↓zs_74_7, ↓zf_74_8, ↓zs_74_8, ↓zf_74_9, ↓zs_74_9, ↓zr_74_10, ↓zr_74_11, ↓zr_74_12, ↓zf_74_13, ↓zs_74_13, ↓zr_74_14, ↓zf_74_15, ↓zs_74_15, ↓zf_74_16, ↓zs_74_16, ↓zf_74_17, ↓zs_74_17, ↓zr_74_18, ↓zr_74_19, ↓zr_74_20, ↓zr_74_21, ↓zi_75, ↓zt_75, h2]
      · rw [if_neg h2]; simp (disch := first | omega | (unfold xm_w; omega)) only [↓zy_at, xm_O_some, xm_Oi_some, xm_Ov_some, xm_Oq_some, ↓reduceIte, ↓zz_t, ↓zz_f, ↓zi_t, ↓zi_f, eq_self, yy_d_0, Int.reduceEq, Int.reduceLT, Int.reduceLE, Int.reduceNe, Int.reduceToNat, Int.reduceAdd, Int.reduceSub, Int.reduceMul, Int.reduceNeg, Nat.reduceAdd, Nat.reduceMul, Nat.reduceSub, Nat.reduceEqDiff, Nat.reduceLT, ne_eq, not_false_eq_true, not_true_eq_false, true_and, and_true, and_self, yy_s_eq, yy_s_ne, yy_c_eq, yy_c_ne, yy_u_eq, yy_u_ne, xm_w_id, yy_at, tdiv_pos, tmod_pos, ↓zr_74_0, ↓zr_74_1, ↓zr_74_2, ↓zf_74_3, ↓zs_74_3, ↓zf_74_4, ↓zs_74_4, ↓zr_74_5, ↓zf_74_6, ↓zs_74_6, ↓zf_74_7, ↓zs_74_7, ↓zf_74_8, ↓zs_74_8, ↓zf_74_9, ↓zs_74_9, ↓zr_74_10, ↓zr_74_11, ↓zr_74_12, ↓zf_74_13, ↓zs_74_13, ↓zr_74_14, ↓zf_74_15, ↓zs_74_15, ↓zf_74_16, ↓zs_74_16, ↓zf_74_17, ↓zs_74_17, ↓zr_74_18, ↓zr_74_19, ↓zr_74_20, ↓zr_74_21, ↓zi_75, ↓zt_75]
set_option maxRecDepth 20000 in
theorem oc_1130 {F : Int → xm_W → Prop} {sc : List Int} {d : Nat} {t : xm_W} {m : Nat → Nat → Int} {c : Int} (h : 0 ≤ c ∧ c ≤ 35) (hf : 0 ≤ m 75 2 ∧ m 75 2 ≤ 9) : xm_Oi (xm_X (xm_old sc) xm_mt (d + 1) 1130 [.inr (.inl (some 74)), .inl (c)] (yy_W (m) t)) F = F (sg_k (m 75) c) (yy_W (m) t) := congrArg (fun x => xm_Oi x F) (c_1130 h hf)
set_option maxRecDepth 20000 in
theorem sg_k_r {s : Nat → Int} {c : Int} (hf : 0 ≤ s 2 ∧ s 2 ≤ 9) : 0 ≤ sg_k s c ∧ sg_k s c ≤ 18 := by
  unfold sg_k; repeat' split
  all_goals omega
set_option maxRecDepth 20000 in
theorem c_1131 {sc : List Int} {d : Nat} {t : xm_W} {m : Nat → Nat → Int} {c h : Int} (hc : 0 ≤ c ∧ c ≤ 35) (hh : 0 ≤ h ∧ h ≤ 20100) (hf : 0 ≤ m 75 2 ∧ m 75 2 ≤ 9) : xm_X (xm_old sc) xm_mt (d + 2) 1131 [.inr (.inl (some 74)), .inl (c), .inl (h)] (yy_W (m) t) = some (some (.inl (if m 75 1 ≤ h + sg_k (m 75) c then 1 else 0)), (yy_W (m) t)) := by
  refine xm_X_of (M := xm_m1131) rfl ⟨xm_EQ.eq (xb_1131_0 ?_), ?_, rfl, Nat.le_of_ble_eq_true rfl, yy_hd rfl (by decide)⟩
  · have hk := sg_k_r (c := c) hf
    by_cases e : m 75 1 ≤ h + sg_k (m 75) c
    · rw [if_pos e]; simp (disch := first | omega | (unfold xm_w; omega)) only [↓zy_at, xm_O_some, xm_Oi_some, xm_Ov_some, xm_Oq_some, ↓reduceIte, ↓zz_t, ↓zz_f, ↓zi_t, ↓zi_f, eq_self, yy_d_0, Int.reduceEq, Int.reduceLT, Int.reduceLE, Int.reduceNe, Int.reduceToNat, Int.reduceAdd, Int.reduceSub, Int.reduceMul, Int.reduceNeg, Nat.reduceAdd, Nat.reduceMul, Nat.reduceSub, Nat.reduceEqDiff, Nat.reduceLT, ne_eq, not_false_eq_true, not_true_eq_false, true_and, and_true, and_self, yy_s_eq, yy_s_ne, yy_c_eq, yy_c_ne, yy_u_eq, yy_u_ne, xm_w_id, yy_at, tdiv_pos, tmod_pos, ↓zr_74_0, ↓zr_74_1, ↓zr_74_2, ↓zf_74_3, ↓zs_74_3, ↓zf_74_4, ↓zs_74_4, ↓zr_74_5, ↓zf_74_6, ↓zs_74_6, ↓zf_74_7, ↓zs_74_7, ↓zf_74_8, ↓zs_74_8, ↓zf_74_9, ↓zs_74_9, ↓zr_74_10, ↓zr_74_11, ↓zr_74_12, ↓zf_74_13, ↓zs_74_13, ↓zr_74_14, ↓zf_74_15, ↓zs_74_15, ↓zf_74_16, ↓zs_74_16, ↓zf_74_17, ↓zs_74_17, ↓zr_74_18, ↓zr_74_19, ↓zr_74_20, ↓zr_74_21, ↓zi_75, ↓zt_75, ↓oc_1130 hc hf]
    · rw [if_neg e]; simp (disch := first | omega | (unfold xm_w; omega)) only [↓zy_at, xm_O_some, xm_Oi_some, xm_Ov_some, xm_Oq_some, ↓reduceIte, ↓zz_t, ↓zz_f, ↓zi_t, ↓zi_f, eq_self, yy_d_0, Int.reduceEq, Int.reduceLT, Int.reduceLE, Int.reduceNe, Int.reduceToNat, Int.reduceAdd, Int.reduceSub, Int.reduceMul, Int.reduceNeg, Nat.reduceAdd, Nat.reduceMul, Nat.reduceSub, Nat.reduceEqDiff, Nat.reduceLT, ne_eq, not_false_eq_true, not_true_eq_false, true_and, and_true, and_self, yy_s_eq, yy_s_ne, yy_c_eq, yy_c_ne, yy_u_eq, yy_u_ne, xm_w_id, yy_at, tdiv_pos, tmod_pos, ↓zr_74_0, ↓zr_74_1, ↓zr_74_2, ↓zf_74_3, ↓zs_74_3, ↓zf_74_4, ↓zs_74_4, ↓zr_74_5, ↓zf_74_6, ↓zs_74_6, ↓zf_74_7, ↓zs_74_7, ↓zf_74_8, ↓zs_74_8, ↓zf_74_9, ↓zs_74_9, ↓zr_74_10, ↓zr_74_11, ↓zr_74_12, ↓zf_74_13, ↓zs_74_13, ↓zr_74_14, ↓zf_74_15, ↓zs_74_15, ↓zf_74_16, ↓zs_74_16, ↓zf_74_17, ↓zs_74_17, ↓zr_74_18, ↓zr_74_19, ↓zr_74_20, ↓zr_74_21, ↓zi_75, ↓zt_75, ↓oc_1130 hc hf]
  · show (_ == _ || _ == _) = true
    split <;> rfl
set_option maxRecDepth 20000 in
theorem oc_1131 {F : Int → xm_W → Prop} {sc : List Int} {d : Nat} {t : xm_W} {m : Nat → Nat → Int} {c h : Int} (hc : 0 ≤ c ∧ c ≤ 35) (hh : 0 ≤ h ∧ h ≤ 20100) (hf : 0 ≤ m 75 2 ∧ m 75 2 ≤ 9) : xm_Oi (xm_X (xm_old sc) xm_mt (d + 2) 1131 [.inr (.inl (some 74)), .inl (c), .inl (h)] (yy_W (m) t)) F = F (if m 75 1 ≤ h + sg_k (m 75) c then 1 else 0) (yy_W (m) t) := congrArg (fun x => xm_Oi x F) (c_1131 hc hh hf)
def sg_cw (s : Nat → Int) (i l w : Nat) : Nat → Int := fun k => if 134 + 5 * l ≤ k ∧ k < 134 + 5 * l + w then s (k - 5 * l + 5 * i) else s k
set_option maxRecDepth 20000 in
theorem sg_cw0 {s : Nat → Int} {i l : Nat} : sg_cw s i l 0 = s := by funext k; unfold sg_cw; rw [if_neg (by omega)]
set_option maxRecDepth 20000 in
theorem sg_cw5 {s : Nat → Int} {i l : Nat} : sg_cw s i l 5 = sg_c5 s i l := rfl
set_option maxRecDepth 20000 in
theorem l_1132w {sc : List Int} {d : Nat} {t : xm_W} {m : Nat → Nat → Int} {s : Nat → Int} {Q : Option xm_V × xm_W → Prop} {o c n : Int} {i l w : Nat} (hl : l ≤ i) (hi : i < 41) (hw : w < 5) (h : xm_EQ (xm_old sc) xm_sta (xm_X (xm_old sc) xm_mt (d + 4)) xm_c1132 34 [some (.inr (.inl (some 74))), some (.inl (o)), some (.inl (c)), some (.inl ((l : Int))), some (.inl (n)), some (.inl ((i : Int))), some (.inl (((w + 1 : Nat) : Int)))] [] (yy_W (yy_c m 75 (sg_cw s i l (w + 1))) t) Q) : xm_EQ (xm_old sc) xm_sta (xm_X (xm_old sc) xm_mt (d + 4)) xm_c1132 34 [some (.inr (.inl (some 74))), some (.inl (o)), some (.inl (c)), some (.inl ((l : Int))), some (.inl (n)), some (.inl ((i : Int))), some (.inl ((w : Int)))] [] (yy_W (yy_c m 75 (sg_cw s i l w)) t) Q := by
  refine xb_1132_34 ?_
  rw [if_pos (by omega)]
  simp (disch := first | omega | (unfold xm_w; omega)) only [↓zy_at, xm_O_some, xm_Oi_some, xm_Ov_some, xm_Oq_some, ↓reduceIte, ↓zz_t, ↓zz_f, ↓zi_t, ↓zi_f, eq_self, yy_d_0, Int.reduceEq, Int.reduceLT, Int.reduceLE, Int.reduceNe, Int.reduceToNat, Int.reduceAdd, Int.reduceSub, Int.reduceMul, Int.reduceNeg, Nat.reduceAdd, Nat.reduceMul, Nat.reduceSub, Nat.reduceEqDiff, Nat.reduceLT, ne_eq, not_false_eq_true, not_true_eq_false, true_and, and_true, and_self, yy_s_eq, yy_s_ne, yy_c_eq, yy_c_ne, yy_u_eq, yy_u_ne, xm_w_id, yy_at, tdiv_pos, tmod_pos, ↓zr_74_0, ↓zr_74_1, ↓zr_74_2, ↓zf_74_3, ↓zs_74_3, ↓zf_74_4, ↓zs_74_4, ↓zr_74_5, ↓zf_74_6, ↓zs_74_6, ↓zf_74_7, ↓zs_74_7, ↓zf_74_8, ↓zs_74_8, ↓zf_74_9, ↓zs_74_9, ↓zr_74_10, ↓zr_74_11, ↓zr_74_12, ↓zf_74_13, ↓zs_74_13, ↓zr_74_14, ↓zf_74_15, ↓zs_74_15, ↓zf_74_16, ↓zs_74_16, ↓zf_74_17, ↓zs_74_17, ↓zr_74_18, ↓zr_74_19, ↓zr_74_20, ↓zr_74_21, ↓zi_75, ↓zt_75, ↓oc_1112]
  have e : yy_s (yy_c m 75 (sg_cw s i l w)) 75 (134 + 5 * (l : Int) + w).toNat (sg_cw s i l w (134 + 5 * (i : Int) + w).toNat) = yy_c m 75 (sg_cw s i l (w + 1)) := by
    rw [yy_s_c]
    congr 1
    funext k
    rw [show (134 + 5 * (l : Int) + w).toNat = 134 + 5 * l + w by omega, show (134 + 5 * (i : Int) + w).toNat = 134 + 5 * i + w by omega]
    have ev : sg_cw s i l w (134 + 5 * i + w) = s (134 + 5 * i + w) := by
      unfold sg_cw
      by_cases e : l = i
      · rw [if_neg (by omega)]
      · rw [if_neg (by omega)]
    rw [ev]
    unfold yy_u sg_cw
    by_cases e : k = 134 + 5 * l + w
    · rw [if_pos e, if_pos (by omega)]; congr 1; omega
    · rw [if_neg e]
      by_cases e2 : 134 + 5 * l ≤ k ∧ k < 134 + 5 * l + w
      · rw [if_pos e2, if_pos (by omega)]
      · rw [if_neg e2, if_neg (by omega)]
  rw [e, show (w : Int) + 1 = ((w + 1 : Nat) : Int) by omega]
  exact h
set_option maxRecDepth 20000 in
theorem l_1132i {sc : List Int} {d : Nat} {t : xm_W} {m : Nat → Nat → Int} {s : Nat → Int} {Q : Option xm_V × xm_W → Prop} {o c n : Int} {i l : Nat} (hl : l ≤ i) (hi : i < 41) (h : xm_EQ (xm_old sc) xm_sta (xm_X (xm_old sc) xm_mt (d + 4)) xm_c1132 9 [some (.inr (.inl (some 74))), some (.inl (o)), some (.inl (c)), some (.inl (((l + 1 : Nat) : Int))), some (.inl (n)), some (.inl (((i + 1 : Nat) : Int))), some (.inl (5))] [] (yy_W (yy_c m 75 (sg_c5 s i l)) t) Q) : xm_EQ (xm_old sc) xm_sta (xm_X (xm_old sc) xm_mt (d + 4)) xm_c1132 34 [some (.inr (.inl (some 74))), some (.inl (o)), some (.inl (c)), some (.inl ((l : Int))), some (.inl (n)), some (.inl ((i : Int))), some (.inl (0))] [] (yy_W (yy_c m 75 s) t) Q := by
  have := l_1132w (sc := sc) (d := d) (t := t) (m := m) (s := s) (Q := Q) (o := o) (c := c) (n := n) (w := 0) hl hi (by decide) (l_1132w (w := 1) hl hi (by decide) (l_1132w (w := 2) hl hi (by decide) (l_1132w (w := 3) hl hi (by decide) (l_1132w (w := 4) hl hi (by decide) ?_))))
  · rw [sg_cw0] at this
    exact this
  · refine xb_1132_34 ?_
    rw [if_neg (by decide), xm_w_id (by omega) (by omega), xm_w_id (by omega) (by omega), show (l : Int) + 1 = ((l + 1 : Nat) : Int) by omega, show (i : Int) + 1 = ((i + 1 : Nat) : Int) by omega]
    exact h
/-! the prints' bounds that the walk needs -/
def sg_B (s : Nat → Int) : Prop := (0 ≤ s 2 ∧ s 2 ≤ 9) ∧ (0 ≤ s 3 ∧ s 3 ≤ 41) ∧ ∀ i : Nat, (i : Int) < s 3 → (0 ≤ sg_p s i 0 ∧ sg_p s i 0 ≤ 35) ∧ (0 ≤ sg_p s i 3 ∧ sg_p s i 3 ≤ 20000)
set_option maxRecDepth 20000 in
theorem l_1132 {sc : List Int} {d : Nat} {t : xm_W} {m : Nat → Nat → Int} {s0 : Nat → Int} {Q : Option xm_V × xm_W → Prop} {o c : Int} (hB : sg_B s0) : ∀ (k i l : Nat) (s : Nat → Int) (u : Option xm_V), ((i + k : Nat) : Int) = s0 3 → l ≤ i → (∀ q, (q < 134 ∨ 134 + 5 * i ≤ q) → s q = s0 q) → Q ((none, (yy_W (yy_c m 75 (yy_u (sg_cl (sg_K s0 o c) k i l s).1 3 (sg_cl (sg_K s0 o c) k i l s).2)) t))) → xm_EQ (xm_old sc) xm_sta (xm_X (xm_old sc) xm_mt (d + 4)) xm_c1132 9 [some (.inr (.inl (some 74))), some (.inl (o)), some (.inl (c)), some (.inl ((l : Int))), some (.inl (s0 3)), some (.inl ((i : Int))), u] [] (yy_W (yy_c m 75 s) t) Q
  | 0, i, l, s, u, hk, hl, hs, hQ => by
    refine xb_1132_9 ?_
    rw [if_neg (by omega)]
    simp (disch := first | omega | (unfold xm_w; omega)) only [↓zy_at, xm_O_some, xm_Oi_some, xm_Ov_some, xm_Oq_some, ↓reduceIte, ↓zz_t, ↓zz_f, ↓zi_t, ↓zi_f, eq_self, yy_d_0, Int.reduceEq, Int.reduceLT, Int.reduceLE, Int.reduceNe, Int.reduceToNat, Int.reduceAdd, Int.reduceSub, Int.reduceMul, Int.reduceNeg, Nat.reduceAdd, Nat.reduceMul, Nat.reduceSub, Nat.reduceEqDiff, Nat.reduceLT, ne_eq, not_false_eq_true, not_true_eq_false, true_and, and_true, and_self, yy_s_eq, yy_s_ne, yy_c_eq, yy_c_ne, yy_u_eq, yy_u_ne, xm_w_id, yy_at, tdiv_pos, tmod_pos, ↓zr_74_0, ↓zr_74_1, ↓zr_74_2, ↓zf_74_3, ↓zs_74_3, ↓zf_74_4, ↓zs_74_4, ↓zr_74_5, ↓zf_74_6, ↓zs_74_6, ↓zf_74_7, ↓zs_74_7, ↓zf_74_8, ↓zs_74_8, ↓zf_74_9, ↓zs_74_9, ↓zr_74_10, ↓zr_74_11, ↓zr_74_12, ↓zf_74_13, ↓zs_74_13, ↓zr_74_14, ↓zf_74_15, ↓zs_74_15, ↓zf_74_16, ↓zs_74_16, ↓zf_74_17, ↓zs_74_17, ↓zr_74_18, ↓zr_74_19, ↓zr_74_20, ↓zr_74_21, ↓zi_75, ↓zt_75]
    rw [yy_s_c]
    exact hQ
  | k + 1, i, l, s, u, hk, hl, hs, hQ => by
    obtain ⟨b1, b2, b3⟩ := id hB
    have b4 := b3 i (by omega)
    have e0 : sg_p s i 0 = sg_p s0 i 0 := hs _ (Or.inr (by omega))
    have e3 : sg_p s i 3 = sg_p s0 i 3 := hs _ (Or.inr (by omega))
    have ek : sg_k s (sg_p s0 i 0) = sg_k s0 (sg_p s0 i 0) := by
      unfold sg_k
      rw [hs _ (Or.inl (by omega)), hs 2 (Or.inl (by decide))]
    have e1 : s 1 = s0 1 := hs 1 (Or.inl (by decide))
    have hf : 0 ≤ s 2 ∧ s 2 ≤ 9 := by rw [hs 2 (Or.inl (by decide))]; exact b1
    have next : ∀ u, xm_EQ (xm_old sc) xm_sta (xm_X (xm_old sc) xm_mt (d + 4)) xm_c1132 9 [some (.inr (.inl (some 74))), some (.inl (o)), some (.inl (c)), some (.inl ((l : Int))), some (.inl (s0 3)), some (.inl ((i : Int) + 1)), u] [] (yy_W (yy_c m 75 s) t) Q ∨ sg_K s0 o c i = true := by
      intro u
      by_cases hK : sg_K s0 o c i = true
      · exact Or.inr hK
      · left
        unfold sg_cl at hQ
        rw [if_neg hK] at hQ
        have := l_1132 (sc := sc) (d := d) (t := t) (m := m) (o := o) (c := c) hB k (i + 1) l s u (by omega) (by omega) (fun q hq => hs q (by omega)) hQ
        rw [show ((i + 1 : Nat) : Int) = (i : Int) + 1 by omega] at this
        exact this
    have hKi : sg_K s0 o c i = decide (o ≤ i ∧ sg_p s0 i 0 ≠ c ∧ s0 1 ≤ sg_p s0 i 3 + sg_k s0 (sg_p s0 i 0)) := rfl
    refine xb_1132_9 ?_
    rw [if_pos (by omega)]
    by_cases g1 : (i : Int) < o
    · have hn : ¬ (sg_K s0 o c i = true) := by rw [hKi, decide_eq_true_iff]; omega
      rw [if_pos g1, xm_w_id (by omega) (by omega)]
      exact (next u).resolve_right hn
    · rw [if_neg g1, oc_1112_0 (by omega), yy_c_eq, e0]
      by_cases g2 : sg_p s0 i 0 = c
      · have hn : ¬ (sg_K s0 o c i = true) := by rw [hKi, decide_eq_true_iff]; exact fun h => h.2.1 g2
        rw [if_pos g2, xm_w_id (by omega) (by omega)]
        exact (next u).resolve_right hn
      · rw [if_neg g2, oc_1112_0 (by omega), oc_1112_3 (by omega), yy_c_eq, e0, e3, oc_1131 b4.1 (by omega) (by rw [yy_c_eq]; exact hf), yy_c_eq, e1, ek]
        by_cases g3 : s0 1 ≤ sg_p s0 i 3 + sg_k s0 (sg_p s0 i 0)
        · have hn : sg_K s0 o c i = true := by rw [hKi, decide_eq_true_iff]; exact ⟨by omega, g2, g3⟩
          rw [zz_t g3]
          refine l_1132i hl (by omega) ?_
          unfold sg_cl at hQ
          rw [if_pos hn] at hQ
          exact l_1132 hB k (i + 1) (l + 1) (sg_c5 s i l) (some (.inl 5)) (by omega) (by omega) (fun q hq => by rw [sg_c5_out (by omega)]; exact hs q (by omega)) hQ
        · have hn : ¬ (sg_K s0 o c i = true) := by rw [hKi, decide_eq_true_iff]; exact fun h => g3 h.2.2
          rw [zz_f g3, xm_w_id (by omega) (by omega)]
          exact (next u).resolve_right hn
set_option maxRecDepth 20000 in
theorem c_1132 {sc : List Int} {d : Nat} {t : xm_W} {m : Nat → Nat → Int} {o c : Int} (hB : sg_B (m 75)) : xm_X (xm_old sc) xm_mt (d + 5) 1132 [.inr (.inl (some 74)), .inl (o), .inl (c)] (yy_W (m) t) = some (none, (yy_W (yy_c m 75 (sg_clr (sg_K (m 75) o c) (m 75))) t)) := by
  refine xm_X_of (M := xm_m1132) rfl ⟨xm_EQ.eq (xb_1132_0 ?_), rfl, rfl, Nat.le_of_ble_eq_true rfl, yy_hd rfl (by decide)⟩
  simp (disch := first | omega | (unfold xm_w; omega)) only [↓zy_at, xm_O_some, xm_Oi_some, xm_Ov_some, xm_Oq_some, ↓reduceIte, ↓zz_t, ↓zz_f, ↓zi_t, ↓zi_f, eq_self, yy_d_0, Int.reduceEq, Int.reduceLT, Int.reduceLE, Int.reduceNe, Int.reduceToNat, Int.reduceAdd, Int.reduceSub, Int.reduceMul, Int.reduceNeg, Nat.reduceAdd, Nat.reduceMul, Nat.reduceSub, Nat.reduceEqDiff, Nat.reduceLT, ne_eq, not_false_eq_true, not_true_eq_false, true_and, and_true, and_self, yy_s_eq, yy_s_ne, yy_c_eq, yy_c_ne, yy_u_eq, yy_u_ne, xm_w_id, yy_at, tdiv_pos, tmod_pos, ↓zr_74_0, ↓zr_74_1, ↓zr_74_2, ↓zf_74_3, ↓zs_74_3, ↓zf_74_4, ↓zs_74_4, ↓zr_74_5, ↓zf_74_6, ↓zs_74_6, ↓zf_74_7, ↓zs_74_7, ↓zf_74_8, ↓zs_74_8, ↓zf_74_9, ↓zs_74_9, ↓zr_74_10, ↓zr_74_11, ↓zr_74_12, ↓zf_74_13, ↓zs_74_13, ↓zr_74_14, ↓zf_74_15, ↓zs_74_15, ↓zf_74_16, ↓zs_74_16, ↓zf_74_17, ↓zs_74_17, ↓zr_74_18, ↓zr_74_19, ↓zr_74_20, ↓zr_74_21, ↓zi_75, ↓zt_75]
  have := l_1132 (sc := sc) (d := d) (t := t) (m := m) (s0 := m 75) (Q := fun q => (none, (yy_W (yy_c m 75 (sg_clr (sg_K (m 75) o c) (m 75))) t)) = q) (o := o) (c := c) hB (m 75 3).toNat 0 0 (m 75) none (by have := hB.2.1; omega) (by decide) (fun q _ => rfl) rfl
  rw [yy_c_id] at this
  exact this
set_option maxRecDepth 20000 in
theorem oc_1132 {F : xm_W → Prop} {sc : List Int} {d : Nat} {t : xm_W} {m : Nat → Nat → Int} {o c : Int} (hB : sg_B (m 75)) : xm_Ov (xm_X (xm_old sc) xm_mt (d + 5) 1132 [.inr (.inl (some 74)), .inl (o), .inl (c)] (yy_W (m) t)) F = F (yy_W (yy_c m 75 (sg_clr (sg_K (m 75) o c) (m 75))) t) := congrArg (fun x => xm_Ov x F) (c_1132 hB)
