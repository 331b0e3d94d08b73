/-! SHEETS: both sides -/
set_option maxRecDepth 20000 in
theorem yy_I_sh {t : xm_W} {m m' : Nat → Nat → Int} (hI : yy_I t m) (hS : yy_SH m') (h : ∀ c, c < 87 → ¬ yy_no c → ¬ (66 ≤ c ∧ c < 74) → ¬ (83 ≤ c ∧ c < 86) → m' c = m c) : yy_I t m' := by
  obtain ⟨a, b, c, d, e, f⟩ := hI
  have e75 : m' 75 = m 75 := h 75 (by decide) (by unfold yy_no; omega) (by decide) (by decide)
  refine ⟨by rw [e75]; exact a, by rw [e75]; exact yy_MX_r (fun c hc => h c (by omega) (by unfold yy_no; omega) (by omega) (by omega)) b, by rw [e75]; exact yy_DR_r (fun c hc => h c (by omega) (by unfold yy_no; omega) (by omega) (by omega)) c, yy_KE_r (fun c hc => h c (by omega) (by unfold yy_no; omega) (by omega) (by omega)) (by rw [h 0 (by decide) (by unfold yy_no; omega) (by decide) (by decide)]) (by rw [h 74 (by decide) (by unfold yy_no; omega) (by decide) (by decide)]) d, hS, ?_⟩
  unfold yy_SP
  rw [h 74 (by decide) (by unfold yy_no; omega) (by decide) (by decide), h 61 (by decide) (by unfold yy_no; omega) (by decide) (by decide)]; exact f
set_option maxRecDepth 20000 in
theorem a_128 {sc : List Int} {t : xm_W} {m : Nat → Nat → Int} {x1 x2 x3 : Int} (hI : yy_I t m) : yy_A sc t m 128 1197 [.inl x1, .inl x2, .inl x3] true := by
  by_cases h : (0 ≤ x1 ∧ x1 ≤ 3) ∧ (x2 = 0 ∨ x2 = 8 ∨ x2 = 16 ∨ x2 = 32)
  · by_cases h3 : x2 = 0 ∨ (0 ≤ x3 ∧ x3 ≤ 24)
    · obtain ⟨i, rfl⟩ : ∃ i : Nat, x1 = i := ⟨x1.toNat, by omega⟩
      obtain ⟨m1, X1, f1, p1, p2, p3⟩ := c_128 (sc := sc) (d := 96) (t := t) (m := m) h.1 h.2 h3
      obtain ⟨m2, X2, f2, q1, q2, q3⟩ := c_1197 (sc := sc) (d := 96) (t := t) (m := m1) h.1 h.2 h3
      rw [Int.toNat_natCast] at f1 p1 p2 p3 q1 q2
      have hS := hI.2.2.2.2.1
      refine yy_Ao X1 X2 (yy_I_sh hI (fun k hk => ?_) (fun c hc a b d => ?_)) ?_ rfl
      · obtain ⟨s1, s2, s3, s4, s5⟩ := hS k hk
        rw [f2 (66 + 2 * k) (by omega) (by omega) (by omega), f2 (67 + 2 * k) (by omega) (by omega) (by omega), q1, q2]
        by_cases e : k = i
        · subst e
          rw [if_pos rfl, if_pos rfl, p1, p2]
          refine ⟨rfl, h.2, rfl, ?_, fun j hj => ?_⟩
          · split <;> omega
          · rw [show 67 + 2 * k = 66 + 2 * k + 1 by omega, p3 j hj, q3, if_pos (by omega)]; omega
        · rw [if_neg e, if_neg e, f1 (66 + 2 * k) (by omega) (by omega), f1 (67 + 2 * k) (by omega) (by omega), f1 83 (by omega) (by omega), f1 84 (by omega) (by omega)]
          refine ⟨s1, s2, s3, s4, fun j hj => ?_⟩
          rw [q3, if_neg (by omega), f1 85 (by omega) (by omega)]; exact s5 j hj
      · rw [f2 c (by omega) (by omega) (by omega), f1 c (by omega) (by omega)]
      · rw [f2 0 (by decide) (by decide) (by decide), f1 0 (by omega) (by omega)]
    · by_cases h4 : x3 < 0
      · exact yy_Ao (g_128 (d := 96) h.1 (by omega) h4) (g_1197 (d := 96) h.1 (by omega) h4) (yy_I_ef hI) yy_ef0 rfl
      · exact yy_Ao (k_128 (d := 96) h.1 (by omega) (by omega)) (k_1197 (d := 96) h.1 (by omega) (by omega)) (yy_I_ef hI) yy_ef0 rfl
  · exact yy_Ao (f_128 (d := 96) h) (f_1197 (d := 96) h) (yy_I_ef hI) yy_ef0 rfl
/-! eight and sixteen bits -/
set_option maxRecDepth 20000 in
theorem sp_sl8 {x : Int} : xm_shr (xm_shl x 24) 24 = xm_b x := by
  unfold xm_shr xm_shl xm_b
  rw [Int32.ofInt_toInt, show (Int32.ofInt 24 &&& 31) = 24 from by decide]
  show (((BitVec.ofInt 32 x) <<< 24).sshiftRight 24).toInt = _
  rw [BitVec.toInt_sshiftRight, BitVec.toInt_shiftLeft, Int.shiftRight_eq_div_pow, BitVec.toNat_ofInt, Nat.shiftLeft_eq]
  rw [Int.bmod_def]
  split <;> omega
set_option maxRecDepth 20000 in
theorem sp_sl16 {x : Int} : xm_shr (xm_shl x 16) 16 = xm_s x := by
  unfold xm_shr xm_shl xm_s
  rw [Int32.ofInt_toInt, show (Int32.ofInt 16 &&& 31) = 16 from by decide]
  show (((BitVec.ofInt 32 x) <<< 16).sshiftRight 16).toInt = _
  rw [BitVec.toInt_sshiftRight, BitVec.toInt_shiftLeft, Int.shiftRight_eq_div_pow, BitVec.toNat_ofInt, Nat.shiftLeft_eq]
  rw [Int.bmod_def]
  split <;> omega
set_option maxRecDepth 20000 in
theorem sp_sl32 {x : Int} (h : -2147483648 ≤ x ∧ x < 2147483648) : xm_shr (xm_shl x 0) 0 = x := by
  unfold xm_shr xm_shl
  rw [Int32.ofInt_toInt, show (Int32.ofInt 0 &&& 31) = 0 from by decide]
  show (((BitVec.ofInt 32 x) <<< 0).sshiftRight 0).toInt = _
  rw [BitVec.toInt_sshiftRight, BitVec.toInt_shiftLeft, Int.shiftRight_eq_div_pow, BitVec.toNat_ofInt, Nat.shiftLeft_eq]
  rw [Int.bmod_def]
  split <;> omega
def sg_cut (b v : Int) : Int := if b = 8 then xm_b v else if b = 16 then xm_s v else v
set_option maxRecDepth 20000 in
theorem sg_cut_sl {b v : Int} (hb : b = 8 ∨ b = 16 ∨ b = 32) (h : -2147483648 ≤ v ∧ v < 2147483648) : xm_shr (xm_shl v (32 - b)) (32 - b) = sg_cut b v := by
  unfold sg_cut
  rcases hb with e | e | e <;> subst e
  · rw [if_pos rfl]; exact sp_sl8
  · rw [if_neg (by decide), if_pos rfl]; exact sp_sl16
  · rw [if_neg (by decide), if_neg (by decide)]; exact sp_sl32 h
set_option maxRecDepth 20000 in
theorem sg_cut_b {b v : Int} (h : -2147483648 ≤ v ∧ v < 2147483648) : -2147483648 ≤ sg_cut b v ∧ sg_cut b v < 2147483648 := by
  unfold sg_cut xm_b xm_s
  split
  · omega
  · split <;> omega
set_option maxRecDepth 20000 in
theorem c_704 {sc : List Int} {d : Nat} {t : xm_W} {m : Nat → Nat → Int} {r : Nat} {i v : Int} (hr : yy_sh r) (h : 0 ≤ i ∧ i < 24) : xm_X (xm_old sc) xm_mt (d + 1) 704 [.inr (.inl (some r)), .inl (i), .inl (v)] (yy_W (m) t) = some (none, (yy_W (yy_s m (r + 1) i.toNat (sg_cut (m r 0) v)) t)) := by
  refine xm_X_of (M := xm_m704) rfl ⟨xm_EQ.eq (xb_704_0 ?_), rfl, rfl, Nat.le_of_ble_eq_true rfl, yy_hds hr⟩
  unfold sg_cut
  by_cases e : m r 0 = 8
  · rw [hf_0 hr, if_pos e, if_pos e, hr_2 hr, ht_1 hr h.1 h.2]
  · rw [hf_0 hr, if_neg e, if_neg e, hf_0 hr]
    by_cases e2 : m r 0 = 16
    · rw [if_pos e2, if_pos e2, hr_2 hr, ht_1 hr h.1 h.2]
    · rw [if_neg e2, if_neg e2, hr_2 hr, ht_1 hr h.1 h.2]
set_option maxRecDepth 20000 in
theorem oc_704 {F : xm_W → Prop} {sc : List Int} {d : Nat} {t : xm_W} {m : Nat → Nat → Int} {r : Nat} {i v : Int} (hr : yy_sh r) (h : 0 ≤ i ∧ i < 24) : xm_Ov (xm_X (xm_old sc) xm_mt (d + 1) 704 [.inr (.inl (some r)), .inl (i), .inl (v)] (yy_W (m) t)) F = F (yy_W (yy_s m (r + 1) i.toNat (sg_cut (m r 0) v)) t) := congrArg (fun x => xm_Ov x F) (c_704 hr h)
set_option maxRecDepth 20000 in
theorem a_129 {sc : List Int} {t : xm_W} {m : Nat → Nat → Int} {x1 x2 x3 : Int} (hI : yy_I t m) (hv : -2147483648 ≤ x3 ∧ x3 < 2147483648) : yy_A sc t m 129 1198 [.inl x1, .inl x2, .inl x3] true := by
  by_cases h : 0 ≤ x1 ∧ x1 ≤ 3
  · obtain ⟨i, rfl⟩ : ∃ i : Nat, x1 = i := ⟨x1.toNat, by omega⟩
    obtain ⟨s1, s2, s3, s4, s5⟩ := hI.2.2.2.2.1 i (by omega)
    have hr : yy_sh (66 + 2 * i) := by have := yy_sh66 (i := (i : Int)) (by omega) (by omega); rwa [Int.toNat_natCast] at this
    have ei : ((i : Int)).toNat = i := Int.toNat_natCast i
    by_cases b0 : m 83 i = 0
    · have X1 : xm_X (xm_old sc) xm_mt (99 + 1) 129 [.inr (.inl (some 0)), .inl (i : Int), .inl x2, .inl x3] (yy_W m t) = some (some (.inl (-1000000002)), yy_W (yy_e m 2) t) := by
        refine xm_X_of (M := xm_m129) rfl ⟨xm_EQ.eq (xb_129_0 ?_), rfl, rfl, Nat.le_of_ble_eq_true rfl, yy_hd rfl (by decide)⟩
        simp (disch := first | omega | (unfold xm_w; omega)) only [↓zy_at, xm_O_some, xm_Oi_some, xm_Ov_some, xm_Oq_some, ↓reduceIte, ↓zz_t, ↓zz_f, ↓zi_t, ↓zi_f, eq_self, yy_d_0, Int.reduceEq, Int.reduceLT, Int.reduceLE, Int.reduceNe, Int.reduceToNat, Int.reduceAdd, Int.reduceSub, Int.reduceMul, Int.reduceNeg, Nat.reduceAdd, Nat.reduceMul, Nat.reduceSub, Nat.reduceEqDiff, Nat.reduceLT, ne_eq, not_false_eq_true, not_true_eq_false, true_and, and_true, and_self, yy_s_eq, yy_s_ne, yy_c_eq, yy_c_ne, yy_u_eq, yy_u_ne, xm_w_id, yy_at, tdiv_pos, tmod_pos, ↓oc_147, ↓zr_0_0, ↓zr_0_1, ↓zr_0_2, ↓zr_0_3, ↓zr_0_4, ↓zf_0_5, ↓zs_0_5, ↓zr_0_6, ↓zr_0_7, ↓zr_0_8, ↓zr_0_9, ↓zr_0_10, ↓zq_64, ↓zq_sh, ei, ↓oc_702 hr, s1, b0, ↓oc_139]
      have X2 : xm_X (xm_old sc) xm_mt (99 + 1) 1198 [.inr (.inl (some 74)), .inl (i : Int), .inl x2, .inl x3] (yy_W (yy_e m 2) t) = some (some (.inl (-1000000002)), yy_W (yy_f (yy_e m 2) 2) t) := by
        refine xm_X_of (M := xm_m1198) rfl ⟨xm_EQ.eq (xb_1198_0 ?_), rfl, rfl, Nat.le_of_ble_eq_true rfl, yy_hd rfl (by decide)⟩
        have f : yy_e m 2 83 i = 0 := by rw [yy_e75 (by decide)]; exact b0
        simp (disch := first | omega | (unfold xm_w; omega)) only [↓zy_at, xm_O_some, xm_Oi_some, xm_Ov_some, xm_Oq_some, ↓reduceIte, ↓zz_t, ↓zz_f, ↓zi_t, ↓zi_f, eq_self, yy_d_0, Int.reduceEq, Int.reduceLT, Int.reduceLE, Int.reduceNe, Int.reduceToNat, Int.reduceAdd, Int.reduceSub, Int.reduceMul, Int.reduceNeg, Nat.reduceAdd, Nat.reduceMul, Nat.reduceSub, Nat.reduceEqDiff, Nat.reduceLT, ne_eq, not_false_eq_true, not_true_eq_false, true_and, and_true, and_self, yy_s_eq, yy_s_ne, yy_c_eq, yy_c_ne, yy_u_eq, yy_u_ne, xm_w_id, yy_at, tdiv_pos, tmod_pos, ↓oc_1196, ↓zr_74_0, ↓zr_74_1, ↓zr_74_2, ↓zf_74_3, ↓zs_74_3, ↓zf_74_4, ↓zs_74_4, ↓zr_74_5, ↓zf_74_6, ↓zs_74_6, ↓zf_74_7, ↓zs_74_7, ↓zf_74_8, ↓zs_74_8, ↓zf_74_9, ↓zs_74_9, ↓zr_74_10, ↓zr_74_11, ↓zr_74_12, ↓zf_74_13, ↓zs_74_13, ↓zr_74_14, ↓zf_74_15, ↓zs_74_15, ↓zf_74_16, ↓zs_74_16, ↓zf_74_17, ↓zs_74_17, ↓zr_74_18, ↓zr_74_19, ↓zr_74_20, ↓zr_74_21, ↓zi_83, ↓zt_83, ↓zi_84, ↓zt_84, ↓zi_85, ↓zt_85, ei, f, ↓oc_1102]
      exact yy_Ao X1 X2 (yy_I_ef hI) yy_ef0 rfl
    · by_cases h2 : 0 ≤ x2 ∧ x2 ≤ m 84 i - 1
      · have X1 : xm_X (xm_old sc) xm_mt (99 + 1) 129 [.inr (.inl (some 0)), .inl (i : Int), .inl x2, .inl x3] (yy_W m t) = some (some (.inl 1), yy_W (yy_s m (66 + 2 * i + 1) x2.toNat (sg_cut (m 83 i) x3)) t) := by
          refine xm_X_of (M := xm_m129) rfl ⟨xm_EQ.eq (xb_129_0 ?_), rfl, rfl, Nat.le_of_ble_eq_true rfl, yy_hd rfl (by decide)⟩
          simp (disch := first | omega | (unfold xm_w; omega)) only [↓zy_at, xm_O_some, xm_Oi_some, xm_Ov_some, xm_Oq_some, ↓reduceIte, ↓zz_t, ↓zz_f, ↓zi_t, ↓zi_f, eq_self, yy_d_0, Int.reduceEq, Int.reduceLT, Int.reduceLE, Int.reduceNe, Int.reduceToNat, Int.reduceAdd, Int.reduceSub, Int.reduceMul, Int.reduceNeg, Nat.reduceAdd, Nat.reduceMul, Nat.reduceSub, Nat.reduceEqDiff, Nat.reduceLT, ne_eq, not_false_eq_true, not_true_eq_false, true_and, and_true, and_self, yy_s_eq, yy_s_ne, yy_c_eq, yy_c_ne, yy_u_eq, yy_u_ne, xm_w_id, yy_at, tdiv_pos, tmod_pos, ↓oc_147, ↓zr_0_0, ↓zr_0_1, ↓zr_0_2, ↓zr_0_3, ↓zr_0_4, ↓zf_0_5, ↓zs_0_5, ↓zr_0_6, ↓zr_0_7, ↓zr_0_8, ↓zr_0_9, ↓zr_0_10, ↓zq_64, ↓zq_sh, ei, ↓oc_702 hr, s1, b0, ↓hf_1 hr, s3, ↓oc_142, ↓oc_704 hr]
        have f : ∀ c, 74 ≤ c → yy_s m (66 + 2 * i + 1) x2.toNat (sg_cut (m 83 i) x3) c = m c := fun c hc => yy_s_ne (by omega)
        have X2 : xm_X (xm_old sc) xm_mt (99 + 1) 1198 [.inr (.inl (some 74)), .inl (i : Int), .inl x2, .inl x3] (yy_W (yy_s m (66 + 2 * i + 1) x2.toNat (sg_cut (m 83 i) x3)) t) = some (some (.inl 1), yy_W (yy_s (yy_s m (66 + 2 * i + 1) x2.toNat (sg_cut (m 83 i) x3)) 85 (24 * i + x2.toNat) (sg_cut (m 83 i) x3)) t) := by
          refine xm_X_of (M := xm_m1198) rfl ⟨xm_EQ.eq (xb_1198_0 ?_), rfl, rfl, Nat.le_of_ble_eq_true rfl, yy_hd rfl (by decide)⟩
          simp (disch := first | omega | (unfold xm_w; omega)) only [↓zy_at, xm_O_some, xm_Oi_some, xm_Ov_some, xm_Oq_some, ↓reduceIte, ↓zz_t, ↓zz_f, ↓zi_t, ↓zi_f, eq_self, yy_d_0, Int.reduceEq, Int.reduceLT, Int.reduceLE, Int.reduceNe, Int.reduceToNat, Int.reduceAdd, Int.reduceSub, Int.reduceMul, Int.reduceNeg, Nat.reduceAdd, Nat.reduceMul, Nat.reduceSub, Nat.reduceEqDiff, Nat.reduceLT, ne_eq, not_false_eq_true, not_true_eq_false, true_and, and_true, and_self, yy_s_eq, yy_s_ne, yy_c_eq, yy_c_ne, yy_u_eq, yy_u_ne, xm_w_id, yy_at, tdiv_pos, tmod_pos, ↓oc_1196, ↓zr_74_0, ↓zr_74_1, ↓zr_74_2, ↓zf_74_3, ↓zs_74_3, ↓zf_74_4, ↓zs_74_4, ↓zr_74_5, ↓zf_74_6, ↓zs_74_6, ↓zf_74_7, ↓zs_74_7, ↓zf_74_8, ↓zs_74_8, ↓zf_74_9, ↓zs_74_9, ↓zr_74_10, ↓zr_74_11, ↓zr_74_12, ↓zf_74_13, ↓zs_74_13, ↓zr_74_14, ↓zf_74_15, ↓zs_74_15, ↓zf_74_16, ↓zs_74_16, ↓zf_74_17, ↓zs_74_17, ↓zr_74_18, ↓zr_74_19, ↓zr_74_20, ↓zr_74_21, ↓zi_83, ↓zt_83, ↓zi_84, ↓zt_84, ↓zi_85, ↓zt_85, ei, f, ↓oc_1103]
          rw [sg_cut_sl (by omega) hv, show (24 * (i : Int) + x2).toNat = 24 * i + x2.toNat by omega]
        have hc := sg_cut_b (b := m 83 i) hv
        refine yy_Ao X1 X2 (yy_I_sh hI (fun k hk => ?_) (fun c hc a b d => ?_)) ?_ rfl
        · obtain ⟨u1, u2, u3, u4, u5⟩ := hI.2.2.2.2.1 k hk
          rw [yy_s_ne (by omega : 66 + 2 * k ≠ 85), yy_s_ne (by omega : 66 + 2 * k ≠ 66 + 2 * i + 1), yy_s_ne (by decide : 83 ≠ 85), yy_s_ne (by omega : 83 ≠ 66 + 2 * i + 1), yy_s_ne (by decide : 84 ≠ 85), yy_s_ne (by omega : 84 ≠ 66 + 2 * i + 1)]
          refine ⟨u1, u2, u3, u4, fun j hj => ?_⟩
          rw [yy_s_ne (by omega : 67 + 2 * k ≠ 85), yy_s_eq, yy_s_ne (by omega : 85 ≠ 66 + 2 * i + 1)]
          by_cases e : k = i
          · subst e
            rw [show 67 + 2 * k = 66 + 2 * k + 1 by omega, yy_s_eq]
            by_cases ej : j = x2.toNat
            · subst ej; rw [yy_u_eq, yy_u_eq]; exact ⟨rfl, hc⟩
            · rw [yy_u_ne ej, yy_u_ne (by omega)]
              have := u5 j hj
              rw [show 67 + 2 * k = 66 + 2 * k + 1 by omega] at this; exact this
          · rw [yy_s_ne (by omega), yy_u_ne (by omega)]; exact u5 j hj
        · rw [yy_s_ne (by omega), yy_s_ne (by omega)]
        · rw [yy_s_ne (by decide), yy_s_ne (by omega)]
      · have X1 : xm_X (xm_old sc) xm_mt (99 + 1) 129 [.inr (.inl (some 0)), .inl (i : Int), .inl x2, .inl x3] (yy_W m t) = some (some (.inl (-1000000001)), yy_W (yy_e m 1) t) := by
          refine xm_X_of (M := xm_m129) rfl ⟨xm_EQ.eq (xb_129_0 ?_), rfl, rfl, Nat.le_of_ble_eq_true rfl, yy_hd rfl (by decide)⟩
          simp (disch := first | omega | (unfold xm_w; omega)) only [↓zy_at, xm_O_some, xm_Oi_some, xm_Ov_some, xm_Oq_some, ↓reduceIte, ↓zz_t, ↓zz_f, ↓zi_t, ↓zi_f, eq_self, yy_d_0, Int.reduceEq, Int.reduceLT, Int.reduceLE, Int.reduceNe, Int.reduceToNat, Int.reduceAdd, Int.reduceSub, Int.reduceMul, Int.reduceNeg, Nat.reduceAdd, Nat.reduceMul, Nat.reduceSub, Nat.reduceEqDiff, Nat.reduceLT, ne_eq, not_false_eq_true, not_true_eq_false, true_and, and_true, and_self, yy_s_eq, yy_s_ne, yy_c_eq, yy_c_ne, yy_u_eq, yy_u_ne, xm_w_id, yy_at, tdiv_pos, tmod_pos, ↓oc_147, ↓zr_0_0, ↓zr_0_1, ↓zr_0_2, ↓zr_0_3, ↓zr_0_4, ↓zf_0_5, ↓zs_0_5, ↓zr_0_6, ↓zr_0_7, ↓zr_0_8, ↓zr_0_9, ↓zr_0_10, ↓zq_64, ↓zq_sh, ei, ↓oc_702 hr, s1, b0, ↓hf_1 hr, s3, ↓oc_142, ↓oc_139]
        have X2 : xm_X (xm_old sc) xm_mt (99 + 1) 1198 [.inr (.inl (some 74)), .inl (i : Int), .inl x2, .inl x3] (yy_W (yy_e m 1) t) = some (some (.inl (-1000000001)), yy_W (yy_f (yy_e m 1) 1) t) := by
          refine xm_X_of (M := xm_m1198) rfl ⟨xm_EQ.eq (xb_1198_0 ?_), rfl, rfl, Nat.le_of_ble_eq_true rfl, yy_hd rfl (by decide)⟩
          have f : ∀ c, c ≠ 65 → yy_e m 1 c = m c := fun c hc => yy_e75 hc
          simp (disch := first | omega | (unfold xm_w; omega)) only [↓zy_at, xm_O_some, xm_Oi_some, xm_Ov_some, xm_Oq_some, ↓reduceIte, ↓zz_t, ↓zz_f, ↓zi_t, ↓zi_f, eq_self, yy_d_0, Int.reduceEq, Int.reduceLT, Int.reduceLE, Int.reduceNe, Int.reduceToNat, Int.reduceAdd, Int.reduceSub, Int.reduceMul, Int.reduceNeg, Nat.reduceAdd, Nat.reduceMul, Nat.reduceSub, Nat.reduceEqDiff, Nat.reduceLT, ne_eq, not_false_eq_true, not_true_eq_false, true_and, and_true, and_self, yy_s_eq, yy_s_ne, yy_c_eq, yy_c_ne, yy_u_eq, yy_u_ne, xm_w_id, yy_at, tdiv_pos, tmod_pos, ↓oc_1196, ↓zr_74_0, ↓zr_74_1, ↓zr_74_2, ↓zf_74_3, ↓zs_74_3, ↓zf_74_4, ↓zs_74_4, ↓zr_74_5, ↓zf_74_6, ↓zs_74_6, ↓zf_74_7, ↓zs_74_7, ↓zf_74_8, ↓zs_74_8, ↓zf_74_9, ↓zs_74_9, ↓zr_74_10, ↓zr_74_11, ↓zr_74_12, ↓zf_74_13, ↓zs_74_13, ↓zr_74_14, ↓zf_74_15, ↓zs_74_15, ↓zf_74_16, ↓zs_74_16, ↓zf_74_17, ↓zs_74_17, ↓zr_74_18, ↓zr_74_19, ↓zr_74_20, ↓zr_74_21, ↓zi_83, ↓zt_83, ↓zi_84, ↓zt_84, ↓zi_85, ↓zt_85, ei, f, ↓oc_1103, ↓oc_1102]
        exact yy_Ao X1 X2 (yy_I_ef hI) yy_ef0 rfl
  · exact r_129 hI h
