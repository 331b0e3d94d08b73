set_option maxRecDepth 20000 in
theorem sg_R_r {s s' : Nat → Int} {r : Nat} (hr : r < 5) (hR : sg_R s) (h : ∀ k, (k < 44 + 18 * r ∨ 62 + 18 * r ≤ k) → s' k = s k) (b0 : 0 ≤ s' (44 + 18 * r) ∧ s' (44 + 18 * r) ≤ 6) (b1 : 0 ≤ s' (45 + 18 * r) ∧ s' (45 + 18 * r) ≤ 9) (b2 : 0 ≤ s' (46 + 18 * r) ∧ s' (46 + 18 * r) ≤ 35) (b3 : 0 ≤ s' (47 + 18 * r) ∧ s' (47 + 18 * r) ≤ 99) (b4 : 0 ≤ s' (48 + 18 * r) ∧ s' (48 + 18 * r) ≤ 12) (b5 : 0 ≤ s' (49 + 18 * r) ∧ s' (49 + 18 * r) ≤ s' (48 + 18 * r)) (b6 : ∀ k, k < 12 → 0 ≤ s' (50 + 18 * r + k) ∧ s' (50 + 18 * r + k) ≤ 3) : sg_R s' := by
  obtain ⟨a0, a1, a2, a3, a4, a5⟩ := hR
  refine ⟨by rw [h 0 (by omega)]; exact a0, by rw [h 1 (by omega)]; exact a1, by rw [h 2 (by omega)]; exact a2, by rw [h 3 (by omega)]; exact a3, fun k hk => by rw [h _ (by omega)]; exact a4 k hk, fun i hi => ?_⟩
  by_cases e : i = r
  · subst e; exact ⟨b0, b1, b2, b3, b4, b5, b6⟩
  · obtain ⟨c0, c1, c2, c3, c4, c5, c6⟩ := a5 i hi
    rw [h _ (by omega), h _ (by omega), h _ (by omega), h _ (by omega), h _ (by omega), h _ (by omega)]
    exact ⟨c0, c1, c2, c3, c4, c5, fun k hk => by rw [h _ (by omega)]; exact c6 k hk⟩
set_option maxRecDepth 20000 in
theorem a_109 {sc : List Int} {t : xm_W} {m : Nat → Nat → Int} {x1 : Int} (hI : yy_I t m) : yy_A sc t m 109 1153 [.inl x1] true := by
  by_cases h : 0 ≤ x1 ∧ x1 ≤ m 1 4 - 1
  · obtain ⟨⟨e0, e3, e1, e2⟩, hR⟩ := yy_I_0 hI
    obtain ⟨a0, a1, a2, a3, a4, a5⟩ := id hR
    obtain ⟨r, rfl⟩ : ∃ r : Nat, x1 = r := ⟨x1.toNat, by omega⟩
    have hr5 : r < 5 := by omega
    obtain ⟨b0, b1, b2, b3, b4, b5, b6⟩ := a5 r hr5
    have g7 := hI.2.1.1.2.2.2.2.2.2
    have hq := yy_rdn8 hr5
    have er : ((r : Int)).toNat = r := Int.toNat_natCast r
    have f4 : m (8 + 2 * r) 4 = m 75 (48 + 18 * r) := by rw [(g7 r hr5).1 4 (by decide)]; congr 1; omega
    have X1 : xm_X (xm_old sc) xm_mt (99 + 1) 109 [.inr (.inl (some 0)), .inl (r : Int)] (yy_W m t) = some (some (.inl (m 75 (48 + 18 * r))), yy_W (yy_s (yy_s m (8 + 2 * r) 4 0) (8 + 2 * r) 5 0) t) := by
      refine xm_X_of (M := xm_m109) rfl ⟨xm_EQ.eq (xb_109_0 ?_), rfl, rfl, Nat.le_of_ble_eq_true rfl, yy_hd rfl (by decide)⟩
      rw [oc_141 (d := 97) (by omega) (by omega), zz_t h]
      simp (disch := first | omega | (unfold xm_w; omega)) only [↓zy_at, xm_O_some, xm_Oi_some, xm_Ov_some, xm_Oq_some, ↓reduceIte, ↓zz_t, ↓zz_f, ↓zi_t, ↓zi_f, eq_self, yy_d_0, Int.reduceEq, Int.reduceLT, Int.reduceLE, Int.reduceNe, Int.reduceToNat, Int.reduceAdd, Int.reduceSub, Int.reduceMul, Int.reduceNeg, Nat.reduceAdd, Nat.reduceMul, Nat.reduceSub, Nat.reduceEqDiff, Nat.reduceLT, ne_eq, not_false_eq_true, not_true_eq_false, true_and, and_true, and_self, yy_s_eq, yy_s_ne, yy_c_eq, yy_c_ne, yy_u_eq, yy_u_ne, xm_w_id, yy_at, tdiv_pos, tmod_pos, ↓zr_0_0, ↓zr_0_1, ↓zr_0_2, ↓zr_0_3, ↓zr_0_4, ↓zf_0_5, ↓zs_0_5, ↓zr_0_6, ↓zr_0_7, ↓zr_0_8, ↓zr_0_9, ↓zr_0_10, ↓zr_1_0, ↓zf_1_1, ↓zs_1_1, ↓zf_1_2, ↓zs_1_2, ↓zr_1_3, ↓zf_1_4, ↓zs_1_4, ↓zr_1_5, ↓zf_1_6, ↓zs_1_6, ↓zr_1_7, ↓zr_1_8, ↓zr_1_9, ↓zq_3, ↓zq_r1, er, ↓gf_4 hq, ↓gs_4 hq, ↓gs_5 hq, f4]
    have f75 : (yy_s (yy_s m (8 + 2 * r) 4 0) (8 + 2 * r) 5 0) 75 = m 75 := by rw [yy_s_ne (by omega), yy_s_ne (by omega)]
    have X2 : xm_X (xm_old sc) xm_mt (99 + 1) 1153 [.inr (.inl (some 74)), .inl (r : Int)] (yy_W (yy_s (yy_s m (8 + 2 * r) 4 0) (8 + 2 * r) 5 0) t) = some (some (.inl (m 75 (48 + 18 * r))), yy_W (yy_c (yy_s (yy_s m (8 + 2 * r) 4 0) (8 + 2 * r) 5 0) 75 (yy_u (yy_u (m 75) (48 + 18 * r) 0) (49 + 18 * r) 0)) t) := by
      refine xm_X_of (M := xm_m1153) rfl ⟨xm_EQ.eq (xb_1153_0 ?_), rfl, rfl, Nat.le_of_ble_eq_true rfl, yy_hd rfl (by decide)⟩
      rw [oc_1109 (d := 97) (by rw [f75]; omega) (by rw [f75]; omega), zz_t (by rw [f75]; omega), oc_1110_4 (d := 98) hr5, f75, oc_1111_4 (d := 98) hr5, oc_1111_5 (d := 98) hr5, yy_c_eq, yy_c_c, f75]
    have o : ∀ k, k ≠ 48 + 18 * r → k ≠ 49 + 18 * r → yy_u (yy_u (m 75) (48 + 18 * r) 0) (49 + 18 * r) 0 k = m 75 k := fun k c1 c2 => by rw [yy_u_ne c2, yy_u_ne c1]
    have v4 : yy_u (yy_u (m 75) (48 + 18 * r) 0) (49 + 18 * r) 0 (48 + 18 * r) = 0 := by rw [yy_u_ne (by omega), yy_u_eq]
    have v5 : yy_u (yy_u (m 75) (48 + 18 * r) 0) (49 + 18 * r) 0 (49 + 18 * r) = 0 := yy_u_eq
    refine yy_Ao X1 X2 (yy_I_rr hI ?_ (fun k a b => by rw [yy_c_eq]; exact o k (by omega) (by omega)) ?_ (fun k hk => ?_) (fun i hi => ⟨fun k hk => ?_, fun k hk => ?_⟩) (fun c hc a b e f => ?_)) ?_ rfl
    · rw [yy_c_eq]
      refine sg_R_r hr5 hR (fun k hk => o k (by omega) (by omega)) ?_ ?_ ?_ ?_ ?_ ?_ (fun k hk => ?_)
      · rw [o _ (by omega) (by omega)]; exact b0
      · rw [o _ (by omega) (by omega)]; exact b1
      · rw [o _ (by omega) (by omega)]; exact b2
      · rw [o _ (by omega) (by omega)]; exact b3
      · rw [v4]; decide
      · rw [v4, v5]; decide
      · rw [o _ (by omega) (by omega)]; exact b6 k hk
    · rw [yy_c_eq, o _ (by omega) (by omega)]; simp (disch := first | omega | (unfold xm_w; omega)) only [↓zy_at, xm_O_some, xm_Oi_some, xm_Ov_some, xm_Oq_some, ↓reduceIte, ↓zz_t, ↓zz_f, ↓zi_t, ↓zi_f, eq_self, yy_d_0, Int.reduceEq, Int.reduceLT, Int.reduceLE, Int.reduceNe, Int.reduceToNat, Int.reduceAdd, Int.reduceSub, Int.reduceMul, Int.reduceNeg, Nat.reduceAdd, Nat.reduceMul, Nat.reduceSub, Nat.reduceEqDiff, Nat.reduceLT, ne_eq, not_false_eq_true, not_true_eq_false, true_and, and_true, and_self, yy_s_eq, yy_s_ne, yy_c_eq, yy_c_ne, yy_u_eq, yy_u_ne, xm_w_id, yy_at, tdiv_pos, tmod_pos]; exact e0
    · simp (disch := first | omega | (unfold xm_w; omega)) only [↓zy_at, xm_O_some, xm_Oi_some, xm_Ov_some, xm_Oq_some, ↓reduceIte, ↓zz_t, ↓zz_f, ↓zi_t, ↓zi_f, eq_self, yy_d_0, Int.reduceEq, Int.reduceLT, Int.reduceLE, Int.reduceNe, Int.reduceToNat, Int.reduceAdd, Int.reduceSub, Int.reduceMul, Int.reduceNeg, Nat.reduceAdd, Nat.reduceMul, Nat.reduceSub, Nat.reduceEqDiff, Nat.reduceLT, ne_eq, not_false_eq_true, not_true_eq_false, true_and, and_true, and_self, yy_s_eq, yy_s_ne, yy_c_eq, yy_c_ne, yy_u_eq, yy_u_ne, xm_w_id, yy_at, tdiv_pos, tmod_pos]
    · rw [yy_c_eq, yy_c_ne (by omega)]
      by_cases e : i = r
      · subst e
        rw [yy_s_s, yy_c_eq]
        by_cases k5 : k = 5
        · subst k5; rw [yy_u_eq, show 44 + 18 * i + 5 = 49 + 18 * i by omega, v5]
        · by_cases k4 : k = 4
          · subst k4; rw [yy_u_ne (by decide), yy_u_eq, show 44 + 18 * i + 4 = 48 + 18 * i by omega, v4]
          · rw [yy_u_ne k5, yy_u_ne k4, o _ (by omega) (by omega)]; exact (g7 i hi).1 k hk
      · rw [yy_s_ne (by omega), yy_s_ne (by omega), o _ (by omega) (by omega)]; exact (g7 i hi).1 k hk
    · rw [yy_c_eq, yy_c_ne (by omega), yy_s_ne (by omega), yy_s_ne (by omega), o _ (by omega) (by omega)]; exact (g7 i hi).2 k hk
    · rw [yy_c_ne f, yy_s_ne (by omega), yy_s_ne (by omega)]
    · rw [yy_c_ne (by decide), yy_s_ne (by omega), yy_s_ne (by omega)]
  · exact r_109 hI h
/-! a way comes behind a ride: both sides -/
set_option maxRecDepth 20000 in
theorem c_604 {sc : List Int} {d : Nat} {t : xm_W} {m : Nat → Nat → Int} {r : Nat} {w : Int} (hq : yy_rd r) (h : 0 ≤ m r 4 ∧ m r 4 ≤ 12) : xm_X (xm_old sc) xm_mt (d + 1) 604 [.inr (.inl (some r)), .inl (w)] (yy_W (m) t) = some (some (.inl (if m r 4 < 12 then 1 else 0)), (yy_W (if m r 4 < 12 then yy_s (yy_s m (r + 1) (m r 4).toNat w) r 4 (m r 4 + 1) else m) t)) := by
  refine xm_X_of (M := xm_m604) rfl ⟨xm_EQ.eq (xb_604_0 ?_), ?_, rfl, Nat.le_of_ble_eq_true rfl, yy_hdr hq⟩
  · by_cases g : m r 4 < 12
    · rw [if_pos g, if_pos g]
      rw [gf_4 hq, if_pos g, gr_6 hq, gf_4 hq, gt_1 hq h.1 g, gf_4 hq, yy_s_ne (by omega), gs_4 hq, xm_w_id (by omega) (by omega)]
    · rw [if_neg g, if_neg g]
      rw [gf_4 hq, if_neg g]
  · show (_ == _ || _ == _) = true
    split <;> rfl
set_option maxRecDepth 20000 in
theorem oc_604 {F : Int → xm_W → Prop} {sc : List Int} {d : Nat} {t : xm_W} {m : Nat → Nat → Int} {r : Nat} {w : Int} (hq : yy_rd r) (h : 0 ≤ m r 4 ∧ m r 4 ≤ 12) : xm_Oi (xm_X (xm_old sc) xm_mt (d + 1) 604 [.inr (.inl (some r)), .inl (w)] (yy_W (m) t)) F = F (if m r 4 < 12 then 1 else 0) (yy_W (if m r 4 < 12 then yy_s (yy_s m (r + 1) (m r 4).toNat w) r 4 (m r 4 + 1) else m) t) := congrArg (fun x => xm_Oi x F) (c_604 hq h)
set_option maxRecDepth 20000 in
theorem c_1151 {sc : List Int} {d : Nat} {t : xm_W} {m : Nat → Nat → Int} {r : Nat} {w : Int} (hr : r < 5) (h : 0 ≤ m 75 (48 + 18 * r) ∧ m 75 (48 + 18 * r) < 12) : xm_X (xm_old sc) xm_mt (d + 2) 1151 [.inr (.inl (some 74)), .inl ((r : Int)), .inl (w)] (yy_W (m) t) = some (none, (yy_W (yy_c m 75 (yy_u (yy_u (m 75) (50 + 18 * r + (m 75 (48 + 18 * r)).toNat) w) (48 + 18 * r) (m 75 (48 + 18 * r) + 1))) t)) := by
  refine xm_X_of (M := xm_m1151) rfl ⟨xm_EQ.eq (xb_1151_0 ?_), rfl, rfl, Nat.le_of_ble_eq_true rfl, yy_hd rfl (by decide)⟩
  rw [oc_1110_4 hr, xm_w_id (by omega) (by omega), oc_1111 (by omega) (by omega) (by omega) (by omega), show (44 + 18 * (r : Int) + (6 + m 75 (48 + 18 * r))).toNat = 50 + 18 * r + (m 75 (48 + 18 * r)).toNat by omega, oc_1110_4 hr, yy_s_eq, yy_u_ne (by omega), oc_1111_4 hr, xm_w_id (by omega) (by omega), yy_s_eq]
  unfold yy_s
  rw [yy_c_c]
set_option maxRecDepth 20000 in
theorem oc_1151 {F : xm_W → Prop} {sc : List Int} {d : Nat} {t : xm_W} {m : Nat → Nat → Int} {r : Nat} {w : Int} (hr : r < 5) (h : 0 ≤ m 75 (48 + 18 * r) ∧ m 75 (48 + 18 * r) < 12) : xm_Ov (xm_X (xm_old sc) xm_mt (d + 2) 1151 [.inr (.inl (some 74)), .inl ((r : Int)), .inl (w)] (yy_W (m) t)) F = F (yy_W (yy_c m 75 (yy_u (yy_u (m 75) (50 + 18 * r + (m 75 (48 + 18 * r)).toNat) w) (48 + 18 * r) (m 75 (48 + 18 * r) + 1))) t) := congrArg (fun x => xm_Ov x F) (c_1151 hr h)
def sg_aw (s : Nat → Int) (r : Nat) (w : Int) : Nat → Int := yy_u (yy_u s (50 + 18 * r + (s (48 + 18 * r)).toNat) w) (48 + 18 * r) (s (48 + 18 * r) + 1)
set_option maxRecDepth 20000 in
theorem yy_I_aw {t : xm_W} {m : Nat → Nat → Int} {r : Nat} {w : Int} (hI : yy_I t m) (hr5 : r < 5) (hw : 0 ≤ w ∧ w ≤ 3) (hl : m 75 (48 + 18 * r) < 12) : yy_I t (yy_c (yy_s (yy_s m (8 + 2 * r + 1) (m (8 + 2 * r) 4).toNat w) (8 + 2 * r) 4 (m (8 + 2 * r) 4 + 1)) 75 (sg_aw (m 75) r w)) := by
  obtain ⟨⟨e0, e3, e1, e2⟩, hR⟩ := yy_I_0 hI
  obtain ⟨a0, a1, a2, a3, a4, a5⟩ := id hR
  obtain ⟨b0, b1, b2, b3, b4, b5, b6⟩ := a5 r hr5
  have g7 := hI.2.1.1.2.2.2.2.2.2
  have f4 : m (8 + 2 * r) 4 = m 75 (48 + 18 * r) := by rw [(g7 r hr5).1 4 (by decide)]; congr 1; omega
  have o : ∀ k, k ≠ 48 + 18 * r → k ≠ 50 + 18 * r + (m 75 (48 + 18 * r)).toNat → sg_aw (m 75) r w k = m 75 k := fun k c1 c2 => by unfold sg_aw; rw [yy_u_ne c1, yy_u_ne c2]
  have v4 : sg_aw (m 75) r w (48 + 18 * r) = m 75 (48 + 18 * r) + 1 := yy_u_eq
  have vw : sg_aw (m 75) r w (50 + 18 * r + (m 75 (48 + 18 * r)).toNat) = w := by unfold sg_aw; rw [yy_u_ne (by omega), yy_u_eq]
  rw [f4]
  refine yy_I_rr hI ?_ (fun k a b => by rw [yy_c_eq]; exact o k (by omega) (by omega)) ?_ (fun k hk => ?_) (fun i hi => ⟨fun k hk => ?_, fun k hk => ?_⟩) (fun c hc a b e f => ?_)
  · rw [yy_c_eq]
    refine sg_R_r hr5 hR (fun k hk => o k (by omega) (by omega)) ?_ ?_ ?_ ?_ ?_ ?_ (fun k hk => ?_)
    · rw [o _ (by omega) (by omega)]; exact b0
    · rw [o _ (by omega) (by omega)]; exact b1
    · rw [o _ (by omega) (by omega)]; exact b2
    · rw [o _ (by omega) (by omega)]; exact b3
    · rw [v4]; omega
    · rw [v4, o _ (by omega) (by omega)]; omega
    · by_cases e : 50 + 18 * r + k = 50 + 18 * r + (m 75 (48 + 18 * r)).toNat
      · rw [e, vw]; exact hw
      · rw [o _ (by omega) e]; exact b6 k hk
  · rw [yy_c_eq, o _ (by omega) (by omega)]; simp (disch := first | omega | (unfold xm_w; omega)) only [↓zy_at, xm_O_some, xm_Oi_some, xm_Ov_some, xm_Oq_some, ↓reduceIte, ↓zz_t, ↓zz_f, ↓zi_t, ↓zi_f, eq_self, yy_d_0, Int.reduceEq, Int.reduceLT, Int.reduceLE, Int.reduceNe, Int.reduceToNat, Int.reduceAdd, Int.reduceSub, Int.reduceMul, Int.reduceNeg, Nat.reduceAdd, Nat.reduceMul, Nat.reduceSub, Nat.reduceEqDiff, Nat.reduceLT, ne_eq, not_false_eq_true, not_true_eq_false, true_and, and_true, and_self, yy_s_eq, yy_s_ne, yy_c_eq, yy_c_ne, yy_u_eq, yy_u_ne, xm_w_id, yy_at, tdiv_pos, tmod_pos]; exact e0
  · simp (disch := first | omega | (unfold xm_w; omega)) only [↓zy_at, xm_O_some, xm_Oi_some, xm_Ov_some, xm_Oq_some, ↓reduceIte, ↓zz_t, ↓zz_f, ↓zi_t, ↓zi_f, eq_self, yy_d_0, Int.reduceEq, Int.reduceLT, Int.reduceLE, Int.reduceNe, Int.reduceToNat, Int.reduceAdd, Int.reduceSub, Int.reduceMul, Int.reduceNeg, Nat.reduceAdd, Nat.reduceMul, Nat.reduceSub, Nat.reduceEqDiff, Nat.reduceLT, ne_eq, not_false_eq_true, not_true_eq_false, true_and, and_true, and_self, yy_s_eq, yy_s_ne, yy_c_eq, yy_c_ne, yy_u_eq, yy_u_ne, xm_w_id, yy_at, tdiv_pos, tmod_pos]
  · rw [yy_c_eq, yy_c_ne (by omega)]
    by_cases e : i = r
    · subst e
      rw [yy_s_eq, yy_s_ne (by omega)]
      by_cases k4 : k = 4
      · subst k4; rw [yy_u_eq, show 44 + 18 * i + 4 = 48 + 18 * i by omega, v4]
      · rw [yy_u_ne k4, o _ (by omega) (by omega)]; exact (g7 i hi).1 k hk
    · rw [yy_s_ne (by omega), yy_s_ne (by omega), o _ (by omega) (by omega)]; exact (g7 i hi).1 k hk
  · rw [yy_c_eq, yy_c_ne (by omega), yy_s_ne (by omega)]
    by_cases e : i = r
    · subst e
      rw [show 9 + 2 * i = 8 + 2 * i + 1 by omega, yy_s_eq]
      by_cases ek : k = (m 75 (48 + 18 * i)).toNat
      · subst ek; rw [yy_u_eq, vw]
      · rw [yy_u_ne ek, o _ (by omega) (by omega)]
        have := (g7 i hi).2 k hk
        rw [show 9 + 2 * i = 8 + 2 * i + 1 by omega] at this
        rw [show 8 + 2 * i + 1 = 8 + 2 * i + 1 from rfl]
        have h8 : (1 + 8 + 2 * i) = 8 + 2 * i + 1 := by omega
        first | exact this | (rw [← h8] at this; exact this)
    · rw [yy_s_ne (by omega), o _ (by omega) (by omega)]; exact (g7 i hi).2 k hk
  · rw [yy_c_ne f, yy_s_ne (by omega), yy_s_ne (by omega)]
set_option maxRecDepth 20000 in
theorem a_108 {sc : List Int} {t : xm_W} {m : Nat → Nat → Int} {x1 x2 : Int} (hI : yy_I t m) : yy_A sc t m 108 1152 [.inl x1, .inl x2] true := by
  obtain ⟨⟨e0, e3, e1, e2⟩, hR⟩ := yy_I_0 hI
  obtain ⟨a0, a1, a2, a3, a4, a5⟩ := id hR
  by_cases h : (0 ≤ x1 ∧ x1 ≤ m 1 4 - 1) ∧ (0 ≤ x2 ∧ x2 ≤ 3)
  · obtain ⟨r, rfl⟩ : ∃ r : Nat, x1 = r := ⟨x1.toNat, by omega⟩
    have hr5 : r < 5 := by omega
    obtain ⟨b0, b1, b2, b3, b4, b5, b6⟩ := a5 r hr5
    have g7 := hI.2.1.1.2.2.2.2.2.2
    have hq := yy_rdn8 hr5
    have er : ((r : Int)).toNat = r := Int.toNat_natCast r
    have f4 : m (8 + 2 * r) 4 = m 75 (48 + 18 * r) := by rw [(g7 r hr5).1 4 (by decide)]; congr 1; omega
    by_cases hl : m 75 (48 + 18 * r) < 12
    · have X1 : xm_X (xm_old sc) xm_mt (99 + 1) 108 [.inr (.inl (some 0)), .inl (r : Int), .inl x2] (yy_W m t) = some (some (.inl (m 75 (48 + 18 * r) + 1)), yy_W (yy_s (yy_s m (8 + 2 * r + 1) (m (8 + 2 * r) 4).toNat x2) (8 + 2 * r) 4 (m (8 + 2 * r) 4 + 1)) t) := by
        refine xm_X_of (M := xm_m108) rfl ⟨xm_EQ.eq (xb_108_0 ?_), rfl, rfl, Nat.le_of_ble_eq_true rfl, yy_hd rfl (by decide)⟩
        rw [oc_141 (d := 97) (by omega) (by omega), zz_t h.1, oc_142 (d := 98), zz_t h.2, zr_0_0, zr_1_3, zq_3, zq_r1 (by omega) (by omega), er, oc_604 (d := 98) hq (by omega)]
        have g : m (8 + 2 * r) 4 < 12 := by omega
        rw [if_pos g, if_pos g, if_neg (by decide : ¬ (1 : Int) = 0)]
        simp (disch := first | omega | (unfold xm_w; omega)) only [↓zy_at, xm_O_some, xm_Oi_some, xm_Ov_some, xm_Oq_some, ↓reduceIte, ↓zz_t, ↓zz_f, ↓zi_t, ↓zi_f, eq_self, yy_d_0, Int.reduceEq, Int.reduceLT, Int.reduceLE, Int.reduceNe, Int.reduceToNat, Int.reduceAdd, Int.reduceSub, Int.reduceMul, Int.reduceNeg, Nat.reduceAdd, Nat.reduceMul, Nat.reduceSub, Nat.reduceEqDiff, Nat.reduceLT, ne_eq, not_false_eq_true, not_true_eq_false, true_and, and_true, and_self, yy_s_eq, yy_s_ne, yy_c_eq, yy_c_ne, yy_u_eq, yy_u_ne, xm_w_id, yy_at, tdiv_pos, tmod_pos, ↓zr_0_0, ↓zr_0_1, ↓zr_0_2, ↓zr_0_3, ↓zr_0_4, ↓zf_0_5, ↓zs_0_5, ↓zr_0_6, ↓zr_0_7, ↓zr_0_8, ↓zr_0_9, ↓zr_0_10, ↓zr_1_0, ↓zf_1_1, ↓zs_1_1, ↓zf_1_2, ↓zs_1_2, ↓zr_1_3, ↓zf_1_4, ↓zs_1_4, ↓zr_1_5, ↓zf_1_6, ↓zs_1_6, ↓zr_1_7, ↓zr_1_8, ↓zr_1_9, ↓zq_3, ↓zq_r1, er, ↓gf_4 hq]
        rw [f4]
      have f75 : (yy_s (yy_s m (8 + 2 * r + 1) (m (8 + 2 * r) 4).toNat x2) (8 + 2 * r) 4 (m (8 + 2 * r) 4 + 1)) 75 = m 75 := by rw [yy_s_ne (by omega), yy_s_ne (by omega)]
      have X2 : xm_X (xm_old sc) xm_mt (99 + 1) 1152 [.inr (.inl (some 74)), .inl (r : Int), .inl x2] (yy_W (yy_s (yy_s m (8 + 2 * r + 1) (m (8 + 2 * r) 4).toNat x2) (8 + 2 * r) 4 (m (8 + 2 * r) 4 + 1)) t) = some (some (.inl (m 75 (48 + 18 * r) + 1)), yy_W (yy_c (yy_s (yy_s m (8 + 2 * r + 1) (m (8 + 2 * r) 4).toNat x2) (8 + 2 * r) 4 (m (8 + 2 * r) 4 + 1)) 75 (sg_aw (m 75) r x2)) t) := by
        refine xm_X_of (M := xm_m1152) rfl ⟨xm_EQ.eq (xb_1152_0 ?_), rfl, rfl, Nat.le_of_ble_eq_true rfl, yy_hd rfl (by decide)⟩
        have c50 : xm_X (xm_old sc) xm_mt (98 + 1) 1150 [.inr (.inl (some 74)), .inl (r : Int), .inl x2] (yy_W (yy_s (yy_s m (8 + 2 * r + 1) (m (8 + 2 * r) 4).toNat x2) (8 + 2 * r) 4 (m (8 + 2 * r) 4 + 1)) t) = some (some (.inl 0), yy_W (yy_s (yy_s m (8 + 2 * r + 1) (m (8 + 2 * r) 4).toNat x2) (8 + 2 * r) 4 (m (8 + 2 * r) 4 + 1)) t) := by
          refine xm_X_of (M := xm_m1150) rfl ⟨xm_EQ.eq (xb_1150_0 ?_), rfl, rfl, Nat.le_of_ble_eq_true rfl, yy_hd rfl (by decide)⟩
          rw [oc_1109 (d := 96) (by rw [f75]; omega) (by rw [f75]; omega), zz_t (by rw [f75]; omega), oc_1103 (d := 97), zz_t h.2, oc_1110_4 (d := 97) hr5, f75, if_neg (by omega)]
        rw [show (99 : Nat) = 98 + 1 from rfl, c50, xm_Oi_some, if_neg (by decide), oc_1151 (d := 97) hr5 (by rw [f75]; omega), oc_1110_4 (d := 98) hr5, yy_c_eq, f75, yy_u_eq]
        rfl
      exact yy_Ao X1 X2 (yy_I_aw hI hr5 h.2 hl) (by rw [yy_c_ne (by decide), yy_s_ne (by omega), yy_s_ne (by omega)]) rfl
    · have X1 : xm_X (xm_old sc) xm_mt (99 + 1) 108 [.inr (.inl (some 0)), .inl (r : Int), .inl x2] (yy_W m t) = some (some (.inl (-1000000004)), yy_W (yy_e m 4) t) := by
        refine xm_X_of (M := xm_m108) rfl ⟨xm_EQ.eq (xb_108_0 ?_), rfl, rfl, Nat.le_of_ble_eq_true rfl, yy_hd rfl (by decide)⟩
        rw [oc_141 (d := 97) (by omega) (by omega), zz_t h.1, oc_142 (d := 98), zz_t h.2, zr_0_0, zr_1_3, zq_3, zq_r1 (by omega) (by omega), er, oc_604 (d := 98) hq (by omega)]
        have g : ¬ m (8 + 2 * r) 4 < 12 := by omega
        rw [if_neg g, if_neg g, if_pos (rfl : (0 : Int) = 0), oc_139 (d := 98) (by decide) (by decide)]
        rfl
      have f : yy_e m 4 75 = m 75 := yy_e75 (by decide)
      have X2 : xm_X (xm_old sc) xm_mt (99 + 1) 1152 [.inr (.inl (some 74)), .inl (r : Int), .inl x2] (yy_W (yy_e m 4) t) = some (some (.inl (-1000000004)), yy_W (yy_f (yy_e m 4) 4) t) := by
        refine xm_X_of (M := xm_m1152) rfl ⟨xm_EQ.eq (xb_1152_0 ?_), rfl, rfl, Nat.le_of_ble_eq_true rfl, yy_hd rfl (by decide)⟩
        have c50 : xm_X (xm_old sc) xm_mt (98 + 1) 1150 [.inr (.inl (some 74)), .inl (r : Int), .inl x2] (yy_W (yy_e m 4) t) = some (some (.inl 4), yy_W (yy_e m 4) t) := by
          refine xm_X_of (M := xm_m1150) rfl ⟨xm_EQ.eq (xb_1150_0 ?_), rfl, rfl, Nat.le_of_ble_eq_true rfl, yy_hd rfl (by decide)⟩
          rw [oc_1109 (d := 96) (by rw [f]; omega) (by rw [f]; omega), zz_t (by rw [f]; omega), oc_1103 (d := 97), zz_t h.2, oc_1110_4 (d := 97) hr5, f, if_pos (by omega)]
        rw [show (99 : Nat) = 98 + 1 from rfl, c50, xm_Oi_some, if_pos (by decide), oc_1102 (d := 98) (by decide) (by decide)]
        rfl
      exact yy_Ao X1 X2 (yy_I_ef hI) yy_ef0 rfl
  · exact yy_Ao (f_108 (d := 96) (by omega) (by omega) h) (f_1152 (d := 96) (by rw [yy_e75 (by decide)]; omega) (by rw [yy_e75 (by decide)]; omega) (by rw [yy_e75 (by decide)]; rw [e0] at h; exact h)) (yy_I_ef hI) yy_ef0 rfl
