/-! SET: both sides -/
def sg_most (w v : Int) : Int := if w = 0 then 6 else if w = 1 then 9 else if w = 2 then 35 else if w = 3 then 99 else if w = 5 then v else -1
set_option maxRecDepth 20000 in
theorem c_605 {sc : List Int} {d : Nat} {t : xm_W} {m : Nat → Nat → Int} {r : Nat} {w : Int} (hq : yy_rd r) : xm_X (xm_old sc) xm_mt (d + 1) 605 [.inr (.inl (some r)), .inl (w)] (yy_W (m) t) = some (some (.inl (sg_most w (m r 4))), (yy_W (m) t)) := by
  refine xm_X_of (M := xm_m605) rfl ⟨xm_EQ.eq (xb_605_0 ?_), rfl, rfl, Nat.le_of_ble_eq_true rfl, yy_hdr hq⟩
  unfold sg_most
  by_cases h0 : w = 0
  · rw [if_pos h0, if_pos h0]
  · rw [if_neg h0, if_neg h0]
    by_cases h1 : w = 1
    · rw [if_pos h1, if_pos h1]
    · rw [if_neg h1, if_neg h1]
      by_cases h2 : w = 2
      · rw [if_pos h2, if_pos h2]
      · rw [if_neg h2, if_neg h2]
        by_cases h3 : w = 3
        · rw [if_pos h3, if_pos h3]
        · rw [if_neg h3, if_neg h3]
          by_cases h4 : w = 4
          · rw [if_pos h4, if_neg (by omega)]
          · rw [if_neg h4]
            by_cases h5 : w = 5
            · rw [if_pos h5, if_pos h5, gf_4 hq]
            · rw [if_neg h5, if_neg h5]
set_option maxRecDepth 20000 in
theorem oc_605 {F : Int → xm_W → Prop} {sc : List Int} {d : Nat} {t : xm_W} {m : Nat → Nat → Int} {r : Nat} {w : Int} (hq : yy_rd r) : xm_Oi (xm_X (xm_old sc) xm_mt (d + 1) 605 [.inr (.inl (some r)), .inl (w)] (yy_W (m) t)) F = F (sg_most w (m r 4)) (yy_W (m) t) := congrArg (fun x => xm_Oi x F) (c_605 hq)
set_option maxRecDepth 20000 in
theorem c_607 {sc : List Int} {d : Nat} {t : xm_W} {m : Nat → Nat → Int} {r : Nat} {w : Int} (hq : yy_rd r) (h : 0 ≤ w ∧ w ≤ 5) : xm_X (xm_old sc) xm_mt (d + 1) 607 [.inr (.inl (some r)), .inl (w)] (yy_W (m) t) = some (some (.inl (m r w.toNat)), (yy_W (m) t)) := by
  refine xm_X_of (M := xm_m607) rfl ⟨xm_EQ.eq (xb_607_0 ?_), rfl, rfl, Nat.le_of_ble_eq_true rfl, yy_hdr hq⟩
  rcases (show w = 0 ∨ w = 1 ∨ w = 2 ∨ w = 3 ∨ w = 4 ∨ w = 5 by omega) with e | e | e | e | e | e <;> subst e <;> simp (disch := first | omega | (unfold xm_w; omega)) only [↓zy_at, xm_O_some, xm_Oi_some, xm_Ov_some, xm_Oq_some, ↓reduceIte, ↓zz_t, ↓zz_f, ↓zi_t, ↓zi_f, eq_self, yy_d_0, Int.reduceEq, Int.reduceLT, Int.reduceLE, Int.reduceNe, Int.reduceToNat, Int.reduceAdd, Int.reduceSub, Int.reduceMul, Int.reduceNeg, Nat.reduceAdd, Nat.reduceMul, Nat.reduceSub, Nat.reduceEqDiff, Nat.reduceLT, ne_eq, not_false_eq_true, not_true_eq_false, true_and, and_true, and_self, yy_s_eq, yy_s_ne, yy_c_eq, yy_c_ne, yy_u_eq, yy_u_ne, xm_w_id, yy_at, tdiv_pos, tmod_pos, ↓gf_0 hq, ↓gf_1 hq, ↓gf_2 hq, ↓gf_3 hq, ↓gf_4 hq, ↓gf_5 hq]
set_option maxRecDepth 20000 in
theorem oc_607 {F : Int → xm_W → Prop} {sc : List Int} {d : Nat} {t : xm_W} {m : Nat → Nat → Int} {r : Nat} {w : Int} (hq : yy_rd r) (h : 0 ≤ w ∧ w ≤ 5) : xm_Oi (xm_X (xm_old sc) xm_mt (d + 1) 607 [.inr (.inl (some r)), .inl (w)] (yy_W (m) t)) F = F (m r w.toNat) (yy_W (m) t) := congrArg (fun x => xm_Oi x F) (c_607 hq h)
set_option maxRecDepth 20000 in
theorem c_606 {sc : List Int} {d : Nat} {t : xm_W} {m : Nat → Nat → Int} {r : Nat} {w v : Int} (hq : yy_rd r) (h : 0 ≤ w ∧ w ≤ 5) (h4 : w ≠ 4) : xm_X (xm_old sc) xm_mt (d + 2) 606 [.inr (.inl (some r)), .inl (w), .inl (v)] (yy_W (m) t) = some (some (.inl (m r w.toNat)), (yy_W (yy_s m r w.toNat v) t)) := by
  refine xm_X_of (M := xm_m606) rfl ⟨xm_EQ.eq (xb_606_0 ?_), rfl, rfl, Nat.le_of_ble_eq_true rfl, yy_hdr hq⟩
  rw [oc_607 hq h]
  rcases (show w = 0 ∨ w = 1 ∨ w = 2 ∨ w = 3 ∨ w = 5 by omega) with e | e | e | e | e <;> subst e <;> simp (disch := first | omega | (unfold xm_w; omega)) only [↓zy_at, xm_O_some, xm_Oi_some, xm_Ov_some, xm_Oq_some, ↓reduceIte, ↓zz_t, ↓zz_f, ↓zi_t, ↓zi_f, eq_self, yy_d_0, Int.reduceEq, Int.reduceLT, Int.reduceLE, Int.reduceNe, Int.reduceToNat, Int.reduceAdd, Int.reduceSub, Int.reduceMul, Int.reduceNeg, Nat.reduceAdd, Nat.reduceMul, Nat.reduceSub, Nat.reduceEqDiff, Nat.reduceLT, ne_eq, not_false_eq_true, not_true_eq_false, true_and, and_true, and_self, yy_s_eq, yy_s_ne, yy_c_eq, yy_c_ne, yy_u_eq, yy_u_ne, xm_w_id, yy_at, tdiv_pos, tmod_pos, ↓gs_0 hq, ↓gs_1 hq, ↓gs_2 hq, ↓gs_3 hq, ↓gs_5 hq]
set_option maxRecDepth 20000 in
theorem oc_606 {F : Int → xm_W → Prop} {sc : List Int} {d : Nat} {t : xm_W} {m : Nat → Nat → Int} {r : Nat} {w v : Int} (hq : yy_rd r) (h : 0 ≤ w ∧ w ≤ 5) (h4 : w ≠ 4) : xm_Oi (xm_X (xm_old sc) xm_mt (d + 2) 606 [.inr (.inl (some r)), .inl (w), .inl (v)] (yy_W (m) t)) F = F (m r w.toNat) (yy_W (yy_s m r w.toNat v) t) := congrArg (fun x => xm_Oi x F) (c_606 hq h h4)
set_option maxRecDepth 20000 in
theorem c_1148 {sc : List Int} {d : Nat} {t : xm_W} {m : Nat → Nat → Int} {r : Nat} {w : Int} (hr : r < 5) (h : 0 ≤ w ∧ w ≤ 5) (h4 : w ≠ 4) : xm_X (xm_old sc) xm_mt (d + 2) 1148 [.inr (.inl (some 74)), .inl ((r : Int)), .inl (w)] (yy_W (m) t) = some (some (.inl (sg_most w (m 75 (48 + 18 * r)))), (yy_W (m) t)) := by
  refine xm_X_of (M := xm_m1148) rfl ⟨xm_EQ.eq (xb_1148_0 ?_), rfl, rfl, Nat.le_of_ble_eq_true rfl, yy_hd rfl (by decide)⟩
  unfold sg_most
  rcases (show w = 0 ∨ w = 1 ∨ w = 2 ∨ w = 3 ∨ w = 5 by omega) with e | e | e | e | e <;> subst e
  · simp (disch := first | omega | (unfold xm_w; omega)) only [↓zy_at, xm_O_some, xm_Oi_some, xm_Ov_some, xm_Oq_some, ↓reduceIte, ↓zz_t, ↓zz_f, ↓zi_t, ↓zi_f, eq_self, yy_d_0, Int.reduceEq, Int.reduceLT, Int.reduceLE, Int.reduceNe, Int.reduceToNat, Int.reduceAdd, Int.reduceSub, Int.reduceMul, Int.reduceNeg, Nat.reduceAdd, Nat.reduceMul, Nat.reduceSub, Nat.reduceEqDiff, Nat.reduceLT, ne_eq, not_false_eq_true, not_true_eq_false, true_and, and_true, and_self, yy_s_eq, yy_s_ne, yy_c_eq, yy_c_ne, yy_u_eq, yy_u_ne, xm_w_id, yy_at, tdiv_pos, tmod_pos]
  · simp (disch := first | omega | (unfold xm_w; omega)) only [↓zy_at, xm_O_some, xm_Oi_some, xm_Ov_some, xm_Oq_some, ↓reduceIte, ↓zz_t, ↓zz_f, ↓zi_t, ↓zi_f, eq_self, yy_d_0, Int.reduceEq, Int.reduceLT, Int.reduceLE, Int.reduceNe, Int.reduceToNat, Int.reduceAdd, Int.reduceSub, Int.reduceMul, Int.reduceNeg, Nat.reduceAdd, Nat.reduceMul, Nat.reduceSub, Nat.reduceEqDiff, Nat.reduceLT, ne_eq, not_false_eq_true, not_true_eq_false, true_and, and_true, and_self, yy_s_eq, yy_s_ne, yy_c_eq, yy_c_ne, yy_u_eq, yy_u_ne, xm_w_id, yy_at, tdiv_pos, tmod_pos]
  · simp (disch := first | omega | (unfold xm_w; omega)) only [↓zy_at, xm_O_some, xm_Oi_some, xm_Ov_some, xm_Oq_some, ↓reduceIte, ↓zz_t, ↓zz_f, ↓zi_t, ↓zi_f, eq_self, yy_d_0, Int.reduceEq, Int.reduceLT, Int.reduceLE, Int.reduceNe, Int.reduceToNat, Int.reduceAdd, Int.reduceSub, Int.reduceMul, Int.reduceNeg, Nat.reduceAdd, Nat.reduceMul, Nat.reduceSub, Nat.reduceEqDiff, Nat.reduceLT, ne_eq, not_false_eq_true, not_true_eq_false, true_and, and_true, and_self, yy_s_eq, yy_s_ne, yy_c_eq, yy_c_ne, yy_u_eq, yy_u_ne, xm_w_id, yy_at, tdiv_pos, tmod_pos]
  · simp (disch := first | omega | (unfold xm_w; omega)) only [↓zy_at, xm_O_some, xm_Oi_some, xm_Ov_some, xm_Oq_some, ↓reduceIte, ↓zz_t, ↓zz_f, ↓zi_t, ↓zi_f, eq_self, yy_d_0, Int.reduceEq, Int.reduceLT, Int.reduceLE, Int.reduceNe, Int.reduceToNat, Int.reduceAdd, Int.reduceSub, Int.reduceMul, Int.reduceNeg, Nat.reduceAdd, Nat.reduceMul, Nat.reduceSub, Nat.reduceEqDiff, Nat.reduceLT, ne_eq, not_false_eq_true, not_true_eq_false, true_and, and_true, and_self, yy_s_eq, yy_s_ne, yy_c_eq, yy_c_ne, yy_u_eq, yy_u_ne, xm_w_id, yy_at, tdiv_pos, tmod_pos]
  · simp (disch := first | omega | (unfold xm_w; omega)) only [↓zy_at, xm_O_some, xm_Oi_some, xm_Ov_some, xm_Oq_some, ↓reduceIte, ↓zz_t, ↓zz_f, ↓zi_t, ↓zi_f, eq_self, yy_d_0, Int.reduceEq, Int.reduceLT, Int.reduceLE, Int.reduceNe, Int.reduceToNat, Int.reduceAdd, Int.reduceSub, Int.reduceMul, Int.reduceNeg, Nat.reduceAdd, Nat.reduceMul, Nat.reduceSub, Nat.reduceEqDiff, Nat.reduceLT, ne_eq, not_false_eq_true, not_true_eq_false, true_and, and_true, and_self, yy_s_eq, yy_s_ne, yy_c_eq, yy_c_ne, yy_u_eq, yy_u_ne, xm_w_id, yy_at, tdiv_pos, tmod_pos, ↓oc_1110_4 hr]
set_option maxRecDepth 20000 in
theorem oc_1148 {F : Int → xm_W → Prop} {sc : List Int} {d : Nat} {t : xm_W} {m : Nat → Nat → Int} {r : Nat} {w : Int} (hr : r < 5) (h : 0 ≤ w ∧ w ≤ 5) (h4 : w ≠ 4) : xm_Oi (xm_X (xm_old sc) xm_mt (d + 2) 1148 [.inr (.inl (some 74)), .inl ((r : Int)), .inl (w)] (yy_W (m) t)) F = F (sg_most w (m 75 (48 + 18 * r))) (yy_W (m) t) := congrArg (fun x => xm_Oi x F) (c_1148 hr h h4)
set_option maxRecDepth 20000 in
theorem a_107 {sc : List Int} {t : xm_W} {m : Nat → Nat → Int} {x1 x2 x3 : Int} (hI : yy_I t m) : yy_A sc t m 107 1149 [.inl x1, .inl x2, .inl x3] true := by
  by_cases h : 0 ≤ x1 ∧ x1 ≤ m 1 4 - 1
  · obtain ⟨⟨e0, e3, e1, e2⟩, hR⟩ := yy_I_0 hI
    obtain ⟨a0, a1, a2, a3, a4, a5⟩ := id hR
    obtain ⟨r, rfl⟩ : ∃ r : Nat, x1 = r := ⟨x1.toNat, by omega⟩
    have hr5 : r < 5 := by omega
    obtain ⟨b0, b1, b2, b3, b4, b5, b6⟩ := a5 r hr5
    have g7 := hI.2.1.1.2.2.2.2.2.2
    have hq := yy_rdn8 hr5
    have er : ((r : Int)).toNat = r := Int.toNat_natCast r
    have f4 : m (8 + 2 * r) 4 = m 75 (48 + 18 * r) := by rw [(g7 r hr5).1 4 (by decide)]; congr 1; omega
    by_cases hv : ((0 ≤ x2 ∧ x2 ≤ 5) ∧ x2 ≠ 4) ∧ (0 ≤ x3 ∧ x3 ≤ sg_most x2 (m 75 (48 + 18 * r)))
    · obtain ⟨w, rfl⟩ : ∃ w : Nat, x2 = w := ⟨x2.toNat, by omega⟩
      have ew : ((w : Int)).toNat = w := Int.toNat_natCast w
      have X1 : xm_X (xm_old sc) xm_mt (99 + 1) 107 [.inr (.inl (some 0)), .inl (r : Int), .inl (w : Int), .inl x3] (yy_W m t) = some (some (.inl (m (8 + 2 * r) w)), yy_W (yy_s m (8 + 2 * r) w x3) t) := by
        refine xm_X_of (M := xm_m107) rfl ⟨xm_EQ.eq (xb_107_0 ?_), rfl, rfl, Nat.le_of_ble_eq_true rfl, yy_hd rfl (by decide)⟩
        rw [oc_141 (d := 97) (by omega) (by omega), zz_t h, zr_0_0, zr_1_3, zq_3, zq_r1 (by omega) (by omega), er, oc_605 (d := 98) hq, f4, oc_142 (d := 98), zz_t hv.2, oc_606 (d := 97) hq hv.1.1 hv.1.2, ew]
      have f75 : yy_s m (8 + 2 * r) w x3 75 = m 75 := by rw [yy_s_ne (by omega)]
      have X2 : xm_X (xm_old sc) xm_mt (99 + 1) 1149 [.inr (.inl (some 74)), .inl (r : Int), .inl (w : Int), .inl x3] (yy_W (yy_s m (8 + 2 * r) w x3) t) = some (some (.inl (m 75 (44 + 18 * r + w))), yy_W (yy_c (yy_s m (8 + 2 * r) w x3) 75 (yy_u (m 75) (44 + 18 * r + w) x3)) t) := by
        refine xm_X_of (M := xm_m1149) rfl ⟨xm_EQ.eq (xb_1149_0 ?_), rfl, rfl, Nat.le_of_ble_eq_true rfl, yy_hd rfl (by decide)⟩
        rw [oc_1109 (d := 97) (by rw [f75]; omega) (by rw [f75]; omega), zz_t (by rw [f75]; omega), oc_1103 (d := 98), zz_t hv.1.1, if_neg hv.1.2, oc_1148 (d := 97) hr5 hv.1.1 hv.1.2, f75, oc_1103 (d := 98), zz_t hv.2]
        simp (disch := first | omega | (unfold xm_w; omega)) only [↓zy_at, xm_O_some, xm_Oi_some, xm_Ov_some, xm_Oq_some, ↓reduceIte, ↓zz_t, ↓zz_f, ↓zi_t, ↓zi_f, eq_self, yy_d_0, Int.reduceEq, Int.reduceLT, Int.reduceLE, Int.reduceNe, Int.reduceToNat, Int.reduceAdd, Int.reduceSub, Int.reduceMul, Int.reduceNeg, Nat.reduceAdd, Nat.reduceMul, Nat.reduceSub, Nat.reduceEqDiff, Nat.reduceLT, ne_eq, not_false_eq_true, not_true_eq_false, true_and, and_true, and_self, yy_s_eq, yy_s_ne, yy_c_eq, yy_c_ne, yy_u_eq, yy_u_ne, xm_w_id, yy_at, tdiv_pos, tmod_pos]
        rw [oc_1113 (d := 98) (by omega) (by omega), f75, show (44 + 18 * (r : Int) + (w : Int)).toNat = 44 + 18 * r + w by omega]
        unfold yy_s
        rw [← yy_s, f75]
      have hw : w ≤ 5 ∧ w ≠ 4 := by omega
      have o : ∀ k, k ≠ 44 + 18 * r + w → yy_u (m 75) (44 + 18 * r + w) x3 k = m 75 k := fun k hk => yy_u_ne hk
      have v : yy_u (m 75) (44 + 18 * r + w) x3 (44 + 18 * r + w) = x3 := yy_u_eq
      have hm := hv.2
      unfold sg_most at hm
      refine yy_Ao X1 X2 (yy_I_rr hI ?_ (fun k a b => by rw [yy_c_eq]; exact o k (by omega)) ?_ (fun k hk => ?_) (fun i hi => ⟨fun k hk => ?_, fun k hk => ?_⟩) (fun c hc a b e f => ?_)) ?_ ?_
      · rw [yy_c_eq]
        rcases (show w = 0 ∨ w = 1 ∨ w = 2 ∨ w = 3 ∨ w = 5 by omega) with e | e | e | e | e <;> subst e
        · refine sg_R_r hr5 hR (fun k hk => o k (by omega)) (by rw [Nat.add_zero, yy_u_eq]; simpa using hm) (by rw [o _ (by omega)]; exact b1) (by rw [o _ (by omega)]; exact b2) (by rw [o _ (by omega)]; exact b3) (by rw [o _ (by omega)]; exact b4) (by rw [o _ (by omega), o _ (by omega)]; exact b5) (fun k hk => by rw [o _ (by omega)]; exact b6 k hk)
        · refine sg_R_r hr5 hR (fun k hk => o k (by omega)) (by rw [o _ (by omega)]; exact b0) (by rw [show 45 + 18 * r = 44 + 18 * r + 1 by omega, v]; simpa using hm) (by rw [o _ (by omega)]; exact b2) (by rw [o _ (by omega)]; exact b3) (by rw [o _ (by omega)]; exact b4) (by rw [o _ (by omega), o _ (by omega)]; exact b5) (fun k hk => by rw [o _ (by omega)]; exact b6 k hk)
        · refine sg_R_r hr5 hR (fun k hk => o k (by omega)) (by rw [o _ (by omega)]; exact b0) (by rw [o _ (by omega)]; exact b1) (by rw [show 46 + 18 * r = 44 + 18 * r + 2 by omega, v]; simpa using hm) (by rw [o _ (by omega)]; exact b3) (by rw [o _ (by omega)]; exact b4) (by rw [o _ (by omega), o _ (by omega)]; exact b5) (fun k hk => by rw [o _ (by omega)]; exact b6 k hk)
        · refine sg_R_r hr5 hR (fun k hk => o k (by omega)) (by rw [o _ (by omega)]; exact b0) (by rw [o _ (by omega)]; exact b1) (by rw [o _ (by omega)]; exact b2) (by rw [show 47 + 18 * r = 44 + 18 * r + 3 by omega, v]; simpa using hm) (by rw [o _ (by omega)]; exact b4) (by rw [o _ (by omega), o _ (by omega)]; exact b5) (fun k hk => by rw [o _ (by omega)]; exact b6 k hk)
        · refine sg_R_r hr5 hR (fun k hk => o k (by omega)) (by rw [o _ (by omega)]; exact b0) (by rw [o _ (by omega)]; exact b1) (by rw [o _ (by omega)]; exact b2) (by rw [o _ (by omega)]; exact b3) (by rw [o _ (by omega)]; exact b4) (by rw [o (48 + 18 * r) (by omega), show 49 + 18 * r = 44 + 18 * r + 5 by omega, v]; simpa using hm) (fun k hk => by rw [o _ (by omega)]; exact b6 k hk)
      · rw [yy_c_eq, yy_c_ne (by decide), yy_s_ne (by omega), o _ (by omega)]; exact e0
      · rw [yy_c_ne (by decide), yy_s_ne (by omega)]
      · rw [yy_c_eq, yy_c_ne (by omega)]
        by_cases e : i = r
        · subst e
          rw [yy_s_eq]
          by_cases kw : k = w
          · subst kw; rw [yy_u_eq, v]
          · rw [yy_u_ne kw, o _ (by omega)]; exact (g7 i hi).1 k hk
        · rw [yy_s_ne (by omega), o _ (by omega)]; exact (g7 i hi).1 k hk
      · rw [yy_c_eq, yy_c_ne (by omega), yy_s_ne (by omega), o _ (by omega)]; exact (g7 i hi).2 k hk
      · rw [yy_c_ne f, yy_s_ne (by omega)]
      · rw [yy_c_ne (by decide), yy_s_ne (by omega)]
      · exact (g7 r hr5).1 w (by omega)
    · have X1 : xm_X (xm_old sc) xm_mt (99 + 1) 107 [.inr (.inl (some 0)), .inl (r : Int), .inl x2, .inl x3] (yy_W m t) = some (some (.inl (-1000000001)), yy_W (yy_e m 1) t) := by
        refine xm_X_of (M := xm_m107) rfl ⟨xm_EQ.eq (xb_107_0 ?_), rfl, rfl, Nat.le_of_ble_eq_true rfl, yy_hd rfl (by decide)⟩
        have g : ¬ (0 ≤ x3 ∧ x3 ≤ sg_most x2 (m 75 (48 + 18 * r))) := by
          intro g
          by_cases h5 : (0 ≤ x2 ∧ x2 ≤ 5) ∧ x2 ≠ 4
          · exact hv ⟨h5, g⟩
          · have : sg_most x2 (m 75 (48 + 18 * r)) = -1 := by
              unfold sg_most
              rw [if_neg (by omega), if_neg (by omega), if_neg (by omega), if_neg (by omega), if_neg (by omega)]
            omega
        rw [oc_141 (d := 97) (by omega) (by omega), zz_t h, zr_0_0, zr_1_3, zq_3, zq_r1 (by omega) (by omega), er, oc_605 (d := 98) hq, f4, oc_142 (d := 98), zz_f g, oc_139 (d := 98) (by decide) (by decide)]
        rfl
      have f75 : yy_e m 1 75 = m 75 := yy_e75 (by decide)
      have X2 : xm_X (xm_old sc) xm_mt (99 + 1) 1149 [.inr (.inl (some 74)), .inl (r : Int), .inl x2, .inl x3] (yy_W (yy_e m 1) t) = some (some (.inl (-1000000001)), yy_W (yy_f (yy_e m 1) 1) t) := by
        refine xm_X_of (M := xm_m1149) rfl ⟨xm_EQ.eq (xb_1149_0 ?_), rfl, rfl, Nat.le_of_ble_eq_true rfl, yy_hd rfl (by decide)⟩
        rw [oc_1109 (d := 97) (by rw [f75]; omega) (by rw [f75]; omega), zz_t (by rw [f75]; omega), oc_1103 (d := 98)]
        by_cases h5 : 0 ≤ x2 ∧ x2 ≤ 5
        · rw [zz_t h5]
          by_cases h4 : x2 = 4
          · rw [if_pos h4, oc_1102 (d := 98) (by decide) (by decide)]; rfl
          · rw [if_neg h4, oc_1148 (d := 97) hr5 h5 h4, f75, oc_1103 (d := 98), zz_f (fun g => hv ⟨⟨h5, h4⟩, g⟩), oc_1102 (d := 98) (by decide) (by decide)]; rfl
        · rw [zz_f h5, oc_1102 (d := 98) (by decide) (by decide)]; rfl
      exact yy_Ao X1 X2 (yy_I_ef hI) yy_ef0 rfl
  · exact r_107 hI h
