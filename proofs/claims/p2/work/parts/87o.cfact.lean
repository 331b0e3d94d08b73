set_option maxRecDepth 20000 in
theorem sg_la_p {s : Nat → Int} {c : Int} (hO : sg_O s 0) (h3 : 0 ≤ s 3) (h : ¬ sg_la s c (sg_N s) = -1) : 0 ≤ sg_la s c (sg_N s) ∧ sg_la s c (sg_N s) < s 3 ∧ sg_E s (sg_la s c (sg_N s)).toNat := by
  have hN : ((sg_N s : Nat) : Int) = s 3 := by unfold sg_N; omega
  rcases sg_la_b (s := s) (c := c) (sg_N s) with x | ⟨x, y, z⟩
  · exact absurd x h
  · exact ⟨x, by omega, (hO.1 _ (by omega)).1⟩
set_option maxRecDepth 20000 in
theorem c_413_1g {sc : List Int} {d : Nat} {t : xm_W} {m : Nat → Nat → Int} {s : Nat → Int} {c y : Int} (hM : yy_MX t m 1 s) (hW : sg_W s 0) (hc : 0 ≤ c ∧ c ≤ 35) : ∃ m', xm_X (xm_old sc) xm_mt (d + 5) 413 [.inr (.inl (some 1)), .inl (c), .inl (y)] (yy_W m t) = some (some (.inl (sg_cf s c y)), yy_W m' t) ∧ ∀ c, c ≠ 6 → c ≠ 7 → m' c = m c := by
  have key : ∀ {Q : Option xm_V × xm_W → Prop}, (∀ m', (∀ c, c ≠ 6 → c ≠ 7 → m' c = m c) → Q (some (.inl (sg_cf s c y)), yy_W m' t)) → xm_EQ (xm_old sc) xm_sta (xm_X (xm_old sc) xm_mt (d + 4)) xm_m413.2.2.2.2.2.2.2 0 (xm_loc xm_m413.2.2.1 [.inr (.inl (some 1)), .inl (c), .inl (y)]) [] (yy_W m t) Q := by
    intro Q hQ
    obtain ⟨hR, hO, hS, hT, hT1⟩ := id hW
    obtain ⟨hMR, hX, hX1⟩ := id hM
    obtain ⟨e1, e2, e3, e4, e5, e6, e7⟩ := id hMR
    obtain ⟨b0, b1, b2, b3, hso, hrd⟩ := id hR
    unfold sg_cf at hQ
    refine xb_413_0 ?_
    by_cases g0 : y = 0
    · rw [if_pos g0] at hQ ⊢
      have := hQ m fun _ _ _ => rfl
      have f : m 2 c.toNat = s (8 + c).toNat := by rw [e5 _ (by omega)]; congr 1; omega
      simp (disch := first | omega | (unfold xm_w; omega)) only [↓zy_at, xm_O_some, xm_Oi_some, xm_Ov_some, xm_Oq_some, ↓reduceIte, ↓zz_t, ↓zz_f, ↓zi_t, ↓zi_f, eq_self, yy_d_0, Int.reduceEq, Int.reduceLT, Int.reduceLE, Int.reduceNe, Int.reduceToNat, Int.reduceAdd, Int.reduceSub, Int.reduceMul, Int.reduceNeg, Nat.reduceAdd, Nat.reduceMul, Nat.reduceSub, Nat.reduceEqDiff, Nat.reduceLT, ne_eq, not_false_eq_true, not_true_eq_false, true_and, and_true, and_self, yy_s_eq, yy_s_ne, yy_c_eq, yy_c_ne, yy_u_eq, yy_u_ne, xm_w_id, yy_at, tdiv_pos, tmod_pos, ↓zr_1_0, ↓zf_1_1, ↓zs_1_1, ↓zf_1_2, ↓zs_1_2, ↓zr_1_3, ↓zf_1_4, ↓zs_1_4, ↓zr_1_5, ↓zf_1_6, ↓zs_1_6, ↓zr_1_7, ↓zr_1_8, ↓zr_1_9, ↓zi_2, ↓zt_2, f]
      exact this
    · rw [if_neg g0] at hQ ⊢
      by_cases g1 : y = 1
      · rw [if_pos g1] at hQ ⊢
        rw [oc_414_1_0 hMR b3]
        exact hQ m fun _ _ _ => rfl
      · rw [if_neg g1] at hQ ⊢
        by_cases g2 : y = 2
        · rw [if_pos g2] at hQ ⊢
          rw [oc_415_1g hMR b3]
          have := hQ m fun _ _ _ => rfl
          by_cases g : sg_la s c (sg_N s) = -1
          · rw [if_pos g] at this
            rw [if_pos (by omega)]; exact this
          · obtain ⟨x1, x2, x3⟩ := sg_la_p hO b3.1 g
            rw [if_neg g] at this
            rw [if_neg (by omega)]
            have i1 : (sg_la s c (sg_N s) * 5 + 1).toNat = 5 * (sg_la s c (sg_N s)).toNat + 1 := by omega
            have f : m 4 (5 * (sg_la s c (sg_N s)).toNat + 1) = sg_p s (sg_la s c (sg_N s)).toNat 1 := by rw [e6 _ (by omega)]; unfold sg_p; first | rfl | (congr 1; omega)
            simp (disch := first | omega | (unfold xm_w; omega)) only [↓zy_at, xm_O_some, xm_Oi_some, xm_Ov_some, xm_Oq_some, ↓reduceIte, ↓zz_t, ↓zz_f, ↓zi_t, ↓zi_f, eq_self, yy_d_0, Int.reduceEq, Int.reduceLT, Int.reduceLE, Int.reduceNe, Int.reduceToNat, Int.reduceAdd, Int.reduceSub, Int.reduceMul, Int.reduceNeg, Nat.reduceAdd, Nat.reduceMul, Nat.reduceSub, Nat.reduceEqDiff, Nat.reduceLT, ne_eq, not_false_eq_true, not_true_eq_false, true_and, and_true, and_self, yy_s_eq, yy_s_ne, yy_c_eq, yy_c_ne, yy_u_eq, yy_u_ne, xm_w_id, yy_at, tdiv_pos, tmod_pos, ↓zr_1_0, ↓zf_1_1, ↓zs_1_1, ↓zf_1_2, ↓zs_1_2, ↓zr_1_3, ↓zf_1_4, ↓zs_1_4, ↓zr_1_5, ↓zf_1_6, ↓zs_1_6, ↓zr_1_7, ↓zr_1_8, ↓zr_1_9, ↓zi_4, ↓zt_4, i1, f]
            exact this
        · rw [if_neg g2] at hQ ⊢
          by_cases g3 : y = 3
          · rw [if_pos g3] at hQ ⊢
            rw [oc_416_1g hMR b3]
            exact hQ m fun _ _ _ => rfl
          · rw [if_neg g3] at hQ ⊢
            obtain ⟨m1, e, f1⟩ := c_417_1g (sc := sc) (d := d) (t := t) (m := m) hM hW hc
            rw [e, xm_Oi_some]
            exact hQ m1 f1
  obtain ⟨q, h1, m', h2, h3⟩ := yx_of (y := 413) (M := xm_m413) (sc := sc) (d := d + 4) (as := [.inr (.inl (some 1)), .inl (c), .inl (y)]) (w := yy_W m t) (Q := fun q => ∃ m', q = (some (.inl (sg_cf s c y)), yy_W m' t) ∧ (∀ c, c ≠ 6 → c ≠ 7 → m' c = m c)) rfl (key fun m' h => ⟨m', rfl, h⟩) (fun q ⟨m', h, _⟩ => by rw [h]; rfl) rfl (Nat.le_of_ble_eq_true rfl) (yy_hd rfl (by decide))
  exact ⟨m', by rw [h1, h2], h3⟩
set_option maxRecDepth 20000 in
theorem c_412_1 {sc : List Int} {d : Nat} {t : xm_W} {m : Nat → Nat → Int} {s : Nat → Int} {r : Nat} {y : Int} (hr : r < 5) (hM : yy_MR m 1 s) (hR : sg_R s) (hy : 0 ≤ y ∧ y ≤ 19) : xm_X (xm_old sc) xm_mt (d + 3) 412 [.inr (.inl (some 1)), .inl ((r : Int)), .inl (y)] (yy_W (m) t) = some (some (.inl (sg_rf s r y)), (yy_W (m) t)) := by
  obtain ⟨e1, e2, e3, e4, e5, e6, e7⟩ := id hM
  obtain ⟨b0, b1, b2, b3, hso, hrd⟩ := id hR
  obtain ⟨a0, a1, a2, a3, a4, a5, a6⟩ := hrd r hr
  have hq : yy_rd (8 + 2 * r) := yy_rdn8 hr
  have er : ((r : Int)).toNat = r := Int.toNat_natCast r
  refine xm_X_of (M := xm_m412) rfl ⟨xm_EQ.eq (xb_412_0 ?_), rfl, rfl, Nat.le_of_ble_eq_true rfl, yy_hd rfl (by decide)⟩
  unfold sg_rf
  by_cases g7 : y = 7
  · rw [if_pos g7, if_pos g7, oc_414_1_4 hM b3]
  · rw [if_neg g7, if_neg g7]
    simp (disch := first | omega | (unfold xm_w; omega)) only [↓zy_at, xm_O_some, xm_Oi_some, xm_Ov_some, xm_Oq_some, ↓reduceIte, ↓zz_t, ↓zz_f, ↓zi_t, ↓zi_f, eq_self, yy_d_0, Int.reduceEq, Int.reduceLT, Int.reduceLE, Int.reduceNe, Int.reduceToNat, Int.reduceAdd, Int.reduceSub, Int.reduceMul, Int.reduceNeg, Nat.reduceAdd, Nat.reduceMul, Nat.reduceSub, Nat.reduceEqDiff, Nat.reduceLT, ne_eq, not_false_eq_true, not_true_eq_false, true_and, and_true, and_self, yy_s_eq, yy_s_ne, yy_c_eq, yy_c_ne, yy_u_eq, yy_u_ne, xm_w_id, yy_at, tdiv_pos, tmod_pos, ↓zr_1_0, ↓zf_1_1, ↓zs_1_1, ↓zf_1_2, ↓zs_1_2, ↓zr_1_3, ↓zf_1_4, ↓zs_1_4, ↓zr_1_5, ↓zf_1_6, ↓zs_1_6, ↓zr_1_7, ↓zr_1_8, ↓zr_1_9, ↓zq_3, ↓zq_r1, er]
    have f : ∀ k, k < 6 → m (8 + 2 * r) k = s (44 + 18 * r + k) := fun k hk => (e7 r hr).1 k hk
    have f0 := f 0 (by decide)
    have f1 := f 1 (by decide)
    have f2 := f 2 (by decide)
    have f3 := f 3 (by decide)
    have f4 := f 4 (by decide)
    have f5 := f 5 (by decide)
    have key : xm_X (xm_old sc) xm_mt (d + 1 + 1) 607 [.inr (.inl (some (8 + 2 * r))), .inl y] (yy_W m t) = some (some (.inl (if 7 < y then (if y - 8 < s (48 + 18 * r) then s (50 + 18 * r + (y - 8).toNat) else -1) else if y = 6 then sg_dp s r else s (44 + 18 * r + y.toNat))), yy_W m t) := by
      refine xm_X_of (M := xm_m607) rfl ⟨xm_EQ.eq (xb_607_0 ?_), rfl, rfl, Nat.le_of_ble_eq_true rfl, yy_hdr hq⟩
      rcases (show y = 0 ∨ y = 1 ∨ y = 2 ∨ y = 3 ∨ y = 4 ∨ y = 5 ∨ y = 6 ∨ 7 < y by omega) with h | h | h | h | h | h | h | h
      · subst h; simp (disch := first | omega | (unfold xm_w; omega)) only [↓zy_at, xm_O_some, xm_Oi_some, xm_Ov_some, xm_Oq_some, ↓reduceIte, ↓zz_t, ↓zz_f, ↓zi_t, ↓zi_f, eq_self, yy_d_0, Int.reduceEq, Int.reduceLT, Int.reduceLE, Int.reduceNe, Int.reduceToNat, Int.reduceAdd, Int.reduceSub, Int.reduceMul, Int.reduceNeg, Nat.reduceAdd, Nat.reduceMul, Nat.reduceSub, Nat.reduceEqDiff, Nat.reduceLT, ne_eq, not_false_eq_true, not_true_eq_false, true_and, and_true, and_self, yy_s_eq, yy_s_ne, yy_c_eq, yy_c_ne, yy_u_eq, yy_u_ne, xm_w_id, yy_at, tdiv_pos, tmod_pos, ↓gf_0 hq, f0]
      · subst h; simp (disch := first | omega | (unfold xm_w; omega)) only [↓zy_at, xm_O_some, xm_Oi_some, xm_Ov_some, xm_Oq_some, ↓reduceIte, ↓zz_t, ↓zz_f, ↓zi_t, ↓zi_f, eq_self, yy_d_0, Int.reduceEq, Int.reduceLT, Int.reduceLE, Int.reduceNe, Int.reduceToNat, Int.reduceAdd, Int.reduceSub, Int.reduceMul, Int.reduceNeg, Nat.reduceAdd, Nat.reduceMul, Nat.reduceSub, Nat.reduceEqDiff, Nat.reduceLT, ne_eq, not_false_eq_true, not_true_eq_false, true_and, and_true, and_self, yy_s_eq, yy_s_ne, yy_c_eq, yy_c_ne, yy_u_eq, yy_u_ne, xm_w_id, yy_at, tdiv_pos, tmod_pos, ↓gf_1 hq, f1]
      · subst h; simp (disch := first | omega | (unfold xm_w; omega)) only [↓zy_at, xm_O_some, xm_Oi_some, xm_Ov_some, xm_Oq_some, ↓reduceIte, ↓zz_t, ↓zz_f, ↓zi_t, ↓zi_f, eq_self, yy_d_0, Int.reduceEq, Int.reduceLT, Int.reduceLE, Int.reduceNe, Int.reduceToNat, Int.reduceAdd, Int.reduceSub, Int.reduceMul, Int.reduceNeg, Nat.reduceAdd, Nat.reduceMul, Nat.reduceSub, Nat.reduceEqDiff, Nat.reduceLT, ne_eq, not_false_eq_true, not_true_eq_false, true_and, and_true, and_self, yy_s_eq, yy_s_ne, yy_c_eq, yy_c_ne, yy_u_eq, yy_u_ne, xm_w_id, yy_at, tdiv_pos, tmod_pos, ↓gf_2 hq, f2]
      · subst h; simp (disch := first | omega | (unfold xm_w; omega)) only [↓zy_at, xm_O_some, xm_Oi_some, xm_Ov_some, xm_Oq_some, ↓reduceIte, ↓zz_t, ↓zz_f, ↓zi_t, ↓zi_f, eq_self, yy_d_0, Int.reduceEq, Int.reduceLT, Int.reduceLE, Int.reduceNe, Int.reduceToNat, Int.reduceAdd, Int.reduceSub, Int.reduceMul, Int.reduceNeg, Nat.reduceAdd, Nat.reduceMul, Nat.reduceSub, Nat.reduceEqDiff, Nat.reduceLT, ne_eq, not_false_eq_true, not_true_eq_false, true_and, and_true, and_self, yy_s_eq, yy_s_ne, yy_c_eq, yy_c_ne, yy_u_eq, yy_u_ne, xm_w_id, yy_at, tdiv_pos, tmod_pos, ↓gf_3 hq, f3]
      · subst h; simp (disch := first | omega | (unfold xm_w; omega)) only [↓zy_at, xm_O_some, xm_Oi_some, xm_Ov_some, xm_Oq_some, ↓reduceIte, ↓zz_t, ↓zz_f, ↓zi_t, ↓zi_f, eq_self, yy_d_0, Int.reduceEq, Int.reduceLT, Int.reduceLE, Int.reduceNe, Int.reduceToNat, Int.reduceAdd, Int.reduceSub, Int.reduceMul, Int.reduceNeg, Nat.reduceAdd, Nat.reduceMul, Nat.reduceSub, Nat.reduceEqDiff, Nat.reduceLT, ne_eq, not_false_eq_true, not_true_eq_false, true_and, and_true, and_self, yy_s_eq, yy_s_ne, yy_c_eq, yy_c_ne, yy_u_eq, yy_u_ne, xm_w_id, yy_at, tdiv_pos, tmod_pos, ↓gf_4 hq, f4]
      · subst h; simp (disch := first | omega | (unfold xm_w; omega)) only [↓zy_at, xm_O_some, xm_Oi_some, xm_Ov_some, xm_Oq_some, ↓reduceIte, ↓zz_t, ↓zz_f, ↓zi_t, ↓zi_f, eq_self, yy_d_0, Int.reduceEq, Int.reduceLT, Int.reduceLE, Int.reduceNe, Int.reduceToNat, Int.reduceAdd, Int.reduceSub, Int.reduceMul, Int.reduceNeg, Nat.reduceAdd, Nat.reduceMul, Nat.reduceSub, Nat.reduceEqDiff, Nat.reduceLT, ne_eq, not_false_eq_true, not_true_eq_false, true_and, and_true, and_self, yy_s_eq, yy_s_ne, yy_c_eq, yy_c_ne, yy_u_eq, yy_u_ne, xm_w_id, yy_at, tdiv_pos, tmod_pos, ↓gf_5 hq, f5]
      · subst h
        have g1 : s (44 + 18 * r + 1) = s (45 + 18 * r) := by congr 1; omega
        have g3 : s (44 + 18 * r + 3) = s (47 + 18 * r) := by congr 1; omega
        rw [if_neg (by decide), if_neg (by decide), if_neg (by decide), if_neg (by decide), if_neg (by decide), if_neg (by decide), if_pos rfl, gf_0 hq, gf_1 hq, gf_3 hq, f0, f1, f3, g1, g3, oc_153 a3.1 (by omega) a1.1 (by omega)]
        rfl
      · have g4 : s (44 + 18 * r + 4) = s (48 + 18 * r) := by congr 1; omega
        rw [if_neg (by omega), if_neg (by omega), if_neg (by omega), if_neg (by omega), if_neg (by omega), if_neg (by omega), if_neg (by omega), gf_4 hq, f4, g4, oc_142, xm_w_id (by omega) (by omega), xm_w_id (by omega) (by omega)]
        rw [if_pos h]
        by_cases g : y - 8 < s (48 + 18 * r)
        · rw [zz_t (by omega), if_pos g, gr_6 hq, gi_1 hq, zy_at (by omega) (by omega)]
          have := (e7 r hr).2 (y - 8).toNat (by omega)
          rw [show 9 + 2 * r = 8 + 2 * r + 1 by omega] at this
          rw [this]
        · rw [zz_f (by omega), if_neg g]
    rw [key]
    rfl
set_option maxRecDepth 20000 in
theorem oc_412_1 {F : Int → xm_W → Prop} {sc : List Int} {d : Nat} {t : xm_W} {m : Nat → Nat → Int} {s : Nat → Int} {r : Nat} {y : Int} (hr : r < 5) (hM : yy_MR m 1 s) (hR : sg_R s) (hy : 0 ≤ y ∧ y ≤ 19) : xm_Oi (xm_X (xm_old sc) xm_mt (d + 3) 412 [.inr (.inl (some 1)), .inl ((r : Int)), .inl (y)] (yy_W (m) t)) F = F (sg_rf s r y) (yy_W (m) t) := congrArg (fun x => xm_Oi x F) (c_412_1 hr hM hR hy)
set_option maxRecDepth 20000 in
theorem l_418_1 {sc : List Int} {d : Nat} {t : xm_W} {m : Nat → Nat → Int} {s : Nat → Int} {Q : Option xm_V × xm_W → Prop} {c0 bl n y : Int} (hM : yy_MR m 1 s) (hW : sg_W s 0) (hn : n ≤ 40) : ∀ (k : Nat) (at1 st : Int) (u7 u8 u9 : Option xm_V), n - st = k → 0 ≤ st → 0 ≤ at1 ∧ at1 ≤ 35 → Q ((some (.inl (if y = 0 then (sg_tr s bl k at1 st).1 else (sg_tr s bl k at1 st).2)), (yy_W (m) t))) → xm_EQ (xm_old sc) xm_sta (xm_X (xm_old sc) xm_mt (d + 2)) xm_c418 4 [some (.inr (.inl (some 1))), some (.inl (c0)), some (.inl (bl)), some (.inl (n)), some (.inl (y)), some (.inl (at1)), some (.inl (st)), u7, u8, u9] [] (yy_W (m) t) Q
  | 0, at1, st, u7, u8, u9, hk, hs, ha, hQ => by
    refine xb_418_4 ?_
    rw [if_neg (by omega)]
    unfold sg_tr at hQ
    split
    · rename_i g; rw [if_pos g] at hQ; exact hQ
    · rename_i g; rw [if_neg g] at hQ; exact hQ
  | k + 1, at1, st, u7, u8, u9, hk, hs, ha, hQ => by
    obtain ⟨hR, hO, hS, hT, hT1⟩ := id hW
    obtain ⟨e1, e2, e3, e4, e5, e6, e7⟩ := id hM
    obtain ⟨b0, b1, b2, b3, hso, hrd⟩ := id hR
    have stop : (sg_tr s bl (k + 1) at1 st = (at1, st)) → (if y = 0 then Q (some (.inl (at1)), (yy_W (m) t)) else Q (some (.inl (st)), (yy_W (m) t))) := by
      intro h
      rw [h] at hQ
      split
      · rename_i g; rw [if_pos g] at hQ; exact hQ
      · rename_i g; rw [if_neg g] at hQ; exact hQ
    refine xb_418_4 ?_
    rw [if_pos (by omega), oc_415_1g hM b3]
    by_cases g : sg_la s at1 (sg_N s) = -1
    · rw [if_pos (by omega)]
      exact stop (by unfold sg_tr; rw [if_pos g])
    · obtain ⟨x1, x2, x3⟩ := sg_la_p hO b3.1 g
      have sh := x3.2.1
      rw [if_neg (by omega)]
      have i1 : (sg_la s at1 (sg_N s) * 5 + 1).toNat = 5 * (sg_la s at1 (sg_N s)).toNat + 1 := by omega
      have f : m 4 (5 * (sg_la s at1 (sg_N s)).toNat + 1) = sg_p s (sg_la s at1 (sg_N s)).toNat 1 := by rw [e6 _ (by omega)]; unfold sg_p; first | rfl | (congr 1; omega)
      rw [zr_1_5, zi_4, xm_w_id (z := sg_la s at1 (sg_N s) * 5) (by omega) (by omega), xm_w_id (z := sg_la s at1 (sg_N s) * 5 + 1) (by omega) (by omega), zy_at (by omega) (by omega), i1, f]
      have nr : ∀ w, sp_next at1 w = -1 ∨ (0 ≤ sp_next at1 w ∧ sp_next at1 w ≤ 35) := fun w => sg_next_r ha
      by_cases gb : bl = 0
      · rw [if_pos gb, oc_150 ha.1 (by omega)]
        have := nr (sg_p s (sg_la s at1 (sg_N s)).toNat 1)
        by_cases gn : sp_next at1 (sg_p s (sg_la s at1 (sg_N s)).toNat 1) = -1
        · rw [if_pos (by omega)]
          exact stop (by unfold sg_tr; rw [if_neg g, if_pos gb, if_pos gn])
        · rw [if_neg (by omega), xm_w_id (by omega) (by omega)]
          refine l_418_1 hM hW hn k _ (st + 1) _ _ _ (by omega) (by omega) (by omega) ?_
          have e : sg_tr s bl (k + 1) at1 st = sg_tr s bl k (sp_next at1 (sg_p s (sg_la s at1 (sg_N s)).toNat 1)) (st + 1) := by
            show (if sg_la s at1 (sg_N s) = -1 then _ else _) = _
            rw [if_neg g, if_pos gb, if_neg gn]
          rw [← e]; exact hQ
      · rw [if_neg gb, oc_151 sh.1 (by omega), oc_150 ha.1 (by omega)]
        have := nr (sp_back (sg_p s (sg_la s at1 (sg_N s)).toNat 1))
        by_cases gn : sp_next at1 (sp_back (sg_p s (sg_la s at1 (sg_N s)).toNat 1)) = -1
        · rw [if_pos (by omega)]
          exact stop (by unfold sg_tr; rw [if_neg g, if_neg gb, if_pos gn])
        · rw [if_neg (by omega), xm_w_id (by omega) (by omega)]
          refine l_418_1 hM hW hn k _ (st + 1) _ _ _ (by omega) (by omega) (by omega) ?_
          have e : sg_tr s bl (k + 1) at1 st = sg_tr s bl k (sp_next at1 (sp_back (sg_p s (sg_la s at1 (sg_N s)).toNat 1))) (st + 1) := by
            show (if sg_la s at1 (sg_N s) = -1 then _ else _) = _
            rw [if_neg g, if_neg gb, if_neg gn]
          rw [← e]; exact hQ
set_option maxRecDepth 20000 in
theorem c_418_1g {sc : List Int} {d : Nat} {t : xm_W} {m : Nat → Nat → Int} {s : Nat → Int} {c bl n y : Int} (hM : yy_MR m 1 s) (hW : sg_W s 0) (hc : 0 ≤ c ∧ c ≤ 35) (hn : 0 ≤ n ∧ n ≤ 40) : xm_X (xm_old sc) xm_mt (d + 3) 418 [.inr (.inl (some 1)), .inl (c), .inl (bl), .inl (n), .inl (y)] (yy_W (m) t) = some (some (.inl (if y = 0 then (sg_tr s bl n.toNat c 0).1 else (sg_tr s bl n.toNat c 0).2)), (yy_W (m) t)) := by
  refine xm_X_of (M := xm_m418) rfl ⟨xm_EQ.eq (xb_418_0 ?_), rfl, rfl, Nat.le_of_ble_eq_true rfl, yy_hd rfl (by decide)⟩
  exact l_418_1 (d := d) hM hW hn.2 n.toNat c 0 none none none (by omega) (by decide) hc rfl
set_option maxRecDepth 20000 in
theorem oc_418_1g {F : Int → xm_W → Prop} {sc : List Int} {d : Nat} {t : xm_W} {m : Nat → Nat → Int} {s : Nat → Int} {c bl n y : Int} (hM : yy_MR m 1 s) (hW : sg_W s 0) (hc : 0 ≤ c ∧ c ≤ 35) (hn : 0 ≤ n ∧ n ≤ 40) : xm_Oi (xm_X (xm_old sc) xm_mt (d + 3) 418 [.inr (.inl (some 1)), .inl (c), .inl (bl), .inl (n), .inl (y)] (yy_W (m) t)) F = F (if y = 0 then (sg_tr s bl n.toNat c 0).1 else (sg_tr s bl n.toNat c 0).2) (yy_W (m) t) := congrArg (fun x => xm_Oi x F) (c_418_1g hM hW hc hn)
set_option maxRecDepth 20000 in
theorem c_413_18g {sc : List Int} {d : Nat} {t : xm_W} {m : Nat → Nat → Int} {s : Nat → Int} {c y : Int} (hM : yy_MX t m 18 s) (hW : sg_W s 0) (hc : 0 ≤ c ∧ c ≤ 35) : ∃ m', xm_X (xm_old sc) xm_mt (d + 5) 413 [.inr (.inl (some 18)), .inl (c), .inl (y)] (yy_W m t) = some (some (.inl (sg_cf s c y)), yy_W m' t) ∧ ∀ c, c ≠ 23 → c ≠ 24 → m' c = m c := by
  have key : ∀ {Q : Option xm_V × xm_W → Prop}, (∀ m', (∀ c, c ≠ 23 → c ≠ 24 → m' c = m c) → Q (some (.inl (sg_cf s c y)), yy_W m' t)) → xm_EQ (xm_old sc) xm_sta (xm_X (xm_old sc) xm_mt (d + 4)) xm_m413.2.2.2.2.2.2.2 0 (xm_loc xm_m413.2.2.1 [.inr (.inl (some 18)), .inl (c), .inl (y)]) [] (yy_W m t) Q := by
    intro Q hQ
    obtain ⟨hR, hO, hS, hT, hT1⟩ := id hW
    obtain ⟨hMR, hX, hX1⟩ := id hM
    obtain ⟨e1, e2, e3, e4, e5, e6, e7⟩ := id hMR
    obtain ⟨b0, b1, b2, b3, hso, hrd⟩ := id hR
    unfold sg_cf at hQ
    refine xb_413_0 ?_
    by_cases g0 : y = 0
    · rw [if_pos g0] at hQ ⊢
      have := hQ m fun _ _ _ => rfl
      have f : m 19 c.toNat = s (8 + c).toNat := by rw [e5 _ (by omega)]; congr 1; omega
      simp (disch := first | omega | (unfold xm_w; omega)) only [↓zy_at, xm_O_some, xm_Oi_some, xm_Ov_some, xm_Oq_some, ↓reduceIte, ↓zz_t, ↓zz_f, ↓zi_t, ↓zi_f, eq_self, yy_d_0, Int.reduceEq, Int.reduceLT, Int.reduceLE, Int.reduceNe, Int.reduceToNat, Int.reduceAdd, Int.reduceSub, Int.reduceMul, Int.reduceNeg, Nat.reduceAdd, Nat.reduceMul, Nat.reduceSub, Nat.reduceEqDiff, Nat.reduceLT, ne_eq, not_false_eq_true, not_true_eq_false, true_and, and_true, and_self, yy_s_eq, yy_s_ne, yy_c_eq, yy_c_ne, yy_u_eq, yy_u_ne, xm_w_id, yy_at, tdiv_pos, tmod_pos, ↓zr_18_0, ↓zf_18_1, ↓zs_18_1, ↓zf_18_2, ↓zs_18_2, ↓zr_18_3, ↓zf_18_4, ↓zs_18_4, ↓zr_18_5, ↓zf_18_6, ↓zs_18_6, ↓zr_18_7, ↓zr_18_8, ↓zr_18_9, ↓zi_19, ↓zt_19, f]
      exact this
    · rw [if_neg g0] at hQ ⊢
      by_cases g1 : y = 1
      · rw [if_pos g1] at hQ ⊢
        rw [oc_414_18_0 hMR b3]
        exact hQ m fun _ _ _ => rfl
      · rw [if_neg g1] at hQ ⊢
        by_cases g2 : y = 2
        · rw [if_pos g2] at hQ ⊢
          rw [oc_415_18g hMR b3]
          have := hQ m fun _ _ _ => rfl
          by_cases g : sg_la s c (sg_N s) = -1
          · rw [if_pos g] at this
            rw [if_pos (by omega)]; exact this
          · obtain ⟨x1, x2, x3⟩ := sg_la_p hO b3.1 g
            rw [if_neg g] at this
            rw [if_neg (by omega)]
            have i1 : (sg_la s c (sg_N s) * 5 + 1).toNat = 5 * (sg_la s c (sg_N s)).toNat + 1 := by omega
            have f : m 21 (5 * (sg_la s c (sg_N s)).toNat + 1) = sg_p s (sg_la s c (sg_N s)).toNat 1 := by rw [e6 _ (by omega)]; unfold sg_p; first | rfl | (congr 1; omega)
            simp (disch := first | omega | (unfold xm_w; omega)) only [↓zy_at, xm_O_some, xm_Oi_some, xm_Ov_some, xm_Oq_some, ↓reduceIte, ↓zz_t, ↓zz_f, ↓zi_t, ↓zi_f, eq_self, yy_d_0, Int.reduceEq, Int.reduceLT, Int.reduceLE, Int.reduceNe, Int.reduceToNat, Int.reduceAdd, Int.reduceSub, Int.reduceMul, Int.reduceNeg, Nat.reduceAdd, Nat.reduceMul, Nat.reduceSub, Nat.reduceEqDiff, Nat.reduceLT, ne_eq, not_false_eq_true, not_true_eq_false, true_and, and_true, and_self, yy_s_eq, yy_s_ne, yy_c_eq, yy_c_ne, yy_u_eq, yy_u_ne, xm_w_id, yy_at, tdiv_pos, tmod_pos, ↓zr_18_0, ↓zf_18_1, ↓zs_18_1, ↓zf_18_2, ↓zs_18_2, ↓zr_18_3, ↓zf_18_4, ↓zs_18_4, ↓zr_18_5, ↓zf_18_6, ↓zs_18_6, ↓zr_18_7, ↓zr_18_8, ↓zr_18_9, ↓zi_21, ↓zt_21, i1, f]
            exact this
        · rw [if_neg g2] at hQ ⊢
          by_cases g3 : y = 3
          · rw [if_pos g3] at hQ ⊢
            rw [oc_416_18g hMR b3]
            exact hQ m fun _ _ _ => rfl
          · rw [if_neg g3] at hQ ⊢
            obtain ⟨m1, e, f1⟩ := c_417_18g (sc := sc) (d := d) (t := t) (m := m) hM hW hc
            rw [e, xm_Oi_some]
            exact hQ m1 f1
  obtain ⟨q, h1, m', h2, h3⟩ := yx_of (y := 413) (M := xm_m413) (sc := sc) (d := d + 4) (as := [.inr (.inl (some 18)), .inl (c), .inl (y)]) (w := yy_W m t) (Q := fun q => ∃ m', q = (some (.inl (sg_cf s c y)), yy_W m' t) ∧ (∀ c, c ≠ 23 → c ≠ 24 → m' c = m c)) rfl (key fun m' h => ⟨m', rfl, h⟩) (fun q ⟨m', h, _⟩ => by rw [h]; rfl) rfl (Nat.le_of_ble_eq_true rfl) (yy_hd rfl (by decide))
  exact ⟨m', by rw [h1, h2], h3⟩
set_option maxRecDepth 20000 in
theorem c_412_18 {sc : List Int} {d : Nat} {t : xm_W} {m : Nat → Nat → Int} {s : Nat → Int} {r : Nat} {y : Int} (hr : r < 5) (hM : yy_MR m 18 s) (hR : sg_R s) (hy : 0 ≤ y ∧ y ≤ 19) : xm_X (xm_old sc) xm_mt (d + 3) 412 [.inr (.inl (some 18)), .inl ((r : Int)), .inl (y)] (yy_W (m) t) = some (some (.inl (sg_rf s r y)), (yy_W (m) t)) := by
  obtain ⟨e1, e2, e3, e4, e5, e6, e7⟩ := id hM
  obtain ⟨b0, b1, b2, b3, hso, hrd⟩ := id hR
  obtain ⟨a0, a1, a2, a3, a4, a5, a6⟩ := hrd r hr
  have hq : yy_rd (25 + 2 * r) := yy_rdn25 hr
  have er : ((r : Int)).toNat = r := Int.toNat_natCast r
  refine xm_X_of (M := xm_m412) rfl ⟨xm_EQ.eq (xb_412_0 ?_), rfl, rfl, Nat.le_of_ble_eq_true rfl, yy_hd rfl (by decide)⟩
  unfold sg_rf
  by_cases g7 : y = 7
  · rw [if_pos g7, if_pos g7, oc_414_18_4 hM b3]
  · rw [if_neg g7, if_neg g7]
    simp (disch := first | omega | (unfold xm_w; omega)) only [↓zy_at, xm_O_some, xm_Oi_some, xm_Ov_some, xm_Oq_some, ↓reduceIte, ↓zz_t, ↓zz_f, ↓zi_t, ↓zi_f, eq_self, yy_d_0, Int.reduceEq, Int.reduceLT, Int.reduceLE, Int.reduceNe, Int.reduceToNat, Int.reduceAdd, Int.reduceSub, Int.reduceMul, Int.reduceNeg, Nat.reduceAdd, Nat.reduceMul, Nat.reduceSub, Nat.reduceEqDiff, Nat.reduceLT, ne_eq, not_false_eq_true, not_true_eq_false, true_and, and_true, and_self, yy_s_eq, yy_s_ne, yy_c_eq, yy_c_ne, yy_u_eq, yy_u_ne, xm_w_id, yy_at, tdiv_pos, tmod_pos, ↓zr_18_0, ↓zf_18_1, ↓zs_18_1, ↓zf_18_2, ↓zs_18_2, ↓zr_18_3, ↓zf_18_4, ↓zs_18_4, ↓zr_18_5, ↓zf_18_6, ↓zs_18_6, ↓zr_18_7, ↓zr_18_8, ↓zr_18_9, ↓zq_20, ↓zq_r18, er]
    have f : ∀ k, k < 6 → m (25 + 2 * r) k = s (44 + 18 * r + k) := fun k hk => (e7 r hr).1 k hk
    have f0 := f 0 (by decide)
    have f1 := f 1 (by decide)
    have f2 := f 2 (by decide)
    have f3 := f 3 (by decide)
    have f4 := f 4 (by decide)
    have f5 := f 5 (by decide)
    have key : xm_X (xm_old sc) xm_mt (d + 1 + 1) 607 [.inr (.inl (some (25 + 2 * r))), .inl y] (yy_W m t) = some (some (.inl (if 7 < y then (if y - 8 < s (48 + 18 * r) then s (50 + 18 * r + (y - 8).toNat) else -1) else if y = 6 then sg_dp s r else s (44 + 18 * r + y.toNat))), yy_W m t) := by
      refine xm_X_of (M := xm_m607) rfl ⟨xm_EQ.eq (xb_607_0 ?_), rfl, rfl, Nat.le_of_ble_eq_true rfl, yy_hdr hq⟩
      rcases (show y = 0 ∨ y = 1 ∨ y = 2 ∨ y = 3 ∨ y = 4 ∨ y = 5 ∨ y = 6 ∨ 7 < y by omega) with h | h | h | h | h | h | h | h
      · subst h; simp (disch := first | omega | (unfold xm_w; omega)) only [↓zy_at, xm_O_some, xm_Oi_some, xm_Ov_some, xm_Oq_some, ↓reduceIte, ↓zz_t, ↓zz_f, ↓zi_t, ↓zi_f, eq_self, yy_d_0, Int.reduceEq, Int.reduceLT, Int.reduceLE, Int.reduceNe, Int.reduceToNat, Int.reduceAdd, Int.reduceSub, Int.reduceMul, Int.reduceNeg, Nat.reduceAdd, Nat.reduceMul, Nat.reduceSub, Nat.reduceEqDiff, Nat.reduceLT, ne_eq, not_false_eq_true, not_true_eq_false, true_and, and_true, and_self, yy_s_eq, yy_s_ne, yy_c_eq, yy_c_ne, yy_u_eq, yy_u_ne, xm_w_id, yy_at, tdiv_pos, tmod_pos, ↓gf_0 hq, f0]
      · subst h; simp (disch := first | omega | (unfold xm_w; omega)) only [↓zy_at, xm_O_some, xm_Oi_some, xm_Ov_some, xm_Oq_some, ↓reduceIte, ↓zz_t, ↓zz_f, ↓zi_t, ↓zi_f, eq_self, yy_d_0, Int.reduceEq, Int.reduceLT, Int.reduceLE, Int.reduceNe, Int.reduceToNat, Int.reduceAdd, Int.reduceSub, Int.reduceMul, Int.reduceNeg, Nat.reduceAdd, Nat.reduceMul, Nat.reduceSub, Nat.reduceEqDiff, Nat.reduceLT, ne_eq, not_false_eq_true, not_true_eq_false, true_and, and_true, and_self, yy_s_eq, yy_s_ne, yy_c_eq, yy_c_ne, yy_u_eq, yy_u_ne, xm_w_id, yy_at, tdiv_pos, tmod_pos, ↓gf_1 hq, f1]
      · subst h; simp (disch := first | omega | (unfold xm_w; omega)) only [↓zy_at, xm_O_some, xm_Oi_some, xm_Ov_some, xm_Oq_some, ↓reduceIte, ↓zz_t, ↓zz_f, ↓zi_t, ↓zi_f, eq_self, yy_d_0, Int.reduceEq, Int.reduceLT, Int.reduceLE, Int.reduceNe, Int.reduceToNat, Int.reduceAdd, Int.reduceSub, Int.reduceMul, Int.reduceNeg, Nat.reduceAdd, Nat.reduceMul, Nat.reduceSub, Nat.reduceEqDiff, Nat.reduceLT, ne_eq, not_false_eq_true, not_true_eq_false, true_and, and_true, and_self, yy_s_eq, yy_s_ne, yy_c_eq, yy_c_ne, yy_u_eq, yy_u_ne, xm_w_id, yy_at, tdiv_pos, tmod_pos, ↓gf_2 hq, f2]
      · subst h; simp (disch := first | omega | (unfold xm_w; omega)) only [↓zy_at, xm_O_some, xm_Oi_some, xm_Ov_some, xm_Oq_some, ↓reduceIte, ↓zz_t, ↓zz_f, ↓zi_t, ↓zi_f, eq_self, yy_d_0, Int.reduceEq, Int.reduceLT, Int.reduceLE, Int.reduceNe, Int.reduceToNat, Int.reduceAdd, Int.reduceSub, Int.reduceMul, Int.reduceNeg, Nat.reduceAdd, Nat.reduceMul, Nat.reduceSub, Nat.reduceEqDiff, Nat.reduceLT, ne_eq, not_false_eq_true, not_true_eq_false, true_and, and_true, and_self, yy_s_eq, yy_s_ne, yy_c_eq, yy_c_ne, yy_u_eq, yy_u_ne, xm_w_id, yy_at, tdiv_pos, tmod_pos, ↓gf_3 hq, f3]
      · subst h; simp (disch := first | omega | (unfold xm_w; omega)) only [↓zy_at, xm_O_some, xm_Oi_some, xm_Ov_some, xm_Oq_some, ↓reduceIte, ↓zz_t, ↓zz_f, ↓zi_t, ↓zi_f, eq_self, yy_d_0, Int.reduceEq, Int.reduceLT, Int.reduceLE, Int.reduceNe, Int.reduceToNat, Int.reduceAdd, Int.reduceSub, Int.reduceMul, Int.reduceNeg, Nat.reduceAdd, Nat.reduceMul, Nat.reduceSub, Nat.reduceEqDiff, Nat.reduceLT, ne_eq, not_false_eq_true, not_true_eq_false, true_and, and_true, and_self, yy_s_eq, yy_s_ne, yy_c_eq, yy_c_ne, yy_u_eq, yy_u_ne, xm_w_id, yy_at, tdiv_pos, tmod_pos, ↓gf_4 hq, f4]
      · subst h; simp (disch := first | omega | (unfold xm_w; omega)) only [↓zy_at, xm_O_some, xm_Oi_some, xm_Ov_some, xm_Oq_some, ↓reduceIte, ↓zz_t, ↓zz_f, ↓zi_t, ↓zi_f, eq_self, yy_d_0, Int.reduceEq, Int.reduceLT, Int.reduceLE, Int.reduceNe, Int.reduceToNat, Int.reduceAdd, Int.reduceSub, Int.reduceMul, Int.reduceNeg, Nat.reduceAdd, Nat.reduceMul, Nat.reduceSub, Nat.reduceEqDiff, Nat.reduceLT, ne_eq, not_false_eq_true, not_true_eq_false, true_and, and_true, and_self, yy_s_eq, yy_s_ne, yy_c_eq, yy_c_ne, yy_u_eq, yy_u_ne, xm_w_id, yy_at, tdiv_pos, tmod_pos, ↓gf_5 hq, f5]
      · subst h
        have g1 : s (44 + 18 * r + 1) = s (45 + 18 * r) := by congr 1; omega
        have g3 : s (44 + 18 * r + 3) = s (47 + 18 * r) := by congr 1; omega
        rw [if_neg (by decide), if_neg (by decide), if_neg (by decide), if_neg (by decide), if_neg (by decide), if_neg (by decide), if_pos rfl, gf_0 hq, gf_1 hq, gf_3 hq, f0, f1, f3, g1, g3, oc_153 a3.1 (by omega) a1.1 (by omega)]
        rfl
      · have g4 : s (44 + 18 * r + 4) = s (48 + 18 * r) := by congr 1; omega
        rw [if_neg (by omega), if_neg (by omega), if_neg (by omega), if_neg (by omega), if_neg (by omega), if_neg (by omega), if_neg (by omega), gf_4 hq, f4, g4, oc_142, xm_w_id (by omega) (by omega), xm_w_id (by omega) (by omega)]
        rw [if_pos h]
        by_cases g : y - 8 < s (48 + 18 * r)
        · rw [zz_t (by omega), if_pos g, gr_6 hq, gi_1 hq, zy_at (by omega) (by omega)]
          have := (e7 r hr).2 (y - 8).toNat (by omega)
          rw [show 26 + 2 * r = 25 + 2 * r + 1 by omega] at this
          rw [this]
        · rw [zz_f (by omega), if_neg g]
    rw [key]
    rfl
set_option maxRecDepth 20000 in
theorem oc_412_18 {F : Int → xm_W → Prop} {sc : List Int} {d : Nat} {t : xm_W} {m : Nat → Nat → Int} {s : Nat → Int} {r : Nat} {y : Int} (hr : r < 5) (hM : yy_MR m 18 s) (hR : sg_R s) (hy : 0 ≤ y ∧ y ≤ 19) : xm_Oi (xm_X (xm_old sc) xm_mt (d + 3) 412 [.inr (.inl (some 18)), .inl ((r : Int)), .inl (y)] (yy_W (m) t)) F = F (sg_rf s r y) (yy_W (m) t) := congrArg (fun x => xm_Oi x F) (c_412_18 hr hM hR hy)
set_option maxRecDepth 20000 in
theorem l_418_18 {sc : List Int} {d : Nat} {t : xm_W} {m : Nat → Nat → Int} {s : Nat → Int} {Q : Option xm_V × xm_W → Prop} {c0 bl n y : Int} (hM : yy_MR m 18 s) (hW : sg_W s 0) (hn : n ≤ 40) : ∀ (k : Nat) (at1 st : Int) (u7 u8 u9 : Option xm_V), n - st = k → 0 ≤ st → 0 ≤ at1 ∧ at1 ≤ 35 → Q ((some (.inl (if y = 0 then (sg_tr s bl k at1 st).1 else (sg_tr s bl k at1 st).2)), (yy_W (m) t))) → xm_EQ (xm_old sc) xm_sta (xm_X (xm_old sc) xm_mt (d + 2)) xm_c418 4 [some (.inr (.inl (some 18))), some (.inl (c0)), some (.inl (bl)), some (.inl (n)), some (.inl (y)), some (.inl (at1)), some (.inl (st)), u7, u8, u9] [] (yy_W (m) t) Q
  | 0, at1, st, u7, u8, u9, hk, hs, ha, hQ => by
    refine xb_418_4 ?_
    rw [if_neg (by omega)]
    unfold sg_tr at hQ
    split
    · rename_i g; rw [if_pos g] at hQ; exact hQ
    · rename_i g; rw [if_neg g] at hQ; exact hQ
  | k + 1, at1, st, u7, u8, u9, hk, hs, ha, hQ => by
    obtain ⟨hR, hO, hS, hT, hT1⟩ := id hW
    obtain ⟨e1, e2, e3, e4, e5, e6, e7⟩ := id hM
    obtain ⟨b0, b1, b2, b3, hso, hrd⟩ := id hR
    have stop : (sg_tr s bl (k + 1) at1 st = (at1, st)) → (if y = 0 then Q (some (.inl (at1)), (yy_W (m) t)) else Q (some (.inl (st)), (yy_W (m) t))) := by
      intro h
      rw [h] at hQ
      split
      · rename_i g; rw [if_pos g] at hQ; exact hQ
      · rename_i g; rw [if_neg g] at hQ; exact hQ
    refine xb_418_4 ?_
    rw [if_pos (by omega), oc_415_18g hM b3]
    by_cases g : sg_la s at1 (sg_N s) = -1
    · rw [if_pos (by omega)]
      exact stop (by unfold sg_tr; rw [if_pos g])
    · obtain ⟨x1, x2, x3⟩ := sg_la_p hO b3.1 g
      have sh := x3.2.1
      rw [if_neg (by omega)]
      have i1 : (sg_la s at1 (sg_N s) * 5 + 1).toNat = 5 * (sg_la s at1 (sg_N s)).toNat + 1 := by omega
      have f : m 21 (5 * (sg_la s at1 (sg_N s)).toNat + 1) = sg_p s (sg_la s at1 (sg_N s)).toNat 1 := by rw [e6 _ (by omega)]; unfold sg_p; first | rfl | (congr 1; omega)
      rw [zr_18_5, zi_21, xm_w_id (z := sg_la s at1 (sg_N s) * 5) (by omega) (by omega), xm_w_id (z := sg_la s at1 (sg_N s) * 5 + 1) (by omega) (by omega), zy_at (by omega) (by omega), i1, f]
      have nr : ∀ w, sp_next at1 w = -1 ∨ (0 ≤ sp_next at1 w ∧ sp_next at1 w ≤ 35) := fun w => sg_next_r ha
      by_cases gb : bl = 0
      · rw [if_pos gb, oc_150 ha.1 (by omega)]
        have := nr (sg_p s (sg_la s at1 (sg_N s)).toNat 1)
        by_cases gn : sp_next at1 (sg_p s (sg_la s at1 (sg_N s)).toNat 1) = -1
        · rw [if_pos (by omega)]
          exact stop (by unfold sg_tr; rw [if_neg g, if_pos gb, if_pos gn])
        · rw [if_neg (by omega), xm_w_id (by omega) (by omega)]
          refine l_418_18 hM hW hn k _ (st + 1) _ _ _ (by omega) (by omega) (by omega) ?_
          have e : sg_tr s bl (k + 1) at1 st = sg_tr s bl k (sp_next at1 (sg_p s (sg_la s at1 (sg_N s)).toNat 1)) (st + 1) := by
            show (if sg_la s at1 (sg_N s) = -1 then _ else _) = _
            rw [if_neg g, if_pos gb, if_neg gn]
          rw [← e]; exact hQ
      · rw [if_neg gb, oc_151 sh.1 (by omega), oc_150 ha.1 (by omega)]
        have := nr (sp_back (sg_p s (sg_la s at1 (sg_N s)).toNat 1))
        by_cases gn : sp_next at1 (sp_back (sg_p s (sg_la s at1 (sg_N s)).toNat 1)) = -1
        · rw [if_pos (by omega)]
          exact stop (by unfold sg_tr; rw [if_neg g, if_neg gb, if_pos gn])
        · rw [if_neg (by omega), xm_w_id (by omega) (by omega)]
          refine l_418_18 hM hW hn k _ (st + 1) _ _ _ (by omega) (by omega) (by omega) ?_
          have e : sg_tr s bl (k + 1) at1 st = sg_tr s bl k (sp_next at1 (sp_back (sg_p s (sg_la s at1 (sg_N s)).toNat 1))) (st + 1) := by
            show (if sg_la s at1 (sg_N s) = -1 then _ else _) = _
            rw [if_neg g, if_neg gb, if_neg gn]
          rw [← e]; exact hQ
set_option maxRecDepth 20000 in
theorem c_418_18g {sc : List Int} {d : Nat} {t : xm_W} {m : Nat → Nat → Int} {s : Nat → Int} {c bl n y : Int} (hM : yy_MR m 18 s) (hW : sg_W s 0) (hc : 0 ≤ c ∧ c ≤ 35) (hn : 0 ≤ n ∧ n ≤ 40) : xm_X (xm_old sc) xm_mt (d + 3) 418 [.inr (.inl (some 18)), .inl (c), .inl (bl), .inl (n), .inl (y)] (yy_W (m) t) = some (some (.inl (if y = 0 then (sg_tr s bl n.toNat c 0).1 else (sg_tr s bl n.toNat c 0).2)), (yy_W (m) t)) := by
  refine xm_X_of (M := xm_m418) rfl ⟨xm_EQ.eq (xb_418_0 ?_), rfl, rfl, Nat.le_of_ble_eq_true rfl, yy_hd rfl (by decide)⟩
  exact l_418_18 (d := d) hM hW hn.2 n.toNat c 0 none none none (by omega) (by decide) hc rfl
set_option maxRecDepth 20000 in
theorem oc_418_18g {F : Int → xm_W → Prop} {sc : List Int} {d : Nat} {t : xm_W} {m : Nat → Nat → Int} {s : Nat → Int} {c bl n y : Int} (hM : yy_MR m 18 s) (hW : sg_W s 0) (hc : 0 ≤ c ∧ c ≤ 35) (hn : 0 ≤ n ∧ n ≤ 40) : xm_Oi (xm_X (xm_old sc) xm_mt (d + 3) 418 [.inr (.inl (some 18)), .inl (c), .inl (bl), .inl (n), .inl (y)] (yy_W (m) t)) F = F (if y = 0 then (sg_tr s bl n.toNat c 0).1 else (sg_tr s bl n.toNat c 0).2) (yy_W (m) t) := congrArg (fun x => xm_Oi x F) (c_418_18g hM hW hc hn)
