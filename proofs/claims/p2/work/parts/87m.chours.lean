set_option maxRecDepth 20000 in
theorem yy_MX_fr {t : xm_W} {m m' : Nat → Nat → Int} {b : Nat} {s s' : Nat → Int} (hT : sg_tn s 0 ≤ 60 ∧ sg_tn s 1 ≤ 60) (hM : yy_MX t m b s) (h4 : m' (b + 4) = m (b + 4)) (hR : yy_MR m' b s') (h : ∀ k, 339 ≤ k → k < 589 → s' k = s k) : yy_MX t m' b s' :=
  ⟨hR, by rw [h4]; exact yy_TX_eq (by decide) hT.1 h hM.2.1, by rw [h4]; exact yy_TX_eq (by decide) hT.2 h hM.2.2⟩
set_option maxRecDepth 20000 in
theorem sg_W_T {s : Nat → Int} {r : Int} (h : sg_W s r) : sg_tn s 0 ≤ 60 ∧ sg_tn s 1 ≤ 60 := ⟨h.2.2.2.1.1.2, h.2.2.2.2.1.2⟩
set_option maxRecDepth 20000 in
theorem l_405_1 {sc : List Int} {d : Nat} {t : xm_W} {Q : Option xm_V × xm_W → Prop} {m0 : Nat → Nat → Int} {s0 : Nat → Int} {n : Int} (hn : n = s0 0) (h1 : s0 1 < 20000) (hW0 : sg_W s0 0) (hQ : ∀ m', yy_Fb m0 m' 1 → yy_MX t m' 1 (sg_hour (-1) s0) → Q ((none, (yy_W (m') t)))) : ∀ (k r : Nat) (m : Nat → Nat → Int) (s : Nat → Int), ((r + k : Nat) : Int) = n → sg_W s r → yy_MX t m 1 s → yy_Fb m0 m 1 → s 0 = s0 0 → s 1 = s0 1 → sg_hl (-1) k r s = sg_hl (-1) (s0 0).toNat 0 s0 → xm_EQ (xm_old sc) xm_sta (xm_X (xm_old sc) xm_mt (d + 5)) xm_c405 2 [some (.inr (.inl (some 1))), some (.inl ((r : Int)))] [] (yy_W (m) t) Q
  | 0, r, m, s, hk, hW, hM, hF, h0, h2, hh => by
    obtain ⟨hMR, hX, hX1⟩ := id hM
    obtain ⟨e1, e2, e3, e4, e5, e6, e7⟩ := id hMR
    have b1 := hW.1.2.1
    have hB := sg_h1_B (st := -1) hW0 h1
    refine xb_405_2 ?_
    simp (disch := first | omega | (unfold xm_w; omega)) only [↓zy_at, xm_O_some, xm_Oi_some, xm_Ov_some, xm_Oq_some, ↓reduceIte, ↓zz_t, ↓zz_f, ↓zi_t, ↓zi_f, eq_self, yy_d_0, Int.reduceEq, Int.reduceLT, Int.reduceLE, Int.reduceNe, Int.reduceToNat, Int.reduceAdd, Int.reduceSub, Int.reduceMul, Int.reduceNeg, Nat.reduceAdd, Nat.reduceMul, Nat.reduceSub, Nat.reduceEqDiff, Nat.reduceLT, ne_eq, not_false_eq_true, not_true_eq_false, true_and, and_true, and_self, yy_s_eq, yy_s_ne, yy_c_eq, yy_c_ne, yy_u_eq, yy_u_ne, xm_w_id, yy_at, tdiv_pos, tmod_pos, ↓zr_1_0, ↓zf_1_1, ↓zs_1_1, ↓zf_1_2, ↓zs_1_2, ↓zr_1_3, ↓zf_1_4, ↓zs_1_4, ↓zr_1_5, ↓zf_1_6, ↓zs_1_6, ↓zr_1_7, ↓zr_1_8, ↓zr_1_9, e3, e2, h0]
    have hh2 : s = sg_hl (-1) (s0 0).toNat 0 s0 := hh
    obtain ⟨x1, x2, x3, x4, x5, x6, x7⟩ := hB
    have eh : ∀ q, q ≠ 1 → sg_h1 (-1) s0 q = s q := fun q hq => by unfold sg_h1; rw [yy_u_ne hq, ← hh2]
    have hM2 : yy_MR (yy_s m 1 2 (s 1 + 1)) 1 (sg_h1 (-1) s0) := by
      refine ⟨by rw [eh 2 (by decide)]; simp (disch := first | omega | (unfold xm_w; omega)) only [↓zy_at, xm_O_some, xm_Oi_some, xm_Ov_some, xm_Oq_some, ↓reduceIte, ↓zz_t, ↓zz_f, ↓zi_t, ↓zi_f, eq_self, yy_d_0, Int.reduceEq, Int.reduceLT, Int.reduceLE, Int.reduceNe, Int.reduceToNat, Int.reduceAdd, Int.reduceSub, Int.reduceMul, Int.reduceNeg, Nat.reduceAdd, Nat.reduceMul, Nat.reduceSub, Nat.reduceEqDiff, Nat.reduceLT, ne_eq, not_false_eq_true, not_true_eq_false, true_and, and_true, and_self, yy_s_eq, yy_s_ne, yy_c_eq, yy_c_ne, yy_u_eq, yy_u_ne, xm_w_id, yy_at, tdiv_pos, tmod_pos]; exact e1, by rw [x3]; simp (disch := first | omega | (unfold xm_w; omega)) only [↓zy_at, xm_O_some, xm_Oi_some, xm_Ov_some, xm_Oq_some, ↓reduceIte, ↓zz_t, ↓zz_f, ↓zi_t, ↓zi_f, eq_self, yy_d_0, Int.reduceEq, Int.reduceLT, Int.reduceLE, Int.reduceNe, Int.reduceToNat, Int.reduceAdd, Int.reduceSub, Int.reduceMul, Int.reduceNeg, Nat.reduceAdd, Nat.reduceMul, Nat.reduceSub, Nat.reduceEqDiff, Nat.reduceLT, ne_eq, not_false_eq_true, not_true_eq_false, true_and, and_true, and_self, yy_s_eq, yy_s_ne, yy_c_eq, yy_c_ne, yy_u_eq, yy_u_ne, xm_w_id, yy_at, tdiv_pos, tmod_pos]; omega, by rw [eh 0 (by decide)]; simp (disch := first | omega | (unfold xm_w; omega)) only [↓zy_at, xm_O_some, xm_Oi_some, xm_Ov_some, xm_Oq_some, ↓reduceIte, ↓zz_t, ↓zz_f, ↓zi_t, ↓zi_f, eq_self, yy_d_0, Int.reduceEq, Int.reduceLT, Int.reduceLE, Int.reduceNe, Int.reduceToNat, Int.reduceAdd, Int.reduceSub, Int.reduceMul, Int.reduceNeg, Nat.reduceAdd, Nat.reduceMul, Nat.reduceSub, Nat.reduceEqDiff, Nat.reduceLT, ne_eq, not_false_eq_true, not_true_eq_false, true_and, and_true, and_self, yy_s_eq, yy_s_ne, yy_c_eq, yy_c_ne, yy_u_eq, yy_u_ne, xm_w_id, yy_at, tdiv_pos, tmod_pos]; exact e3, by rw [eh 3 (by decide)]; simp (disch := first | omega | (unfold xm_w; omega)) only [↓zy_at, xm_O_some, xm_Oi_some, xm_Ov_some, xm_Oq_some, ↓reduceIte, ↓zz_t, ↓zz_f, ↓zi_t, ↓zi_f, eq_self, yy_d_0, Int.reduceEq, Int.reduceLT, Int.reduceLE, Int.reduceNe, Int.reduceToNat, Int.reduceAdd, Int.reduceSub, Int.reduceMul, Int.reduceNeg, Nat.reduceAdd, Nat.reduceMul, Nat.reduceSub, Nat.reduceEqDiff, Nat.reduceLT, ne_eq, not_false_eq_true, not_true_eq_false, true_and, and_true, and_self, yy_s_eq, yy_s_ne, yy_c_eq, yy_c_ne, yy_u_eq, yy_u_ne, xm_w_id, yy_at, tdiv_pos, tmod_pos]; exact e4, fun k hk => by rw [eh _ (by omega)]; simp (disch := first | omega | (unfold xm_w; omega)) only [↓zy_at, xm_O_some, xm_Oi_some, xm_Ov_some, xm_Oq_some, ↓reduceIte, ↓zz_t, ↓zz_f, ↓zi_t, ↓zi_f, eq_self, yy_d_0, Int.reduceEq, Int.reduceLT, Int.reduceLE, Int.reduceNe, Int.reduceToNat, Int.reduceAdd, Int.reduceSub, Int.reduceMul, Int.reduceNeg, Nat.reduceAdd, Nat.reduceMul, Nat.reduceSub, Nat.reduceEqDiff, Nat.reduceLT, ne_eq, not_false_eq_true, not_true_eq_false, true_and, and_true, and_self, yy_s_eq, yy_s_ne, yy_c_eq, yy_c_ne, yy_u_eq, yy_u_ne, xm_w_id, yy_at, tdiv_pos, tmod_pos]; exact e5 k hk, fun k hk => by rw [eh _ (by omega)]; simp (disch := first | omega | (unfold xm_w; omega)) only [↓zy_at, xm_O_some, xm_Oi_some, xm_Ov_some, xm_Oq_some, ↓reduceIte, ↓zz_t, ↓zz_f, ↓zi_t, ↓zi_f, eq_self, yy_d_0, Int.reduceEq, Int.reduceLT, Int.reduceLE, Int.reduceNe, Int.reduceToNat, Int.reduceAdd, Int.reduceSub, Int.reduceMul, Int.reduceNeg, Nat.reduceAdd, Nat.reduceMul, Nat.reduceSub, Nat.reduceEqDiff, Nat.reduceLT, ne_eq, not_false_eq_true, not_true_eq_false, true_and, and_true, and_self, yy_s_eq, yy_s_ne, yy_c_eq, yy_c_ne, yy_u_eq, yy_u_ne, xm_w_id, yy_at, tdiv_pos, tmod_pos]; exact e6 k hk, fun i hi => ⟨fun k hk => by rw [eh _ (by omega)]; simp (disch := first | omega | (unfold xm_w; omega)) only [↓zy_at, xm_O_some, xm_Oi_some, xm_Ov_some, xm_Oq_some, ↓reduceIte, ↓zz_t, ↓zz_f, ↓zi_t, ↓zi_f, eq_self, yy_d_0, Int.reduceEq, Int.reduceLT, Int.reduceLE, Int.reduceNe, Int.reduceToNat, Int.reduceAdd, Int.reduceSub, Int.reduceMul, Int.reduceNeg, Nat.reduceAdd, Nat.reduceMul, Nat.reduceSub, Nat.reduceEqDiff, Nat.reduceLT, ne_eq, not_false_eq_true, not_true_eq_false, true_and, and_true, and_self, yy_s_eq, yy_s_ne, yy_c_eq, yy_c_ne, yy_u_eq, yy_u_ne, xm_w_id, yy_at, tdiv_pos, tmod_pos]; exact (e7 i hi).1 k hk, fun k hk => by rw [eh _ (by omega)]; simp (disch := first | omega | (unfold xm_w; omega)) only [↓zy_at, xm_O_some, xm_Oi_some, xm_Ov_some, xm_Oq_some, ↓reduceIte, ↓zz_t, ↓zz_f, ↓zi_t, ↓zi_f, eq_self, yy_d_0, Int.reduceEq, Int.reduceLT, Int.reduceLE, Int.reduceNe, Int.reduceToNat, Int.reduceAdd, Int.reduceSub, Int.reduceMul, Int.reduceNeg, Nat.reduceAdd, Nat.reduceMul, Nat.reduceSub, Nat.reduceEqDiff, Nat.reduceLT, ne_eq, not_false_eq_true, not_true_eq_false, true_and, and_true, and_self, yy_s_eq, yy_s_ne, yy_c_eq, yy_c_ne, yy_u_eq, yy_u_ne, xm_w_id, yy_at, tdiv_pos, tmod_pos]; exact (e7 i hi).2 k hk⟩⟩
    have hB2 : sg_B (sg_h1 (-1) s0) := by
      refine ⟨?_, by omega, fun i hi => ⟨(x6.1 i hi).1.1, (x6.1 i hi).1.2.2.2.1⟩⟩
      rw [x5 2 (Or.inl (by decide)) (by decide) (by decide)]
      exact hW0.1.2.2.1
    obtain ⟨m1, e, g1, g2, g3⟩ := c_409_1g (sc := sc) (d := d + 2) (t := t) (m := yy_s m 1 2 (s 1 + 1)) hM2 hB2 x7.2
    rw [e]
    refine hQ m1 (fun c hc => by rw [g1 c hc, yy_s_ne (by omega)]; exact hF c hc) ?_
    obtain ⟨w1, w2, w3⟩ := sg_hour_W (st := -1) hW0 h1
    refine yy_MX_fr (sg_W_T hW) hM (by rw [g3 _ (by decide) (by decide), yy_s_ne (by decide)]) g2 (fun k hk hk2 => ?_)
    have := w3 k (Or.inr hk) (by omega) (by omega)
    show sg_hour (-1) s0 k = s k
    rw [this, hh2, x2 k (Or.inr hk) (by omega)]
  | k + 1, r, m, s, hk, hW, hM, hF, h0, h2, hh => by
    have hn5 := hW0.1.1
    obtain ⟨hMR, hX, hX1⟩ := id hM
    obtain ⟨e1, e2, e3, e4, e5, e6, e7⟩ := id hMR
    have hq : yy_rd (8 + 2 * r) := yy_rdn8 (by omega)
    have f5 : m (8 + 2 * r) 5 = s (49 + 18 * r) := by rw [(e7 r (by omega)).1 5 (by decide)]; congr 1; omega
    have f4 : m (8 + 2 * r) 4 = s (48 + 18 * r) := by rw [(e7 r (by omega)).1 4 (by decide)]; congr 1; omega
    have er : ((r : Int)).toNat = r := Int.toNat_natCast r
    have next : ∀ m1 s1, sg_W s1 (r + 1 : Nat) → yy_MX t m1 1 s1 → yy_Fb m0 m1 1 → s1 0 = s0 0 → s1 1 = s0 1 → sg_hl (-1) k (r + 1) s1 = sg_hl (-1) (s0 0).toNat 0 s0 → xm_EQ (xm_old sc) xm_sta (xm_X (xm_old sc) xm_mt (d + 5)) xm_c405 2 [some (.inr (.inl (some 1))), some (.inl ((r : Int) + 1))] [] (yy_W (m1) t) Q := by
      intro m1 s1 a1 a2 a3 a4 a5 a6
      have := l_405_1 (sc := sc) (d := d) (t := t) (Q := Q) hn h1 hW0 hQ k (r + 1) m1 s1 (by omega) a1 a2 a3 a4 a5 a6
      rw [show ((r + 1 : Nat) : Int) = (r : Int) + 1 by omega] at this
      exact this
    rw [sg_hl_s] at hh
    refine xb_405_2 ?_
    simp (disch := first | omega | (unfold xm_w; omega)) only [↓zy_at, xm_O_some, xm_Oi_some, xm_Ov_some, xm_Oq_some, ↓reduceIte, ↓zz_t, ↓zz_f, ↓zi_t, ↓zi_f, eq_self, yy_d_0, Int.reduceEq, Int.reduceLT, Int.reduceLE, Int.reduceNe, Int.reduceToNat, Int.reduceAdd, Int.reduceSub, Int.reduceMul, Int.reduceNeg, Nat.reduceAdd, Nat.reduceMul, Nat.reduceSub, Nat.reduceEqDiff, Nat.reduceLT, ne_eq, not_false_eq_true, not_true_eq_false, true_and, and_true, and_self, yy_s_eq, yy_s_ne, yy_c_eq, yy_c_ne, yy_u_eq, yy_u_ne, xm_w_id, yy_at, tdiv_pos, tmod_pos, ↓zr_1_0, ↓zf_1_1, ↓zs_1_1, ↓zf_1_2, ↓zs_1_2, ↓zr_1_3, ↓zf_1_4, ↓zs_1_4, ↓zr_1_5, ↓zf_1_6, ↓zs_1_6, ↓zr_1_7, ↓zr_1_8, ↓zr_1_9, ↓zq_3, e3, h0, ↓zq_r1, er, ↓gf_5 hq, ↓gf_4 hq, f5, f4]
    by_cases g2 : s (49 + 18 * r) < s (48 + 18 * r)
    · rw [if_pos ⟨by omega, g2⟩] at hh
      rw [if_pos g2]
      obtain ⟨m1, e, g3, g4⟩ := c_406_1 (sc := sc) (d := d) (t := t) (m := m) (r := r) (by omega) hM hW g2
      obtain ⟨w1, w2⟩ := sg_rd_W (by omega) hW g2
      rw [e]
      refine next m1 (sg_rd s r) w1 (yy_MX_fr (sg_W_T hW) hM (g3 _ (by omega)) g4 (fun k hk hk2 => w2 k (Or.inr hk) (by omega) (by omega) (by omega))) (fun c hc => by rw [g3 c hc]; exact hF c hc) ?_ ?_ hh
      · rw [w2 0 (Or.inl (by decide)) (by decide) (by omega) (by omega)]; exact h0
      · rw [w2 1 (Or.inl (by decide)) (by decide) (by omega) (by omega)]; exact h2
    · rw [if_neg (fun h => g2 h.2)] at hh
      rw [if_neg g2]
      exact next m s (sg_W_mono (by omega) hW) hM hF h0 h2 hh
set_option maxRecDepth 20000 in
theorem c_405_1g {sc : List Int} {d : Nat} {t : xm_W} {m : Nat → Nat → Int} {s : Nat → Int} (hM : yy_MX t m 1 s) (hW : sg_W s 0) (h1 : s 1 < 20000) : ∃ m', xm_X (xm_old sc) xm_mt (d + 6) 405 [.inr (.inl (some 1))] (yy_W m t) = some (none, yy_W m' t) ∧ yy_Fb m m' 1 ∧ yy_MX t m' 1 (sg_hour (-1) s) := by
  have key : ∀ {Q : Option xm_V × xm_W → Prop}, (∀ m', (yy_Fb m m' 1 ∧ yy_MX t m' 1 (sg_hour (-1) s)) → Q (none, yy_W m' t)) → xm_EQ (xm_old sc) xm_sta (xm_X (xm_old sc) xm_mt (d + 5)) xm_m405.2.2.2.2.2.2.2 0 (xm_loc xm_m405.2.2.1 [.inr (.inl (some 1))]) [] (yy_W m t) Q := by
    intro Q hQ
    refine xb_405_0 ?_
    exact l_405_1 (d := d) rfl h1 hW (fun m' a b => hQ m' ⟨a, b⟩) (s 0).toNat 0 m s (by have := hW.1.1; omega) hW hM (fun _ _ => rfl) rfl rfl rfl
  obtain ⟨q, h1, m', h2, h3⟩ := yx_of (y := 405) (M := xm_m405) (sc := sc) (d := d + 5) (as := [.inr (.inl (some 1))]) (w := yy_W m t) (Q := fun q => ∃ m', q = (none, yy_W m' t) ∧ (yy_Fb m m' 1 ∧ yy_MX t m' 1 (sg_hour (-1) s))) rfl (key fun m' h => ⟨m', rfl, h⟩) (fun q ⟨m', h, _⟩ => by rw [h]; rfl) rfl (Nat.le_of_ble_eq_true rfl) (yy_hd rfl (by decide))
  exact ⟨m', by rw [h1, h2], h3⟩
set_option maxRecDepth 20000 in
theorem l_404_1g {sc : List Int} {d : Nat} {t : xm_W} {Q : Option xm_V × xm_W → Prop} {m0 : Nat → Nat → Int} {n : Int} {s' : Nat → Int} (hn : n ≤ 24) (hQ : ∀ m', yy_Fb m0 m' 1 → yy_MX t m' 1 s' → Q ((none, (yy_W (m') t)))) : ∀ (k : Nat) (i : Int) (m : Nat → Nat → Int) (s : Nat → Int), n - i = k → 0 ≤ i → sg_W s 0 → yy_MX t m 1 s → s 1 + k ≤ 20000 → yy_Fb m0 m 1 → sg_go (-1) k s = s' → xm_EQ (xm_old sc) xm_sta (xm_X (xm_old sc) xm_mt (d + 6)) xm_c404 2 [some (.inr (.inl (some 1))), some (.inl (n)), some (.inl (i))] [] (yy_W (m) t) Q
  | 0, i, m, s, hk, hi, hW, hM, h1, hF, hs => by
    refine xb_404_2 ?_
    rw [if_neg (by omega)]
    exact hQ m hF (by rw [← hs]; exact hM)
  | k + 1, i, m, s, hk, hi, hW, hM, h1, hF, hs => by
    refine xb_404_2 ?_
    obtain ⟨m1, e1, f1, g1⟩ := c_405_1g (sc := sc) (d := d) (t := t) (m := m) hM hW (by omega)
    obtain ⟨w1, w2, w3⟩ := sg_hour_W (st := -1) hW (by omega)
    rw [if_pos (by omega), e1, xm_Ov_some, xm_w_id (by omega) (by omega)]
    exact l_404_1g hn hQ k (i + 1) m1 (sg_hour (-1) s) (by omega) (by omega) w1 g1 (by rw [w2]; omega) (fun c hc => by rw [f1 c hc]; exact hF c hc) hs
set_option maxRecDepth 20000 in
theorem c_404_1g {sc : List Int} {d : Nat} {t : xm_W} {m : Nat → Nat → Int} {n : Int} {s : Nat → Int} (h0 : 0 ≤ n ∧ n ≤ 24) (hM : yy_MX t m 1 s) (hW : sg_W s 0) (h1 : s 1 + n ≤ 20000) : ∃ m', xm_X (xm_old sc) xm_mt (d + 7) 404 [.inr (.inl (some 1)), .inl (n)] (yy_W m t) = some (none, yy_W m' t) ∧ yy_Fb m m' 1 ∧ yy_MX t m' 1 (sg_go (-1) n.toNat s) := by
  have key : ∀ {Q : Option xm_V × xm_W → Prop}, (∀ m', (yy_Fb m m' 1 ∧ yy_MX t m' 1 (sg_go (-1) n.toNat s)) → Q (none, yy_W m' t)) → xm_EQ (xm_old sc) xm_sta (xm_X (xm_old sc) xm_mt (d + 6)) xm_m404.2.2.2.2.2.2.2 0 (xm_loc xm_m404.2.2.1 [.inr (.inl (some 1)), .inl (n)]) [] (yy_W m t) Q := by
    intro Q hQ
    refine xb_404_0 ?_
    exact l_404_1g (d := d) h0.2 (fun m' a b => hQ m' ⟨a, b⟩) n.toNat 0 m s (by omega) (by decide) hW hM (by omega) (fun _ _ => rfl) rfl
  obtain ⟨q, h1, m', h2, h3⟩ := yx_of (y := 404) (M := xm_m404) (sc := sc) (d := d + 6) (as := [.inr (.inl (some 1)), .inl (n)]) (w := yy_W m t) (Q := fun q => ∃ m', q = (none, yy_W m' t) ∧ (yy_Fb m m' 1 ∧ yy_MX t m' 1 (sg_go (-1) n.toNat s))) rfl (key fun m' h => ⟨m', rfl, h⟩) (fun q ⟨m', h, _⟩ => by rw [h]; rfl) rfl (Nat.le_of_ble_eq_true rfl) (yy_hd rfl (by decide))
  exact ⟨m', by rw [h1, h2], h3⟩
set_option maxRecDepth 20000 in
theorem l_405_18 {sc : List Int} {d : Nat} {t : xm_W} {Q : Option xm_V × xm_W → Prop} {m0 : Nat → Nat → Int} {s0 : Nat → Int} {n : Int} (hn : n = s0 0) (h1 : s0 1 < 20000) (hW0 : sg_W s0 0) (hQ : ∀ m', yy_Fb m0 m' 18 → yy_MX t m' 18 (sg_hour (-1) s0) → Q ((none, (yy_W (m') t)))) : ∀ (k r : Nat) (m : Nat → Nat → Int) (s : Nat → Int), ((r + k : Nat) : Int) = n → sg_W s r → yy_MX t m 18 s → yy_Fb m0 m 18 → s 0 = s0 0 → s 1 = s0 1 → sg_hl (-1) k r s = sg_hl (-1) (s0 0).toNat 0 s0 → xm_EQ (xm_old sc) xm_sta (xm_X (xm_old sc) xm_mt (d + 5)) xm_c405 2 [some (.inr (.inl (some 18))), some (.inl ((r : Int)))] [] (yy_W (m) t) Q
  | 0, r, m, s, hk, hW, hM, hF, h0, h2, hh => by
    obtain ⟨hMR, hX, hX1⟩ := id hM
    obtain ⟨e1, e2, e3, e4, e5, e6, e7⟩ := id hMR
    have b1 := hW.1.2.1
    have hB := sg_h1_B (st := -1) hW0 h1
    refine xb_405_2 ?_
    simp (disch := first | omega | (unfold xm_w; omega)) only [↓zy_at, xm_O_some, xm_Oi_some, xm_Ov_some, xm_Oq_some, ↓reduceIte, ↓zz_t, ↓zz_f, ↓zi_t, ↓zi_f, eq_self, yy_d_0, Int.reduceEq, Int.reduceLT, Int.reduceLE, Int.reduceNe, Int.reduceToNat, Int.reduceAdd, Int.reduceSub, Int.reduceMul, Int.reduceNeg, Nat.reduceAdd, Nat.reduceMul, Nat.reduceSub, Nat.reduceEqDiff, Nat.reduceLT, ne_eq, not_false_eq_true, not_true_eq_false, true_and, and_true, and_self, yy_s_eq, yy_s_ne, yy_c_eq, yy_c_ne, yy_u_eq, yy_u_ne, xm_w_id, yy_at, tdiv_pos, tmod_pos, ↓zr_18_0, ↓zf_18_1, ↓zs_18_1, ↓zf_18_2, ↓zs_18_2, ↓zr_18_3, ↓zf_18_4, ↓zs_18_4, ↓zr_18_5, ↓zf_18_6, ↓zs_18_6, ↓zr_18_7, ↓zr_18_8, ↓zr_18_9, e3, e2, h0]
    have hh2 : s = sg_hl (-1) (s0 0).toNat 0 s0 := hh
    obtain ⟨x1, x2, x3, x4, x5, x6, x7⟩ := hB
    have eh : ∀ q, q ≠ 1 → sg_h1 (-1) s0 q = s q := fun q hq => by unfold sg_h1; rw [yy_u_ne hq, ← hh2]
    have hM2 : yy_MR (yy_s m 18 2 (s 1 + 1)) 18 (sg_h1 (-1) s0) := by
      refine ⟨by rw [eh 2 (by decide)]; simp (disch := first | omega | (unfold xm_w; omega)) only [↓zy_at, xm_O_some, xm_Oi_some, xm_Ov_some, xm_Oq_some, ↓reduceIte, ↓zz_t, ↓zz_f, ↓zi_t, ↓zi_f, eq_self, yy_d_0, Int.reduceEq, Int.reduceLT, Int.reduceLE, Int.reduceNe, Int.reduceToNat, Int.reduceAdd, Int.reduceSub, Int.reduceMul, Int.reduceNeg, Nat.reduceAdd, Nat.reduceMul, Nat.reduceSub, Nat.reduceEqDiff, Nat.reduceLT, ne_eq, not_false_eq_true, not_true_eq_false, true_and, and_true, and_self, yy_s_eq, yy_s_ne, yy_c_eq, yy_c_ne, yy_u_eq, yy_u_ne, xm_w_id, yy_at, tdiv_pos, tmod_pos]; exact e1, by rw [x3]; simp (disch := first | omega | (unfold xm_w; omega)) only [↓zy_at, xm_O_some, xm_Oi_some, xm_Ov_some, xm_Oq_some, ↓reduceIte, ↓zz_t, ↓zz_f, ↓zi_t, ↓zi_f, eq_self, yy_d_0, Int.reduceEq, Int.reduceLT, Int.reduceLE, Int.reduceNe, Int.reduceToNat, Int.reduceAdd, Int.reduceSub, Int.reduceMul, Int.reduceNeg, Nat.reduceAdd, Nat.reduceMul, Nat.reduceSub, Nat.reduceEqDiff, Nat.reduceLT, ne_eq, not_false_eq_true, not_true_eq_false, true_and, and_true, and_self, yy_s_eq, yy_s_ne, yy_c_eq, yy_c_ne, yy_u_eq, yy_u_ne, xm_w_id, yy_at, tdiv_pos, tmod_pos]; omega, by rw [eh 0 (by decide)]; simp (disch := first | omega | (unfold xm_w; omega)) only [↓zy_at, xm_O_some, xm_Oi_some, xm_Ov_some, xm_Oq_some, ↓reduceIte, ↓zz_t, ↓zz_f, ↓zi_t, ↓zi_f, eq_self, yy_d_0, Int.reduceEq, Int.reduceLT, Int.reduceLE, Int.reduceNe, Int.reduceToNat, Int.reduceAdd, Int.reduceSub, Int.reduceMul, Int.reduceNeg, Nat.reduceAdd, Nat.reduceMul, Nat.reduceSub, Nat.reduceEqDiff, Nat.reduceLT, ne_eq, not_false_eq_true, not_true_eq_false, true_and, and_true, and_self, yy_s_eq, yy_s_ne, yy_c_eq, yy_c_ne, yy_u_eq, yy_u_ne, xm_w_id, yy_at, tdiv_pos, tmod_pos]; exact e3, by rw [eh 3 (by decide)]; simp (disch := first | omega | (unfold xm_w; omega)) only [↓zy_at, xm_O_some, xm_Oi_some, xm_Ov_some, xm_Oq_some, ↓reduceIte, ↓zz_t, ↓zz_f, ↓zi_t, ↓zi_f, eq_self, yy_d_0, Int.reduceEq, Int.reduceLT, Int.reduceLE, Int.reduceNe, Int.reduceToNat, Int.reduceAdd, Int.reduceSub, Int.reduceMul, Int.reduceNeg, Nat.reduceAdd, Nat.reduceMul, Nat.reduceSub, Nat.reduceEqDiff, Nat.reduceLT, ne_eq, not_false_eq_true, not_true_eq_false, true_and, and_true, and_self, yy_s_eq, yy_s_ne, yy_c_eq, yy_c_ne, yy_u_eq, yy_u_ne, xm_w_id, yy_at, tdiv_pos, tmod_pos]; exact e4, fun k hk => by rw [eh _ (by omega)]; simp (disch := first | omega | (unfold xm_w; omega)) only [↓zy_at, xm_O_some, xm_Oi_some, xm_Ov_some, xm_Oq_some, ↓reduceIte, ↓zz_t, ↓zz_f, ↓zi_t, ↓zi_f, eq_self, yy_d_0, Int.reduceEq, Int.reduceLT, Int.reduceLE, Int.reduceNe, Int.reduceToNat, Int.reduceAdd, Int.reduceSub, Int.reduceMul, Int.reduceNeg, Nat.reduceAdd, Nat.reduceMul, Nat.reduceSub, Nat.reduceEqDiff, Nat.reduceLT, ne_eq, not_false_eq_true, not_true_eq_false, true_and, and_true, and_self, yy_s_eq, yy_s_ne, yy_c_eq, yy_c_ne, yy_u_eq, yy_u_ne, xm_w_id, yy_at, tdiv_pos, tmod_pos]; exact e5 k hk, fun k hk => by rw [eh _ (by omega)]; simp (disch := first | omega | (unfold xm_w; omega)) only [↓zy_at, xm_O_some, xm_Oi_some, xm_Ov_some, xm_Oq_some, ↓reduceIte, ↓zz_t, ↓zz_f, ↓zi_t, ↓zi_f, eq_self, yy_d_0, Int.reduceEq, Int.reduceLT, Int.reduceLE, Int.reduceNe, Int.reduceToNat, Int.reduceAdd, Int.reduceSub, Int.reduceMul, Int.reduceNeg, Nat.reduceAdd, Nat.reduceMul, Nat.reduceSub, Nat.reduceEqDiff, Nat.reduceLT, ne_eq, not_false_eq_true, not_true_eq_false, true_and, and_true, and_self, yy_s_eq, yy_s_ne, yy_c_eq, yy_c_ne, yy_u_eq, yy_u_ne, xm_w_id, yy_at, tdiv_pos, tmod_pos]; exact e6 k hk, fun i hi => ⟨fun k hk => by rw [eh _ (by omega)]; simp (disch := first | omega | (unfold xm_w; omega)) only [↓zy_at, xm_O_some, xm_Oi_some, xm_Ov_some, xm_Oq_some, ↓reduceIte, ↓zz_t, ↓zz_f, ↓zi_t, ↓zi_f, eq_self, yy_d_0, Int.reduceEq, Int.reduceLT, Int.reduceLE, Int.reduceNe, Int.reduceToNat, Int.reduceAdd, Int.reduceSub, Int.reduceMul, Int.reduceNeg, Nat.reduceAdd, Nat.reduceMul, Nat.reduceSub, Nat.reduceEqDiff, Nat.reduceLT, ne_eq, not_false_eq_true, not_true_eq_false, true_and, and_true, and_self, yy_s_eq, yy_s_ne, yy_c_eq, yy_c_ne, yy_u_eq, yy_u_ne, xm_w_id, yy_at, tdiv_pos, tmod_pos]; exact (e7 i hi).1 k hk, fun k hk => by rw [eh _ (by omega)]; simp (disch := first | omega | (unfold xm_w; omega)) only [↓zy_at, xm_O_some, xm_Oi_some, xm_Ov_some, xm_Oq_some, ↓reduceIte, ↓zz_t, ↓zz_f, ↓zi_t, ↓zi_f, eq_self, yy_d_0, Int.reduceEq, Int.reduceLT, Int.reduceLE, Int.reduceNe, Int.reduceToNat, Int.reduceAdd, Int.reduceSub, Int.reduceMul, Int.reduceNeg, Nat.reduceAdd, Nat.reduceMul, Nat.reduceSub, Nat.reduceEqDiff, Nat.reduceLT, ne_eq, not_false_eq_true, not_true_eq_false, true_and, and_true, and_self, yy_s_eq, yy_s_ne, yy_c_eq, yy_c_ne, yy_u_eq, yy_u_ne, xm_w_id, yy_at, tdiv_pos, tmod_pos]; exact (e7 i hi).2 k hk⟩⟩
    have hB2 : sg_B (sg_h1 (-1) s0) := by
      refine ⟨?_, by omega, fun i hi => ⟨(x6.1 i hi).1.1, (x6.1 i hi).1.2.2.2.1⟩⟩
      rw [x5 2 (Or.inl (by decide)) (by decide) (by decide)]
      exact hW0.1.2.2.1
    obtain ⟨m1, e, g1, g2, g3⟩ := c_409_18g (sc := sc) (d := d + 2) (t := t) (m := yy_s m 18 2 (s 1 + 1)) hM2 hB2 x7.2
    rw [e]
    refine hQ m1 (fun c hc => by rw [g1 c hc, yy_s_ne (by omega)]; exact hF c hc) ?_
    obtain ⟨w1, w2, w3⟩ := sg_hour_W (st := -1) hW0 h1
    refine yy_MX_fr (sg_W_T hW) hM (by rw [g3 _ (by decide) (by decide), yy_s_ne (by decide)]) g2 (fun k hk hk2 => ?_)
    have := w3 k (Or.inr hk) (by omega) (by omega)
    show sg_hour (-1) s0 k = s k
    rw [this, hh2, x2 k (Or.inr hk) (by omega)]
  | k + 1, r, m, s, hk, hW, hM, hF, h0, h2, hh => by
    have hn5 := hW0.1.1
    obtain ⟨hMR, hX, hX1⟩ := id hM
    obtain ⟨e1, e2, e3, e4, e5, e6, e7⟩ := id hMR
    have hq : yy_rd (25 + 2 * r) := yy_rdn25 (by omega)
    have f5 : m (25 + 2 * r) 5 = s (49 + 18 * r) := by rw [(e7 r (by omega)).1 5 (by decide)]; congr 1; omega
    have f4 : m (25 + 2 * r) 4 = s (48 + 18 * r) := by rw [(e7 r (by omega)).1 4 (by decide)]; congr 1; omega
    have er : ((r : Int)).toNat = r := Int.toNat_natCast r
    have next : ∀ m1 s1, sg_W s1 (r + 1 : Nat) → yy_MX t m1 18 s1 → yy_Fb m0 m1 18 → s1 0 = s0 0 → s1 1 = s0 1 → sg_hl (-1) k (r + 1) s1 = sg_hl (-1) (s0 0).toNat 0 s0 → xm_EQ (xm_old sc) xm_sta (xm_X (xm_old sc) xm_mt (d + 5)) xm_c405 2 [some (.inr (.inl (some 18))), some (.inl ((r : Int) + 1))] [] (yy_W (m1) t) Q := by
      intro m1 s1 a1 a2 a3 a4 a5 a6
      have := l_405_18 (sc := sc) (d := d) (t := t) (Q := Q) hn h1 hW0 hQ k (r + 1) m1 s1 (by omega) a1 a2 a3 a4 a5 a6
      rw [show ((r + 1 : Nat) : Int) = (r : Int) + 1 by omega] at this
      exact this
    rw [sg_hl_s] at hh
    refine xb_405_2 ?_
    simp (disch := first | omega | (unfold xm_w; omega)) only [↓zy_at, xm_O_some, xm_Oi_some, xm_Ov_some, xm_Oq_some, ↓reduceIte, ↓zz_t, ↓zz_f, ↓zi_t, ↓zi_f, eq_self, yy_d_0, Int.reduceEq, Int.reduceLT, Int.reduceLE, Int.reduceNe, Int.reduceToNat, Int.reduceAdd, Int.reduceSub, Int.reduceMul, Int.reduceNeg, Nat.reduceAdd, Nat.reduceMul, Nat.reduceSub, Nat.reduceEqDiff, Nat.reduceLT, ne_eq, not_false_eq_true, not_true_eq_false, true_and, and_true, and_self, yy_s_eq, yy_s_ne, yy_c_eq, yy_c_ne, yy_u_eq, yy_u_ne, xm_w_id, yy_at, tdiv_pos, tmod_pos, ↓zr_18_0, ↓zf_18_1, ↓zs_18_1, ↓zf_18_2, ↓zs_18_2, ↓zr_18_3, ↓zf_18_4, ↓zs_18_4, ↓zr_18_5, ↓zf_18_6, ↓zs_18_6, ↓zr_18_7, ↓zr_18_8, ↓zr_18_9, ↓zq_20, e3, h0, ↓zq_r18, er, ↓gf_5 hq, ↓gf_4 hq, f5, f4]
    by_cases g2 : s (49 + 18 * r) < s (48 + 18 * r)
    · rw [if_pos ⟨by omega, g2⟩] at hh
      rw [if_pos g2]
      obtain ⟨m1, e, g3, g4⟩ := c_406_18 (sc := sc) (d := d) (t := t) (m := m) (r := r) (by omega) hM hW g2
      obtain ⟨w1, w2⟩ := sg_rd_W (by omega) hW g2
      rw [e]
      refine next m1 (sg_rd s r) w1 (yy_MX_fr (sg_W_T hW) hM (g3 _ (by omega)) g4 (fun k hk hk2 => w2 k (Or.inr hk) (by omega) (by omega) (by omega))) (fun c hc => by rw [g3 c hc]; exact hF c hc) ?_ ?_ hh
      · rw [w2 0 (Or.inl (by decide)) (by decide) (by omega) (by omega)]; exact h0
      · rw [w2 1 (Or.inl (by decide)) (by decide) (by omega) (by omega)]; exact h2
    · rw [if_neg (fun h => g2 h.2)] at hh
      rw [if_neg g2]
      exact next m s (sg_W_mono (by omega) hW) hM hF h0 h2 hh
set_option maxRecDepth 20000 in
theorem c_405_18g {sc : List Int} {d : Nat} {t : xm_W} {m : Nat → Nat → Int} {s : Nat → Int} (hM : yy_MX t m 18 s) (hW : sg_W s 0) (h1 : s 1 < 20000) : ∃ m', xm_X (xm_old sc) xm_mt (d + 6) 405 [.inr (.inl (some 18))] (yy_W m t) = some (none, yy_W m' t) ∧ yy_Fb m m' 18 ∧ yy_MX t m' 18 (sg_hour (-1) s) := by
  have key : ∀ {Q : Option xm_V × xm_W → Prop}, (∀ m', (yy_Fb m m' 18 ∧ yy_MX t m' 18 (sg_hour (-1) s)) → Q (none, yy_W m' t)) → xm_EQ (xm_old sc) xm_sta (xm_X (xm_old sc) xm_mt (d + 5)) xm_m405.2.2.2.2.2.2.2 0 (xm_loc xm_m405.2.2.1 [.inr (.inl (some 18))]) [] (yy_W m t) Q := by
    intro Q hQ
    refine xb_405_0 ?_
    exact l_405_18 (d := d) rfl h1 hW (fun m' a b => hQ m' ⟨a, b⟩) (s 0).toNat 0 m s (by have := hW.1.1; omega) hW hM (fun _ _ => rfl) rfl rfl rfl
  obtain ⟨q, h1, m', h2, h3⟩ := yx_of (y := 405) (M := xm_m405) (sc := sc) (d := d + 5) (as := [.inr (.inl (some 18))]) (w := yy_W m t) (Q := fun q => ∃ m', q = (none, yy_W m' t) ∧ (yy_Fb m m' 18 ∧ yy_MX t m' 18 (sg_hour (-1) s))) rfl (key fun m' h => ⟨m', rfl, h⟩) (fun q ⟨m', h, _⟩ => by rw [h]; rfl) rfl (Nat.le_of_ble_eq_true rfl) (yy_hd rfl (by decide))
  exact ⟨m', by rw [h1, h2], h3⟩
set_option maxRecDepth 20000 in
theorem l_404_18g {sc : List Int} {d : Nat} {t : xm_W} {Q : Option xm_V × xm_W → Prop} {m0 : Nat → Nat → Int} {n : Int} {s' : Nat → Int} (hn : n ≤ 24) (hQ : ∀ m', yy_Fb m0 m' 18 → yy_MX t m' 18 s' → Q ((none, (yy_W (m') t)))) : ∀ (k : Nat) (i : Int) (m : Nat → Nat → Int) (s : Nat → Int), n - i = k → 0 ≤ i → sg_W s 0 → yy_MX t m 18 s → s 1 + k ≤ 20000 → yy_Fb m0 m 18 → sg_go (-1) k s = s' → xm_EQ (xm_old sc) xm_sta (xm_X (xm_old sc) xm_mt (d + 6)) xm_c404 2 [some (.inr (.inl (some 18))), some (.inl (n)), some (.inl (i))] [] (yy_W (m) t) Q
  | 0, i, m, s, hk, hi, hW, hM, h1, hF, hs => by
    refine xb_404_2 ?_
    rw [if_neg (by omega)]
    exact hQ m hF (by rw [← hs]; exact hM)
  | k + 1, i, m, s, hk, hi, hW, hM, h1, hF, hs => by
    refine xb_404_2 ?_
    obtain ⟨m1, e1, f1, g1⟩ := c_405_18g (sc := sc) (d := d) (t := t) (m := m) hM hW (by omega)
    obtain ⟨w1, w2, w3⟩ := sg_hour_W (st := -1) hW (by omega)
    rw [if_pos (by omega), e1, xm_Ov_some, xm_w_id (by omega) (by omega)]
    exact l_404_18g hn hQ k (i + 1) m1 (sg_hour (-1) s) (by omega) (by omega) w1 g1 (by rw [w2]; omega) (fun c hc => by rw [f1 c hc]; exact hF c hc) hs
set_option maxRecDepth 20000 in
theorem c_404_18g {sc : List Int} {d : Nat} {t : xm_W} {m : Nat → Nat → Int} {n : Int} {s : Nat → Int} (h0 : 0 ≤ n ∧ n ≤ 24) (hM : yy_MX t m 18 s) (hW : sg_W s 0) (h1 : s 1 + n ≤ 20000) : ∃ m', xm_X (xm_old sc) xm_mt (d + 7) 404 [.inr (.inl (some 18)), .inl (n)] (yy_W m t) = some (none, yy_W m' t) ∧ yy_Fb m m' 18 ∧ yy_MX t m' 18 (sg_go (-1) n.toNat s) := by
  have key : ∀ {Q : Option xm_V × xm_W → Prop}, (∀ m', (yy_Fb m m' 18 ∧ yy_MX t m' 18 (sg_go (-1) n.toNat s)) → Q (none, yy_W m' t)) → xm_EQ (xm_old sc) xm_sta (xm_X (xm_old sc) xm_mt (d + 6)) xm_m404.2.2.2.2.2.2.2 0 (xm_loc xm_m404.2.2.1 [.inr (.inl (some 18)), .inl (n)]) [] (yy_W m t) Q := by
    intro Q hQ
    refine xb_404_0 ?_
    exact l_404_18g (d := d) h0.2 (fun m' a b => hQ m' ⟨a, b⟩) n.toNat 0 m s (by omega) (by decide) hW hM (by omega) (fun _ _ => rfl) rfl
  obtain ⟨q, h1, m', h2, h3⟩ := yx_of (y := 404) (M := xm_m404) (sc := sc) (d := d + 6) (as := [.inr (.inl (some 18)), .inl (n)]) (w := yy_W m t) (Q := fun q => ∃ m', q = (none, yy_W m' t) ∧ (yy_Fb m m' 18 ∧ yy_MX t m' 18 (sg_go (-1) n.toNat s))) rfl (key fun m' h => ⟨m', rfl, h⟩) (fun q ⟨m', h, _⟩ => by rw [h]; rfl) rfl (Nat.le_of_ble_eq_true rfl) (yy_hd rfl (by decide))
  exact ⟨m', by rw [h1, h2], h3⟩
