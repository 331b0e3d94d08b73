set_option maxRecDepth 20000 in
theorem yy_CP_MX {t : xm_W} {m m1 : Nat → Nat → Int} {a b : Nat} {s : Nat → Int} (hC : yy_CP m m1 a b) (hM : yy_MX t m a s) : yy_MX t m1 b s := by
  obtain ⟨g1, g2, g3, g4, g5, g6, g7, g8, g9⟩ := hC
  obtain ⟨⟨e1, e2, e3, e4, e5, e6, e7⟩, t0, t1⟩ := hM
  refine ⟨⟨by rw [g1]; exact e1, by rw [g2]; exact e2, by rw [g3]; exact e3, by rw [g4]; exact e4, fun k hk => by rw [g5 k hk]; exact e5 k hk, fun k hk => by rw [g6 k hk]; exact e6 k hk, fun i hi => ⟨fun k hk => by rw [(g9 i hi).1 k hk]; exact (e7 i hi).1 k hk, fun k hk => by rw [(g9 i hi).2 k hk]; exact (e7 i hi).2 k hk⟩⟩, by rw [g7]; exact t0, by rw [g8]; exact t1⟩
set_option maxRecDepth 20000 in
theorem yy_back {f g s : Nat → Int} (h1 : ∀ k, k < 339 → f k = s k) (h2 : ∀ k, 339 ≤ k → g k = s k) : yy_cp f g 0 0 339 = s := by
  funext k
  by_cases e : k < 339
  · rw [yy_cp0 e]; exact h1 k e
  · unfold yy_cp; rw [if_neg (by omega)]; exact h2 k (by omega)
/-! the class looks ahead -/
set_option maxRecDepth 20000 in
theorem c_140g {sc : List Int} {d : Nat} {t : xm_W} {m : Nat → Nat → Int} {n : Int} {s : Nat → Int} (h0 : 0 ≤ n ∧ n ≤ 24) (hM : yy_MX t m 1 s) (hW : sg_W s 0) (h1 : s 1 + n ≤ 20000) : ∃ m', xm_X (xm_old sc) xm_mt (d + 8) 140 [.inr (.inl (some 0)), .inl (n)] (yy_W m t) = some (none, yy_W m' t) ∧ (∀ c, c < 18 ∨ 35 ≤ c → m' c = m c) ∧ yy_MX t m' 18 (sg_go (-1) n.toNat s) := by
  have key : ∀ {Q : Option xm_V × xm_W → Prop}, (∀ m', ((∀ c, c < 18 ∨ 35 ≤ c → m' c = m c) ∧ yy_MX t m' 18 (sg_go (-1) n.toNat s)) → Q (none, yy_W m' t)) → xm_EQ (xm_old sc) xm_sta (xm_X (xm_old sc) xm_mt (d + 7)) xm_m140.2.2.2.2.2.2.2 0 (xm_loc xm_m140.2.2.1 [.inr (.inl (some 0)), .inl (n)]) [] (yy_W m t) Q := by
    intro Q hQ
    refine xb_140_0 ?_
    simp (disch := first | omega | (unfold xm_w; omega)) only [↓zy_at, xm_O_some, xm_Oi_some, xm_Ov_some, xm_Oq_some, ↓reduceIte, ↓zz_t, ↓zz_f, ↓zi_t, ↓zi_f, eq_self, yy_d_0, Int.reduceEq, Int.reduceLT, Int.reduceLE, Int.reduceNe, Int.reduceToNat, Int.reduceAdd, Int.reduceSub, Int.reduceMul, Int.reduceNeg, Nat.reduceAdd, Nat.reduceMul, Nat.reduceSub, Nat.reduceEqDiff, Nat.reduceLT, ne_eq, not_false_eq_true, not_true_eq_false, true_and, and_true, and_self, yy_s_eq, yy_s_ne, yy_c_eq, yy_c_ne, yy_u_eq, yy_u_ne, xm_w_id, yy_at, tdiv_pos, tmod_pos, ↓zr_0_0, ↓zr_0_1, ↓zr_0_2, ↓zr_0_3, ↓zr_0_4, ↓zf_0_5, ↓zs_0_5, ↓zr_0_6, ↓zr_0_7, ↓zr_0_8, ↓zr_0_9, ↓zr_0_10]
    obtain ⟨m1, e, f1, g⟩ := c_402_1_18 (sc := sc) (d := d + 5) (t := t) (m := m) (yy_TX_tx hM.2.1) (yy_TX_tx hM.2.2)
    rw [e]
    simp (disch := first | omega | (unfold xm_w; omega)) only [↓zy_at, xm_O_some, xm_Oi_some, xm_Ov_some, xm_Oq_some, ↓reduceIte, ↓zz_t, ↓zz_f, ↓zi_t, ↓zi_f, eq_self, yy_d_0, Int.reduceEq, Int.reduceLT, Int.reduceLE, Int.reduceNe, Int.reduceToNat, Int.reduceAdd, Int.reduceSub, Int.reduceMul, Int.reduceNeg, Nat.reduceAdd, Nat.reduceMul, Nat.reduceSub, Nat.reduceEqDiff, Nat.reduceLT, ne_eq, not_false_eq_true, not_true_eq_false, true_and, and_true, and_self, yy_s_eq, yy_s_ne, yy_c_eq, yy_c_ne, yy_u_eq, yy_u_ne, xm_w_id, yy_at, tdiv_pos, tmod_pos, ↓zr_0_0, ↓zr_0_1, ↓zr_0_2, ↓zr_0_3, ↓zr_0_4, ↓zf_0_5, ↓zs_0_5, ↓zr_0_6, ↓zr_0_7, ↓zr_0_8, ↓zr_0_9, ↓zr_0_10]
    obtain ⟨m2, e2, f2, g2⟩ := c_404_18g (sc := sc) (d := d) (t := t) (m := m1) h0 (yy_CP_MX g hM) hW h1
    rw [e2, xm_Ov_some]
    exact hQ m2 ⟨fun c hc => by rw [f2 c (by omega), f1 c hc], g2⟩
  obtain ⟨q, h1, m', h2, h3⟩ := yx_of (y := 140) (M := xm_m140) (sc := sc) (d := d + 7) (as := [.inr (.inl (some 0)), .inl (n)]) (w := yy_W m t) (Q := fun q => ∃ m', q = (none, yy_W m' t) ∧ ((∀ c, c < 18 ∨ 35 ≤ c → m' c = m c) ∧ yy_MX t m' 18 (sg_go (-1) n.toNat s))) rfl (key fun m' h => ⟨m', rfl, h⟩) (fun q ⟨m', h, _⟩ => by rw [h]; rfl) rfl (Nat.le_of_ble_eq_true rfl) (yy_hd rfl (by decide))
  exact ⟨m', by rw [h1, h2], h3⟩
/-! the reference looks ahead: the row is laid down, hours go by -/
set_option maxRecDepth 20000 in
theorem c_look {sc : List Int} {d : Nat} {t : xm_W} {m : Nat → Nat → Int} {n : Int} (h0 : 0 ≤ n ∧ n ≤ 24) (hW : sg_W (m 75) 0) (h1 : m 75 1 + n ≤ 20000) : ∃ m2, xm_X (xm_old sc) xm_mt (d + 2) 1106 [.inr (.inl (some 74))] (yy_W (m) t) = some (none, (yy_W (yy_c m 77 (yy_cp (m 75) (m 77) 0 0 339)) t)) ∧ xm_X (xm_old sc) xm_mt (d + 9) 1157 [.inr (.inl (some 74)), .inl (n)] (yy_W (yy_c m 77 (yy_cp (m 75) (m 77) 0 0 339)) t) = some (none, (yy_W (m2) t)) ∧ m2 75 = sg_go (m 74 3) n.toNat (m 75) ∧ (∀ c, c ≠ 75 → c ≠ 77 → c ≠ 80 → c ≠ 81 → m2 c = m c) ∧ ∀ k, k < 339 → m2 77 k = m 75 k := by
  obtain ⟨m2, e, f, g⟩ := c_1157 (sc := sc) (d := d) (t := t) (m := yy_c m 77 (yy_cp (m 75) (m 77) 0 0 339)) h0 (by rw [yy_c_ne (by decide)]; exact hW) (by rw [yy_c_ne (by decide)]; exact h1)
  rw [yy_c_ne (by decide), yy_c_ne (by decide)] at g
  exact ⟨m2, c_1106, e, g, fun c c1 c2 c3 c4 => by rw [f c c1 c3 c4, yy_c_ne c2], fun k hk => by rw [f 77 (by decide) (by decide) (by decide), yy_c_eq, yy_cp0 hk]⟩
/-! and is laid back -/
set_option maxRecDepth 20000 in
theorem c_lay {m m3 : Nat → Nat → Int} {n : Nat} {st : Int} (hW : sg_W (m 75) 0) (h1 : m 75 1 + n ≤ 20000) (h75 : m3 75 = sg_go st n (m 75)) (h77 : ∀ k, k < 339 → m3 77 k = m 75 k) : yy_c m3 75 (yy_cp (m3 77) (m3 75) 0 0 339) = yy_c m3 75 (m 75) := by
  rw [yy_back h77 (fun k hk => by rw [h75]; exact (sg_go_W n (m 75) hW h1).2.2 k (Or.inr hk) (by omega) (by omega))]
set_option maxRecDepth 20000 in
theorem a_119 {sc : List Int} {t : xm_W} {m : Nat → Nat → Int} {x1 x2 x3 : Int} (hI : yy_I t m) : yy_A sc t m 119 1172 [.inl x1, .inl x2, .inl x3] true := by
  by_cases h : (0 ≤ x1 ∧ x1 ≤ 24) ∧ (0 ≤ x2 ∧ x2 ≤ m 1 4 - 1) ∧ (0 ≤ x3 ∧ x3 ≤ 19)
  · obtain ⟨⟨e0, e3, e1, e2⟩, hR⟩ := yy_I_0 hI
    have hG := hI.1
    have b0 := hR.1
    obtain ⟨r, rfl⟩ : ∃ r : Nat, x2 = r := ⟨x2.toNat, by omega⟩
    obtain ⟨w1, w2, w3⟩ := sg_go_W (st := -1) x1.toNat (m 75) hG.1 (by have := hG.2.1; omega)
    obtain ⟨m1, c1, g1, g2⟩ := c_140g (sc := sc) (d := 91) (t := t) (m := m) h.1 hI.2.1 hG.1 (by have := hG.2.1; omega)
    have X1 : xm_X (xm_old sc) xm_mt (99 + 1) 119 [.inr (.inl (some 0)), .inl x1, .inl (r : Int), .inl x3] (yy_W m t) = some (some (.inl (sg_rf (sg_go (-1) x1.toNat (m 75)) r x3)), yy_W m1 t) := by
      refine xm_X_of (M := xm_m119) rfl ⟨xm_EQ.eq (xb_119_0 ?_), rfl, rfl, Nat.le_of_ble_eq_true rfl, yy_hd rfl (by decide)⟩
      rw [oc_142 (d := 98), zz_t h.1, oc_141 (d := 97) (by omega) (by omega), zz_t h.2.1, oc_144 (d := 97), zz_t h.2.2, c1, xm_Ov_some, zr_0_1, oc_412_18 (d := 96) (by omega) g2.1 w1.1 h.2.2]
    have f75 : m1 75 = m 75 := g1 75 (by omega)
    have f74 : m1 74 = m 74 := g1 74 (by omega)
    obtain ⟨m2, k1, k2, k3, k4, k5⟩ := c_look (sc := sc) (d := 90) (t := t) (m := m1) (n := x1) h.1 (by rw [f75]; exact hG.1) (by rw [f75]; have := hG.2.1; omega)
    rw [f74, hI.2.2.2.2.2.1, f75] at k3
    have L := c_lay (m := m) (m3 := m2) (n := x1.toNat) (st := -1) hG.1 (by have := hG.2.1; omega) k3 (fun k hk => by rw [k5 k hk, f75])
    have X2 : xm_X (xm_old sc) xm_mt (99 + 1) 1172 [.inr (.inl (some 74)), .inl x1, .inl (r : Int), .inl x3] (yy_W m1 t) = some (some (.inl (sg_rf (sg_go (-1) x1.toNat (m 75)) r x3)), yy_W (yy_c m2 75 (m 75)) t) := by
      refine xm_X_of (M := xm_m1172) rfl ⟨xm_EQ.eq (xb_1172_0 ?_), rfl, rfl, Nat.le_of_ble_eq_true rfl, yy_hd rfl (by decide)⟩
      rw [oc_1171 (d := 97), zz_t h.1, oc_1109 (d := 97) (by rw [f75]; omega) (by rw [f75]; omega), zz_t (by rw [f75]; omega), oc_1103 (d := 98), zz_t h.2.2, oc_1106 (d := 97)]
      rw [show xm_X (xm_old sc) xm_mt 99 1157 [.inr (.inl (some 74)), .inl x1] (yy_W (yy_c m1 77 (yy_cp (m1 75) (m1 77) 0 0 339)) t) = _ from k2, xm_Ov_some, oc_1144 (d := 96) (by omega) k3 w1.1 h.2.2, oc_1107 (d := 97), L]
    refine yy_Ao X1 X2 (yy_I_n (fun c hc => ?_) hI) ?_ rfl
    · by_cases e : c = 75
      · subst e; rw [yy_c_eq]
      · unfold yy_no at hc
        rw [yy_c_ne e, k4 c e (by omega) (by omega) (by omega), g1 c (by omega)]
    · rw [yy_c_ne (by decide), k4 0 (by decide) (by decide) (by decide) (by decide), g1 0 (by omega)]
  · exact r_119 hI h
set_option maxRecDepth 20000 in
theorem a_120 {sc : List Int} {t : xm_W} {m : Nat → Nat → Int} {x1 x2 x3 : Int} (hI : yy_I t m) : yy_A sc t m 120 1173 [.inl x1, .inl x2, .inl x3] true := by
  by_cases h : (0 ≤ x1 ∧ x1 ≤ 24) ∧ (0 ≤ x2 ∧ x2 ≤ 35) ∧ (0 ≤ x3 ∧ x3 ≤ 4)
  · have hG := hI.1
    obtain ⟨w1, w2, w3⟩ := sg_go_W (st := -1) x1.toNat (m 75) hG.1 (by have := hG.2.1; omega)
    obtain ⟨m1, c1, g1, g2⟩ := c_140g (sc := sc) (d := 91) (t := t) (m := m) h.1 hI.2.1 hG.1 (by have := hG.2.1; omega)
    obtain ⟨m1', c1', g1'⟩ := c_413_18g (sc := sc) (d := 94) (t := t) (m := m1) (y := x3) g2 w1 h.2.1
    have X1 : xm_X (xm_old sc) xm_mt (99 + 1) 120 [.inr (.inl (some 0)), .inl x1, .inl x2, .inl x3] (yy_W m t) = some (some (.inl (sg_cf (sg_go (-1) x1.toNat (m 75)) x2 x3)), yy_W m1' t) := by
      refine xm_X_of (M := xm_m120) rfl ⟨xm_EQ.eq (xb_120_0 ?_), rfl, rfl, Nat.le_of_ble_eq_true rfl, yy_hd rfl (by decide)⟩
      rw [oc_142 (d := 98), zz_t h.1, oc_143 (d := 97), zz_t h.2.1, oc_145 (d := 97), zz_t h.2.2, c1, xm_Ov_some, zr_0_1, c1', xm_Oi_some]
    have f75 : m1' 75 = m 75 := by rw [g1' 75 (by decide) (by decide), g1 75 (by omega)]
    have f74 : m1' 74 = m 74 := by rw [g1' 74 (by decide) (by decide), g1 74 (by omega)]
    obtain ⟨m2, k1, k2, k3, k4, k5⟩ := c_look (sc := sc) (d := 90) (t := t) (m := m1') (n := x1) h.1 (by rw [f75]; exact hG.1) (by rw [f75]; have := hG.2.1; omega)
    rw [f74, hI.2.2.2.2.2.1, f75] at k3
    obtain ⟨m3, j1, j2⟩ := c_1167 (sc := sc) (d := 94) (t := t) (m := m2) (y := x3) k3 w1 h.2.1
    have L := c_lay (m := m) (m3 := m3) (n := x1.toNat) (st := -1) hG.1 (by have := hG.2.1; omega) (by rw [j2 75 (by decide) (by decide)]; exact k3) (fun k hk => by rw [j2 77 (by decide) (by decide), k5 k hk, f75])
    have X2 : xm_X (xm_old sc) xm_mt (99 + 1) 1173 [.inr (.inl (some 74)), .inl x1, .inl x2, .inl x3] (yy_W m1' t) = some (some (.inl (sg_cf (sg_go (-1) x1.toNat (m 75)) x2 x3)), yy_W (yy_c m3 75 (m 75)) t) := by
      refine xm_X_of (M := xm_m1173) rfl ⟨xm_EQ.eq (xb_1173_0 ?_), rfl, rfl, Nat.le_of_ble_eq_true rfl, yy_hd rfl (by decide)⟩
      rw [oc_1171 (d := 97), zz_t h.1, oc_1108 (d := 97), zz_t h.2.1, oc_1103 (d := 98), zz_t h.2.2, oc_1106 (d := 97)]
      rw [show xm_X (xm_old sc) xm_mt 99 1157 [.inr (.inl (some 74)), .inl x1] (yy_W (yy_c m1' 77 (yy_cp (m1' 75) (m1' 77) 0 0 339)) t) = _ from k2, xm_Ov_some, j1, xm_Oi_some, oc_1107 (d := 97), L]
    refine yy_Ao X1 X2 (yy_I_n (fun c hc => ?_) hI) ?_ rfl
    · by_cases e : c = 75
      · subst e; rw [yy_c_eq]
      · unfold yy_no at hc
        rw [yy_c_ne e, j2 c (by omega) (by omega), k4 c e (by omega) (by omega) (by omega), g1' c (by omega) (by omega), g1 c (by omega)]
    · rw [yy_c_ne (by decide), j2 0 (by decide) (by decide), k4 0 (by decide) (by decide) (by decide) (by decide), g1' 0 (by decide) (by decide), g1 0 (by omega)]
  · exact r_120 hI h
set_option maxRecDepth 20000 in
theorem a_113 {sc : List Int} {t : xm_W} {m : Nat → Nat → Int} {x1 : Int} (hI : yy_I t m) : yy_A sc t m 113 1158 [.inl x1] true := by
  by_cases h : 1 ≤ x1 ∧ x1 ≤ 24
  · obtain ⟨⟨e0, e3, e1, e2⟩, hR⟩ := yy_I_0 hI
    have hG := hI.1
    have b1 := hR.2.1
    by_cases h2 : 9999 < m 75 1 + x1
    · have X1 : xm_X (xm_old sc) xm_mt (99 + 1) 113 [.inr (.inl (some 0)), .inl x1] (yy_W m t) = some (some (.inl (-1000000003)), yy_W (yy_e m 3) t) := by
        refine xm_X_of (M := xm_m113) rfl ⟨xm_EQ.eq (xb_113_0 ?_), rfl, rfl, Nat.le_of_ble_eq_true rfl, yy_hd rfl (by decide)⟩
        simp (disch := first | omega | (unfold xm_w; omega)) only [↓zy_at, xm_O_some, xm_Oi_some, xm_Ov_some, xm_Oq_some, ↓reduceIte, ↓zz_t, ↓zz_f, ↓zi_t, ↓zi_f, eq_self, yy_d_0, Int.reduceEq, Int.reduceLT, Int.reduceLE, Int.reduceNe, Int.reduceToNat, Int.reduceAdd, Int.reduceSub, Int.reduceMul, Int.reduceNeg, Nat.reduceAdd, Nat.reduceMul, Nat.reduceSub, Nat.reduceEqDiff, Nat.reduceLT, ne_eq, not_false_eq_true, not_true_eq_false, true_and, and_true, and_self, yy_s_eq, yy_s_ne, yy_c_eq, yy_c_ne, yy_u_eq, yy_u_ne, xm_w_id, yy_at, tdiv_pos, tmod_pos, ↓oc_142, ↓zr_0_0, ↓zr_0_1, ↓zr_0_2, ↓zr_0_3, ↓zr_0_4, ↓zf_0_5, ↓zs_0_5, ↓zr_0_6, ↓zr_0_7, ↓zr_0_8, ↓zr_0_9, ↓zr_0_10, ↓zr_1_0, ↓zf_1_1, ↓zs_1_1, ↓zf_1_2, ↓zs_1_2, ↓zr_1_3, ↓zf_1_4, ↓zs_1_4, ↓zr_1_5, ↓zf_1_6, ↓zs_1_6, ↓zr_1_7, ↓zr_1_8, ↓zr_1_9, e1, ↓oc_139]
      have X2 : xm_X (xm_old sc) xm_mt (99 + 1) 1158 [.inr (.inl (some 74)), .inl x1] (yy_W (yy_e m 3) t) = some (some (.inl (-1000000003)), yy_W (yy_f (yy_e m 3) 3) t) := by
        have f : yy_e m 3 75 = m 75 := yy_e75 (by decide)
        refine xm_X_of (M := xm_m1158) rfl ⟨xm_EQ.eq (xb_1158_0 ?_), rfl, rfl, Nat.le_of_ble_eq_true rfl, yy_hd rfl (by decide)⟩
        simp (disch := first | omega | (unfold xm_w; omega)) only [↓zy_at, xm_O_some, xm_Oi_some, xm_Ov_some, xm_Oq_some, ↓reduceIte, ↓zz_t, ↓zz_f, ↓zi_t, ↓zi_f, eq_self, yy_d_0, Int.reduceEq, Int.reduceLT, Int.reduceLE, Int.reduceNe, Int.reduceToNat, Int.reduceAdd, Int.reduceSub, Int.reduceMul, Int.reduceNeg, Nat.reduceAdd, Nat.reduceMul, Nat.reduceSub, Nat.reduceEqDiff, Nat.reduceLT, ne_eq, not_false_eq_true, not_true_eq_false, true_and, and_true, and_self, yy_s_eq, yy_s_ne, yy_c_eq, yy_c_ne, yy_u_eq, yy_u_ne, xm_w_id, yy_at, tdiv_pos, tmod_pos, ↓oc_1103, ↓zr_74_0, ↓zr_74_1, ↓zr_74_2, ↓zf_74_3, ↓zs_74_3, ↓zf_74_4, ↓zs_74_4, ↓zr_74_5, ↓zf_74_6, ↓zs_74_6, ↓zf_74_7, ↓zs_74_7, ↓zf_74_8, ↓zs_74_8, ↓zf_74_9, ↓zs_74_9, ↓zr_74_10, ↓zr_74_11, ↓zr_74_12, ↓zf_74_13, ↓zs_74_13, ↓zr_74_14, ↓zf_74_15, ↓zs_74_15, ↓zf_74_16, ↓zs_74_16, ↓zf_74_17, ↓zs_74_17, ↓zr_74_18, ↓zr_74_19, ↓zr_74_20, ↓zr_74_21, ↓zi_75, ↓zt_75, f, ↓oc_1102]
      exact yy_Ao X1 X2 (yy_I_ef hI) yy_ef0 rfl
    · obtain ⟨w1, w2, w3⟩ := sg_go_W (st := -1) x1.toNat (m 75) hG.1 (by omega)
      obtain ⟨m1, c1, g1, g2⟩ := c_404_1g (sc := sc) (d := 92) (t := t) (m := m) (n := x1) (by omega) hI.2.1 hG.1 (by omega)
      have X1 : xm_X (xm_old sc) xm_mt (99 + 1) 113 [.inr (.inl (some 0)), .inl x1] (yy_W m t) = some (some (.inl (sg_go (-1) x1.toNat (m 75) 3)), yy_W m1 t) := by
        refine xm_X_of (M := xm_m113) rfl ⟨xm_EQ.eq (xb_113_0 ?_), rfl, rfl, Nat.le_of_ble_eq_true rfl, yy_hd rfl (by decide)⟩
        simp (disch := first | omega | (unfold xm_w; omega)) only [↓zy_at, xm_O_some, xm_Oi_some, xm_Ov_some, xm_Oq_some, ↓reduceIte, ↓zz_t, ↓zz_f, ↓zi_t, ↓zi_f, eq_self, yy_d_0, Int.reduceEq, Int.reduceLT, Int.reduceLE, Int.reduceNe, Int.reduceToNat, Int.reduceAdd, Int.reduceSub, Int.reduceMul, Int.reduceNeg, Nat.reduceAdd, Nat.reduceMul, Nat.reduceSub, Nat.reduceEqDiff, Nat.reduceLT, ne_eq, not_false_eq_true, not_true_eq_false, true_and, and_true, and_self, yy_s_eq, yy_s_ne, yy_c_eq, yy_c_ne, yy_u_eq, yy_u_ne, xm_w_id, yy_at, tdiv_pos, tmod_pos, ↓oc_142, ↓zr_0_0, ↓zr_0_1, ↓zr_0_2, ↓zr_0_3, ↓zr_0_4, ↓zf_0_5, ↓zs_0_5, ↓zr_0_6, ↓zr_0_7, ↓zr_0_8, ↓zr_0_9, ↓zr_0_10, ↓zr_1_0, ↓zf_1_1, ↓zs_1_1, ↓zf_1_2, ↓zs_1_2, ↓zr_1_3, ↓zf_1_4, ↓zs_1_4, ↓zr_1_5, ↓zf_1_6, ↓zs_1_6, ↓zr_1_7, ↓zr_1_8, ↓zr_1_9, e1]
        rw [c1]
        simp (disch := first | omega | (unfold xm_w; omega)) only [↓zy_at, xm_O_some, xm_Oi_some, xm_Ov_some, xm_Oq_some, ↓reduceIte, ↓zz_t, ↓zz_f, ↓zi_t, ↓zi_f, eq_self, yy_d_0, Int.reduceEq, Int.reduceLT, Int.reduceLE, Int.reduceNe, Int.reduceToNat, Int.reduceAdd, Int.reduceSub, Int.reduceMul, Int.reduceNeg, Nat.reduceAdd, Nat.reduceMul, Nat.reduceSub, Nat.reduceEqDiff, Nat.reduceLT, ne_eq, not_false_eq_true, not_true_eq_false, true_and, and_true, and_self, yy_s_eq, yy_s_ne, yy_c_eq, yy_c_ne, yy_u_eq, yy_u_ne, xm_w_id, yy_at, tdiv_pos, tmod_pos, ↓zr_0_0, ↓zr_0_1, ↓zr_0_2, ↓zr_0_3, ↓zr_0_4, ↓zf_0_5, ↓zs_0_5, ↓zr_0_6, ↓zr_0_7, ↓zr_0_8, ↓zr_0_9, ↓zr_0_10, ↓zr_1_0, ↓zf_1_1, ↓zs_1_1, ↓zf_1_2, ↓zs_1_2, ↓zr_1_3, ↓zf_1_4, ↓zs_1_4, ↓zr_1_5, ↓zf_1_6, ↓zs_1_6, ↓zr_1_7, ↓zr_1_8, ↓zr_1_9, g2.1.2.2.2.1]
      have f75 : m1 75 = m 75 := g1 75 (by omega)
      have f74 : m1 74 = m 74 := g1 74 (by omega)
      obtain ⟨m2, c2, k1, k2⟩ := c_1157 (sc := sc) (d := 90) (t := t) (m := m1) (n := x1) (by omega) (by rw [f75]; exact hG.1) (by rw [f75]; omega)
      rw [f74, hI.2.2.2.2.2.1, f75] at k2
      have X2 : xm_X (xm_old sc) xm_mt (99 + 1) 1158 [.inr (.inl (some 74)), .inl x1] (yy_W m1 t) = some (some (.inl (sg_go (-1) x1.toNat (m 75) 3)), yy_W m2 t) := by
        refine xm_X_of (M := xm_m1158) rfl ⟨xm_EQ.eq (xb_1158_0 ?_), rfl, rfl, Nat.le_of_ble_eq_true rfl, yy_hd rfl (by decide)⟩
        simp (disch := first | omega | (unfold xm_w; omega)) only [↓zy_at, xm_O_some, xm_Oi_some, xm_Ov_some, xm_Oq_some, ↓reduceIte, ↓zz_t, ↓zz_f, ↓zi_t, ↓zi_f, eq_self, yy_d_0, Int.reduceEq, Int.reduceLT, Int.reduceLE, Int.reduceNe, Int.reduceToNat, Int.reduceAdd, Int.reduceSub, Int.reduceMul, Int.reduceNeg, Nat.reduceAdd, Nat.reduceMul, Nat.reduceSub, Nat.reduceEqDiff, Nat.reduceLT, ne_eq, not_false_eq_true, not_true_eq_false, true_and, and_true, and_self, yy_s_eq, yy_s_ne, yy_c_eq, yy_c_ne, yy_u_eq, yy_u_ne, xm_w_id, yy_at, tdiv_pos, tmod_pos, ↓oc_1103, ↓zr_74_0, ↓zr_74_1, ↓zr_74_2, ↓zf_74_3, ↓zs_74_3, ↓zf_74_4, ↓zs_74_4, ↓zr_74_5, ↓zf_74_6, ↓zs_74_6, ↓zf_74_7, ↓zs_74_7, ↓zf_74_8, ↓zs_74_8, ↓zf_74_9, ↓zs_74_9, ↓zr_74_10, ↓zr_74_11, ↓zr_74_12, ↓zf_74_13, ↓zs_74_13, ↓zr_74_14, ↓zf_74_15, ↓zs_74_15, ↓zf_74_16, ↓zs_74_16, ↓zf_74_17, ↓zs_74_17, ↓zr_74_18, ↓zr_74_19, ↓zr_74_20, ↓zr_74_21, ↓zi_75, ↓zt_75, f75]
        rw [c2]
        simp (disch := first | omega | (unfold xm_w; omega)) only [↓zy_at, xm_O_some, xm_Oi_some, xm_Ov_some, xm_Oq_some, ↓reduceIte, ↓zz_t, ↓zz_f, ↓zi_t, ↓zi_f, eq_self, yy_d_0, Int.reduceEq, Int.reduceLT, Int.reduceLE, Int.reduceNe, Int.reduceToNat, Int.reduceAdd, Int.reduceSub, Int.reduceMul, Int.reduceNeg, Nat.reduceAdd, Nat.reduceMul, Nat.reduceSub, Nat.reduceEqDiff, Nat.reduceLT, ne_eq, not_false_eq_true, not_true_eq_false, true_and, and_true, and_self, yy_s_eq, yy_s_ne, yy_c_eq, yy_c_ne, yy_u_eq, yy_u_ne, xm_w_id, yy_at, tdiv_pos, tmod_pos, ↓zr_74_0, ↓zr_74_1, ↓zr_74_2, ↓zf_74_3, ↓zs_74_3, ↓zf_74_4, ↓zs_74_4, ↓zr_74_5, ↓zf_74_6, ↓zs_74_6, ↓zf_74_7, ↓zs_74_7, ↓zf_74_8, ↓zs_74_8, ↓zf_74_9, ↓zs_74_9, ↓zr_74_10, ↓zr_74_11, ↓zr_74_12, ↓zf_74_13, ↓zs_74_13, ↓zr_74_14, ↓zf_74_15, ↓zs_74_15, ↓zf_74_16, ↓zs_74_16, ↓zf_74_17, ↓zs_74_17, ↓zr_74_18, ↓zr_74_19, ↓zr_74_20, ↓zr_74_21, ↓zi_75, ↓zt_75, k2]
      refine yy_Ao X1 X2 (yy_I_mo hI (by rw [k2]; exact w1) (by rw [k2, w2]; omega) ?_ (fun k hk => by rw [k2]; exact w3 k (by omega) (by omega) (by omega)) (fun c hc a b e => ?_)) ?_ rfl
      · rw [k2]; exact yy_MX_r (fun c hc => k1 c (by omega) (by omega) (by omega)) g2
      · unfold yy_no at a
        rw [k1 c e (by omega) (by omega), g1 c (by omega)]
      · rw [k1 0 (by decide) (by decide) (by decide), g1 0 (by omega)]
  · exact r_113 hI h
