def yy_F3 (m m' : Nat → Nat → Int) : Prop := ∀ c, c ≠ 75 → c ≠ 80 → c ≠ 81 → m' c = m c
set_option maxRecDepth 20000 in
theorem c_1155 {sc : List Int} {d : Nat} {t : xm_W} {m : Nat → Nat → Int} {r : Nat} (hr : r < 5) (hW : sg_W (m 75) r) (h : m 75 (49 + 18 * r) < m 75 (48 + 18 * r)) : ∃ m', xm_X (xm_old sc) xm_mt (d + 7) 1155 [.inr (.inl (some 74)), .inl ((r : Int))] (yy_W m t) = some (none, yy_W m' t) ∧ yy_F3 m m' ∧ m' 75 = sg_rd (m 75) r := by
  have key : ∀ {Q : Option xm_V × xm_W → Prop}, (∀ m', (yy_F3 m m' ∧ m' 75 = sg_rd (m 75) r) → Q (none, yy_W m' t)) → xm_EQ (xm_old sc) xm_sta (xm_X (xm_old sc) xm_mt (d + 6)) xm_m1155.2.2.2.2.2.2.2 0 (xm_loc xm_m1155.2.2.1 [.inr (.inl (some 74)), .inl ((r : Int))]) [] (yy_W m t) Q := by
    intro Q hQ
    have hR := hW.1
    have hw := sg_way_r hr hR h
    obtain ⟨b0, b1, b2, b3, hso, hrd⟩ := id hR
    obtain ⟨a0, a1, a2, a3, a4, a5, a6⟩ := hrd r hr
    refine xb_1155_0 ?_
    rw [oc_1110_5 hr, oc_1110_6 hr (by omega), oc_1110_2 hr, oc_1139 a2.1 (by omega)]
    have eway : m 75 (50 + 18 * r + (m 75 (49 + 18 * r)).toNat) = sg_way (m 75) r := rfl
    rw [eway, xm_w_id (z := m 75 (49 + 18 * r) + 1) (by omega) (by omega)]
    by_cases e : sp_next (m 75 (46 + 18 * r)) (sg_way (m 75) r) = -1
    · rw [if_pos e, oc_1111_5 hr]
      refine hQ _ ⟨fun c c1 c2 c3 => yy_c_ne c1, ?_⟩
      unfold sg_rd
      rw [if_pos e, yy_c_eq]
    · rw [if_neg e]
      obtain ⟨m1, e1, f1, g1⟩ := c_1154 (sc := sc) (d := d) (t := t) (m := m) (r := r) (step := m 75 (49 + 18 * r)) hr hW hw a5.1
      rw [e1, xm_Ov_some, oc_1111_2 hr, oc_1111_5 hr]
      refine hQ _ ⟨fun c c1 c2 c3 => by rw [yy_c_ne c1, yy_c_ne c1]; exact f1 c c1 c2 c3, ?_⟩
      unfold sg_rd
      rw [if_neg e, yy_c_eq, yy_c_eq, g1]
  obtain ⟨q, h1, m', h2, h3⟩ := yx_of (y := 1155) (M := xm_m1155) (sc := sc) (d := d + 6) (as := [.inr (.inl (some 74)), .inl ((r : Int))]) (w := yy_W m t) (Q := fun q => ∃ m', q = (none, yy_W m' t) ∧ (yy_F3 m m' ∧ m' 75 = sg_rd (m 75) r)) rfl (key fun m' h => ⟨m', rfl, h⟩) (fun q ⟨m', h, _⟩ => by rw [h]; rfl) rfl (Nat.le_of_ble_eq_true rfl) (yy_hd rfl (by decide))
  exact ⟨m', by rw [h1, h2], h3⟩
set_option maxRecDepth 20000 in
theorem sg_hl_s {st : Int} {k r : Nat} {s : Nat → Int} : sg_hl st (k + 1) r s = sg_hl st k (r + 1) (if (r : Int) ≠ st ∧ s (49 + 18 * r) < s (48 + 18 * r) then sg_rd s r else s) := rfl
set_option maxRecDepth 20000 in
theorem l_1156 {sc : List Int} {d : Nat} {t : xm_W} {Q : Option xm_V × xm_W → Prop} {m0 : Nat → Nat → Int} {n : Int} (hn : n = m0 75 0) (h1 : m0 75 1 < 20000) (hW0 : sg_W (m0 75) 0) (hQ : ∀ m', yy_F3 m0 m' → m' 75 = sg_hour (m0 74 3) (m0 75) → Q ((none, (yy_W (m') t)))) : ∀ (k r : Nat) (m : Nat → Nat → Int), ((r + k : Nat) : Int) = n → sg_W (m 75) r → yy_F3 m0 m → m 75 0 = m0 75 0 → m 75 1 = m0 75 1 → sg_hl (m0 74 3) k r (m 75) = sg_hl (m0 74 3) (m0 75 0).toNat 0 (m0 75) → xm_EQ (xm_old sc) xm_sta (xm_X (xm_old sc) xm_mt (d + 7)) xm_c1156 2 [some (.inr (.inl (some 74))), some (.inl ((r : Int)))] [] (yy_W (m) t) Q
  | 0, r, m, hk, hW, hF, h0, h2, hh => by
    refine xb_1156_2 ?_
    have hB := sg_h1_B (st := m0 74 3) hW0 h1
    have b1 := hW.1.2.1
    simp (disch := first | omega | (unfold xm_w; omega)) only [↓zy_at, xm_O_some, xm_Oi_some, xm_Ov_some, xm_Oq_some, ↓reduceIte, ↓zz_t, ↓zz_f, ↓zi_t, ↓zi_f, eq_self, yy_d_0, Int.reduceEq, Int.reduceLT, Int.reduceLE, Int.reduceNe, Int.reduceToNat, Int.reduceAdd, Int.reduceSub, Int.reduceMul, Int.reduceNeg, Nat.reduceAdd, Nat.reduceMul, Nat.reduceSub, Nat.reduceEqDiff, Nat.reduceLT, ne_eq, not_false_eq_true, not_true_eq_false, true_and, and_true, and_self, yy_s_eq, yy_s_ne, yy_c_eq, yy_c_ne, yy_u_eq, yy_u_ne, xm_w_id, yy_at, tdiv_pos, tmod_pos, ↓zr_74_0, ↓zr_74_1, ↓zr_74_2, ↓zf_74_3, ↓zs_74_3, ↓zf_74_4, ↓zs_74_4, ↓zr_74_5, ↓zf_74_6, ↓zs_74_6, ↓zf_74_7, ↓zs_74_7, ↓zf_74_8, ↓zs_74_8, ↓zf_74_9, ↓zs_74_9, ↓zr_74_10, ↓zr_74_11, ↓zr_74_12, ↓zf_74_13, ↓zs_74_13, ↓zr_74_14, ↓zf_74_15, ↓zs_74_15, ↓zf_74_16, ↓zs_74_16, ↓zf_74_17, ↓zs_74_17, ↓zr_74_18, ↓zr_74_19, ↓zr_74_20, ↓zr_74_21, ↓zi_75, ↓zt_75, h0]
    have hh2 : m 75 = sg_hl (m0 74 3) (m0 75 0).toNat 0 (m0 75) := hh
    have e : yy_s m 75 1 (m 75 1 + 1) = yy_c m 75 (sg_h1 (m0 74 3) (m0 75)) := by
      unfold yy_s sg_h1; rw [← hh2]
    rw [e, oc_1132 (d := d + 2) (by
      rw [yy_c_eq]
      obtain ⟨x1, x2, x3, x4, x5, x6, x7⟩ := hB
      refine ⟨?_, by omega, fun i hi => ⟨(x6.1 i hi).1.1, (x6.1 i hi).1.2.2.2.1⟩⟩
      rw [x5 2 (Or.inl (by decide)) (by decide) (by decide)]
      exact hW0.1.2.2.1), yy_c_eq, yy_c_c]
    refine hQ _ (fun c c1 c2 c3 => by rw [yy_c_ne c1]; exact hF c c1 c2 c3) ?_
    rw [yy_c_eq]; rfl
  | k + 1, r, m, hk, hW, hF, h0, h2, hh => by
    have hn5 := hW0.1.1
    refine xb_1156_2 ?_
    simp (disch := first | omega | (unfold xm_w; omega)) only [↓zy_at, xm_O_some, xm_Oi_some, xm_Ov_some, xm_Oq_some, ↓reduceIte, ↓zz_t, ↓zz_f, ↓zi_t, ↓zi_f, eq_self, yy_d_0, Int.reduceEq, Int.reduceLT, Int.reduceLE, Int.reduceNe, Int.reduceToNat, Int.reduceAdd, Int.reduceSub, Int.reduceMul, Int.reduceNeg, Nat.reduceAdd, Nat.reduceMul, Nat.reduceSub, Nat.reduceEqDiff, Nat.reduceLT, ne_eq, not_false_eq_true, not_true_eq_false, true_and, and_true, and_self, yy_s_eq, yy_s_ne, yy_c_eq, yy_c_ne, yy_u_eq, yy_u_ne, xm_w_id, yy_at, tdiv_pos, tmod_pos, ↓zr_74_0, ↓zr_74_1, ↓zr_74_2, ↓zf_74_3, ↓zs_74_3, ↓zf_74_4, ↓zs_74_4, ↓zr_74_5, ↓zf_74_6, ↓zs_74_6, ↓zf_74_7, ↓zs_74_7, ↓zf_74_8, ↓zs_74_8, ↓zf_74_9, ↓zs_74_9, ↓zr_74_10, ↓zr_74_11, ↓zr_74_12, ↓zf_74_13, ↓zs_74_13, ↓zr_74_14, ↓zf_74_15, ↓zs_74_15, ↓zf_74_16, ↓zs_74_16, ↓zf_74_17, ↓zs_74_17, ↓zr_74_18, ↓zr_74_19, ↓zr_74_20, ↓zr_74_21, ↓zi_75, ↓zt_75, h0, hF 74, ↓oc_1110_5, ↓oc_1110_4]
    have next : ∀ m1 : Nat → Nat → Int, sg_W (m1 75) (r + 1 : Nat) → yy_F3 m0 m1 → m1 75 0 = m0 75 0 → m1 75 1 = m0 75 1 → sg_hl (m0 74 3) k (r + 1) (m1 75) = sg_hl (m0 74 3) (m0 75 0).toNat 0 (m0 75) → xm_EQ (xm_old sc) xm_sta (xm_X (xm_old sc) xm_mt (d + 7)) xm_c1156 2 [some (.inr (.inl (some 74))), some (.inl ((r : Int) + 1))] [] (yy_W (m1) t) Q := by
      intro m1 a1 a2 a3 a4 a5
      have := l_1156 (sc := sc) (d := d) (t := t) (Q := Q) hn h1 hW0 hQ k (r + 1) m1 (by omega) a1 a2 a3 a4 a5
      rw [show ((r + 1 : Nat) : Int) = (r : Int) + 1 by omega] at this
      exact this
    rw [sg_hl_s] at hh
    by_cases g : (r : Int) = m0 74 3
    · rw [if_pos g]
      rw [if_neg (fun h => h.1 g)] at hh
      exact next m (sg_W_mono (by omega) hW) hF h0 h2 hh
    · rw [if_neg g]
      by_cases g2 : m 75 (49 + 18 * r) < m 75 (48 + 18 * r)
      · rw [if_pos g2]
        rw [if_pos ⟨g, g2⟩] at hh
        obtain ⟨m1, e1, f1, g1⟩ := c_1155 (sc := sc) (d := d) (t := t) (m := m) (r := r) (by omega) hW g2
        obtain ⟨w1, w2⟩ := sg_rd_W (by omega) hW g2
        rw [e1, xm_Ov_some]
        refine next m1 (by rw [g1]; exact w1) (fun c c1 c2 c3 => by rw [f1 c c1 c2 c3]; exact hF c c1 c2 c3) ?_ ?_ (by rw [g1]; exact hh)
        · rw [g1, w2 0 (Or.inl (by decide)) (by decide) (by omega) (by omega)]; exact h0
        · rw [g1, w2 1 (Or.inl (by decide)) (by decide) (by omega) (by omega)]; exact h2
      · rw [if_neg g2]
        rw [if_neg (fun h => g2 h.2)] at hh
        exact next m (sg_W_mono (by omega) hW) hF h0 h2 hh
set_option maxRecDepth 20000 in
theorem c_1156 {sc : List Int} {d : Nat} {t : xm_W} {m : Nat → Nat → Int} (hW : sg_W (m 75) 0) (h1 : m 75 1 < 20000) : ∃ m', xm_X (xm_old sc) xm_mt (d + 8) 1156 [.inr (.inl (some 74))] (yy_W m t) = some (none, yy_W m' t) ∧ yy_F3 m m' ∧ m' 75 = sg_hour (m 74 3) (m 75) := by
  have key : ∀ {Q : Option xm_V × xm_W → Prop}, (∀ m', (yy_F3 m m' ∧ m' 75 = sg_hour (m 74 3) (m 75)) → Q (none, yy_W m' t)) → xm_EQ (xm_old sc) xm_sta (xm_X (xm_old sc) xm_mt (d + 7)) xm_m1156.2.2.2.2.2.2.2 0 (xm_loc xm_m1156.2.2.1 [.inr (.inl (some 74))]) [] (yy_W m t) Q := by
    intro Q hQ
    refine xb_1156_0 ?_
    exact l_1156 (d := d) rfl h1 hW (fun m' a b => hQ m' ⟨a, b⟩) (m 75 0).toNat 0 m (by have := hW.1.1; omega) hW (fun _ _ _ _ => rfl) rfl rfl rfl
  obtain ⟨q, h1, m', h2, h3⟩ := yx_of (y := 1156) (M := xm_m1156) (sc := sc) (d := d + 7) (as := [.inr (.inl (some 74))]) (w := yy_W m t) (Q := fun q => ∃ m', q = (none, yy_W m' t) ∧ (yy_F3 m m' ∧ m' 75 = sg_hour (m 74 3) (m 75))) rfl (key fun m' h => ⟨m', rfl, h⟩) (fun q ⟨m', h, _⟩ => by rw [h]; rfl) rfl (Nat.le_of_ble_eq_true rfl) (yy_hd rfl (by decide))
  exact ⟨m', by rw [h1, h2], h3⟩
set_option maxRecDepth 20000 in
theorem l_1157 {sc : List Int} {d : Nat} {t : xm_W} {Q : Option xm_V × xm_W → Prop} {m0 : Nat → Nat → Int} {n : Int} {s' : Nat → Int} (hn : n ≤ 24) (hQ : ∀ m', yy_F3 m0 m' → m' 75 = s' → Q ((none, (yy_W (m') t)))) : ∀ (k : Nat) (i : Int) (m : Nat → Nat → Int), n - i = k → 0 ≤ i → sg_W (m 75) 0 → m 75 1 + k ≤ 20000 → yy_F3 m0 m → sg_go (m0 74 3) k (m 75) = s' → xm_EQ (xm_old sc) xm_sta (xm_X (xm_old sc) xm_mt (d + 8)) xm_c1157 2 [some (.inr (.inl (some 74))), some (.inl (n)), some (.inl (i))] [] (yy_W (m) t) Q
  | 0, i, m, hk, hi, hW, h1, hF, hs => by
    refine xb_1157_2 ?_
    rw [if_neg (by omega)]
    exact hQ m hF hs
  | k + 1, i, m, hk, hi, hW, h1, hF, hs => by
    refine xb_1157_2 ?_
    obtain ⟨m1, e1, f1, g1⟩ := c_1156 (sc := sc) (d := d) (t := t) (m := m) hW (by omega)
    obtain ⟨w1, w2, w3⟩ := sg_hour_W (st := m 74 3) hW (by omega)
    have e74 : m 74 = m0 74 := hF 74 (by decide) (by decide) (by decide)
    rw [if_pos (by omega), e1, xm_Ov_some, xm_w_id (by omega) (by omega)]
    rw [e74] at g1 w1 w2
    refine l_1157 hn hQ k (i + 1) m1 (by omega) (by omega) (by rw [g1]; exact w1) (by rw [g1, w2]; omega) (fun c c1 c2 c3 => by rw [f1 c c1 c2 c3]; exact hF c c1 c2 c3) (by rw [g1]; exact hs)
set_option maxRecDepth 20000 in
theorem c_1157 {sc : List Int} {d : Nat} {t : xm_W} {m : Nat → Nat → Int} {n : Int} (h0 : 0 ≤ n ∧ n ≤ 24) (hW : sg_W (m 75) 0) (h1 : m 75 1 + n ≤ 20000) : ∃ m', xm_X (xm_old sc) xm_mt (d + 9) 1157 [.inr (.inl (some 74)), .inl (n)] (yy_W m t) = some (none, yy_W m' t) ∧ yy_F3 m m' ∧ m' 75 = sg_go (m 74 3) n.toNat (m 75) := by
  have key : ∀ {Q : Option xm_V × xm_W → Prop}, (∀ m', (yy_F3 m m' ∧ m' 75 = sg_go (m 74 3) n.toNat (m 75)) → Q (none, yy_W m' t)) → xm_EQ (xm_old sc) xm_sta (xm_X (xm_old sc) xm_mt (d + 8)) xm_m1157.2.2.2.2.2.2.2 0 (xm_loc xm_m1157.2.2.1 [.inr (.inl (some 74)), .inl (n)]) [] (yy_W m t) Q := by
    intro Q hQ
    refine xb_1157_0 ?_
    exact l_1157 (d := d) h0.2 (fun m' a b => hQ m' ⟨a, b⟩) n.toNat 0 m (by omega) (by decide) hW (by omega) (fun _ _ _ _ => rfl) rfl
  obtain ⟨q, h1, m', h2, h3⟩ := yx_of (y := 1157) (M := xm_m1157) (sc := sc) (d := d + 8) (as := [.inr (.inl (some 74)), .inl (n)]) (w := yy_W m t) (Q := fun q => ∃ m', q = (none, yy_W m' t) ∧ (yy_F3 m m' ∧ m' 75 = sg_go (m 74 3) n.toNat (m 75))) rfl (key fun m' h => ⟨m', rfl, h⟩) (fun q ⟨m', h, _⟩ => by rw [h]; rfl) rfl (Nat.le_of_ble_eq_true rfl) (yy_hd rfl (by decide))
  exact ⟨m', by rw [h1, h2], h3⟩
