/-! DECOY: both sides -/
def sg_sy (s : Nat → Int) (r : Nat) : Nat → Int := yy_u s (49 + 18 * r) (s (48 + 18 * r))
set_option maxRecDepth 20000 in
theorem sg_sy_W {s : Nat → Int} {r : Nat} (hr : r < 5) (hW : sg_W s 0) : sg_W (sg_sy s r) 0 := by
  have o : ∀ k, k ≠ 49 + 18 * r → sg_sy s r k = s k := fun k hk => yy_u_ne hk
  obtain ⟨b0, b1, b2, b3, b4, b5, b6⟩ := hW.1.2.2.2.2.2 r hr
  refine sg_W_rd0 (fun k k0 hk => o k (by omega)) (sg_R_r hr hW.1 (fun k hk => o k (by omega)) ?_ ?_ ?_ ?_ ?_ ?_ (fun k hk => ?_)) hW
  · rw [o _ (by omega)]; exact b0
  · rw [o _ (by omega)]; exact b1
  · rw [o _ (by omega)]; exact b2
  · rw [o _ (by omega)]; exact b3
  · rw [o _ (by omega)]; exact b4
  · rw [o (48 + 18 * r) (by omega), show sg_sy s r (49 + 18 * r) = s (48 + 18 * r) from yy_u_eq]; omega
  · rw [o _ (by omega)]; exact b6 k hk
set_option maxRecDepth 20000 in
theorem sg_sy_tr {s : Nat → Int} {r n : Nat} {bl : Int} {k : Nat} {a b : Int} (hr : r < 5) (hW : sg_W s 0) (h1 : s 1 + n ≤ 20000) : sg_tr (sg_go (-1) n (sg_sy s r)) bl k a b = sg_tr (sg_go r n s) bl k a b :=
  sg_ag_tr hr (sg_ag_go hr n s (sg_sy s r) hW (sg_sy_W hr hW) h1 (fun k hk => yy_u_ne hk) (by rw [show sg_sy s r (49 + 18 * r) = s (48 + 18 * r) from yy_u_eq, show sg_sy s r (48 + 18 * r) = s (48 + 18 * r) from yy_u_ne (by omega)])) k a b
set_option maxRecDepth 20000 in
theorem c_124g {sc : List Int} {d : Nat} {t : xm_W} {m : Nat → Nat → Int} {r : Nat} {n c : Int} (hr5 : r < 5) (hn : 1 ≤ n ∧ n ≤ 12) (hc : 0 ≤ c ∧ c ≤ 35) (hI : yy_I t m) (hr : (r : Int) ≤ m 75 0 - 1) : ∃ m', xm_X (xm_old sc) xm_mt (d + 12) 124 [.inr (.inl (some 0)), .inl ((r : Int)), .inl (n), .inl (c)] (yy_W m t) = some (some (.inl (sp_far (sg_tr (sg_go (-1) n.toNat (m 75)) 0 40 c 0).1 (sg_tr (sg_go (-1) n.toNat (sg_sy (m 75) r)) 0 40 c 0).1)), yy_W m' t) ∧ ∀ c, (c < 18 ∨ 35 ≤ c) → m' c = m c := by
  have key : ∀ {Q : Option xm_V × xm_W → Prop}, (∀ m', (∀ c, (c < 18 ∨ 35 ≤ c) → m' c = m c) → Q (some (.inl (sp_far (sg_tr (sg_go (-1) n.toNat (m 75)) 0 40 c 0).1 (sg_tr (sg_go (-1) n.toNat (sg_sy (m 75) r)) 0 40 c 0).1)), yy_W m' t)) → xm_EQ (xm_old sc) xm_sta (xm_X (xm_old sc) xm_mt (d + 11)) xm_m124.2.2.2.2.2.2.2 0 (xm_loc xm_m124.2.2.1 [.inr (.inl (some 0)), .inl ((r : Int)), .inl (n), .inl (c)]) [] (yy_W m t) Q := by
    intro Q hQ
    obtain ⟨⟨e0, e3, e1, e2⟩, hR⟩ := yy_I_0 hI
    have b0 := hR.1
    have hG := hI.1
    have h9 := hG.2.1
    have hq := yy_rdn25 hr5
    have er : ((r : Int)).toNat = r := Int.toNat_natCast r
    obtain ⟨m1, y1, f1, g1⟩ := c_140g (sc := sc) (d := d + 3) (t := t) (m := m) (n := n) (by omega) hI.2.1 hG.1 (by omega)
    obtain ⟨w1, w2, w3⟩ := sg_go_W (st := -1) n.toNat (m 75) hG.1 (by omega)
    have hM : yy_MX t m1 1 (m 75) := yy_MX_r (fun c hc => f1 c (by omega)) hI.2.1
    obtain ⟨m2, y2, f2, g2⟩ := c_402_1_18 (sc := sc) (d := d + 9) (t := t) (m := m1) (yy_TX_tx hM.2.1) (yy_TX_tx hM.2.2)
    have hM2 := yy_CP_MX g2 hM
    have f4 : m2 (25 + 2 * r) 4 = m 75 (48 + 18 * r) := by rw [(hM2.1.2.2.2.2.2.2 r hr5).1 4 (by decide)]; congr 1; omega
    have hWs := sg_sy_W hr5 hG.1
    have hR3 : yy_MR (yy_s m2 (25 + 2 * r) 5 (m 75 (48 + 18 * r))) 18 (sg_sy (m 75) r) := yy_MR_r1_18 hr5 hM2.1
    have hM3 : yy_MX t (yy_s m2 (25 + 2 * r) 5 (m 75 (48 + 18 * r))) 18 (sg_sy (m 75) r) := yy_MX_fr (sg_W_T hG.1) hM2 (yy_s_ne (by omega)) hR3 (fun k hk _ => yy_u_ne (by omega))
    have k1 : sg_sy (m 75) r 1 = m 75 1 := yy_u_ne (by omega)
    obtain ⟨m4, y4, f5, g4⟩ := c_404_18g (sc := sc) (d := d + 4) (t := t) (m := yy_s m2 (25 + 2 * r) 5 (m 75 (48 + 18 * r))) (n := n) (by omega) hM3 hWs (by rw [k1]; omega)
    obtain ⟨w4, w5, w6⟩ := sg_go_W (st := -1) n.toNat (sg_sy (m 75) r) hWs (by rw [k1]; omega)
    have tb := sg_tr_b (s := sg_go (-1) n.toNat (m 75)) (bl := 0) 40 c 0 hc
    have tb2 := sg_tr_b (s := sg_go (-1) n.toNat (sg_sy (m 75) r)) (bl := 0) 40 c 0 hc
    refine xb_124_0 ?_
    rw [oc_141 (d := d + 9) (by omega) (by omega), zz_t (by omega), oc_142 (d := d + 10), zz_t hn, oc_143 (d := d + 9), zz_t hc, y1, xm_Ov_some, zr_0_1, oc_418_18g (d := d + 8) g1.1 w1 hc (by decide), if_pos rfl, show (40 : Int).toNat = 40 from rfl, zr_0_1, zr_0_0, y2, xm_Ov_some, zr_0_1, zr_18_3, zq_20, zq_r18 (by omega) (by omega), er, zr_0_1, zr_18_3, zq_20, zq_r18 (by omega) (by omega), er, xm_O_some, gf_4 hq, xm_O_some, f4, gs_5 hq, zr_0_1, y4, xm_Ov_some, zr_0_1, oc_418_18g (d := d + 8) g4.1 w4 hc (by decide), if_pos rfl, show (40 : Int).toNat = 40 from rfl, oc_149 (d := d + 10) (by omega) (by omega) (by omega) (by omega)]
    exact hQ m4 (fun c hc => by rw [f5 c (by omega), yy_s_ne (by omega), f2 c (by omega), f1 c (by omega)])
  obtain ⟨q, h1, m', h2, h3⟩ := yx_of (y := 124) (M := xm_m124) (sc := sc) (d := d + 11) (as := [.inr (.inl (some 0)), .inl ((r : Int)), .inl (n), .inl (c)]) (w := yy_W m t) (Q := fun q => ∃ m', q = (some (.inl (sp_far (sg_tr (sg_go (-1) n.toNat (m 75)) 0 40 c 0).1 (sg_tr (sg_go (-1) n.toNat (sg_sy (m 75) r)) 0 40 c 0).1)), yy_W m' t) ∧ (∀ c, (c < 18 ∨ 35 ≤ c) → m' c = m c)) rfl (key fun m' h => ⟨m', rfl, h⟩) (fun q ⟨m', h, _⟩ => by rw [h]; rfl) rfl (Nat.le_of_ble_eq_true rfl) (yy_hd rfl (by decide))
  exact ⟨m', by rw [h1, h2], h3⟩
set_option maxRecDepth 20000 in
theorem c_1179 {sc : List Int} {d : Nat} {t : xm_W} {m : Nat → Nat → Int} {n c : Int} {s : Nat → Int} (hs : m 75 = s) (hn : 0 ≤ n ∧ n ≤ 24) (hc : 0 ≤ c ∧ c ≤ 35) (hW : sg_W s 0) (h9 : s 1 + n ≤ 20000) : ∃ m', xm_X (xm_old sc) xm_mt (d + 11) 1179 [.inr (.inl (some 74)), .inl (n), .inl (c)] (yy_W m t) = some (some (.inl ((sg_tr (sg_go (m 74 3) n.toNat s) 0 40 c 0).1)), yy_W m' t) ∧ (∀ c, c ≠ 74 → c ≠ 75 → c ≠ 77 → c ≠ 80 → c ≠ 81 → m' c = m c) ∧ (∀ q, q ≠ 13 → m' 74 q = m 74 q) ∧ m' 75 = s := by
  have key : ∀ {Q : Option xm_V × xm_W → Prop}, (∀ m', ((∀ c, c ≠ 74 → c ≠ 75 → c ≠ 77 → c ≠ 80 → c ≠ 81 → m' c = m c) ∧ (∀ q, q ≠ 13 → m' 74 q = m 74 q) ∧ m' 75 = s) → Q (some (.inl ((sg_tr (sg_go (m 74 3) n.toNat s) 0 40 c 0).1)), yy_W m' t)) → xm_EQ (xm_old sc) xm_sta (xm_X (xm_old sc) xm_mt (d + 10)) xm_m1179.2.2.2.2.2.2.2 0 (xm_loc xm_m1179.2.2.1 [.inr (.inl (some 74)), .inl (n), .inl (c)]) [] (yy_W m t) Q := by
    intro Q hQ
    obtain ⟨mA, eA⟩ : ∃ mA, mA = yy_c m 77 (yy_cp (m 75) (m 77) 0 0 339) := ⟨_, rfl⟩
    have a75 : mA 75 = s := by rw [eA, yy_c_ne (by decide), hs]
    have a77 : ∀ k, k < 339 → mA 77 k = s k := fun k hk => by rw [eA, yy_c_eq, yy_cp0 hk, hs]
    have aF : ∀ c, c ≠ 77 → mA c = m c := fun c c2 => by rw [eA, yy_c_ne c2]
    have a3 : mA 74 3 = m 74 3 := by rw [aF 74 (by decide)]
    obtain ⟨m2, x2, f2, g2⟩ := c_1157 (sc := sc) (d := d + 1) (t := t) (m := mA) (n := n) hn (by rw [a75]; exact hW) (by rw [a75]; exact h9)
    rw [a3, a75] at g2
    obtain ⟨w1, w2, w3⟩ := sg_go_W (st := m 74 3) n.toNat s hW (by omega)
    obtain ⟨m3, y3, f3, q3, _⟩ := c_1169 (sc := sc) (d := d + 6) (t := t) (m := m2) (s := sg_go (m 74 3) n.toNat s) (c := c) (bl := 0) (b2 := 1) (n := 40) rfl g2 w1 hc (by decide)
    have m75 : m3 75 = sg_go (m 74 3) n.toNat s := by rw [f3 75 (by decide)]; exact g2
    have B := yy_back (f := m3 77) (g := m3 75) (s := s) (fun k hk => by rw [f3 77 (by decide), f2 77 (by decide) (by decide) (by decide)]; exact a77 k hk) (fun k hk => by rw [m75, w3 k (Or.inr hk) (by omega) (by omega)])
    refine xb_1179_0 ?_
    rw [oc_1106 (d := d + 8), ← eA, x2, xm_Ov_some, y3, xm_Oi_some, oc_1107 (d := d + 8), B]
    exact hQ _ ⟨fun c c1 c2 c3 c4 c5 => by rw [yy_c_ne c2, f3 c c1, f2 c c2 c4 c5, aF c c3], fun q hq => by rw [yy_c_ne (by decide), q3 q hq, f2 74 (by decide) (by decide) (by decide), aF 74 (by decide)], yy_c_eq⟩
  obtain ⟨q, h1, m', h2, h3⟩ := yx_of (y := 1179) (M := xm_m1179) (sc := sc) (d := d + 10) (as := [.inr (.inl (some 74)), .inl (n), .inl (c)]) (w := yy_W m t) (Q := fun q => ∃ m', q = (some (.inl ((sg_tr (sg_go (m 74 3) n.toNat s) 0 40 c 0).1)), yy_W m' t) ∧ ((∀ c, c ≠ 74 → c ≠ 75 → c ≠ 77 → c ≠ 80 → c ≠ 81 → m' c = m c) ∧ (∀ q, q ≠ 13 → m' 74 q = m 74 q) ∧ m' 75 = s)) rfl (key fun m' h => ⟨m', rfl, h⟩) (fun q ⟨m', h, _⟩ => by rw [h]; rfl) rfl (Nat.le_of_ble_eq_true rfl) (yy_hd rfl (by decide))
  exact ⟨m', by rw [h1, h2], h3⟩
set_option maxRecDepth 20000 in
theorem c_1180g {sc : List Int} {d : Nat} {t : xm_W} {m : Nat → Nat → Int} {r : Nat} {n c : Int} (hr5 : r < 5) (hn : 1 ≤ n ∧ n ≤ 12) (hc : 0 ≤ c ∧ c ≤ 35) (h3 : m 74 3 = -1) (hW : sg_W (m 75) 0) (h9 : m 75 1 ≤ 9999) (hr : (r : Int) ≤ m 75 0 - 1) : ∃ m', xm_X (xm_old sc) xm_mt (d + 13) 1180 [.inr (.inl (some 74)), .inl ((r : Int)), .inl (n), .inl (c)] (yy_W m t) = some (some (.inl (sp_far (sg_tr (sg_go (-1) n.toNat (m 75)) 0 40 c 0).1 (sg_tr (sg_go r n.toNat (m 75)) 0 40 c 0).1)), yy_W m' t) ∧ (∀ c, c ≠ 74 → c ≠ 75 → c ≠ 77 → c ≠ 80 → c ≠ 81 → m' c = m c) ∧ (∀ q, q ≠ 13 → m' 74 q = m 74 q) ∧ m' 75 = m 75 := by
  have key : ∀ {Q : Option xm_V × xm_W → Prop}, (∀ m', ((∀ c, c ≠ 74 → c ≠ 75 → c ≠ 77 → c ≠ 80 → c ≠ 81 → m' c = m c) ∧ (∀ q, q ≠ 13 → m' 74 q = m 74 q) ∧ m' 75 = m 75) → Q (some (.inl (sp_far (sg_tr (sg_go (-1) n.toNat (m 75)) 0 40 c 0).1 (sg_tr (sg_go r n.toNat (m 75)) 0 40 c 0).1)), yy_W m' t)) → xm_EQ (xm_old sc) xm_sta (xm_X (xm_old sc) xm_mt (d + 12)) xm_m1180.2.2.2.2.2.2.2 0 (xm_loc xm_m1180.2.2.1 [.inr (.inl (some 74)), .inl ((r : Int)), .inl (n), .inl (c)]) [] (yy_W m t) Q := by
    intro Q hQ
    have b0 := hW.1.1
    obtain ⟨m1, y1, f1, q1, r1⟩ := c_1179 (sc := sc) (d := d + 1) (t := t) (m := m) (n := n) (c := c) (s := m 75) rfl (by omega) hc hW (by omega)
    obtain ⟨m2, y2, f2, q2, r2⟩ := c_1179 (sc := sc) (d := d + 1) (t := t) (m := yy_s m1 74 3 (r : Int)) (n := n) (c := c) (s := m 75) (by rw [yy_s_ne (by decide)]; exact r1) (by omega) hc hW (by omega)
    rw [show yy_s m1 74 3 (r : Int) 74 3 = (r : Int) by rw [yy_s_eq, yy_u_eq]] at y2
    rw [h3] at y1
    have tb := sg_tr_b (s := sg_go (-1) n.toNat (m 75)) (bl := 0) 40 c 0 hc
    have tb2 := sg_tr_b (s := sg_go r n.toNat (m 75)) (bl := 0) 40 c 0 hc
    refine xb_1180_0 ?_
    rw [oc_1109 (d := d + 10) (by omega) (by omega), zz_t (by omega), oc_1103 (d := d + 11), zz_t hn, oc_1108 (d := d + 10), zz_t hc, y1, xm_Oi_some, zs_74_3, y2, xm_Oi_some, zs_74_3, oc_1177 (d := d + 11) (by omega) (by omega) (by omega) (by omega)]
    refine hQ _ ⟨fun c c1 c2 c3 c4 c5 => by rw [yy_s_ne c1, f2 c c1 c2 c3 c4 c5, yy_s_ne c1, f1 c c1 c2 c3 c4 c5], fun q hq => ?_, by rw [yy_s_ne (by decide)]; exact r2⟩
    rw [yy_s_eq]
    by_cases e : q = 3
    · subst e; rw [yy_u_eq, h3]
    · rw [yy_u_ne e, q2 q hq, yy_s_eq, yy_u_ne e, q1 q hq]
  obtain ⟨q, h1, m', h2, h3⟩ := yx_of (y := 1180) (M := xm_m1180) (sc := sc) (d := d + 12) (as := [.inr (.inl (some 74)), .inl ((r : Int)), .inl (n), .inl (c)]) (w := yy_W m t) (Q := fun q => ∃ m', q = (some (.inl (sp_far (sg_tr (sg_go (-1) n.toNat (m 75)) 0 40 c 0).1 (sg_tr (sg_go r n.toNat (m 75)) 0 40 c 0).1)), yy_W m' t) ∧ ((∀ c, c ≠ 74 → c ≠ 75 → c ≠ 77 → c ≠ 80 → c ≠ 81 → m' c = m c) ∧ (∀ q, q ≠ 13 → m' 74 q = m 74 q) ∧ m' 75 = m 75)) rfl (key fun m' h => ⟨m', rfl, h⟩) (fun q ⟨m', h, _⟩ => by rw [h]; rfl) rfl (Nat.le_of_ble_eq_true rfl) (yy_hd rfl (by decide))
  exact ⟨m', by rw [h1, h2], h3⟩
set_option maxRecDepth 20000 in
theorem a_124 {sc : List Int} {t : xm_W} {m : Nat → Nat → Int} {x1 x2 x3 : Int} (hI : yy_I t m) : yy_A sc t m 124 1180 [.inl x1, .inl x2, .inl x3] true := by
  by_cases h : (0 ≤ x1 ∧ x1 ≤ m 1 4 - 1) ∧ (1 ≤ x2 ∧ x2 ≤ 12) ∧ (0 ≤ x3 ∧ x3 ≤ 35)
  · obtain ⟨⟨e0, e3, e1, e2⟩, hR⟩ := yy_I_0 hI
    have b0 := hR.1
    obtain ⟨r, rfl⟩ : ∃ r : Nat, x1 = r := ⟨x1.toNat, by omega⟩
    have hr5 : r < 5 := by omega
    obtain ⟨m1, X1, f1⟩ := c_124g (sc := sc) (d := 88) (t := t) (m := m) (r := r) hr5 h.2.1 h.2.2 hI (by omega)
    have f75 : m1 75 = m 75 := f1 75 (by omega)
    obtain ⟨m2, X2, f2, q2, q3⟩ := c_1180g (sc := sc) (d := 87) (t := t) (m := m1) (r := r) hr5 h.2.1 h.2.2 (by rw [f1 74 (by omega)]; exact hI.2.2.2.2.2.1) (by rw [f75]; exact hI.1.1) (by rw [f75]; exact hI.1.2.1) (by rw [f75]; omega)
    have F : ∀ c, ¬ yy_no c → c ≠ 74 → m2 c = m c := fun c hc c1 => by
      by_cases e : c = 75
      · subst e; rw [q3, f75]
      · unfold yy_no at hc
        rw [f2 c c1 e (by omega) (by omega) (by omega), f1 c (by omega)]
    have F74 : ∀ q, q ≠ 13 → m2 74 q = m 74 q := fun q hq => by rw [q2 q hq, f1 74 (by omega)]
    refine yy_Ao X1 X2 (yy_I_no (fun c _ hc _ c1 => F c hc c1) ?_ (F74 3 (by decide)) (F74 4 (by decide)) ?_ hI) ?_ ?_
    · rw [F 61 (by unfold yy_no; omega) (by decide)]; exact hI.2.2.2.2.2.2.1
    · rw [F74 15 (by decide)]; exact hI.2.2.2.2.2.2.2
    · rw [f2 0 (by decide) (by decide) (by decide) (by decide) (by decide), f1 0 (by omega)]
    · rw [f75, sg_sy_tr hr5 hI.1.1 (by have := hI.1.2.1; omega)]
  · exact r_124 hI h
