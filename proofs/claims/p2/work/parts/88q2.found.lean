/-! LEAST FOUND: both sides -/
set_option maxRecDepth 20000 in
theorem sg_tr_b {s : Nat → Int} {bl : Int} : ∀ (k : Nat) (a b : Int), 0 ≤ a ∧ a ≤ 35 → 0 ≤ (sg_tr s bl k a b).1 ∧ (sg_tr s bl k a b).1 ≤ 35
  | 0, a, b, h => h
  | k + 1, a, b, h => by
    obtain ⟨w, hw⟩ : ∃ w, w = (if bl = 0 then sg_p s (sg_la s a (sg_N s)).toNat 1 else sp_back (sg_p s (sg_la s a (sg_N s)).toNat 1)) := ⟨_, rfl⟩
    unfold sg_tr
    rw [← hw]
    by_cases g1 : sg_la s a (sg_N s) = -1
    · rw [if_pos g1]; exact h
    · rw [if_neg g1]
      by_cases g2 : sp_next a w = -1
      · rw [if_pos g2]; exact h
      · rw [if_neg g2]
        exact sg_tr_b k _ _ ((sg_next_r h).resolve_left g2)
set_option maxRecDepth 20000 in
theorem sp_far_0 {a b : Int} : 0 ≤ sp_far a b := by
  unfold sp_far
  split <;> split <;> omega
def sg_kd (s : Nat → Int) (r : Nat) (v : Int) : Nat → Int := yy_u s (44 + 18 * r) v
def sg_fd (s : Nat → Int) (r n : Nat) (c0 : Int) (i : Nat) : Int := sp_far (sg_tr (sg_go (-1) n (sg_kd s r i)) 0 40 c0 0).1 (sg_go (-1) n (sg_kd s r i) (46 + 18 * r))
def sg_lf (g : Nat → Int) : Nat → Nat → Int → Int → Int
  | 0, _, b, _ => b
  | k + 1, i, b, f => if f < g i then sg_lf g k (i + 1) i (g i) else sg_lf g k (i + 1) b f
set_option maxRecDepth 20000 in
theorem sg_lf_s {g : Nat → Int} {k i : Nat} {b f : Int} : sg_lf g (k + 1) i b f = if f < g i then sg_lf g k (i + 1) i (g i) else sg_lf g k (i + 1) b f := rfl
set_option maxRecDepth 20000 in
theorem sg_kd_W {s : Nat → Int} {r : Nat} {v : Int} (hr : r < 5) (hv : 0 ≤ v ∧ v ≤ 6) (hW : sg_W s 0) : sg_W (sg_kd s r v) 0 := by
  have o : ∀ k, k ≠ 44 + 18 * r → sg_kd s r v k = s k := fun k hk => yy_u_ne hk
  obtain ⟨b0, b1, b2, b3, b4, b5, b6⟩ := hW.1.2.2.2.2.2 r hr
  refine sg_W_rd0 (fun k k0 hk => o k (by omega)) (sg_R_r hr hW.1 (fun k hk => o k (by omega)) ?_ ?_ ?_ ?_ ?_ ?_ (fun k hk => ?_)) hW
  · rw [show sg_kd s r v (44 + 18 * r) = v from yy_u_eq]; exact hv
  · rw [o _ (by omega)]; exact b1
  · rw [o _ (by omega)]; exact b2
  · rw [o _ (by omega)]; exact b3
  · rw [o _ (by omega)]; exact b4
  · rw [o _ (by omega), o _ (by omega)]; exact b5
  · rw [o _ (by omega)]; exact b6 k hk
/-! one number of a rider changes -/
set_option maxRecDepth 20000 in
theorem yy_MR_fd {m : Nat → Nat → Int} {b : Nat} {s : Nat → Int} {r j : Nat} {v : Int} (hr : r < 5) (hj : j < 6) (hM : yy_MR m b s) : yy_MR (yy_s m (b + 7 + 2 * r) j v) b (yy_u s (44 + 18 * r + j) v) := by
  obtain ⟨e1, e2, e3, e4, e5, e6, e7⟩ := hM
  refine ⟨by rw [yy_s_ne (by omega), yy_u_ne (by omega)]; exact e1, by rw [yy_s_ne (by omega), yy_u_ne (by omega)]; exact e2, by rw [yy_s_ne (by omega), yy_u_ne (by omega)]; exact e3, by rw [yy_s_ne (by omega), yy_u_ne (by omega)]; exact e4, fun k hk => by rw [yy_s_ne (by omega), yy_u_ne (by omega)]; exact e5 k hk, fun k hk => by rw [yy_s_ne (by omega), yy_u_ne (by omega)]; exact e6 k hk, fun i hi => ⟨fun k hk => ?_, fun k hk => ?_⟩⟩
  · by_cases e : i = r
    · subst e
      rw [yy_s_eq]
      by_cases ek : k = j
      · subst ek; rw [yy_u_eq, yy_u_eq]
      · rw [yy_u_ne ek, yy_u_ne (by omega)]; exact (e7 i hi).1 k hk
    · rw [yy_s_ne (by omega), yy_u_ne (by omega)]; exact (e7 i hi).1 k hk
  · rw [yy_s_ne (by omega), yy_u_ne (by omega)]; exact (e7 i hi).2 k hk
set_option maxRecDepth 20000 in
theorem l_123 {sc : List Int} {d : Nat} {t : xm_W} {Q : Option xm_V × xm_W → Prop} {r : Nat} {n c0 z : Int} {s : Nat → Int} {m0 : Nat → Nat → Int} (hr5 : r < 5) (hn : 1 ≤ n ∧ n ≤ 12) (hc : 0 ≤ c0 ∧ c0 ≤ 35) (hM0 : yy_MX t m0 1 s) (hW : sg_W s 0) (h9 : s 1 ≤ 9999) (hQ : ∀ m', (∀ c, (c < 18 ∨ 35 ≤ c) → m' c = m0 c) → Q ((some (.inl (z)), (yy_W (m') t)))) : ∀ (k i : Nat) (b f : Int) (m : Nat → Nat → Int) (u : Option xm_V), i + k = 6 → (∀ c, (c < 18 ∨ 35 ≤ c) → m c = m0 c) → sg_lf (sg_fd s r n.toNat c0) k i b f = z → xm_EQ (xm_old sc) xm_sta (xm_X (xm_old sc) xm_mt (d + 8)) xm_c123 26 [some (.inr (.inl (some 0))), some (.inl ((r : Int))), some (.inl (n)), some (.inl (c0)), some (.inl (b)), some (.inl (f)), some (.inl ((i : Int))), u] [] (yy_W (m) t) Q
  | 0, i, b, f, m, u, hk, hF, hz => by
    have hz' : b = z := hz
    refine xb_123_26 ?_
    rw [if_neg (by omega), hz']
    exact hQ m hF
  | k + 1, i, b, f, m, u, hk, hF, hz => by
    have hq := yy_rdn25 hr5
    have er : ((r : Int)).toNat = r := Int.toNat_natCast r
    have hM : yy_MX t m 1 s := yy_MX_r (fun c hc => hF c (by omega)) hM0
    obtain ⟨m1, x1, f1, g1⟩ := c_402_1_18 (sc := sc) (d := d + 6) (t := t) (m := m) (yy_TX_tx hM.2.1) (yy_TX_tx hM.2.2)
    have hM1 := yy_CP_MX g1 hM
    have hWk := sg_kd_W (v := (i : Int)) hr5 (by omega) hW
    have hR2 : yy_MR (yy_s m1 (25 + 2 * r) 0 (i : Int)) 18 (sg_kd s r i) := yy_MR_fd (b := 18) (j := 0) hr5 (by decide) hM1.1
    have hM2 : yy_MX t (yy_s m1 (25 + 2 * r) 0 (i : Int)) 18 (sg_kd s r i) := yy_MX_fr (sg_W_T hW) hM1 (yy_s_ne (by omega)) hR2 (fun k hk _ => yy_u_ne (by omega))
    have k1 : sg_kd s r i 1 = s 1 := yy_u_ne (by omega)
    obtain ⟨m3, x3, f3, g3⟩ := c_404_18g (sc := sc) (d := d + 1) (t := t) (m := yy_s m1 (25 + 2 * r) 0 (i : Int)) (n := n) (by omega) hM2 hWk (by rw [k1]; omega)
    obtain ⟨w1, w2, w3⟩ := sg_go_W (st := -1) n.toNat (sg_kd s r i) hWk (by rw [k1]; omega)
    have hF3 : ∀ c, (c < 18 ∨ 35 ≤ c) → m3 c = m0 c := fun c hc => by rw [f3 c (by omega), yy_s_ne (by omega), f1 c (by omega)]; exact hF c hc
    have f2 : m3 (25 + 2 * r) 2 = sg_go (-1) n.toNat (sg_kd s r i) (46 + 18 * r) := by rw [(g3.1.2.2.2.2.2.2 r hr5).1 2 (by decide)]; congr 1; omega
    have tb := sg_tr_b (s := sg_go (-1) n.toNat (sg_kd s r i)) (bl := 0) 40 c0 0 hc
    have cb := (w1.1.2.2.2.2.2 r hr5).2.2.1
    rw [sg_lf_s] at hz
    refine xb_123_26 ?_
    rw [if_pos (by omega), zr_0_1, zr_0_0, x1, xm_Ov_some, zr_0_1, zr_18_3, zq_20, zq_r18 (by omega) (by omega), er, xm_O_some, gs_0 hq, zr_0_1, x3, xm_Ov_some, zr_0_1, oc_418_18g (d := d + 5) g3.1 w1 hc (by decide), if_pos rfl, show (40 : Int).toNat = 40 from rfl, zr_0_1, zr_18_3, zq_20, zq_r18 (by omega) (by omega), er, xm_O_some, gf_2 hq, f2, oc_149 (d := d + 7) (by omega) (by omega) (by omega) (by omega), xm_w_id (by omega) (by omega), show (i : Int) + 1 = ((i + 1 : Nat) : Int) from rfl]
    show (if f < sg_fd s r n.toNat c0 i then _ else _)
    by_cases g : f < sg_fd s r n.toNat c0 i
    · rw [if_pos g] at hz
      rw [if_pos g]
      exact l_123 hr5 hn hc hM0 hW h9 hQ k (i + 1) _ _ m3 _ (by omega) hF3 hz
    · rw [if_neg g] at hz
      rw [if_neg g]
      exact l_123 hr5 hn hc hM0 hW h9 hQ k (i + 1) _ _ m3 _ (by omega) hF3 hz
set_option maxRecDepth 20000 in
theorem l_1178 {sc : List Int} {d : Nat} {t : xm_W} {Q : Option xm_V × xm_W → Prop} {r : Nat} {n c0 z : Int} {s : Nat → Int} {m0 : Nat → Nat → Int} (hr5 : r < 5) (hn : 1 ≤ n ∧ n ≤ 12) (hc : 0 ≤ c0 ∧ c0 ≤ 35) (h3 : m0 74 3 = -1) (hW : sg_W s 0) (h9 : s 1 ≤ 9999) (hQ : ∀ m', (∀ c, c ≠ 74 → c ≠ 75 → c ≠ 77 → c ≠ 80 → c ≠ 81 → m' c = m0 c) → (∀ q, q ≠ 13 → m' 74 q = m0 74 q) → m' 75 = s → Q ((some (.inl (z)), (yy_W (m') t)))) : ∀ (k i : Nat) (b f : Int) (m : Nat → Nat → Int) (u : Option xm_V), i + k = 6 → (∀ c, c ≠ 74 → c ≠ 75 → c ≠ 77 → c ≠ 80 → c ≠ 81 → m c = m0 c) → (∀ q, q ≠ 13 → m 74 q = m0 74 q) → m 75 = s → ((b = -1 ∧ 0 < k ∧ sg_lf (sg_fd s r n.toNat c0) k i 0 (-1) = z) ∨ (0 ≤ b ∧ sg_lf (sg_fd s r n.toNat c0) k i b f = z)) → xm_EQ (xm_old sc) xm_sta (xm_X (xm_old sc) xm_mt (d + 10)) xm_c1178 24 [some (.inr (.inl (some 74))), some (.inl ((r : Int))), some (.inl (n)), some (.inl (c0)), some (.inl (b)), some (.inl (f)), some (.inl ((i : Int))), u] [] (yy_W (m) t) Q
  | 0, i, b, f, m, u, hk, hF, h74, h75, hz => by
    have hz' : b = z := by
      rcases hz with ⟨_, h, _⟩ | ⟨_, h⟩
      · omega
      · exact h
    refine xb_1178_24 ?_
    rw [if_neg (by omega), hz']
    exact hQ m hF h74 h75
  | k + 1, i, b, f, m, u, hk, hF, h74, h75, hz => by
    have hWk := sg_kd_W (v := (i : Int)) hr5 (by omega) hW
    have k1 : sg_kd s r i 1 = s 1 := yy_u_ne (by omega)
    obtain ⟨mA, eA⟩ : ∃ mA, mA = yy_c (yy_c m 77 (yy_cp (m 75) (m 77) 0 0 339)) 75 (yy_u (yy_c m 77 (yy_cp (m 75) (m 77) 0 0 339) 75) (44 + 18 * r) (i : Int)) := ⟨_, rfl⟩
    have a75 : mA 75 = sg_kd s r i := by rw [eA, yy_c_eq, yy_c_ne (by decide), h75]; rfl
    have a77 : ∀ k, k < 339 → mA 77 k = s k := fun k hk => by rw [eA, yy_c_ne (by decide), yy_c_eq, yy_cp0 hk, h75]
    have aF : ∀ c, c ≠ 75 → c ≠ 77 → mA c = m c := fun c c1 c2 => by rw [eA, yy_c_ne c1, yy_c_ne c2]
    have a3 : mA 74 3 = -1 := by rw [aF 74 (by decide) (by decide), h74 3 (by decide)]; exact h3
    obtain ⟨m2, x2, f2, g2⟩ := c_1157 (sc := sc) (d := d + 1) (t := t) (m := mA) (n := n) (by omega) (by rw [a75]; exact hWk) (by rw [a75, k1]; omega)
    rw [a3, a75] at g2
    obtain ⟨w1, w2, w3⟩ := sg_go_W (st := -1) n.toNat (sg_kd s r i) hWk (by rw [k1]; omega)
    obtain ⟨m3, y3, f3, q3, _⟩ := c_1169 (sc := sc) (d := d + 6) (t := t) (m := m2) (s := sg_go (-1) n.toNat (sg_kd s r i)) (c := c0) (bl := 0) (b2 := 1) (n := 40) rfl g2 w1 hc (by decide)
    rw [show (40 : Int).toNat = 40 from rfl] at y3
    have m75 : m3 75 = sg_go (-1) n.toNat (sg_kd s r i) := by rw [f3 75 (by decide)]; exact g2
    have tb := sg_tr_b (s := sg_go (-1) n.toNat (sg_kd s r i)) (bl := 0) 40 c0 0 hc
    have cb := (w1.1.2.2.2.2.2 r hr5).2.2.1
    have B := yy_back (f := m3 77) (g := m3 75) (s := s) (fun k hk => by rw [f3 77 (by decide), f2 77 (by decide) (by decide) (by decide)]; exact a77 k hk) (fun k hk => by rw [m75, w3 k (Or.inr hk) (by omega) (by omega)]; exact yy_u_ne (by omega))
    have hF' : ∀ c, c ≠ 74 → c ≠ 75 → c ≠ 77 → c ≠ 80 → c ≠ 81 → yy_c m3 75 s c = m0 c := fun c c1 c2 c3 c4 c5 => by rw [yy_c_ne c2, f3 c c1, f2 c c2 c4 c5, aF c c2 c3]; exact hF c c1 c2 c3 c4 c5
    have h74' : ∀ q, q ≠ 13 → yy_c m3 75 s 74 q = m0 74 q := fun q hq => by rw [yy_c_ne (by decide), q3 q hq, f2 74 (by decide) (by decide) (by decide), aF 74 (by decide) (by decide)]; exact h74 q hq
    have g0 : 0 ≤ sg_fd s r n.toNat c0 i := sp_far_0
    refine xb_1178_24 ?_
    rw [if_pos (by omega), oc_1106 (d := d + 8), oc_1111_0 (d := d + 9) hr5, ← eA, x2, xm_Ov_some, y3, xm_Oi_some, oc_1110_2 (d := d + 9) hr5, m75, oc_1177 (d := d + 9) (by omega) (by omega) (by omega) (by omega), oc_1107 (d := d + 8), B, xm_w_id (by omega) (by omega), show (i : Int) + 1 = ((i + 1 : Nat) : Int) from rfl]
    show (if b = -1 then _ else if f < sg_fd s r n.toNat c0 i then _ else _)
    rw [sg_lf_s, sg_lf_s] at hz
    have next : ∀ b' f', 0 ≤ b' → sg_lf (sg_fd s r n.toNat c0) k (i + 1) b' f' = z → xm_EQ (xm_old sc) xm_sta (xm_X (xm_old sc) xm_mt (d + 10)) xm_c1178 24 [some (.inr (.inl (some 74))), some (.inl ((r : Int))), some (.inl (n)), some (.inl (c0)), some (.inl (b')), some (.inl (f')), some (.inl (((i + 1 : Nat) : Int))), some (.inl (sg_fd s r n.toNat c0 i))] [] (yy_W (yy_c m3 75 s) t) Q := fun b' f' hb h => l_1178 hr5 hn hc h3 hW h9 hQ k (i + 1) b' f' _ _ (by omega) hF' h74' yy_c_eq (Or.inr ⟨hb, h⟩)
    rcases hz with ⟨hb, _, hz⟩ | ⟨hb, hz⟩
    · rw [if_pos (by omega)] at hz
      rw [if_pos hb]
      exact next _ _ (by omega) hz
    · rw [if_neg (by omega)]
      by_cases g : f < sg_fd s r n.toNat c0 i
      · rw [if_pos g] at hz
        rw [if_pos g]
        exact next _ _ (by omega) hz
      · rw [if_neg g] at hz
        rw [if_neg g]
        exact next _ _ hb hz
set_option maxRecDepth 20000 in
theorem c_123g {sc : List Int} {d : Nat} {t : xm_W} {m : Nat → Nat → Int} {r : Nat} {n : Int} (hr5 : r < 5) (hn : 1 ≤ n ∧ n ≤ 12) (hI : yy_I t m) (hr : (r : Int) ≤ m 75 0 - 1) : ∃ m', xm_X (xm_old sc) xm_mt (d + 12) 123 [.inr (.inl (some 0)), .inl ((r : Int)), .inl (n)] (yy_W m t) = some (some (.inl (sg_lf (sg_fd (m 75) r n.toNat (m 75 (46 + 18 * r))) 6 0 0 (-1))), yy_W m' t) ∧ ∀ c, (c < 18 ∨ 35 ≤ c) → m' c = m c := by
  have key : ∀ {Q : Option xm_V × xm_W → Prop}, (∀ m', (∀ c, (c < 18 ∨ 35 ≤ c) → m' c = m c) → Q (some (.inl (sg_lf (sg_fd (m 75) r n.toNat (m 75 (46 + 18 * r))) 6 0 0 (-1))), yy_W m' t)) → xm_EQ (xm_old sc) xm_sta (xm_X (xm_old sc) xm_mt (d + 11)) xm_m123.2.2.2.2.2.2.2 0 (xm_loc xm_m123.2.2.1 [.inr (.inl (some 0)), .inl ((r : Int)), .inl (n)]) [] (yy_W m t) Q := by
    intro Q hQ
    obtain ⟨⟨e0, e3, e1, e2⟩, hR⟩ := yy_I_0 hI
    have b0 := hR.1
    have hq := yy_rdn8 hr5
    have er : ((r : Int)).toNat = r := Int.toNat_natCast r
    have f2 : m (8 + 2 * r) 2 = m 75 (46 + 18 * r) := by rw [(hI.2.1.1.2.2.2.2.2.2 r hr5).1 2 (by decide)]; congr 1; omega
    refine xb_123_0 ?_
    rw [oc_141 (d := d + 9) (by omega) (by omega), zz_t (by omega), oc_142 (d := d + 10), zz_t hn, zr_0_0, zr_1_3, zq_3, zq_r1 (by omega) (by omega), er, xm_O_some, gf_2 hq, f2]
    exact l_123 (d := d + 3) (s := m 75) (m0 := m) hr5 hn (hR.2.2.2.2.2 r hr5).2.2.1 hI.2.1 hI.1.1 hI.1.2.1 (fun m' h => hQ m' h) 6 0 0 (-1) m none rfl (fun _ _ => rfl) rfl
  obtain ⟨q, h1, m', h2, h3⟩ := yx_of (y := 123) (M := xm_m123) (sc := sc) (d := d + 11) (as := [.inr (.inl (some 0)), .inl ((r : Int)), .inl (n)]) (w := yy_W m t) (Q := fun q => ∃ m', q = (some (.inl (sg_lf (sg_fd (m 75) r n.toNat (m 75 (46 + 18 * r))) 6 0 0 (-1))), yy_W m' t) ∧ (∀ c, (c < 18 ∨ 35 ≤ c) → m' c = m c)) rfl (key fun m' h => ⟨m', rfl, h⟩) (fun q ⟨m', h, _⟩ => by rw [h]; rfl) rfl (Nat.le_of_ble_eq_true rfl) (yy_hd rfl (by decide))
  exact ⟨m', by rw [h1, h2], h3⟩
set_option maxRecDepth 20000 in
theorem c_1178g {sc : List Int} {d : Nat} {t : xm_W} {m : Nat → Nat → Int} {r : Nat} {n : Int} (hr5 : r < 5) (hn : 1 ≤ n ∧ n ≤ 12) (h3 : m 74 3 = -1) (hW : sg_W (m 75) 0) (h9 : m 75 1 ≤ 9999) (hr : (r : Int) ≤ m 75 0 - 1) : ∃ m', xm_X (xm_old sc) xm_mt (d + 12) 1178 [.inr (.inl (some 74)), .inl ((r : Int)), .inl (n)] (yy_W m t) = some (some (.inl (sg_lf (sg_fd (m 75) r n.toNat (m 75 (46 + 18 * r))) 6 0 0 (-1))), yy_W m' t) ∧ (∀ c, c ≠ 74 → c ≠ 75 → c ≠ 77 → c ≠ 80 → c ≠ 81 → m' c = m c) ∧ (∀ q, q ≠ 13 → m' 74 q = m 74 q) ∧ m' 75 = m 75 := by
  have key : ∀ {Q : Option xm_V × xm_W → Prop}, (∀ m', ((∀ c, c ≠ 74 → c ≠ 75 → c ≠ 77 → c ≠ 80 → c ≠ 81 → m' c = m c) ∧ (∀ q, q ≠ 13 → m' 74 q = m 74 q) ∧ m' 75 = m 75) → Q (some (.inl (sg_lf (sg_fd (m 75) r n.toNat (m 75 (46 + 18 * r))) 6 0 0 (-1))), yy_W m' t)) → xm_EQ (xm_old sc) xm_sta (xm_X (xm_old sc) xm_mt (d + 11)) xm_m1178.2.2.2.2.2.2.2 0 (xm_loc xm_m1178.2.2.1 [.inr (.inl (some 74)), .inl ((r : Int)), .inl (n)]) [] (yy_W m t) Q := by
    intro Q hQ
    have b0 := hW.1.1
    refine xb_1178_0 ?_
    rw [oc_1109 (d := d + 9) (by omega) (by omega), zz_t (by omega), oc_1103 (d := d + 10), zz_t hn, oc_1110_2 (d := d + 10) hr5]
    exact l_1178 (d := d + 1) (s := m 75) (m0 := m) hr5 hn (hW.1.2.2.2.2.2 r hr5).2.2.1 h3 hW h9 (fun m' a b c => hQ m' ⟨a, b, c⟩) 6 0 (-1) 0 m none rfl (fun _ _ _ _ _ _ => rfl) (fun _ _ => rfl) rfl (Or.inl ⟨rfl, by decide, rfl⟩)
  obtain ⟨q, h1, m', h2, h3⟩ := yx_of (y := 1178) (M := xm_m1178) (sc := sc) (d := d + 11) (as := [.inr (.inl (some 74)), .inl ((r : Int)), .inl (n)]) (w := yy_W m t) (Q := fun q => ∃ m', q = (some (.inl (sg_lf (sg_fd (m 75) r n.toNat (m 75 (46 + 18 * r))) 6 0 0 (-1))), yy_W m' t) ∧ ((∀ c, c ≠ 74 → c ≠ 75 → c ≠ 77 → c ≠ 80 → c ≠ 81 → m' c = m c) ∧ (∀ q, q ≠ 13 → m' 74 q = m 74 q) ∧ m' 75 = m 75)) rfl (key fun m' h => ⟨m', rfl, h⟩) (fun q ⟨m', h, _⟩ => by rw [h]; rfl) rfl (Nat.le_of_ble_eq_true rfl) (yy_hd rfl (by decide))
  exact ⟨m', by rw [h1, h2], h3⟩
set_option maxRecDepth 20000 in
theorem a_123 {sc : List Int} {t : xm_W} {m : Nat → Nat → Int} {x1 x2 : Int} (hI : yy_I t m) : yy_A sc t m 123 1178 [.inl x1, .inl x2] true := by
  by_cases h : (0 ≤ x1 ∧ x1 ≤ m 1 4 - 1) ∧ (1 ≤ x2 ∧ x2 ≤ 12)
  · obtain ⟨⟨e0, e3, e1, e2⟩, hR⟩ := yy_I_0 hI
    have b0 := hR.1
    obtain ⟨r, rfl⟩ : ∃ r : Nat, x1 = r := ⟨x1.toNat, by omega⟩
    have hr5 : r < 5 := by omega
    obtain ⟨m1, X1, f1⟩ := c_123g (sc := sc) (d := 88) (t := t) (m := m) (r := r) hr5 h.2 hI (by omega)
    have f75 : m1 75 = m 75 := f1 75 (by omega)
    obtain ⟨m2, X2, f2, q2, q3⟩ := c_1178g (sc := sc) (d := 88) (t := t) (m := m1) (r := r) hr5 h.2 (by rw [f1 74 (by omega)]; exact hI.2.2.2.2.2.1) (by rw [f75]; exact hI.1.1) (by rw [f75]; exact hI.1.2.1) (by rw [f75]; omega)
    have F : ∀ c, ¬ yy_no c → c ≠ 74 → m2 c = m c := fun c hc c1 => by
      by_cases e : c = 75
      · subst e; rw [q3, f75]
      · unfold yy_no at hc
        rw [f2 c c1 e (by omega) (by omega) (by omega), f1 c (by omega)]
    have F74 : ∀ q, q ≠ 13 → m2 74 q = m 74 q := fun q hq => by rw [q2 q hq, f1 74 (by omega)]
    refine yy_Ao X1 X2 (yy_I_no (fun c _ hc _ c1 => F c hc c1) ?_ (F74 3 (by decide)) (F74 4 (by decide)) ?_ hI) ?_ (by rw [f75])
    · rw [F 61 (by unfold yy_no; omega) (by decide)]; exact hI.2.2.2.2.2.2.1
    · rw [F74 15 (by decide)]; exact hI.2.2.2.2.2.2.2
    · rw [f2 0 (by decide) (by decide) (by decide) (by decide) (by decide), f1 0 (by omega)]
  · exact r_123 hI h
