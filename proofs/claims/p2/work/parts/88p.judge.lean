/-! JUDGE, CHECK: both sides -/
def sg_jd (nu : Nat → Int) (r : Nat) : Nat → Nat → (Nat → Int) → Nat
  | 0, i, _ => i
  | k + 1, i, s => if nu i = s (46 + 18 * r) then sg_jd nu r k (i + 1) (sg_hour (-1) s) else i
set_option maxRecDepth 20000 in
theorem sg_jd_s {nu : Nat → Int} {r k i : Nat} {s : Nat → Int} : sg_jd nu r (k + 1) i s = if nu i = s (46 + 18 * r) then sg_jd nu r k (i + 1) (sg_hour (-1) s) else i := rfl
set_option maxRecDepth 20000 in
theorem sg_jd_congr {nu nu' : Nat → Int} {r : Nat} : ∀ (k i : Nat) (s : Nat → Int), (∀ j, i ≤ j → j < i + k → nu j = nu' j) → sg_jd nu r k i s = sg_jd nu' r k i s
  | 0, i, s, h => rfl
  | k + 1, i, s, h => by
    rw [sg_jd_s, sg_jd_s, h i (by omega) (by omega), sg_jd_congr k (i + 1) _ (fun j a b => h j (by omega) (by omega))]
set_option maxRecDepth 20000 in
theorem yy_shn {i : Nat} (h : i < 4) : yy_sh (66 + 2 * i) := by have := yy_sh66 (i := (i : Int)) (by omega) (by omega); rwa [Int.toNat_natCast] at this
set_option maxRecDepth 20000 in
theorem l_132 {sc : List Int} {d : Nat} {t : xm_W} {Q : Option xm_V × xm_W → Prop} {sh r : Nat} {n z : Nat} {nu : Nat → Int} {m0 : Nat → Nat → Int} (hsh : sh < 4) (hr5 : r < 5) (hn : n ≤ 24) (h1 : m0 (66 + 2 * sh) 1 = (n : Int)) (h2 : m0 (67 + 2 * sh) = nu) (hQ : ∀ m', (∀ c, (c < 18 ∨ 35 ≤ c) → m' c = m0 c) → Q ((some (.inl ((z : Int))), (yy_W (m') t)))) : ∀ (k i : Nat) (m : Nat → Nat → Int) (s : Nat → Int), i + k = n → sg_W s 0 → s 1 + k ≤ 20000 → yy_MX t m 18 s → (∀ c, (c < 18 ∨ 35 ≤ c) → m c = m0 c) → sg_jd nu r k i s = z → xm_EQ (xm_old sc) xm_sta (xm_X (xm_old sc) xm_mt (d + 6)) xm_c132 30 [some (.inr (.inl (some 0))), some (.inl ((sh : Int))), some (.inl ((r : Int))), some (.inr (.inl (some (66 + 2 * sh)))), some (.inl ((i : Int)))] [] (yy_W (m) t) Q
  | 0, i, m, s, hk, hW, hs1, hM, hF, hz => by
    have hs := yy_shn hsh
    have hz' : i = z := hz
    have m1 : m (66 + 2 * sh) 1 = (n : Int) := by rw [hF _ (by omega)]; exact h1
    refine xb_132_30 ?_
    rw [xm_O_some, hf_1 hs, m1, if_neg (by omega), hf_1 hs, m1, show (n : Int) = (z : Int) by omega]
    exact hQ m hF
  | k + 1, i, m, s, hk, hW, hs1, hM, hF, hz => by
    have hs := yy_shn hsh
    have hq := yy_rdn25 hr5
    have er : ((r : Int)).toNat = r := Int.toNat_natCast r
    have m1 : m (66 + 2 * sh) 1 = (n : Int) := by rw [hF _ (by omega)]; exact h1
    have m2 : m (67 + 2 * sh) = nu := by rw [hF _ (by omega)]; exact h2
    have f2 : m (25 + 2 * r) 2 = s (46 + 18 * r) := by rw [(hM.1.2.2.2.2.2.2 r hr5).1 2 (by decide)]; congr 1; omega
    rw [sg_jd_s] at hz
    refine xb_132_30 ?_
    rw [xm_O_some, hf_1 hs, m1, if_pos (by omega), hr_2 hs, hi_1 hs, zy_at (by omega) (by omega), Int.toNat_natCast, show 66 + 2 * sh + 1 = 67 + 2 * sh by omega, m2, zr_0_1, zr_18_3, zq_20, zq_r18 (by omega) (by omega), er, xm_O_some, gf_2 hq, f2]
    by_cases g : nu i = s (46 + 18 * r)
    · rw [if_pos g] at hz
      rw [if_pos g, zr_0_1]
      obtain ⟨m', e, g1, g2⟩ := c_405_18g (sc := sc) (d := d) (t := t) (m := m) hM hW (by omega)
      obtain ⟨w1, w2, w3⟩ := sg_hour_W (st := -1) hW (by omega)
      rw [e, xm_Ov_some, xm_w_id (by omega) (by omega), show (i : Int) + 1 = ((i + 1 : Nat) : Int) from rfl]
      exact l_132 hsh hr5 hn h1 h2 hQ k (i + 1) m' (sg_hour (-1) s) (by omega) w1 (by rw [w2]; omega) g2 (fun c hc => by rw [g1 c (by omega)]; exact hF c hc) hz
    · rw [if_neg g] at hz
      rw [if_neg g, hz]
      exact hQ m hF
set_option maxRecDepth 20000 in
theorem l_1202 {sc : List Int} {d : Nat} {t : xm_W} {Q : Option xm_V × xm_W → Prop} {sh r : Nat} {n z : Nat} {zz : Int} {nu S0 : Nat → Int} {m0 : Nat → Nat → Int} (hsh : sh < 4) (hr5 : r < 5) (hn : n ≤ 24) (h1 : m0 84 sh = (n : Int)) (h2 : ∀ j, j < 24 → m0 85 (24 * sh + j) = nu j) (h3 : m0 74 3 = -1) (h77 : ∀ k, k < 339 → m0 77 k = S0 k) (hQ : ∀ m', (∀ c, c ≠ 75 → c ≠ 80 → c ≠ 81 → m' c = m0 c) → m' 75 = S0 → Q ((some (.inl ((z : Int))), (yy_W (m') t)))) : ∀ (k i : Nat) (m : Nat → Nat → Int), i + k = n → sg_W (m 75) 0 → m 75 1 + k ≤ 20000 → (∀ c, c ≠ 75 → c ≠ 80 → c ≠ 81 → m c = m0 c) → (∀ q, 339 ≤ q → m 75 q = S0 q) → sg_jd nu r k i (m 75) = z → xm_EQ (xm_old sc) xm_sta (xm_X (xm_old sc) xm_mt (d + 8)) xm_c1202 15 [some (.inr (.inl (some 74))), some (.inl ((sh : Int))), some (.inl ((r : Int))), some (.inl (zz)), some (.inl ((i : Int)))] [] (yy_W (m) t) Q
  | 0, i, m, hk, hW, hs1, hF, hq, hz => by
    have hz' : i = z := hz
    have m1 : m 84 sh = (n : Int) := by rw [hF 84 (by decide) (by decide) (by decide)]; exact h1
    refine xb_1202_15 ?_
    rw [zr_74_19, zi_84, zy_at (by omega) (by omega), Int.toNat_natCast, if_neg (by omega), oc_1107 (d := d + 6), yy_back (s := S0) (fun k hk => by rw [hF 77 (by decide) (by decide) (by decide)]; exact h77 k hk) hq, hz']
    exact hQ _ (fun c c1 c2 c3 => by rw [yy_c_ne c1]; exact hF c c1 c2 c3) yy_c_eq
  | k + 1, i, m, hk, hW, hs1, hF, hq, hz => by
    have m1 : m 84 sh = (n : Int) := by rw [hF 84 (by decide) (by decide) (by decide)]; exact h1
    have m2 : m 85 (24 * sh + i) = nu i := by rw [hF 85 (by decide) (by decide) (by decide)]; exact h2 i (by omega)
    have m3 : m 74 3 = -1 := by rw [hF 74 (by decide) (by decide) (by decide)]; exact h3
    rw [sg_jd_s] at hz
    refine xb_1202_15 ?_
    rw [zr_74_19, zi_84, zy_at (by omega) (by omega), Int.toNat_natCast, if_pos (by omega), zr_74_20, zi_85, xm_w2 (by omega) (by omega) (by omega) (by omega), zy_at (by omega) (by omega), show (24 * (sh : Int) + (i : Int)).toNat = 24 * sh + i by omega, m2, oc_1110_2 (d := d + 7) hr5]
    by_cases g : nu i = m 75 (46 + 18 * r)
    · rw [if_pos g] at hz
      obtain ⟨m', e, g1, g2⟩ := c_1156 (sc := sc) (d := d) (t := t) (m := m) hW (by omega)
      rw [m3] at g2
      obtain ⟨w1, w2, w3⟩ := sg_hour_W (st := -1) hW (by omega)
      rw [if_pos g, e, xm_Ov_some, xm_w_id (by omega) (by omega), show (i : Int) + 1 = ((i + 1 : Nat) : Int) from rfl]
      exact l_1202 hsh hr5 hn h1 h2 h3 h77 hQ k (i + 1) m' (by omega) (by rw [g2]; exact w1) (by rw [g2, w2]; omega) (fun c c1 c2 c3 => by rw [g1 c c1 c2 c3]; exact hF c c1 c2 c3) (fun q hq' => by rw [g2, w3 q (Or.inr hq') (by omega) (by omega)]; exact hq q hq') (by rw [g2]; exact hz)
    · rw [if_neg g] at hz
      rw [if_neg g, oc_1107 (d := d + 6), yy_back (s := S0) (fun k hk => by rw [hF 77 (by decide) (by decide) (by decide)]; exact h77 k hk) hq, hz]
      exact hQ _ (fun c c1 c2 c3 => by rw [yy_c_ne c1]; exact hF c c1 c2 c3) yy_c_eq
set_option maxRecDepth 20000 in
theorem c_132g {sc : List Int} {d : Nat} {t : xm_W} {m : Nat → Nat → Int} {i r n : Nat} (hi4 : i < 4) (hr5 : r < 5) (hI : yy_I t m) (hr : (r : Int) ≤ m 75 0 - 1) (g : ¬ m 83 i = 0) (hn : m 84 i = (n : Int)) : ∃ m', xm_X (xm_old sc) xm_mt (d + 10) 132 [.inr (.inl (some 0)), .inl ((i : Int)), .inl ((r : Int))] (yy_W m t) = some (some (.inl ((sg_jd (m (67 + 2 * i)) r n 0 (m 75) : Int))), yy_W m' t) ∧ ∀ c, (c < 18 ∨ 35 ≤ c) → m' c = m c := by
  have key : ∀ {Q : Option xm_V × xm_W → Prop}, (∀ m', (∀ c, (c < 18 ∨ 35 ≤ c) → m' c = m c) → Q (some (.inl ((sg_jd (m (67 + 2 * i)) r n 0 (m 75) : Int))), yy_W m' t)) → xm_EQ (xm_old sc) xm_sta (xm_X (xm_old sc) xm_mt (d + 9)) xm_m132.2.2.2.2.2.2.2 0 (xm_loc xm_m132.2.2.1 [.inr (.inl (some 0)), .inl ((i : Int)), .inl ((r : Int))]) [] (yy_W m t) Q := by
    intro Q hQ
    obtain ⟨⟨e0, e3, e1, e2⟩, hR⟩ := yy_I_0 hI
    have b0 := hR.1
    obtain ⟨s1, s2, s3, s4, s5⟩ := hI.2.2.2.2.1 i hi4
    have ei : ((i : Int)).toNat = i := Int.toNat_natCast i
    refine xb_132_0 ?_
    rw [oc_147 (d := d + 7), zz_t (by omega), oc_141 (d := d + 7) (by omega) (by omega), zz_t (by omega), zr_0_9, zq_64, zq_sh (by omega) (by omega), ei, oc_702 (d := d + 8) (yy_shn hi4), zz_f (by rw [s1]; exact g), zr_0_1, zr_0_0]
    obtain ⟨m1, e, f1, g⟩ := c_402_1_18 (sc := sc) (d := d + 7) (t := t) (m := m) (yy_TX_tx hI.2.1.2.1) (yy_TX_tx hI.2.1.2.2)
    rw [e, xm_Ov_some]
    exact l_132 (d := d + 3) (z := sg_jd (m (67 + 2 * i)) r n 0 (m 75)) (m0 := m) hi4 hr5 (by omega : n ≤ 24) (by rw [s3, hn]) rfl (fun m' h => hQ m' h) n 0 m1 (m 75) (by omega) hI.1.1 (by have := hI.1.2.1; omega) (yy_CP_MX g hI.2.1) (fun c hc => f1 c (by omega)) rfl
  obtain ⟨q, h1, m', h2, h3⟩ := yx_of (y := 132) (M := xm_m132) (sc := sc) (d := d + 9) (as := [.inr (.inl (some 0)), .inl ((i : Int)), .inl ((r : Int))]) (w := yy_W m t) (Q := fun q => ∃ m', q = (some (.inl ((sg_jd (m (67 + 2 * i)) r n 0 (m 75) : Int))), yy_W m' t) ∧ (∀ c, (c < 18 ∨ 35 ≤ c) → m' c = m c)) rfl (key fun m' h => ⟨m', rfl, h⟩) (fun q ⟨m', h, _⟩ => by rw [h]; rfl) rfl (Nat.le_of_ble_eq_true rfl) (yy_hd rfl (by decide))
  exact ⟨m', by rw [h1, h2], h3⟩
set_option maxRecDepth 20000 in
theorem c_1202g {sc : List Int} {d : Nat} {t : xm_W} {m : Nat → Nat → Int} {i r n : Nat} (hi4 : i < 4) (hr5 : r < 5) (h74 : m 74 3 = -1) (hW : sg_W (m 75) 0) (h9 : m 75 1 ≤ 9999) (hr : (r : Int) ≤ m 75 0 - 1) (g : ¬ m 83 i = 0) (hn : m 84 i = (n : Int)) (hn4 : n ≤ 24) : ∃ m', xm_X (xm_old sc) xm_mt (d + 10) 1202 [.inr (.inl (some 74)), .inl ((i : Int)), .inl ((r : Int))] (yy_W m t) = some (some (.inl ((sg_jd (fun j => m 85 (24 * i + j)) r n 0 (m 75) : Int))), yy_W m' t) ∧ (∀ c, c ≠ 75 → c ≠ 77 → c ≠ 80 → c ≠ 81 → m' c = m c) ∧ m' 75 = m 75 := by
  have key : ∀ {Q : Option xm_V × xm_W → Prop}, (∀ m', ((∀ c, c ≠ 75 → c ≠ 77 → c ≠ 80 → c ≠ 81 → m' c = m c) ∧ m' 75 = m 75) → Q (some (.inl ((sg_jd (fun j => m 85 (24 * i + j)) r n 0 (m 75) : Int))), yy_W m' t)) → xm_EQ (xm_old sc) xm_sta (xm_X (xm_old sc) xm_mt (d + 9)) xm_m1202.2.2.2.2.2.2.2 0 (xm_loc xm_m1202.2.2.1 [.inr (.inl (some 74)), .inl ((i : Int)), .inl ((r : Int))]) [] (yy_W m t) Q := by
    intro Q hQ
    have b0 := hW.1.1
    refine xb_1202_0 ?_
    rw [oc_1200 (d := d + 6) hi4 b0 hr, if_neg g, if_neg (by decide), oc_1106 (d := d + 7)]
    refine l_1202 (d := d + 1) (n := n) (nu := fun j => m 85 (24 * i + j)) (S0 := m 75) (m0 := yy_c m 77 (yy_cp (m 75) (m 77) 0 0 339)) (z := sg_jd (fun j => m 85 (24 * i + j)) r n 0 (m 75)) hi4 hr5 hn4 (by rw [yy_c_ne (by decide)]; exact hn) (fun j _ => by rw [yy_c_ne (by decide)]) (by rw [yy_c_ne (by decide)]; exact h74) (fun k hk => by rw [yy_c_eq, yy_cp0 hk]) (fun m' h1 h2 => hQ m' ⟨fun c c1 c2 c3 c4 => by rw [h1 c c1 c3 c4, yy_c_ne c2], h2⟩) n 0 _ (by omega) (by rw [yy_c_ne (by decide)]; exact hW) (by rw [yy_c_ne (by decide)]; omega) (fun c _ _ _ => rfl) (fun q _ => by rw [yy_c_ne (by decide)]) (by rw [yy_c_ne (by decide)])
  obtain ⟨q, h1, m', h2, h3⟩ := yx_of (y := 1202) (M := xm_m1202) (sc := sc) (d := d + 9) (as := [.inr (.inl (some 74)), .inl ((i : Int)), .inl ((r : Int))]) (w := yy_W m t) (Q := fun q => ∃ m', q = (some (.inl ((sg_jd (fun j => m 85 (24 * i + j)) r n 0 (m 75) : Int))), yy_W m' t) ∧ ((∀ c, c ≠ 75 → c ≠ 77 → c ≠ 80 → c ≠ 81 → m' c = m c) ∧ m' 75 = m 75)) rfl (key fun m' h => ⟨m', rfl, h⟩) (fun q ⟨m', h, _⟩ => by rw [h]; rfl) rfl (Nat.le_of_ble_eq_true rfl) (yy_hd rfl (by decide))
  exact ⟨m', by rw [h1, h2], h3⟩
set_option maxRecDepth 20000 in
theorem a_132 {sc : List Int} {t : xm_W} {m : Nat → Nat → Int} {x1 x2 : Int} (hI : yy_I t m) : yy_A sc t m 132 1202 [.inl x1, .inl x2] true := by
  by_cases h : (0 ≤ x1 ∧ x1 ≤ 3) ∧ (0 ≤ x2 ∧ x2 ≤ m 1 4 - 1)
  · obtain ⟨⟨e0, e3, e1, e2⟩, hR⟩ := yy_I_0 hI
    have b0 := hR.1
    obtain ⟨i, rfl⟩ : ∃ i : Nat, x1 = i := ⟨x1.toNat, by omega⟩
    obtain ⟨r, rfl⟩ : ∃ r : Nat, x2 = r := ⟨x2.toNat, by omega⟩
    have hr5 : r < 5 := by omega
    have hi4 : i < 4 := by omega
    obtain ⟨s1, s2, s3, s4, s5⟩ := hI.2.2.2.2.1 i hi4
    have ei : ((i : Int)).toNat = i := Int.toNat_natCast i
    by_cases g : m 83 i = 0
    · have X1 : xm_X (xm_old sc) xm_mt (99 + 1) 132 [.inr (.inl (some 0)), .inl (i : Int), .inl (r : Int)] (yy_W m t) = some (some (.inl (-1000000002)), yy_W (yy_e m 2) t) := by
        refine xm_X_of (M := xm_m132) rfl ⟨xm_EQ.eq (xb_132_0 ?_), rfl, rfl, Nat.le_of_ble_eq_true rfl, yy_hd rfl (by decide)⟩
        rw [oc_147 (d := 97), zz_t h.1, oc_141 (d := 97) (by omega) (by omega), zz_t h.2, zr_0_9, zq_64, zq_sh (by omega) (by omega), ei, oc_702 (d := 98) (yy_shn hi4), zz_t (by rw [s1]; exact g), oc_139 (d := 98) (by decide) (by decide)]
        rfl
      have f : ∀ c, c ≠ 65 → yy_e m 2 c = m c := fun c hc => yy_e75 hc
      have X2 : xm_X (xm_old sc) xm_mt (99 + 1) 1202 [.inr (.inl (some 74)), .inl (i : Int), .inl (r : Int)] (yy_W (yy_e m 2) t) = some (some (.inl (-1000000002)), yy_W (yy_f (yy_e m 2) 2) t) := by
        refine xm_X_of (M := xm_m1202) rfl ⟨xm_EQ.eq (xb_1202_0 ?_), rfl, rfl, Nat.le_of_ble_eq_true rfl, yy_hd rfl (by decide)⟩
        rw [oc_1200 (d := 96) hi4 (by rw [f 75 (by decide)]; omega) (by rw [f 75 (by decide)]; omega), f 83 (by decide), if_pos g, if_pos (by decide), oc_1102 (d := 98) (by decide) (by decide)]
        rfl
      exact yy_Ao X1 X2 (yy_I_ef hI) yy_ef0 rfl
    · obtain ⟨n, hn⟩ : ∃ n : Nat, m 84 i = n := ⟨(m 84 i).toNat, by omega⟩
      obtain ⟨m1, X1, f1⟩ := c_132g (sc := sc) (d := 90) (t := t) (m := m) (i := i) (r := r) (n := n) hi4 hr5 hI (by omega) g hn
      have f75 : m1 75 = m 75 := f1 75 (by omega)
      obtain ⟨m2, X2, f2, q2⟩ := c_1202g (sc := sc) (d := 90) (t := t) (m := m1) (i := i) (r := r) (n := n) hi4 hr5 (by rw [f1 74 (by omega)]; exact hI.2.2.2.2.2.1) (by rw [f75]; exact hI.1.1) (by rw [f75]; exact hI.1.2.1) (by rw [f75]; omega) (by rw [f1 83 (by omega)]; exact g) (by rw [f1 84 (by omega)]; exact hn) (by omega)
      have E : sg_jd (m (67 + 2 * i)) r n 0 (m 75) = sg_jd (fun j => m1 85 (24 * i + j)) r n 0 (m1 75) := by
        rw [f75]
        exact sg_jd_congr n 0 _ (fun j a b => by rw [f1 85 (by omega)]; exact (s5 j (by omega)).1)
      refine yy_Ao X1 X2 (yy_I_n (fun c hc => ?_) hI) ?_ (by rw [E])
      · by_cases e : c = 75
        · subst e; rw [q2, f75]
        · unfold yy_no at hc
          rw [f2 c e (by omega) (by omega) (by omega), f1 c (by omega)]
      · rw [f2 0 (by decide) (by decide) (by decide) (by decide), f1 0 (by omega)]
  · exact r_132 hI h
