/-! WAYS: both sides -/
def sg_wy (nu : Nat → Int) (r : Nat) : Nat → Nat → (Nat → Int) → Nat × (Nat → Int)
  | 0, i, s => (i, s)
  | k + 1, i, s => if (0 ≤ nu i ∧ nu i ≤ 3) ∧ s (48 + 18 * r) < 12 then sg_wy nu r k (i + 1) (sg_aw s r (nu i)) else (i, s)
set_option maxRecDepth 20000 in
theorem sg_wy_s {nu : Nat → Int} {r k i : Nat} {s : Nat → Int} : sg_wy nu r (k + 1) i s = if (0 ≤ nu i ∧ nu i ≤ 3) ∧ s (48 + 18 * r) < 12 then sg_wy nu r k (i + 1) (sg_aw s r (nu i)) else (i, s) := rfl
set_option maxRecDepth 20000 in
theorem sg_wy_congr {nu nu' : Nat → Int} {r : Nat} : ∀ (k i : Nat) (s : Nat → Int), (∀ j, i ≤ j → j < i + k → nu j = nu' j) → sg_wy nu r k i s = sg_wy nu' r k i s
  | 0, i, s, h => rfl
  | k + 1, i, s, h => by
    rw [sg_wy_s, sg_wy_s, h i (by omega) (by omega), sg_wy_congr k (i + 1) _ (fun j a b => h j (by omega) (by omega))]
set_option maxRecDepth 20000 in
theorem sg_aw_o {s : Nat → Int} {r k : Nat} {w : Int} (h1 : k ≠ 48 + 18 * r) (h2 : k ≠ 50 + 18 * r + (s (48 + 18 * r)).toNat) : sg_aw s r w k = s k := by unfold sg_aw; rw [yy_u_ne h1, yy_u_ne h2]
set_option maxRecDepth 20000 in
theorem sg_aw_4 {s : Nat → Int} {r : Nat} {w : Int} : sg_aw s r w (48 + 18 * r) = s (48 + 18 * r) + 1 := yy_u_eq
set_option maxRecDepth 20000 in
theorem l_131 {sc : List Int} {d : Nat} {t : xm_W} {Q : Option xm_V × xm_W → Prop} {sh r : Nat} {n : Nat} {nu : Nat → Int} (hsh : sh < 4) (hr5 : r < 5) (hn : n ≤ 24) : ∀ (k i : Nat) (m g : Nat → Nat → Int) (u : Option xm_V), i + k = n → m (66 + 2 * sh) 1 = (n : Int) → m (67 + 2 * sh) = nu → yy_I t g → (∀ c, c ≠ 75 → m c = g c) → (∀ m' g', yy_I t g' → (∀ c, c ≠ 75 → m' c = g' c) → (∀ c, (c < 8 ∨ 18 ≤ c) → m' c = m c) → g' 75 = (sg_wy nu r k i (g 75)).2 → Q ((some (.inl (((sg_wy nu r k i (g 75)).1 : Int))), (yy_W (m') t)))) → xm_EQ (xm_old sc) xm_sta (xm_X (xm_old sc) xm_mt (d + 1)) xm_c131 25 [some (.inr (.inl (some 0))), some (.inl ((sh : Int))), some (.inl ((r : Int))), some (.inr (.inl (some (66 + 2 * sh)))), some (.inl ((i : Int))), u] [] (yy_W (m) t) Q
  | 0, i, m, g, u, hk, h1, h2, hI, hg, hQ => by
    have hs : yy_sh (66 + 2 * sh) := by have := yy_sh66 (i := (sh : Int)) (by omega) (by omega); rwa [Int.toNat_natCast] at this
    refine xb_131_25 ?_
    rw [xm_O_some, hf_1 hs, if_neg (by omega), hf_1 hs]
    have := hQ m g hI hg (fun _ _ => rfl) rfl
    rw [show m (66 + 2 * sh) 1 = ((sg_wy nu r 0 i (g 75)).1 : Int) from by rw [h1]; show (n : Int) = (i : Int); omega]
    exact this
  | k + 1, i, m, g, u, hk, h1, h2, hI, hg, hQ => by
    have hs : yy_sh (66 + 2 * sh) := by have := yy_sh66 (i := (sh : Int)) (by omega) (by omega); rwa [Int.toNat_natCast] at this
    have hq := yy_rdn8 hr5
    have er : ((r : Int)).toNat = r := Int.toNat_natCast r
    obtain ⟨⟨e0, e3, e1, e2⟩, hR⟩ := yy_I_0 hI
    obtain ⟨b0, b1, b2, b3, b4, b5, b6⟩ := hR.2.2.2.2.2 r hr5
    have f4 : m (8 + 2 * r) 4 = g 75 (48 + 18 * r) := by rw [hg _ (by omega), (hI.2.1.1.2.2.2.2.2.2 r hr5).1 4 (by decide)]; congr 1; omega
    rw [sg_wy_s] at hQ
    refine xb_131_25 ?_
    rw [xm_O_some, hf_1 hs, if_pos (by omega), hr_2 hs, hi_1 hs, zy_at (by omega) (by omega), Int.toNat_natCast, show 66 + 2 * sh + 1 = 67 + 2 * sh by omega, h2, oc_142 (d := d)]
    by_cases g1 : 0 ≤ nu i ∧ nu i ≤ 3
    · rw [zz_t g1, zr_0_0, zr_1_3, zq_3, zq_r1 (by omega) (by omega), er, oc_604 (d := d) hq (by omega)]
      by_cases g2 : g 75 (48 + 18 * r) < 12
      · rw [if_pos ⟨g1, g2⟩] at hQ
        have g4 : m (8 + 2 * r) 4 < 12 := by omega
        have hx : g (8 + 2 * r) 4 = m (8 + 2 * r) 4 := by rw [hg _ (by omega)]
        rw [if_pos g4, if_pos g4, if_neg (by decide), xm_w_id (by omega) (by omega), show (i : Int) + 1 = ((i + 1 : Nat) : Int) from rfl]
        have hI' := yy_I_aw (w := nu i) hI hr5 g1 g2
        rw [hx] at hI'
        have key := l_131 (sc := sc) (d := d) (Q := Q) hsh hr5 hn k (i + 1) (yy_s (yy_s m (8 + 2 * r + 1) (m (8 + 2 * r) 4).toNat (nu i)) (8 + 2 * r) 4 (m (8 + 2 * r) 4 + 1)) _ (some (.inl (nu i))) (by omega) (by rw [yy_s_ne (by omega), yy_s_ne (by omega)]; exact h1) (by rw [yy_s_ne (by omega), yy_s_ne (by omega)]; exact h2) hI' (fun c hc => by
          rw [yy_c_ne hc]
          by_cases c1 : c = 8 + 2 * r
          · subst c1; rw [yy_s_eq, yy_s_eq, yy_s_ne (by omega), yy_s_ne (by omega), hg _ hc]
          · rw [yy_s_ne c1, yy_s_ne c1]
            by_cases c2 : c = 8 + 2 * r + 1
            · subst c2; rw [yy_s_eq, yy_s_eq, hg _ hc]
            · rw [yy_s_ne c2, yy_s_ne c2]; exact hg c hc)
        rw [yy_c_eq] at key
        exact key (fun m' g' a b c e => hQ m' g' a b (fun c' hc' => by rw [c c' hc', yy_s_ne (by omega), yy_s_ne (by omega)]) e)
      · rw [if_neg (fun h => g2 h.2)] at hQ
        have g4 : ¬ m (8 + 2 * r) 4 < 12 := by omega
        rw [if_neg g4, if_neg g4, if_pos rfl]
        exact hQ m g hI hg (fun _ _ => rfl) rfl
    · rw [if_neg (fun h => g1 h.1)] at hQ
      rw [zz_f g1]
      exact hQ m g hI hg (fun _ _ => rfl) rfl
set_option maxRecDepth 20000 in
theorem c_1150 {sc : List Int} {d : Nat} {t : xm_W} {m : Nat → Nat → Int} {r : Nat} {w : Int} (hr : r < 5) (q0 : 0 ≤ m 75 0 ∧ m 75 0 ≤ 5) (q1 : (r : Int) ≤ m 75 0 - 1) : xm_X (xm_old sc) xm_mt (d + 3) 1150 [.inr (.inl (some 74)), .inl ((r : Int)), .inl (w)] (yy_W (m) t) = some (some (.inl (if 0 ≤ w ∧ w ≤ 3 then (if m 75 (48 + 18 * r) = 12 then 4 else 0) else 1)), (yy_W (m) t)) := by
  refine xm_X_of (M := xm_m1150) rfl ⟨xm_EQ.eq (xb_1150_0 ?_), rfl, rfl, Nat.le_of_ble_eq_true rfl, yy_hd rfl (by decide)⟩
  rw [oc_1109 (by omega) (by omega), zz_t (by omega), oc_1103]
  by_cases g : 0 ≤ w ∧ w ≤ 3
  · rw [zz_t g, oc_1110_4 hr, if_pos g]
    by_cases g2 : m 75 (48 + 18 * r) = 12
    · rw [if_pos g2, if_pos g2]
    · rw [if_neg g2, if_neg g2]
  · rw [zz_f g, if_neg g]
set_option maxRecDepth 20000 in
theorem oc_1150 {F : Int → xm_W → Prop} {sc : List Int} {d : Nat} {t : xm_W} {m : Nat → Nat → Int} {r : Nat} {w : Int} (hr : r < 5) (q0 : 0 ≤ m 75 0 ∧ m 75 0 ≤ 5) (q1 : (r : Int) ≤ m 75 0 - 1) : xm_Oi (xm_X (xm_old sc) xm_mt (d + 3) 1150 [.inr (.inl (some 74)), .inl ((r : Int)), .inl (w)] (yy_W (m) t)) F = F (if 0 ≤ w ∧ w ≤ 3 then (if m 75 (48 + 18 * r) = 12 then 4 else 0) else 1) (yy_W (m) t) := congrArg (fun x => xm_Oi x F) (c_1150 hr q0 q1)
set_option maxRecDepth 20000 in
theorem l_1201 {sc : List Int} {d : Nat} {t : xm_W} {Q : Option xm_V × xm_W → Prop} {sh r : Nat} {n : Nat} {nu : Nat → Int} {z : Int} (hsh : sh < 4) (hr5 : r < 5) (hn : n ≤ 24) : ∀ (k i : Nat) (m : Nat → Nat → Int), i + k = n → m 84 sh = (n : Int) → (∀ j, j < 24 → m 85 (24 * sh + j) = nu j) → (0 ≤ m 75 0 ∧ m 75 0 ≤ 5) → (r : Int) ≤ m 75 0 - 1 → (0 ≤ m 75 (48 + 18 * r) ∧ m 75 (48 + 18 * r) ≤ 12) → Q ((some (.inl (((sg_wy nu r k i (m 75)).1 : Int))), (yy_W (yy_c m 75 (sg_wy nu r k i (m 75)).2) t))) → xm_EQ (xm_old sc) xm_sta (xm_X (xm_old sc) xm_mt (d + 3)) xm_c1201 13 [some (.inr (.inl (some 74))), some (.inl ((sh : Int))), some (.inl ((r : Int))), some (.inl (z)), some (.inl ((i : Int)))] [] (yy_W (m) t) Q
  | 0, i, m, hk, h1, h2, h0, h3, h4, hQ => by
    refine xb_1201_13 ?_
    rw [zr_74_19, zi_84, zy_at (by omega) (by omega), Int.toNat_natCast, if_neg (by omega)]
    have e : yy_c m 75 (m 75) = m := yy_c_id
    rw [show (sg_wy nu r 0 i (m 75)).2 = m 75 from rfl, e] at hQ
    exact hQ
  | k + 1, i, m, hk, h1, h2, h0, h3, h4, hQ => by
    have g85 := h2 i (by omega)
    have w1 : xm_w (xm_w (24 * (sh : Int)) + (i : Int)) = 24 * (sh : Int) + (i : Int) := by rw [xm_w_id (by omega) (by omega), xm_w_id (by omega) (by omega)]
    rw [sg_wy_s] at hQ
    refine xb_1201_13 ?_
    rw [zr_74_19, zi_84, zy_at (by omega) (by omega), Int.toNat_natCast, if_pos (by omega), zr_74_20, zi_85, w1, zy_at (by omega) (by omega), show (24 * (sh : Int) + (i : Int)).toNat = 24 * sh + i by omega, g85, oc_1150 (d := d) hr5 h0 h3]
    by_cases g1 : 0 ≤ nu i ∧ nu i ≤ 3
    · rw [if_pos g1]
      by_cases g2 : m 75 (48 + 18 * r) < 12
      · rw [if_pos ⟨g1, g2⟩] at hQ
        rw [if_neg (by omega : ¬ m 75 (48 + 18 * r) = 12), if_pos rfl, zr_74_20, zi_85, w1, zy_at (by omega) (by omega), show (24 * (sh : Int) + (i : Int)).toNat = 24 * sh + i by omega, g85, oc_1151 (d := d + 1) hr5 ⟨h4.1, g2⟩, xm_w_id (by omega) (by omega), show (i : Int) + 1 = ((i + 1 : Nat) : Int) from rfl]
        have key := l_1201 (sc := sc) (d := d) (t := t) (Q := Q) (z := z) hsh hr5 hn k (i + 1) (yy_c m 75 (sg_aw (m 75) r (nu i))) (by omega) (by rw [yy_c_ne (by decide)]; exact h1) (fun j hj => by rw [yy_c_ne (by decide)]; exact h2 j hj) (by rw [yy_c_eq, sg_aw_o (by omega) (by omega)]; exact h0) (by rw [yy_c_eq, sg_aw_o (by omega) (by omega)]; exact h3) (by rw [yy_c_eq, sg_aw_4]; omega)
        rw [yy_c_eq, yy_c_c] at key
        exact key hQ
      · rw [if_neg (fun h => g2 h.2)] at hQ
        rw [if_pos (by omega : m 75 (48 + 18 * r) = 12), if_neg (by decide)]
        have e : yy_c m 75 (m 75) = m := yy_c_id
        rw [e] at hQ
        exact hQ
    · rw [if_neg (fun h => g1 h.1)] at hQ
      rw [if_neg g1, if_neg (by decide)]
      have e : yy_c m 75 (m 75) = m := yy_c_id
      rw [e] at hQ
      exact hQ
set_option maxRecDepth 20000 in
theorem c_1200 {sc : List Int} {d : Nat} {t : xm_W} {m : Nat → Nat → Int} {i r : Nat} (hi : i < 4) (q0 : 0 ≤ m 75 0 ∧ m 75 0 ≤ 5) (q1 : (r : Int) ≤ m 75 0 - 1) : xm_X (xm_old sc) xm_mt (d + 3) 1200 [.inr (.inl (some 74)), .inl ((i : Int)), .inl ((r : Int))] (yy_W (m) t) = some (some (.inl (if m 83 i = 0 then 2 else 0)), (yy_W (m) t)) := by
  refine xm_X_of (M := xm_m1200) rfl ⟨xm_EQ.eq (xb_1200_0 ?_), rfl, rfl, Nat.le_of_ble_eq_true rfl, yy_hd rfl (by decide)⟩
  rw [oc_1196, zz_t (by omega), oc_1109 (by omega) (by omega), zz_t (by omega), zr_74_18, zi_83, zy_at (by omega) (by omega), Int.toNat_natCast]
  by_cases g2 : m 83 i = 0
  · rw [if_pos g2, if_pos g2]
  · rw [if_neg g2, if_neg g2]
set_option maxRecDepth 20000 in
theorem oc_1200 {F : Int → xm_W → Prop} {sc : List Int} {d : Nat} {t : xm_W} {m : Nat → Nat → Int} {i r : Nat} (hi : i < 4) (q0 : 0 ≤ m 75 0 ∧ m 75 0 ≤ 5) (q1 : (r : Int) ≤ m 75 0 - 1) : xm_Oi (xm_X (xm_old sc) xm_mt (d + 3) 1200 [.inr (.inl (some 74)), .inl ((i : Int)), .inl ((r : Int))] (yy_W (m) t)) F = F (if m 83 i = 0 then 2 else 0) (yy_W (m) t) := congrArg (fun x => xm_Oi x F) (c_1200 hi q0 q1)
set_option maxRecDepth 20000 in
theorem a_131 {sc : List Int} {t : xm_W} {m : Nat → Nat → Int} {x1 x2 : Int} (hI : yy_I t m) : yy_A sc t m 131 1201 [.inl x1, .inl x2] true := by
  by_cases h : (0 ≤ x1 ∧ x1 ≤ 3) ∧ (0 ≤ x2 ∧ x2 ≤ m 1 4 - 1)
  · obtain ⟨⟨e0, e3, e1, e2⟩, hR⟩ := yy_I_0 hI
    have b0 := hR.1
    obtain ⟨i, rfl⟩ : ∃ i : Nat, x1 = i := ⟨x1.toNat, by omega⟩
    obtain ⟨r, rfl⟩ : ∃ r : Nat, x2 = r := ⟨x2.toNat, by omega⟩
    have hr5 : r < 5 := by omega
    have hi4 : i < 4 := by omega
    have hb := hR.2.2.2.2.2 r hr5
    obtain ⟨s1, s2, s3, s4, s5⟩ := hI.2.2.2.2.1 i hi4
    have hr : yy_sh (66 + 2 * i) := by have := yy_sh66 (i := (i : Int)) (by omega) (by omega); rwa [Int.toNat_natCast] at this
    have ei : ((i : Int)).toNat = i := Int.toNat_natCast i
    by_cases g : m 83 i = 0
    · have X1 : xm_X (xm_old sc) xm_mt (99 + 1) 131 [.inr (.inl (some 0)), .inl (i : Int), .inl (r : Int)] (yy_W m t) = some (some (.inl (-1000000002)), yy_W (yy_e m 2) t) := by
        refine xm_X_of (M := xm_m131) rfl ⟨xm_EQ.eq (xb_131_0 ?_), rfl, rfl, Nat.le_of_ble_eq_true rfl, yy_hd rfl (by decide)⟩
        rw [oc_147 (d := 97), zz_t h.1, oc_141 (d := 97) (by omega) (by omega), zz_t h.2, zr_0_9, zq_64, zq_sh (by omega) (by omega), ei, oc_702 (d := 98) hr, zz_t (by rw [s1]; exact g), oc_139 (d := 98) (by decide) (by decide)]
        rfl
      have f : ∀ c, c ≠ 65 → yy_e m 2 c = m c := fun c hc => yy_e75 hc
      have X2 : xm_X (xm_old sc) xm_mt (99 + 1) 1201 [.inr (.inl (some 74)), .inl (i : Int), .inl (r : Int)] (yy_W (yy_e m 2) t) = some (some (.inl (-1000000002)), yy_W (yy_f (yy_e m 2) 2) t) := by
        refine xm_X_of (M := xm_m1201) rfl ⟨xm_EQ.eq (xb_1201_0 ?_), rfl, rfl, Nat.le_of_ble_eq_true rfl, yy_hd rfl (by decide)⟩
        rw [oc_1200 (d := 96) hi4 (by rw [f 75 (by decide)]; omega) (by rw [f 75 (by decide)]; omega), f 83 (by decide), if_pos g, if_pos (by decide), oc_1102 (d := 98) (by decide) (by decide)]
        rfl
      exact yy_Ao X1 X2 (yy_I_ef hI) yy_ef0 rfl
    · obtain ⟨n, hn⟩ : ∃ n : Nat, m 84 i = n := ⟨(m 84 i).toNat, by omega⟩
      have X1 : ∃ m1, xm_X (xm_old sc) xm_mt (99 + 1) 131 [.inr (.inl (some 0)), .inl (i : Int), .inl (r : Int)] (yy_W m t) = some (some (.inl ((sg_wy (m (67 + 2 * i)) r n 0 (m 75)).1 : Int)), yy_W m1 t) ∧ ∃ g', yy_I t g' ∧ (∀ c, c ≠ 75 → m1 c = g' c) ∧ (∀ c, (c < 8 ∨ 18 ≤ c) → m1 c = m c) ∧ g' 75 = (sg_wy (m (67 + 2 * i)) r n 0 (m 75)).2 := by
        have key : ∀ {Q : Option xm_V × xm_W → Prop}, (∀ m1, (∃ g', yy_I t g' ∧ (∀ c, c ≠ 75 → m1 c = g' c) ∧ (∀ c, (c < 8 ∨ 18 ≤ c) → m1 c = m c) ∧ g' 75 = (sg_wy (m (67 + 2 * i)) r n 0 (m 75)).2) → Q (some (.inl ((sg_wy (m (67 + 2 * i)) r n 0 (m 75)).1 : Int)), yy_W m1 t)) → xm_EQ (xm_old sc) xm_sta (xm_X (xm_old sc) xm_mt 99) xm_m131.2.2.2.2.2.2.2 0 (xm_loc xm_m131.2.2.1 [.inr (.inl (some 0)), .inl (i : Int), .inl (r : Int)]) [] (yy_W m t) Q := by
          intro Q hQ
          refine xb_131_0 ?_
          rw [oc_147 (d := 97), zz_t h.1, oc_141 (d := 97) (by omega) (by omega), zz_t h.2, zr_0_9, zq_64, zq_sh (by omega) (by omega), ei, oc_702 (d := 98) hr, zz_f (by rw [s1]; exact g)]
          exact l_131 (d := 98) hi4 hr5 (by omega : n ≤ 24) n 0 m m none (by omega) (by rw [s3, hn]) rfl hI (fun _ _ => rfl) (fun m' g' a b c e => hQ m' ⟨g', a, b, c, e⟩)
        obtain ⟨q, h1, m', h2, h3⟩ := yx_of (y := 131) (M := xm_m131) (sc := sc) (d := 99) (as := [.inr (.inl (some 0)), .inl (i : Int), .inl (r : Int)]) (w := yy_W m t) (Q := fun q => ∃ m1, q = (some (.inl ((sg_wy (m (67 + 2 * i)) r n 0 (m 75)).1 : Int)), yy_W m1 t) ∧ ∃ g', yy_I t g' ∧ (∀ c, c ≠ 75 → m1 c = g' c) ∧ (∀ c, (c < 8 ∨ 18 ≤ c) → m1 c = m c) ∧ g' 75 = (sg_wy (m (67 + 2 * i)) r n 0 (m 75)).2) rfl (key fun m' h => ⟨m', rfl, h⟩) (fun q ⟨m', h, _⟩ => by rw [h]; rfl) rfl (Nat.le_of_ble_eq_true rfl) (yy_hd rfl (by decide))
        exact ⟨m', by rw [h1, h2], h3⟩
      obtain ⟨m1, X1, g', k1, k2, k3, k4⟩ := X1
      have f75 : m1 75 = m 75 := k3 75 (by omega)
      have hc := sg_wy_congr (nu := m (67 + 2 * i)) (nu' := fun j => m1 85 (24 * i + j)) (r := r) n 0 (m 75) (fun j a b => by rw [k3 85 (by omega)]; exact (s5 j (by omega)).1)
      have X2 : xm_X (xm_old sc) xm_mt (99 + 1) 1201 [.inr (.inl (some 74)), .inl (i : Int), .inl (r : Int)] (yy_W m1 t) = some (some (.inl ((sg_wy (m (67 + 2 * i)) r n 0 (m 75)).1 : Int)), yy_W (yy_c m1 75 (sg_wy (m (67 + 2 * i)) r n 0 (m 75)).2) t) := by
        refine xm_X_of (M := xm_m1201) rfl ⟨xm_EQ.eq (xb_1201_0 ?_), rfl, rfl, Nat.le_of_ble_eq_true rfl, yy_hd rfl (by decide)⟩
        rw [oc_1200 (d := 96) hi4 (by rw [f75]; omega) (by rw [f75]; omega), k3 83 (by omega), if_neg g, if_neg (by decide)]
        refine l_1201 (d := 96) (nu := fun j => m1 85 (24 * i + j)) (n := n) hi4 hr5 (by omega) n 0 m1 (by omega) (by rw [k3 84 (by omega)]; exact hn) (fun j _ => rfl) (by rw [f75]; exact b0) (by rw [f75]; omega) (by rw [f75]; exact hb.2.2.2.2.1) ?_
        rw [f75, ← hc]
      have E : yy_c m1 75 (sg_wy (m (67 + 2 * i)) r n 0 (m 75)).2 = g' := by
        funext c
        by_cases c5 : c = 75
        · subst c5; rw [yy_c_eq, k4]
        · rw [yy_c_ne c5]; exact k2 c c5
      exact yy_Ao X1 X2 (by rw [E]; exact k1) (by rw [yy_c_ne (by decide), k3 0 (by omega)]) rfl
  · exact r_131 hI h
