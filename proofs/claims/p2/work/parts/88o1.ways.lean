/-! WAYS: both sides -/
def sg_wy (nu : Nat → Int) (r : Nat) : Nat → Nat → (Nat → Int) → Nat × (Nat → Int)
  | 0, i, s => (i, s)
  | k + 1, i, s => if (0 ≤ nu i ∧ nu i ≤ 3) ∧ s (48 + 18 * r) < 12 then sg_wy nu r k (i + 1) (sg_aw s r (nu i)) else (i, s)
set_option maxRecDepth 20000 in
theorem sg_wy_s {nu : Nat → Int} {r k i : Nat} {s : Nat → Int} : sg_wy nu r (k + 1) i s = if (0 ≤ nu i ∧ nu i ≤ 3) ∧ s (48 + 18 * r) < 12 then sg_wy nu r k (i + 1) (sg_aw s r (nu i)) else (i, s) := rfl
set_option maxRecDepth 20000 in
theorem sg_wy_congr {nu nu' : Nat → Int} {r : Nat} : ∀ (k i : Nat) (s : Nat → Int), (∀ j, i ≤ j → j < i + k → nu j = nu' j) → sg_wy nu r k i s = sg_wy nu' r k i s
  | 0, i, s, h => rfl
  | k + 1, i, s, h => by
    rw [sg_wy_s, sg_wy_s, h i (by omega) (by omega), sg_wy_congr k (i + 1) _ (fun j a b => h j (by omega) (by omega))]
set_option maxRecDepth 20000 in
theorem sg_aw_o {s : Nat → Int} {r k : Nat} {w : Int} (h1 : k ≠ 48 + 18 * r) (h2 : k ≠ 50 + 18 * r + (s (48 + 18 * r)).toNat) : sg_aw s r w k = s k := by unfold sg_aw; rw [yy_u_ne h1, yy_u_ne h2]
set_option maxRecDepth 20000 in
theorem sg_aw_4 {s : Nat → Int} {r : Nat} {w : Int} : sg_aw s r w (48 + 18 * r) = s (48 + 18 * r) + 1 := yy_u_eq
set_option maxRecDepth 20000 in
theorem l_131 {sc : List Int} {d : Nat} {t : xm_W} {Q : Option xm_V × xm_W → Prop} {sh r : Nat} {n : Nat} {nu : Nat → Int} (hsh : sh < 4) (hr5 : r < 5) (hn : n ≤ 24) : ∀ (k i : Nat) (m g : Nat → Nat → Int) (u : Option xm_V), i + k = n → m (66 + 2 * sh) 1 = (n : Int) → m (67 + 2 * sh) = nu → yy_I t g → (∀ c, c ≠ 75 → m c = g c) → (∀ m' g', yy_I t g' → (∀ c, c ≠ 75 → m' c = g' c) → (∀ c, (c < 8 ∨ 18 ≤ c) → m' c = m c) → g' 75 = (sg_wy nu r k i (g 75)).2 → Q ((some (.inl (((sg_wy nu r k i (g 75)).1 : Int))), (yy_W (m') t)))) → xm_EQ (xm_old sc) xm_sta (xm_X (xm_old sc) xm_mt (d + 1)) xm_c131 25 [some (.inr (.inl (some 0))), some (.inl ((sh : Int))), some (.inl ((r : Int))), some (.inr (.inl (some (66 + 2 * sh)))), some (.inl ((i : Int))), u] [] (yy_W (m) t) Q
  | 0, i, m, g, u, hk, h1, h2, hI, hg, hQ => by
    have hs : yy_sh (66 + 2 * sh) := by have := yy_sh66 (i := (sh : Int)) (by omega) (by omega); rwa [Int.toNat_natCast] at this
    refine xb_131_25 ?_
    rw [xm_O_some, hf_1 hs, if_neg (by omega), hf_1 hs]
    have := hQ m g hI hg (fun _ _ => rfl) rfl
    rw [show m (66 + 2 * sh) 1 = ((sg_wy nu r 0 i (g 75)).1 : Int) from by rw [h1]; show (n : Int) = (i : Int); omega]
    exact this
  | k + 1, i, m, g, u, hk, h1, h2, hI, hg, hQ => by
    have hs : yy_sh (66 + 2 * sh) := by have := yy_sh66 (i := (sh : Int)) (by omega) (by omega); rwa [Int.toNat_natCast] at this
    have hq := yy_rdn8 hr5
    have er : ((r : Int)).toNat = r := Int.toNat_natCast r
    obtain ⟨⟨e0, e3, e1, e2⟩, hR⟩ := yy_I_0 hI
    obtain ⟨b0, b1, b2, b3, b4, b5, b6⟩ := hR.2.2.2.2.2 r hr5
    have f4 : m (8 + 2 * r) 4 = g 75 (48 + 18 * r) := by rw [hg _ (by omega), (hI.2.1.1.2.2.2.2.2.2 r hr5).1 4 (by decide)]; congr 1; omega
    rw [sg_wy_s] at hQ
    refine xb_131_25 ?_
    rw [xm_O_some, hf_1 hs, if_pos (by omega), hr_2 hs, hi_1 hs, zy_at (by omega) (by omega), Int.toNat_natCast, show 66 + 2 * sh + 1 = 67 + 2 * sh by omega, h2, oc_142 (d := d)]
    by_cases g1 : 0 ≤ nu i ∧ nu i ≤ 3
    · rw [zz_t g1, zr_0_0, zr_1_3, zq_3, zq_r1 (by omega) (by omega), er, oc_604 (d := d) hq (by omega)]
      by_cases g2 : g 75 (48 + 18 * r) < 12
      · rw [if_pos ⟨g1, g2⟩] at hQ
        have g4 : m (8 + 2 * r) 4 < 12 := by omega
        have hx : g (8 + 2 * r) 4 = m (8 + 2 * r) 4 := by rw [hg _ (by omega)]
        rw [if_pos g4, if_pos g4, if_neg (by decide), xm_w_id (by omega) (by omega), show (i : Int) + 1 = ((i + 1 : Nat) : Int) from rfl]
        have hI' := yy_I_aw (w := nu i) hI hr5 g1 g2
        rw [hx] at hI'
        have key := l_131 (sc := sc) (d := d) (Q := Q) (nu := nu) hsh hr5 hn k (i + 1) (yy_s (yy_s m (8 + 2 * r + 1) (m (8 + 2 * r) 4).toNat (nu i)) (8 + 2 * r) 4 (m (8 + 2 * r) 4 + 1)) _ (some (.inl (nu i))) (by omega) (by rw [yy_s_ne (by omega), yy_s_ne (by omega)]; exact h1) (by rw [yy_s_ne (by omega), yy_s_ne (by omega)]; exact h2) hI' (fun c hc => by
          rw [yy_c_ne hc]
          by_cases c1 : c = 8 + 2 * r
          · subst c1; rw [yy_s_eq, yy_s_eq, yy_s_ne (by omega), yy_s_ne (by omega), hg _ hc]
          · rw [yy_s_ne c1, yy_s_ne c1]
            by_cases c2 : c = 8 + 2 * r + 1
            · subst c2; rw [yy_s_eq, yy_s_eq, hg _ hc]
            · rw [yy_s_ne c2, yy_s_ne c2]; exact hg c hc)
        rw [yy_c_eq] at key
        exact key (fun m' g' a b c e => hQ m' g' a b (fun c' hc' => by rw [c c' hc', yy_s_ne (by omega), yy_s_ne (by omega)]) e)
      · rw [if_neg (fun h => g2 h.2)] at hQ
        have g4 : ¬ m (8 + 2 * r) 4 < 12 := by omega
        rw [if_neg g4, if_neg g4, if_pos rfl]
        exact hQ m g hI hg (fun _ _ => rfl) rfl
    · rw [if_neg (fun h => g1 h.1)] at hQ
      rw [zz_f g1]
      exact hQ m g hI hg (fun _ _ => rfl) rfl
