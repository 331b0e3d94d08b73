/-! WAYS: the reference, its loop -/
set_option maxRecDepth 20000 in
theorem xm_w2 {a b : Int} (h0 : -2147483648 ≤ a) (h1 : a < 2147483648) (h2 : -2147483648 ≤ a + b) (h3 : a + b < 2147483648) : xm_w (xm_w a + b) = a + b := by rw [xm_w_id h0 h1, xm_w_id h2 h3]
set_option maxRecDepth 20000 in
theorem l_1201 {sc : List Int} {d : Nat} {t : xm_W} {Q : Option xm_V × xm_W → Prop} {sh r : Nat} {n : Nat} {nu : Nat → Int} {z : Int} (hsh : sh < 4) (hr5 : r < 5) (hn : n ≤ 24) : ∀ (k i : Nat) (m : Nat → Nat → Int), i + k = n → m 84 sh = (n : Int) → (∀ j, j < 24 → m 85 (24 * sh + j) = nu j) → (0 ≤ m 75 0 ∧ m 75 0 ≤ 5) → (r : Int) ≤ m 75 0 - 1 → (0 ≤ m 75 (48 + 18 * r) ∧ m 75 (48 + 18 * r) ≤ 12) → Q ((some (.inl (((sg_wy nu r k i (m 75)).1 : Int))), (yy_W (yy_c m 75 (sg_wy nu r k i (m 75)).2) t))) → xm_EQ (xm_old sc) xm_sta (xm_X (xm_old sc) xm_mt (d + 3)) xm_c1201 13 [some (.inr (.inl (some 74))), some (.inl ((sh : Int))), some (.inl ((r : Int))), some (.inl (z)), some (.inl ((i : Int)))] [] (yy_W (m) t) Q
  | 0, i, m, hk, h1, h2, h0, h3, h4, hQ => by
    refine xb_1201_13 ?_
    rw [zr_74_19, zi_84, zy_at (by omega) (by omega), Int.toNat_natCast, if_neg (by omega)]
    have e : yy_c m 75 (m 75) = m := yy_c_id
    rw [show (sg_wy nu r 0 i (m 75)).2 = m 75 from rfl, e] at hQ
    exact hQ
  | k + 1, i, m, hk, h1, h2, h0, h3, h4, hQ => by
    have g85 := h2 i (by omega)
    rw [sg_wy_s] at hQ
    refine xb_1201_13 ?_
    rw [zr_74_19, zi_84, zy_at (by omega) (by omega), Int.toNat_natCast, if_pos (by omega), zr_74_20, zi_85, xm_w2 (by omega) (by omega) (by omega) (by omega), zy_at (by omega) (by omega), show (24 * (sh : Int) + (i : Int)).toNat = 24 * sh + i by omega, g85, oc_1150 (d := d) hr5 h0 h3]
    by_cases g1 : 0 ≤ nu i ∧ nu i ≤ 3
    · rw [if_pos g1]
      by_cases g2 : m 75 (48 + 18 * r) < 12
      · rw [if_pos ⟨g1, g2⟩] at hQ
        rw [if_neg (by omega : ¬ m 75 (48 + 18 * r) = 12), if_pos rfl, zr_74_20, zi_85, zy_at (by omega) (by omega), show (24 * (sh : Int) + (i : Int)).toNat = 24 * sh + i by omega, g85, oc_1151 (d := d + 1) hr5 ⟨h4.1, g2⟩, xm_w_id (by omega) (by omega), show (i : Int) + 1 = ((i + 1 : Nat) : Int) from rfl]
        have key := l_1201 (sc := sc) (d := d) (t := t) (Q := Q) (z := z) (nu := nu) hsh hr5 hn k (i + 1) (yy_c m 75 (sg_aw (m 75) r (nu i))) (by omega) (by rw [yy_c_ne (by decide)]; exact h1) (fun j hj => by rw [yy_c_ne (by decide)]; exact h2 j hj) (by rw [yy_c_eq, sg_aw_o (by omega) (by omega)]; exact h0) (by rw [yy_c_eq, sg_aw_o (by omega) (by omega)]; exact h3) (by rw [yy_c_eq, sg_aw_4]; omega)
        rw [yy_c_eq, yy_c_c] at key
        exact key hQ
      · rw [if_neg (fun h => g2 h.2)] at hQ
        rw [if_pos (by omega : m 75 (48 + 18 * r) = 12), if_neg (by decide)]
        have e : yy_c m 75 (m 75) = m := yy_c_id
        rw [e] at hQ
        exact hQ
    · rw [if_neg (fun h => g1 h.1)] at hQ
      rw [if_neg g1, if_neg (by decide)]
      have e : yy_c m 75 (m 75) = m := yy_c_id
      rw [e] at hQ
      exact hQ
