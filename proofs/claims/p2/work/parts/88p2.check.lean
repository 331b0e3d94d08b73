/-! CHECK: both sides -/
def sg_ck (wa : Nat → Int) : Nat → Nat → (Nat → Int) → Int
  | 0, _, _ => 0
  | k + 1, i, s => if wa i = sg_hour (-1) s 3 then sg_ck wa k (i + 1) (sg_hour (-1) s) else 1 + i
set_option maxRecDepth 20000 in
theorem sg_ck_s {wa : Nat → Int} {k i : Nat} {s : Nat → Int} : sg_ck wa (k + 1) i s = if wa i = sg_hour (-1) s 3 then sg_ck wa k (i + 1) (sg_hour (-1) s) else 1 + i := rfl
set_option maxRecDepth 20000 in
theorem sg_ck_congr {wa wa' : Nat → Int} : ∀ (k i : Nat) (s : Nat → Int), (∀ j, i ≤ j → j < i + k → wa j = wa' j) → sg_ck wa k i s = sg_ck wa' k i s
  | 0, i, s, h => rfl
  | k + 1, i, s, h => by
    rw [sg_ck_s, sg_ck_s, h i (by omega) (by omega), sg_ck_congr k (i + 1) _ (fun j a b => h j (by omega) (by omega))]
set_option maxRecDepth 20000 in
theorem l_136 {sc : List Int} {d : Nat} {t : xm_W} {Q : Option xm_V × xm_W → Prop} {n : Nat} {z : Int} {wa : Nat → Int} {m0 : Nat → Nat → Int} (hn : n ≤ 24) (h2 : m0 37 = wa) (hQ : ∀ m', (∀ c, (c < 18 ∨ 35 ≤ c) → m' c = m0 c) → Q ((some (.inl (z)), (yy_W (m') t)))) : ∀ (k i : Nat) (m : Nat → Nat → Int) (s : Nat → Int), i + k = n → sg_W s 0 → s 1 + k ≤ 20000 → yy_MX t m 18 s → (∀ c, (c < 18 ∨ 35 ≤ c) → m c = m0 c) → sg_ck wa k i s = z → xm_EQ (xm_old sc) xm_sta (xm_X (xm_old sc) xm_mt (d + 6)) xm_c136 15 [some (.inr (.inl (some 0))), some (.inl ((n : Int))), some (.inl ((i : Int)))] [] (yy_W (m) t) Q
  | 0, i, m, s, hk, hW, hs1, hM, hF, hz => by
    have hz' : (0 : Int) = z := hz
    have := hQ m hF
    rw [← hz'] at this
    refine xb_136_15 ?_
    rw [if_neg (by omega)]
    exact this
  | k + 1, i, m, s, hk, hW, hs1, hM, hF, hz => by
    rw [sg_ck_s] at hz
    refine xb_136_15 ?_
    rw [if_pos (by omega), zr_0_1]
    obtain ⟨m', e, g1, g2⟩ := c_405_18g (sc := sc) (d := d) (t := t) (m := m) hM hW (by omega)
    obtain ⟨w1, w2, w3⟩ := sg_hour_W (st := -1) hW (by omega)
    have hF' : ∀ c, (c < 18 ∨ 35 ≤ c) → m' c = m0 c := fun c hc => by rw [g1 c (by omega)]; exact hF c hc
    rw [e, xm_Ov_some, zr_0_2, zr_35_2, zi_37, zy_at (by omega) (by omega), Int.toNat_natCast, hF' 37 (by omega), h2, zr_0_1, zf_18_6, g2.1.2.2.2.1]
    by_cases g : wa i = sg_hour (-1) s 3
    · rw [if_pos g] at hz
      rw [if_pos g, xm_w_id (by omega) (by omega), show (i : Int) + 1 = ((i + 1 : Nat) : Int) from rfl]
      exact l_136 hn h2 hQ k (i + 1) m' (sg_hour (-1) s) (by omega) w1 (by rw [w2]; omega) g2 hF' hz
    · rw [if_neg g] at hz
      rw [if_neg g, xm_w_id (by omega) (by omega), hz]
      exact hQ m' hF'
set_option maxRecDepth 20000 in
theorem l_1206 {sc : List Int} {d : Nat} {t : xm_W} {Q : Option xm_V × xm_W → Prop} {n : Nat} {z : Int} {wa S0 : Nat → Int} {m0 : Nat → Nat → Int} (hn : n ≤ 24) (h2 : ∀ j, j < 24 → S0 (649 + j) = wa j) (h3 : m0 74 3 = -1) (h77 : ∀ k, k < 339 → m0 77 k = S0 k) (hQ : ∀ m', (∀ c, c ≠ 75 → c ≠ 80 → c ≠ 81 → m' c = m0 c) → m' 75 = S0 → Q ((some (.inl (z)), (yy_W (m') t)))) : ∀ (k i : Nat) (m : Nat → Nat → Int), i + k = n → sg_W (m 75) 0 → m 75 1 + k ≤ 20000 → (∀ c, c ≠ 75 → c ≠ 80 → c ≠ 81 → m c = m0 c) → (∀ q, 339 ≤ q → m 75 q = S0 q) → sg_ck wa k i (m 75) = z → xm_EQ (xm_old sc) xm_sta (xm_X (xm_old sc) xm_mt (d + 8)) xm_c1206 16 [some (.inr (.inl (some 74))), some (.inl ((n : Int))), some (.inl ((i : Int))), some (.inl ((1 : Int)))] [] (yy_W (m) t) Q
  | 0, i, m, hk, hW, hs1, hF, hq, hz => by
    have hz' : (0 : Int) = z := hz
    refine xb_1206_16 ?_
    rw [if_neg (by omega), oc_1107 (d := d + 6), yy_back (s := S0) (fun k hk => by rw [hF 77 (by decide) (by decide) (by decide)]; exact h77 k hk) hq, if_neg (by decide)]
    have := hQ (yy_c m 75 S0) (fun c c1 c2 c3 => by rw [yy_c_ne c1]; exact hF c c1 c2 c3) yy_c_eq
    rw [← hz'] at this
    exact this
  | k + 1, i, m, hk, hW, hs1, hF, hq, hz => by
    have m3 : m 74 3 = -1 := by rw [hF 74 (by decide) (by decide) (by decide)]; exact h3
    obtain ⟨m', e, g1, g2⟩ := c_1156 (sc := sc) (d := d) (t := t) (m := m) hW (by omega)
    rw [m3] at g2
    obtain ⟨w1, w2, w3⟩ := sg_hour_W (st := -1) hW (by omega)
    have hF' : ∀ c, c ≠ 75 → c ≠ 80 → c ≠ 81 → m' c = m0 c := fun c c1 c2 c3 => by rw [g1 c c1 c2 c3]; exact hF c c1 c2 c3
    have hq' : ∀ q, 339 ≤ q → m' 75 q = S0 q := fun q hq' => by rw [g2, w3 q (Or.inr hq') (by omega) (by omega)]; exact hq q hq'
    have gw : m' 75 (649 + i) = wa i := by rw [hq' _ (by omega)]; exact h2 i (by omega)
    have g3 : m' 75 3 = sg_hour (-1) (m 75) 3 := by rw [g2]
    rw [sg_ck_s] at hz
    refine xb_1206_16 ?_
    rw [if_pos (by omega), if_neg (by decide), e, xm_Ov_some, zr_74_0, zi_75, xm_w_id (by omega) (by omega), zy_at (by omega) (by omega), show (649 + (i : Int)).toNat = 649 + i by omega, gw, zr_74_0, zi_75, zy_at (by decide) (by decide), show (3 : Int).toNat = 3 from rfl, g3]
    by_cases g : wa i = sg_hour (-1) (m 75) 3
    · rw [if_pos g] at hz
      rw [if_pos g, if_neg (by decide), xm_w_id (by omega) (by omega), show (i : Int) + 1 = ((i + 1 : Nat) : Int) from rfl]
      exact l_1206 hn h2 h3 h77 hQ k (i + 1) m' (by omega) (by rw [g2]; exact w1) (by rw [g2, w2]; omega) hF' hq' (by rw [g2]; exact hz)
    · rw [if_neg g] at hz
      rw [if_neg g, if_pos rfl, xm_w_id (by omega) (by omega), show (i : Int) + 0 = (i : Int) by omega]
      refine xb_1206_16 ?_
      rw [if_pos (by omega), if_pos rfl, oc_1107 (d := d + 6), yy_back (s := S0) (fun k hk => by rw [hF' 77 (by decide) (by decide) (by decide)]; exact h77 k hk) hq', if_pos rfl, xm_w_id (by omega) (by omega), hz]
      exact hQ _ (fun c c1 c2 c3 => by rw [yy_c_ne c1]; exact hF' c c1 c2 c3) yy_c_eq
set_option maxRecDepth 20000 in
theorem c_136g {sc : List Int} {d : Nat} {t : xm_W} {m : Nat → Nat → Int} {n : Nat} {S : Nat → Int} (hM : yy_MX t m 1 S) (hW : sg_W S 0) (h9 : S 1 ≤ 9999) (h : m 35 3 = (n : Int)) (hn : n ≤ 24) : ∃ m', xm_X (xm_old sc) xm_mt (d + 10) 136 [.inr (.inl (some 0))] (yy_W m t) = some (some (.inl (sg_ck (m 37) n 0 S)), yy_W m' t) ∧ (∀ c, (c < 18 ∨ 35 ≤ c) → m' c = yy_s m 35 3 0 c) := by
  have key : ∀ {Q : Option xm_V × xm_W → Prop}, (∀ m', ((∀ c, (c < 18 ∨ 35 ≤ c) → m' c = yy_s m 35 3 0 c)) → Q (some (.inl (sg_ck (m 37) n 0 S)), yy_W m' t)) → xm_EQ (xm_old sc) xm_sta (xm_X (xm_old sc) xm_mt (d + 9)) xm_m136.2.2.2.2.2.2.2 0 (xm_loc xm_m136.2.2.1 [.inr (.inl (some 0))]) [] (yy_W m t) Q := by
    intro Q hQ
    refine xb_136_0 ?_
    rw [zr_0_2, zf_35_3, zr_0_2, zs_35_3, h, zr_0_1, zr_0_0]
    have hM' : yy_MX t (yy_s m 35 3 0) 1 S := yy_MX_r (fun c hc => yy_s_ne (by omega)) hM
    obtain ⟨m1, e, f1, g⟩ := c_402_1_18 (sc := sc) (d := d + 7) (t := t) (m := yy_s m 35 3 0) (yy_TX_tx hM'.2.1) (yy_TX_tx hM'.2.2)
    rw [e, xm_Ov_some]
    exact l_136 (d := d + 3) (z := sg_ck (m 37) n 0 S) (wa := m 37) (m0 := yy_s m 35 3 0) hn (by rw [yy_s_ne (by decide)]) (fun m' h => hQ m' h) n 0 m1 S (by omega) hW (by omega) (yy_CP_MX g hM') (fun c hc => f1 c (by omega)) rfl
  obtain ⟨q, h1, m', h2, h3⟩ := yx_of (y := 136) (M := xm_m136) (sc := sc) (d := d + 9) (as := [.inr (.inl (some 0))]) (w := yy_W m t) (Q := fun q => ∃ m', q = (some (.inl (sg_ck (m 37) n 0 S)), yy_W m' t) ∧ ((∀ c, (c < 18 ∨ 35 ≤ c) → m' c = yy_s m 35 3 0 c))) rfl (key fun m' h => ⟨m', rfl, h⟩) (fun q ⟨m', h, _⟩ => by rw [h]; rfl) rfl (Nat.le_of_ble_eq_true rfl) (yy_hd rfl (by decide))
  exact ⟨m', by rw [h1, h2], h3⟩
set_option maxRecDepth 20000 in
theorem c_1206g {sc : List Int} {d : Nat} {t : xm_W} {m : Nat → Nat → Int} {n : Nat} {S : Nat → Int} (h74 : m 74 3 = -1) (hS : S = yy_u (m 75) 5 0) (hW : sg_W S 0) (h9 : S 1 ≤ 9999) (h : m 75 5 = (n : Int)) (hn : n ≤ 24) : ∃ m', xm_X (xm_old sc) xm_mt (d + 10) 1206 [.inr (.inl (some 74))] (yy_W m t) = some (some (.inl (sg_ck (fun j => S (649 + j)) n 0 S)), yy_W m' t) ∧ (∀ c, c ≠ 75 → c ≠ 77 → c ≠ 80 → c ≠ 81 → m' c = m c) ∧ m' 75 = S := by
  have key : ∀ {Q : Option xm_V × xm_W → Prop}, (∀ m', ((∀ c, c ≠ 75 → c ≠ 77 → c ≠ 80 → c ≠ 81 → m' c = m c) ∧ m' 75 = S) → Q (some (.inl (sg_ck (fun j => S (649 + j)) n 0 S)), yy_W m' t)) → xm_EQ (xm_old sc) xm_sta (xm_X (xm_old sc) xm_mt (d + 9)) xm_m1206.2.2.2.2.2.2.2 0 (xm_loc xm_m1206.2.2.1 [.inr (.inl (some 74))]) [] (yy_W m t) Q := by
    intro Q hQ
    refine xb_1206_0 ?_
    have e75 : yy_s m 75 5 0 75 = S := by rw [yy_s_eq, hS]
    rw [zr_74_0, zi_75, zy_at (by decide) (by decide), zr_74_0, zt_75 (by decide) (by decide), show (5 : Int).toNat = 5 from rfl, h, oc_1106 (d := d + 7), e75]
    exact l_1206 (d := d + 1) (n := n) (wa := fun j => S (649 + j)) (S0 := S) (m0 := yy_c (yy_s m 75 5 0) 77 (yy_cp S (yy_s m 75 5 0 77) 0 0 339)) (z := sg_ck (fun j => S (649 + j)) n 0 S) hn (fun j _ => rfl) (by rw [yy_c_ne (by decide), yy_s_ne (by decide)]; exact h74) (fun k hk => by rw [yy_c_eq, yy_cp0 hk]) (fun m' h1 h2 => hQ m' ⟨fun c c1 c2 c3 c4 => by rw [h1 c c1 c3 c4, yy_c_ne c2, yy_s_ne c1], h2⟩) n 0 _ (by omega) (by rw [yy_c_ne (by decide), e75]; exact hW) (by rw [yy_c_ne (by decide), e75]; omega) (fun c _ _ _ => rfl) (fun q _ => by rw [yy_c_ne (by decide), e75]) (by rw [yy_c_ne (by decide), e75])
  obtain ⟨q, h1, m', h2, h3⟩ := yx_of (y := 1206) (M := xm_m1206) (sc := sc) (d := d + 9) (as := [.inr (.inl (some 74))]) (w := yy_W m t) (Q := fun q => ∃ m', q = (some (.inl (sg_ck (fun j => S (649 + j)) n 0 S)), yy_W m' t) ∧ ((∀ c, c ≠ 75 → c ≠ 77 → c ≠ 80 → c ≠ 81 → m' c = m c) ∧ m' 75 = S)) rfl (key fun m' h => ⟨m', rfl, h⟩) (fun q ⟨m', h, _⟩ => by rw [h]; rfl) rfl (Nat.le_of_ble_eq_true rfl) (yy_hd rfl (by decide))
  exact ⟨m', by rw [h1, h2], h3⟩
set_option maxRecDepth 20000 in
theorem a_136 {sc : List Int} {t : xm_W} {m : Nat → Nat → Int} (hI : yy_I t m) : yy_A sc t m 136 1206 [] true := by
  obtain ⟨⟨hW, h1, hD⟩, hX, hR, -⟩ := id hI
  obtain ⟨d1, d2, d3, d4, d5⟩ := id hR
  obtain ⟨g1, g2, g3⟩ := id hD
  obtain ⟨n, hn⟩ : ∃ n : Nat, m 75 5 = n := ⟨(m 75 5).toNat, by omega⟩
  obtain ⟨S, hS⟩ : ∃ S, S = yy_u (m 75) 5 0 := ⟨_, rfl⟩
  have o : ∀ k, k ≠ 5 → S k = m 75 k := fun k hk => by rw [hS, yy_u_ne hk]
  have hWS : sg_W S 0 := sg_W_q (fun k hk => o k (by omega)) hW
  have hMS : yy_MX t m 1 S := yy_MX_q (sg_W_T hW) (fun k hk => o k (by omega)) (fun c _ => rfl) hX
  obtain ⟨m1, X1, f1⟩ := c_136g (sc := sc) (d := 90) (t := t) (m := m) (n := n) (S := S) hMS hWS (by rw [o 1 (by decide)]; exact h1) (by rw [d2]; exact hn) (by omega)
  have f75 : m1 75 = m 75 := by rw [f1 75 (by omega), yy_s_ne (by decide)]
  obtain ⟨m2, X2, f2, q2⟩ := c_1206g (sc := sc) (d := 90) (t := t) (m := m1) (n := n) (S := S) (by rw [f1 74 (by omega), yy_s_ne (by decide)]; exact hI.2.2.2.2.2.1) (by rw [f75]; exact hS) hWS (by rw [o 1 (by decide)]; exact h1) (by rw [f75]; exact hn) (by omega)
  have E : sg_ck (m 37) n 0 S = sg_ck (fun j => S (649 + j)) n 0 S := sg_ck_congr n 0 _ (fun j a b => by rw [o _ (by omega)]; exact d5 j (by omega))
  refine yy_Ao X1 X2 (yy_I_dk hI (fun c hc a b e => ?_) (fun k hk => by rw [q2, o k (by omega)]) ?_ ?_) ?_ E
  · unfold yy_no at a
    rw [f2 c e (by omega) (by omega) (by omega), f1 c (by omega), yy_s_ne (by omega)]
  · rw [q2]
    exact ⟨by rw [o 4 (by decide)]; exact g1, by rw [hS, yy_u_eq]; omega, fun k hk => by rw [o _ (by omega)]; exact g3 k hk⟩
  · rw [q2]
    have F : ∀ c, (35 ≤ c ∧ c < 38) → m2 c = yy_s m 35 3 0 c := fun c hc => by rw [f2 c (by omega) (by omega) (by omega) (by omega), f1 c (by omega)]
    refine ⟨?_, ?_, ?_, fun k hk => ?_, fun k hk => ?_⟩
    · rw [F 35 (by omega), o 4 (by decide), yy_s_eq, yy_u_ne (by decide)]; exact d1
    · rw [F 35 (by omega), hS, yy_s_eq, yy_u_eq, yy_u_eq]
    · rw [F 35 (by omega), o 6 (by decide), yy_s_eq, yy_u_ne (by decide)]; exact d3
    · rw [F (35 + 1) (by omega), o _ (by omega), yy_s_ne (by omega)]; exact d4 k hk
    · rw [F (35 + 2) (by omega), o _ (by omega), yy_s_ne (by omega)]; exact d5 k hk
  · rw [f2 0 (by decide) (by decide) (by decide) (by decide), f1 0 (by omega), yy_s_ne (by decide)]
