/-! FEED: the bytes of both sides -/
set_option maxRecDepth 20000 in
theorem sp_255 {w j : Nat} (hw : 8 ≤ w) (hj : j < w) : (255#w).getLsbD j = decide (j < 8) := by
  rw [BitVec.getLsbD_ofNat]
  rw [show (255 : Nat) = 2 ^ 8 - 1 from rfl, Nat.testBit_two_pow_sub_one]
  simp only [hj, decide_true, Bool.true_and]
set_option maxRecDepth 20000 in
theorem sp_byte {x : BitVec 64} {n : Nat} (hn : n + 8 ≤ 64) : ((x.sshiftRight n) &&& 255#64).signExtend 32 = ((x >>> n).signExtend 32) &&& 255#32 := by
  apply BitVec.eq_of_getLsbD_eq
  intro j hj
  rw [BitVec.getLsbD_signExtend, BitVec.getLsbD_and, BitVec.getLsbD_and, BitVec.getLsbD_signExtend, sp_255 (by decide) hj, if_pos (by omega), sp_255 (by decide) (by omega), if_pos (by omega), BitVec.getLsbD_sshiftRight, BitVec.getLsbD_ushiftRight]
  by_cases h : j < 8
  · rw [if_pos (by omega)]
    simp only [hj, h, decide_true, Bool.true_and, Bool.and_true]
    rw [decide_eq_false (by omega)]; rfl
  · simp only [h, decide_false, Bool.and_false]
set_option maxRecDepth 20000 in
theorem sp_b255 {v : Int} : 0 ≤ xm_and v 255 ∧ xm_and v 255 ≤ 255 := by
  unfold xm_and
  show 0 ≤ (Int32.ofInt v &&& Int32.ofInt 255).toBitVec.toInt ∧ (Int32.ofInt v &&& Int32.ofInt 255).toBitVec.toInt ≤ 255
  rw [Int32.toBitVec_and]
  have e : (Int32.ofInt 255).toBitVec = 255#32 := by decide
  have : ((Int32.ofInt v).toBitVec &&& (Int32.ofInt 255).toBitVec).toNat ≤ 255 := by
    rw [e, BitVec.toNat_and]; exact Nat.and_le_right
  rw [BitVec.toInt_eq_toNat_of_lt (by omega)]
  omega
set_option maxRecDepth 20000 in
theorem sp_sh8 {x : Int64} (k : Nat) (hk : k < 8) : (xm_lshr x (8 * (k : Int))).toBitVec = x.toBitVec.sshiftRight (8 * k) ∧ (xm_lushr x (8 * (k : Int))).toBitVec = x.toBitVec >>> (8 * k) := by
  rcases (show k = 0 ∨ k = 1 ∨ k = 2 ∨ k = 3 ∨ k = 4 ∨ k = 5 ∨ k = 6 ∨ k = 7 by omega) with e | e | e | e | e | e | e | e <;> subst e
  · exact ⟨by unfold xm_lshr; rw [show ((Int32.ofInt (8 * ((0 : Nat) : Int))).toInt64 &&& 63) = 0 from by decide]; rfl, by unfold xm_lushr; rw [show ((Int32.ofInt (8 * ((0 : Nat) : Int))).toInt64.toUInt64 &&& Int64.toUInt64 63) = 0 from by decide]; rfl⟩
  · exact ⟨by unfold xm_lshr; rw [show ((Int32.ofInt (8 * ((1 : Nat) : Int))).toInt64 &&& 63) = 8 from by decide]; rfl, by unfold xm_lushr; rw [show ((Int32.ofInt (8 * ((1 : Nat) : Int))).toInt64.toUInt64 &&& Int64.toUInt64 63) = 8 from by decide]; rfl⟩
  · exact ⟨by unfold xm_lshr; rw [show ((Int32.ofInt (8 * ((2 : Nat) : Int))).toInt64 &&& 63) = 16 from by decide]; rfl, by unfold xm_lushr; rw [show ((Int32.ofInt (8 * ((2 : Nat) : Int))).toInt64.toUInt64 &&& Int64.toUInt64 63) = 16 from by decide]; rfl⟩
  · exact ⟨by unfold xm_lshr; rw [show ((Int32.ofInt (8 * ((3 : Nat) : Int))).toInt64 &&& 63) = 24 from by decide]; rfl, by unfold xm_lushr; rw [show ((Int32.ofInt (8 * ((3 : Nat) : Int))).toInt64.toUInt64 &&& Int64.toUInt64 63) = 24 from by decide]; rfl⟩
  · exact ⟨by unfold xm_lshr; rw [show ((Int32.ofInt (8 * ((4 : Nat) : Int))).toInt64 &&& 63) = 32 from by decide]; rfl, by unfold xm_lushr; rw [show ((Int32.ofInt (8 * ((4 : Nat) : Int))).toInt64.toUInt64 &&& Int64.toUInt64 63) = 32 from by decide]; rfl⟩
  · exact ⟨by unfold xm_lshr; rw [show ((Int32.ofInt (8 * ((5 : Nat) : Int))).toInt64 &&& 63) = 40 from by decide]; rfl, by unfold xm_lushr; rw [show ((Int32.ofInt (8 * ((5 : Nat) : Int))).toInt64.toUInt64 &&& Int64.toUInt64 63) = 40 from by decide]; rfl⟩
  · exact ⟨by unfold xm_lshr; rw [show ((Int32.ofInt (8 * ((6 : Nat) : Int))).toInt64 &&& 63) = 48 from by decide]; rfl, by unfold xm_lushr; rw [show ((Int32.ofInt (8 * ((6 : Nat) : Int))).toInt64.toUInt64 &&& Int64.toUInt64 63) = 48 from by decide]; rfl⟩
  · exact ⟨by unfold xm_lshr; rw [show ((Int32.ofInt (8 * ((7 : Nat) : Int))).toInt64 &&& 63) = 56 from by decide]; rfl, by unfold xm_lushr; rw [show ((Int32.ofInt (8 * ((7 : Nat) : Int))).toInt64.toUInt64 &&& Int64.toUInt64 63) = 56 from by decide]; rfl⟩
set_option maxRecDepth 20000 in
theorem sp_fb {x : Int64} {i : Int} (h0 : 0 ≤ i) (h1 : i < 8) : ((xm_lshr x (8 * i)) &&& (Int64.ofInt 255)).toInt32.toInt = yy_by x i := by
  obtain ⟨k, rfl⟩ : ∃ k : Nat, i = k := ⟨i.toNat, by omega⟩
  obtain ⟨s1, s2⟩ := sp_sh8 (x := x) k (by omega)
  unfold yy_by xm_and
  rw [Int32.ofInt_toInt]
  congr 1
  apply Int32.toBitVec_inj.mp
  rw [Int32.toBitVec_and]
  have e : (Int32.ofInt 255).toBitVec = 255#32 := by decide
  have e2 : (Int64.ofInt 255).toBitVec = 255#64 := by decide
  rw [e]
  show BitVec.signExtend 32 (xm_lshr x (8 * (k : Int)) &&& Int64.ofInt 255).toBitVec = BitVec.signExtend 32 (xm_lushr x (8 * (k : Int))).toBitVec &&& 255#32
  rw [Int64.toBitVec_and, e2, s1, s2]
  exact sp_byte (by omega)
/-! the reference's loop -/
set_option maxRecDepth 20000 in
theorem l_1114 {sc : List Int} {d : Nat} {t : xm_W} {Q : Option xm_V × xm_W → Prop} {n : Int} {x1 : Int64} {u2 : Option xm_V} : ∀ (k : Nat) (m : Nat → Nat → Int) (i L : Int), n - i = k → m 75 4 = L → 0 ≤ L → L + k ≤ 60 → 0 ≤ i → n ≤ 8 → (∀ m', (∀ c, c ≠ 75 → m' c = m c) ∧ (∀ q : Nat, m' 75 q = if q = 4 then L + k else if 589 + L ≤ q ∧ (q : Int) < 589 + L + k then yy_by x1 (i + (q - (589 + L))) else m 75 q) → Q ((some (.inl (L + k)), (yy_W (m') t)))) → xm_EQ (xm_old sc) xm_sta (xm_X (xm_old sc) xm_mt (d + 1)) xm_c1114 23 [some (.inr (.inl (some 74))), some (.inr (.inr x1)), u2, some (.inl (n)), some (.inl (i))] [] (yy_W (m) t) Q
  | 0, m, i, L, hk, hL, h, h1, h2, h3, hQ => by
    refine xb_1114_23 ?_
    simp (disch := first | omega | (unfold xm_w; omega)) only [↓zy_at, xm_O_some, xm_Oi_some, xm_Ov_some, xm_Oq_some, ↓reduceIte, ↓zz_t, ↓zz_f, ↓zi_t, ↓zi_f, eq_self, yy_d_0, Int.reduceEq, Int.reduceLT, Int.reduceLE, Int.reduceNe, Int.reduceToNat, Int.reduceAdd, Int.reduceSub, Int.reduceMul, Int.reduceNeg, Nat.reduceAdd, Nat.reduceMul, Nat.reduceSub, Nat.reduceEqDiff, Nat.reduceLT, ne_eq, not_false_eq_true, not_true_eq_false, true_and, and_true, and_self, yy_s_eq, yy_s_ne, yy_c_eq, yy_c_ne, yy_u_eq, yy_u_ne, xm_w_id, yy_at, tdiv_pos, tmod_pos, ↓zr_74_0, ↓zr_74_1, ↓zr_74_2, ↓zf_74_3, ↓zs_74_3, ↓zf_74_4, ↓zs_74_4, ↓zr_74_5, ↓zf_74_6, ↓zs_74_6, ↓zf_74_7, ↓zs_74_7, ↓zf_74_8, ↓zs_74_8, ↓zf_74_9, ↓zs_74_9, ↓zr_74_10, ↓zr_74_11, ↓zr_74_12, ↓zf_74_13, ↓zs_74_13, ↓zr_74_14, ↓zf_74_15, ↓zs_74_15, ↓zf_74_16, ↓zs_74_16, ↓zf_74_17, ↓zs_74_17, ↓zr_74_18, ↓zr_74_19, ↓zr_74_20, ↓zr_74_21, ↓zi_75, ↓zt_75]
    have := hQ m ⟨fun c _ => rfl, fun q => ?_⟩
    · rw [show L + ((0 : Nat) : Int) = L by omega] at this
      rw [hL]
      exact this
    · split
      · rename_i e; rw [e, hL]; omega
      · rw [if_neg (by omega)]
  | k + 1, m, i, L, hk, hL, h, h1, h2, h3, hQ => by
    refine xb_1114_23 ?_
    rw [if_pos (by omega)]
    simp (disch := first | omega | (unfold xm_w; omega)) only [↓zy_at, xm_O_some, xm_Oi_some, xm_Ov_some, xm_Oq_some, ↓reduceIte, ↓zz_t, ↓zz_f, ↓zi_t, ↓zi_f, eq_self, yy_d_0, Int.reduceEq, Int.reduceLT, Int.reduceLE, Int.reduceNe, Int.reduceToNat, Int.reduceAdd, Int.reduceSub, Int.reduceMul, Int.reduceNeg, Nat.reduceAdd, Nat.reduceMul, Nat.reduceSub, Nat.reduceEqDiff, Nat.reduceLT, ne_eq, not_false_eq_true, not_true_eq_false, true_and, and_true, and_self, yy_s_eq, yy_s_ne, yy_c_eq, yy_c_ne, yy_u_eq, yy_u_ne, xm_w_id, yy_at, tdiv_pos, tmod_pos, ↓zr_74_0, ↓zr_74_1, ↓zr_74_2, ↓zf_74_3, ↓zs_74_3, ↓zf_74_4, ↓zs_74_4, ↓zr_74_5, ↓zf_74_6, ↓zs_74_6, ↓zf_74_7, ↓zs_74_7, ↓zf_74_8, ↓zs_74_8, ↓zf_74_9, ↓zs_74_9, ↓zr_74_10, ↓zr_74_11, ↓zr_74_12, ↓zf_74_13, ↓zs_74_13, ↓zr_74_14, ↓zf_74_15, ↓zs_74_15, ↓zf_74_16, ↓zs_74_16, ↓zf_74_17, ↓zs_74_17, ↓zr_74_18, ↓zr_74_19, ↓zr_74_20, ↓zr_74_21, ↓zi_75, ↓zt_75, hL]
    rw [sp_fb h2 (by omega)]
    refine l_1114 k _ (i + 1) (L + 1) (by omega) ?_ (by omega) (by omega) (by omega) h3 (fun m' ⟨h4, h5⟩ => ?_)
    · simp (disch := first | omega | (unfold xm_w; omega)) only [↓zy_at, xm_O_some, xm_Oi_some, xm_Ov_some, xm_Oq_some, ↓reduceIte, ↓zz_t, ↓zz_f, ↓zi_t, ↓zi_f, eq_self, yy_d_0, Int.reduceEq, Int.reduceLT, Int.reduceLE, Int.reduceNe, Int.reduceToNat, Int.reduceAdd, Int.reduceSub, Int.reduceMul, Int.reduceNeg, Nat.reduceAdd, Nat.reduceMul, Nat.reduceSub, Nat.reduceEqDiff, Nat.reduceLT, ne_eq, not_false_eq_true, not_true_eq_false, true_and, and_true, and_self, yy_s_eq, yy_s_ne, yy_c_eq, yy_c_ne, yy_u_eq, yy_u_ne, xm_w_id, yy_at, tdiv_pos, tmod_pos]
    · rw [show L + 1 + (k : Int) = L + ((k + 1 : Nat) : Int) by omega]
      refine hQ m' ⟨fun c c1 => ?_, fun q => ?_⟩
      · rw [h4 c c1, yy_s_ne c1, yy_s_ne c1]
      · rw [h5]
        by_cases e : q = 4
        · rw [if_pos e, if_pos e]; omega
        · rw [if_neg e, if_neg e, yy_s_eq, yy_u_ne e, yy_s_eq]
          by_cases e2 : (q : Int) = 589 + L
          · rw [if_neg (by omega), if_pos (by omega), show i + ((q : Int) - (589 + L)) = i by omega, show q = (589 + L).toNat by omega, yy_u_eq]
          · rw [yy_u_ne (by omega)]
            by_cases e3 : 589 + L ≤ q ∧ (q : Int) < 589 + L + ((k + 1 : Nat) : Int)
            · rw [if_pos (by omega), if_pos e3, show i + 1 + ((q : Int) - (589 + (L + 1))) = i + ((q : Int) - (589 + L)) by omega]
            · rw [if_neg (by omega), if_neg e3]
set_option maxRecDepth 20000 in
theorem c_1114b {sc : List Int} {d : Nat} {t : xm_W} {m : Nat → Nat → Int} {x1 : Int64} {n : Int} (h : 1 ≤ n ∧ n ≤ 8) (h1 : 0 ≤ m 75 4) (h2 : m 75 4 + n ≤ 60) : ∃ m', xm_X (xm_old sc) xm_mt (d + 4) 1114 [.inr (.inl (some 74)), .inr (.inr x1), .inl (n)] (yy_W m t) = some (some (.inl (m 75 4 + n)), yy_W m' t) ∧ (∀ c, c ≠ 75 → m' c = m c) ∧ (∀ q : Nat, m' 75 q = if q = 4 then m 75 4 + n else if 589 + m 75 4 ≤ q ∧ (q : Int) < 589 + m 75 4 + n then yy_by x1 (q - (589 + m 75 4)) else m 75 q) := by
  have key : ∀ {Q : Option xm_V × xm_W → Prop}, (∀ m', ((∀ c, c ≠ 75 → m' c = m c) ∧ (∀ q : Nat, m' 75 q = if q = 4 then m 75 4 + n else if 589 + m 75 4 ≤ q ∧ (q : Int) < 589 + m 75 4 + n then yy_by x1 (q - (589 + m 75 4)) else m 75 q)) → Q (some (.inl (m 75 4 + n)), yy_W m' t)) → xm_EQ (xm_old sc) xm_sta (xm_X (xm_old sc) xm_mt (d + 3)) xm_m1114.2.2.2.2.2.2.2 0 (xm_loc xm_m1114.2.2.1 [.inr (.inl (some 74)), .inr (.inr x1), .inl (n)]) [] (yy_W m t) Q := by
    intro Q hQ
    refine xb_1114_0 ?_
    simp (disch := first | omega | (unfold xm_w; omega)) only [↓zy_at, xm_O_some, xm_Oi_some, xm_Ov_some, xm_Oq_some, ↓reduceIte, ↓zz_t, ↓zz_f, ↓zi_t, ↓zi_f, eq_self, yy_d_0, Int.reduceEq, Int.reduceLT, Int.reduceLE, Int.reduceNe, Int.reduceToNat, Int.reduceAdd, Int.reduceSub, Int.reduceMul, Int.reduceNeg, Nat.reduceAdd, Nat.reduceMul, Nat.reduceSub, Nat.reduceEqDiff, Nat.reduceLT, ne_eq, not_false_eq_true, not_true_eq_false, true_and, and_true, and_self, yy_s_eq, yy_s_ne, yy_c_eq, yy_c_ne, yy_u_eq, yy_u_ne, xm_w_id, yy_at, tdiv_pos, tmod_pos, ↓zr_74_0, ↓zr_74_1, ↓zr_74_2, ↓zf_74_3, ↓zs_74_3, ↓zf_74_4, ↓zs_74_4, ↓zr_74_5, ↓zf_74_6, ↓zs_74_6, ↓zf_74_7, ↓zs_74_7, ↓zf_74_8, ↓zs_74_8, ↓zf_74_9, ↓zs_74_9, ↓zr_74_10, ↓zr_74_11, ↓zr_74_12, ↓zf_74_13, ↓zs_74_13, ↓zr_74_14, ↓zf_74_15, ↓zs_74_15, ↓zf_74_16, ↓zs_74_16, ↓zf_74_17, ↓zs_74_17, ↓zr_74_18, ↓zr_74_19, ↓zr_74_20, ↓zr_74_21, ↓zi_75, ↓zt_75, ↓oc_1103]
    refine l_1114 (d := d + 2) n.toNat m 0 (m 75 4) (by omega) rfl h1 (by omega) (by omega) h.2 (fun m' ⟨h4, h5⟩ => ?_)
    have e : ((n.toNat : Nat) : Int) = n := by omega
    rw [e] at h5 ⊢
    refine hQ m' ⟨h4, fun q => ?_⟩
    rw [h5 q, Int.zero_add]
  obtain ⟨q, h1, m', h2, h3⟩ := yx_of (y := 1114) (M := xm_m1114) (sc := sc) (d := d + 3) (as := [.inr (.inl (some 74)), .inr (.inr x1), .inl (n)]) (w := yy_W m t) (Q := fun q => ∃ m', q = (some (.inl (m 75 4 + n)), yy_W m' t) ∧ ((∀ c, c ≠ 75 → m' c = m c) ∧ (∀ q : Nat, m' 75 q = if q = 4 then m 75 4 + n else if 589 + m 75 4 ≤ q ∧ (q : Int) < 589 + m 75 4 + n then yy_by x1 (q - (589 + m 75 4)) else m 75 q))) rfl (key fun m' h => ⟨m', rfl, h⟩) (fun q ⟨m', h, _⟩ => by rw [h]; rfl) rfl (Nat.le_of_ble_eq_true rfl) (yy_hd rfl (by decide))
  exact ⟨m', by rw [h1, h2], h3⟩
set_option maxRecDepth 20000 in
theorem a_110 {sc : List Int} {t : xm_W} {m : Nat → Nat → Int} {x1 : Int64} {n : Int} (hI : yy_I t m) : yy_A sc t m 110 1114 [.inr (.inr x1), .inl n] true := by
  obtain ⟨⟨hW, g1, hD⟩, hX, hR, -⟩ := id hI
  obtain ⟨d1, d2, d3, d4, d5⟩ := id hR
  obtain ⟨b1, b2, b3⟩ := id hD
  by_cases h : 1 ≤ n ∧ n ≤ 8
  · by_cases h2 : m 75 4 + n ≤ 60
    · obtain ⟨m1, X1, f1, p1, p2⟩ := c_110 (sc := sc) (d := 96) (t := t) (m := m) (x1 := x1) h (by omega) (by omega)
      have f75 : m1 75 = m 75 := f1 75 (by decide) (by decide)
      obtain ⟨m2, X2, f2, q1⟩ := c_1114b (sc := sc) (d := 96) (t := t) (m := m1) (x1 := x1) h (by rw [f75]; omega) (by rw [f75]; omega)
      rw [f75] at q1
      have o : ∀ k, k ≠ 4 → (k < 589 ∨ 649 ≤ k) → m2 75 k = m 75 k := fun k a b => by rw [q1, if_neg a, if_neg (by omega)]
      have v4 : m2 75 4 = m 75 4 + n := by rw [q1, if_pos rfl]
      refine yy_Ao X1 X2 (yy_I_dk hI (fun c hc a b d => by rw [f2 c d, f1 c (by omega) (by omega)]) (fun k hk => o k (by omega) (by omega)) ⟨by rw [v4]; omega, by rw [o 5 (by decide) (by decide)]; exact b2, fun k hk => ?_⟩ ⟨?_, ?_, ?_, fun k hk => ?_, fun k hk => ?_⟩) ?_ ?_
      · rw [q1, if_neg (by omega)]
        split
        · exact sp_b255
        · exact b3 k hk
      · rw [f2 35 (by decide), p1, if_pos rfl, v4, d1]
      · rw [f2 35 (by decide), p1, if_neg (by decide), o 5 (by decide) (by decide)]; exact d2
      · rw [f2 35 (by decide), p1, if_neg (by decide), o 6 (by decide) (by decide)]; exact d3
      · rw [f2 36 (by decide), p2, d1, q1 (589 + k), if_neg (by omega : ¬ 589 + k = 4)]
        by_cases e : m 75 4 ≤ k ∧ (k : Int) < m 75 4 + n
        · rw [if_pos e, if_pos (by omega)]; congr 1; omega
        · rw [if_neg e, if_neg (by omega)]; exact d4 k hk
      · rw [f2 37 (by decide), f1 37 (by decide) (by decide), o _ (by omega) (by omega)]; exact d5 k hk
      · rw [f2 0 (by decide), f1 0 (by decide) (by decide)]
      · rw [d1, f75]
    · exact yy_Ao (g_110 (d := 96) h (by omega) (by omega) (by omega)) (g_1114 (d := 96) h (by rw [yy_e75 (by decide)]; omega) (by rw [yy_e75 (by decide)]; omega) (by rw [yy_e75 (by decide)]; omega)) (yy_I_ef hI) yy_ef0 rfl
  · exact yy_Ao (f_110 (d := 96) h) (f_1114 (d := 96) h) (yy_I_ef hI) yy_ef0 rfl
