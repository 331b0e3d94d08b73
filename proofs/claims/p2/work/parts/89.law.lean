set_option maxRecDepth 20000 in
theorem yy_szc (s : Nat × List Nat) (f : Nat → Int) : xm_szC (yy_cel s f) = if s.1 = 0 then s.2.headD 0 else s.2.length := by
  obtain ⟨k, l⟩ := s
  cases k with
  | zero => show (yy_R _ f).length = _; rw [yy_R_len]; rfl
  | succ k =>
    show xm_szC (if k < 49 then _ else _) = l.length
    split
    · exact yy_vs_len l 0
    · exact yy_qs_len l 0
set_option maxRecDepth 20000 in
theorem yy_szg {m : Nat → Nat → Int} : ∀ (l : List (Nat × List Nat)) (b : Nat), xm_sz (yy_g m b l) = (l.map fun s => if s.1 = 0 then s.2.headD 0 else s.2.length).sum
  | [], _ => rfl
  | s :: l, b => by
    show xm_szC (yy_cel s (m b)) + xm_sz (yy_g m (b + 1) l) = _
    rw [yy_szc, yy_szg l]; rfl
set_option maxRecDepth 20000 in
theorem yy_szW {m : Nat → Nat → Int} {t : xm_W} : xm_sz (yy_W m t) ≤ 10000 + xm_sz t := by
  unfold yy_W xm_sz
  rw [List.map_append, List.sum_append]
  have : xm_sz (yy_g m 0 yy_lay) ≤ 10000 := by rw [yy_szg]; decide +kernel
  unfold xm_sz at this
  omega

set_option maxRecDepth 20000 in
theorem yl_ints {sc : List Int} {m : Nat → Nat → Int} {t : xm_W} (ht : t.length < 900000) : xm_ints (xm_old sc) (yy_W m t) 1000008 = some sc := xo_ints (k := 8) (by rw [yy_W_len]; omega) rfl
set_option maxRecDepth 20000 in
theorem yl_len {sc : List Int} {m : Nat → Nat → Int} {t : xm_W} (ht : t.length < 900000) (hs : sc.length < 1000000) : xm_len (xm_old sc) (yy_W m t) 1000008 = some sc.length := by
  unfold xm_len
  rw [show xm_get (xm_old sc) (yy_W m t) 1000008 = some (.inl sc) from (xo_get (k := 8) (by rw [yy_W_len]; omega)).trans rfl]
  exact if_pos hs
set_option maxRecDepth 20000 in
theorem zl_i {sc : List Int} {m : Nat → Nat → Int} {t : xm_W} {F : List Int → Prop} (ht : t.length < 900000) : xm_O (xm_ints (xm_old sc) (yy_W m t) 1000008) F = F sc := congrArg (fun x => xm_O x F) (yl_ints ht)
set_option maxRecDepth 20000 in
theorem zl_at {sc : List Int} {i : Nat} {k : Int} {j : Nat} (h : i + j < sc.length) (hk : k = j) (hi : i ≤ 3072) (hj : j < 6) : ∃ s, s ∈ sc ∧ ∀ F : Int → Prop, xm_O (xm_at sc (xm_w ((i : Int) + k))) F = F s := by
  refine ⟨sc[i + j], List.getElem_mem h, fun F => ?_⟩
  rw [xm_w_id (by omega) (by omega)]
  unfold xm_at
  rw [if_pos (by omega), show ((i : Int) + k).toNat = i + j by omega, List.getElem?_eq_getElem h]; rfl
set_option maxRecDepth 20000 in
theorem zl_a0 {sc : List Int} {i : Nat} (h : i < sc.length) : ∃ s, s ∈ sc ∧ ∀ F : Int → Prop, xm_O (xm_at sc (i : Int)) F = F s := by
  refine ⟨sc[i], List.getElem_mem h, fun F => ?_⟩
  unfold xm_at
  rw [if_pos (by omega), Int.toNat_natCast, List.getElem?_eq_getElem h]; rfl
set_option maxRecDepth 20000 in
theorem yl_go {sc : List Int} {Q : Option xm_V × xm_W → Prop} (hs : sc.length ≤ 3072) (hr : ∀ z ∈ sc, -2147483648 ≤ z ∧ z < 2147483648) (hQ : ∀ m t, t.length ≤ 1100 → xm_sz t ≤ 40000 → Q (some (.inl 1), yy_W m t)) : ∀ (f j : Nat) (t : xm_W) (m : Nat → Nat → Int), j + f = 513 → yy_I t m → t.length ≤ 2 * j → xm_sz t ≤ 62 * j → m 0 5 ≤ j → xm_EQ (xm_old sc) xm_sta (xm_X (xm_old sc) xm_mt (100)) xm_cl0 10 [some (.inr (.inl (some 1000008))), some (.inr (.inl (some 0))), some (.inr (.inl (some 74))), some (.inl (((6 * j : Nat) : Int)))] [] (yy_W (m) t) Q
  | 0, j, t, m, hf, hI, b1, b2, b3 => by
    refine xb_0_10 ?_
    rw [yl_len (by omega) (by omega), xm_O_some, if_pos (by unfold xm_w; omega)]
    exact hQ m t (by omega) (by omega)
  | f + 1, j, t, m, hf, hI, b1, b2, b3 => by
    have ht : t.length < 900000 := by omega
    have fin : ∀ t1 m2, yy_I t1 m2 → t1.length ≤ t.length + 2 → xm_sz t1 ≤ xm_sz t + 62 → m2 0 5 ≤ m 0 5 + 1 → xm_EQ (xm_old sc) xm_sta (xm_X (xm_old sc) xm_mt 100) xm_cl0 1015 [some (.inr (.inl (some 1000008))), some (.inr (.inl (some 0))), some (.inr (.inl (some 74))), some (.inl ((6 * j : Nat) : Int))] [] (yy_W m2 t1) Q := by
      intro t1 m2 hI1 c1 c2 c3
      refine xb_0_1015 ?_
      rw [xm_w_id (z := ((6 * j : Nat) : Int) + 6) (by omega) (by omega), show ((6 * j : Nat) : Int) + 6 = ((6 * (j + 1) : Nat) : Int) by omega]
      exact yl_go hs hr hQ f (j + 1) t1 m2 (by omega) hI1 (by omega) (by omega) (by omega)
    refine xb_0_10 ?_
    rw [yl_len ht (by omega), xm_O_some]
    by_cases h6 : sc.length < 6 * j + 6
    · rw [if_pos (by unfold xm_w; omega)]
      exact hQ m t (by omega) (by omega)
    have w6 : xm_w ((sc.length : Int) - 6) = (sc.length : Int) - 6 := xm_w_id (by omega) (by omega)
    rw [w6, if_neg (by omega)]
    clear w6
    obtain ⟨s0, -, e0⟩ := zl_a0 (sc := sc) (i := 6 * j) (by omega)
    obtain ⟨s1, -, e1⟩ := zl_at (sc := sc) (i := 6 * j) (k := 1) (j := 1) (by omega) rfl (by omega) (by decide)
    obtain ⟨s2, -, e2⟩ := zl_at (sc := sc) (i := 6 * j) (k := 2) (j := 2) (by omega) rfl (by omega) (by decide)
    obtain ⟨s3, i3, e3⟩ := zl_at (sc := sc) (i := 6 * j) (k := 3) (j := 3) (by omega) rfl (by omega) (by decide)
    obtain ⟨s4, -, e4⟩ := zl_at (sc := sc) (i := 6 * j) (k := 4) (j := 4) (by omega) rfl (by omega) (by decide)
    obtain ⟨s5, i5, e5⟩ := zl_at (sc := sc) (i := 6 * j) (k := 5) (j := 5) (by omega) rfl (by omega) (by decide)
    have r3 := hr s3 i3
    have r5 := hr s5 i5
    rw [zl_i ht, e0]
    by_cases c0 : xm_and s0 63 = 0
    · obtain ⟨z, m1, t1, z', m2, p1, p2, hI1, q1, q2, q3, hz⟩ := a_102 (sc := sc) (t := t) (m := m) (x1 := s1) (x2 := s2) hI
      have ht1 : t1.length < 900000 := by omega
      rw [if_pos c0, zl_i ht, e1, zl_i ht, e2, p1, xm_Oi_some, zl_i ht1, e1, zl_i ht1, e2, p2, xm_Oi_some, if_pos (hz rfl)]
      exact fin t1 m2 hI1 q1 q2 q3
    rw [if_neg c0]
    by_cases c1 : xm_and s0 63 = 1
    · obtain ⟨z, m1, t1, z', m2, p1, p2, hI1, q1, q2, q3, hz⟩ := a_103 (sc := sc) (t := t) (m := m) (x1 := s1) hI
      have ht1 : t1.length < 900000 := by omega
      rw [if_pos c1, zl_i ht, e1, p1, xm_Oi_some, zl_i ht1, e1, p2, xm_Oi_some]
      exact fin t1 m2 hI1 q1 q2 q3
    rw [if_neg c1]
    by_cases c2 : xm_and s0 63 = 2
    · obtain ⟨z, m1, t1, z', m2, p1, p2, hI1, q1, q2, q3, hz⟩ := a_104 (sc := sc) (t := t) (m := m) (x1 := s1) (x2 := s2) hI
      have ht1 : t1.length < 900000 := by omega
      rw [if_pos c2, zl_i ht, e1, zl_i ht, e2, p1, xm_Oi_some, zl_i ht1, e1, zl_i ht1, e2, p2, xm_Oi_some]
      exact fin t1 m2 hI1 q1 q2 q3
    rw [if_neg c2]
    by_cases c3 : xm_and s0 63 = 3
    · obtain ⟨z, m1, t1, z', m2, p1, p2, hI1, q1, q2, q3, hz⟩ := a_105 (sc := sc) (t := t) (m := m) (x1 := s1) (x2 := s2) hI
      have ht1 : t1.length < 900000 := by omega
      rw [if_pos c3, zl_i ht, e1, zl_i ht, e2, p1, xm_Oi_some, zl_i ht1, e1, zl_i ht1, e2, p2, xm_Oi_some]
      exact fin t1 m2 hI1 q1 q2 q3
    rw [if_neg c3]
    by_cases c4 : xm_and s0 63 = 4
    · obtain ⟨z, m1, t1, z', m2, p1, p2, hI1, q1, q2, q3, hz⟩ := a_106 (sc := sc) (t := t) (m := m) (x1 := s1) (x2 := s2) hI (by omega)
      have ht1 : t1.length < 900000 := by omega
      rw [if_pos c4, zl_i ht, e1, zl_i ht, e2, p1, xm_Oi_some, zl_i ht1, e1, zl_i ht1, e2, p2, xm_Oi_some]
      exact fin t1 m2 hI1 q1 q2 q3
    rw [if_neg c4]
    by_cases c5 : xm_and s0 63 = 5
    · obtain ⟨z, m1, t1, z', m2, p1, p2, hI1, q1, q2, q3, hz⟩ := a_107 (sc := sc) (t := t) (m := m) (x1 := s1) (x2 := s2) (x3 := s3) hI
      have ht1 : t1.length < 900000 := by omega
      rw [if_pos c5, zl_i ht, e1, zl_i ht, e2, zl_i ht, e3, p1, xm_Oi_some, zl_i ht1, e1, zl_i ht1, e2, zl_i ht1, e3, p2, xm_Oi_some]
      exact fin t1 m2 hI1 q1 q2 q3
    rw [if_neg c5]
    by_cases c6 : xm_and s0 63 = 6
    · obtain ⟨z, m1, t1, z', m2, p1, p2, hI1, q1, q2, q3, hz⟩ := a_108 (sc := sc) (t := t) (m := m) (x1 := s1) (x2 := s2) hI
      have ht1 : t1.length < 900000 := by omega
      rw [if_pos c6, zl_i ht, e1, zl_i ht, e2, p1, xm_Oi_some, zl_i ht1, e1, zl_i ht1, e2, p2, xm_Oi_some]
      exact fin t1 m2 hI1 q1 q2 q3
    rw [if_neg c6]
    by_cases c7 : xm_and s0 63 = 7
    · obtain ⟨z, m1, t1, z', m2, p1, p2, hI1, q1, q2, q3, hz⟩ := a_109 (sc := sc) (t := t) (m := m) (x1 := s1) hI
      have ht1 : t1.length < 900000 := by omega
      rw [if_pos c7, zl_i ht, e1, p1, xm_Oi_some, zl_i ht1, e1, p2, xm_Oi_some]
      exact fin t1 m2 hI1 q1 q2 q3
    rw [if_neg c7]
    by_cases c8 : xm_and s0 63 = 8
    · obtain ⟨z, m1, t1, z', m2, p1, p2, hI1, q1, q2, q3, hz⟩ := a_110 (sc := sc) (t := t) (m := m) (x1 := xm_lshl (Int32.ofInt s1).toInt64 32 ||| ((Int32.ofInt s2).toInt64 &&& Int64.ofInt 4294967295)) (n := s3) hI
      have ht1 : t1.length < 900000 := by omega
      rw [if_pos c8, zl_i ht, e1, zl_i ht, e2, zl_i ht, e3, p1, xm_Oi_some, zl_i ht1, e1, zl_i ht1, e2, zl_i ht1, e3, p2, xm_Oi_some]
      exact fin t1 m2 hI1 q1 q2 q3
    rw [if_neg c8]
    by_cases c9 : xm_and s0 63 = 9
    · obtain ⟨z, m1, t1, z', m2, p1, p2, hI1, q1, q2, q3, hz⟩ := a_111 (sc := sc) (t := t) (m := m) (x1 := s1) (by omega) hI
      have ht1 : t1.length < 900000 := by omega
      rw [if_pos c9, zl_i ht, e1, p1, xm_Oi_some, zl_i ht1, e1, p2, xm_Oi_some]
      exact fin t1 m2 hI1 q1 q2 q3
    rw [if_neg c9]
    by_cases c10 : xm_and s0 63 = 10
    · obtain ⟨z, m1, t1, z', m2, p1, p2, hI1, q1, q2, q3, hz⟩ := a_112 (sc := sc) (t := t) (m := m) (x1 := s1) hI
      have ht1 : t1.length < 900000 := by omega
      rw [if_pos c10, zl_i ht, e1, p1, xm_Oi_some, zl_i ht1, e1, p2, xm_Oi_some]
      exact fin t1 m2 hI1 q1 q2 q3
    rw [if_neg c10]
    by_cases c11 : xm_and s0 63 = 11
    · obtain ⟨z, m1, t1, z', m2, p1, p2, hI1, q1, q2, q3, hz⟩ := a_113 (sc := sc) (t := t) (m := m) (x1 := s1) hI
      have ht1 : t1.length < 900000 := by omega
      rw [if_pos c11, zl_i ht, e1, p1, xm_Oi_some, zl_i ht1, e1, p2, xm_Oi_some]
      exact fin t1 m2 hI1 q1 q2 q3
    rw [if_neg c11]
    by_cases c12 : xm_and s0 63 = 12
    · obtain ⟨z, m1, t1, z', m2, p1, p2, hI1, q1, q2, q3, hz⟩ := a_114 (sc := sc) (t := t) (m := m) (x1 := s1) hI
      have ht1 : t1.length < 900000 := by omega
      rw [if_pos c12, zl_i ht, e1, p1, xm_Oi_some, zl_i ht1, e1, p2, xm_Oi_some]
      exact fin t1 m2 hI1 q1 q2 q3
    rw [if_neg c12]
    by_cases c13 : xm_and s0 63 = 13
    · obtain ⟨z, m1, t1, z', m2, p1, p2, hI1, q1, q2, q3, hz⟩ := a_115 (sc := sc) (t := t) (m := m) (x1 := s1) hI
      have ht1 : t1.length < 900000 := by omega
      rw [if_pos c13, zl_i ht, e1, p1, xm_Oi_some, zl_i ht1, e1, p2, xm_Oi_some]
      exact fin t1 m2 hI1 q1 q2 q3
    rw [if_neg c13]
    by_cases c14 : xm_and s0 63 = 14
    · obtain ⟨z, m1, t1, z', m2, p1, p2, hI1, q1, q2, q3, hz⟩ := a_116 (sc := sc) (t := t) (m := m) (x1 := s1) (x2 := s2) hI
      have ht1 : t1.length < 900000 := by omega
      rw [if_pos c14, zl_i ht, e1, zl_i ht, e2, p1, xm_Oi_some, zl_i ht1, e1, zl_i ht1, e2, p2, xm_Oi_some]
      exact fin t1 m2 hI1 q1 q2 q3
    rw [if_neg c14]
    by_cases c15 : xm_and s0 63 = 15
    · obtain ⟨z, m1, t1, z', m2, p1, p2, hI1, q1, q2, q3, hz⟩ := a_117 (sc := sc) (t := t) (m := m) (x1 := s1) (x2 := s2) hI
      have ht1 : t1.length < 900000 := by omega
      rw [if_pos c15, zl_i ht, e1, zl_i ht, e2, p1, xm_Oi_some, zl_i ht1, e1, zl_i ht1, e2, p2, xm_Oi_some]
      exact fin t1 m2 hI1 q1 q2 q3
    rw [if_neg c15]
    by_cases c16 : xm_and s0 63 = 16
    · obtain ⟨z, m1, t1, z', m2, p1, p2, hI1, q1, q2, q3, hz⟩ := a_118 (sc := sc) (t := t) (m := m) (x1 := s1) (x2 := s2) (x3 := s3) (x4 := s4) hI
      have ht1 : t1.length < 900000 := by omega
      rw [if_pos c16, zl_i ht, e1, zl_i ht, e2, zl_i ht, e3, zl_i ht, e4, p1, xm_Oi_some, zl_i ht1, e1, zl_i ht1, e2, zl_i ht1, e3, zl_i ht1, e4, p2, xm_Oi_some]
      exact fin t1 m2 hI1 q1 q2 q3
    rw [if_neg c16]
    by_cases c17 : xm_and s0 63 = 17
    · obtain ⟨z, m1, t1, z', m2, p1, p2, hI1, q1, q2, q3, hz⟩ := a_119 (sc := sc) (t := t) (m := m) (x1 := s1) (x2 := s2) (x3 := s3) hI
      have ht1 : t1.length < 900000 := by omega
      rw [if_pos c17, zl_i ht, e1, zl_i ht, e2, zl_i ht, e3, p1, xm_Oi_some, zl_i ht1, e1, zl_i ht1, e2, zl_i ht1, e3, p2, xm_Oi_some]
      exact fin t1 m2 hI1 q1 q2 q3
    rw [if_neg c17]
    by_cases c18 : xm_and s0 63 = 18
    · obtain ⟨z, m1, t1, z', m2, p1, p2, hI1, q1, q2, q3, hz⟩ := a_120 (sc := sc) (t := t) (m := m) (x1 := s1) (x2 := s2) (x3 := s3) hI
      have ht1 : t1.length < 900000 := by omega
      rw [if_pos c18, zl_i ht, e1, zl_i ht, e2, zl_i ht, e3, p1, xm_Oi_some, zl_i ht1, e1, zl_i ht1, e2, zl_i ht1, e3, p2, xm_Oi_some]
      exact fin t1 m2 hI1 q1 q2 q3
    rw [if_neg c18]
    by_cases c19 : xm_and s0 63 = 19
    · obtain ⟨z, m1, t1, z', m2, p1, p2, hI1, q1, q2, q3, hz⟩ := a_121 (sc := sc) (t := t) (m := m) (x1 := s1) (x2 := s2) (x3 := s3) hI
      have ht1 : t1.length < 900000 := by omega
      rw [if_pos c19, zl_i ht, e1, zl_i ht, e2, zl_i ht, e3, p1, xm_Oi_some, zl_i ht1, e1, zl_i ht1, e2, zl_i ht1, e3, p2, xm_Oi_some]
      exact fin t1 m2 hI1 q1 q2 q3
    rw [if_neg c19]
    by_cases c20 : xm_and s0 63 = 20
    · obtain ⟨z, m1, t1, z', m2, p1, p2, hI1, q1, q2, q3, hz⟩ := a_122 (sc := sc) (t := t) (m := m) (x1 := s1) (x2 := s2) (x3 := s3) hI
      have ht1 : t1.length < 900000 := by omega
      rw [if_pos c20, zl_i ht, e1, zl_i ht, e2, zl_i ht, e3, p1, xm_Oi_some, zl_i ht1, e1, zl_i ht1, e2, zl_i ht1, e3, p2, xm_Oi_some]
      exact fin t1 m2 hI1 q1 q2 q3
    rw [if_neg c20]
    by_cases c21 : xm_and s0 63 = 21
    · obtain ⟨z, m1, t1, z', m2, p1, p2, hI1, q1, q2, q3, hz⟩ := a_123 (sc := sc) (t := t) (m := m) (x1 := s1) (x2 := s2) hI
      have ht1 : t1.length < 900000 := by omega
      rw [if_pos c21, zl_i ht, e1, zl_i ht, e2, p1, xm_Oi_some, zl_i ht1, e1, zl_i ht1, e2, p2, xm_Oi_some]
      exact fin t1 m2 hI1 q1 q2 q3
    rw [if_neg c21]
    by_cases c22 : xm_and s0 63 = 22
    · obtain ⟨z, m1, t1, z', m2, p1, p2, hI1, q1, q2, q3, hz⟩ := a_124 (sc := sc) (t := t) (m := m) (x1 := s1) (x2 := s2) (x3 := s3) hI
      have ht1 : t1.length < 900000 := by omega
      rw [if_pos c22, zl_i ht, e1, zl_i ht, e2, zl_i ht, e3, p1, xm_Oi_some, zl_i ht1, e1, zl_i ht1, e2, zl_i ht1, e3, p2, xm_Oi_some]
      exact fin t1 m2 hI1 q1 q2 q3
    rw [if_neg c22]
    by_cases c23 : xm_and s0 63 = 23
    · obtain ⟨z, m1, t1, z', m2, p1, p2, hI1, q1, q2, q3, hz⟩ := a_125 (sc := sc) (t := t) (m := m) (x1 := s1) (x2 := s2) hI
      have ht1 : t1.length < 900000 := by omega
      rw [if_pos c23, zl_i ht, e1, zl_i ht, e2, p1, xm_Oi_some, zl_i ht1, e1, zl_i ht1, e2, p2, xm_Oi_some]
      exact fin t1 m2 hI1 q1 q2 q3
    rw [if_neg c23]
    by_cases c24 : xm_and s0 63 = 24
    · obtain ⟨z, m1, t1, z', m2, p1, p2, hI1, q1, q2, q3, hz⟩ := a_126 (sc := sc) (t := t) (m := m) (x1 := s1) (x2 := s2) (x3 := s3) (by omega) hI
      have ht1 : t1.length < 900000 := by omega
      rw [if_pos c24, zl_i ht, e1, zl_i ht, e2, zl_i ht, e3, p1, xm_Oi_some, zl_i ht1, e1, zl_i ht1, e2, zl_i ht1, e3, p2, xm_Oi_some]
      exact fin t1 m2 hI1 q1 q2 q3
    rw [if_neg c24]
    by_cases c25 : xm_and s0 63 = 25
    · obtain ⟨z, m1, t1, z', m2, p1, p2, hI1, q1, q2, q3, hz⟩ := a_127 (sc := sc) (t := t) (m := m) (x1 := s1) hI
      have ht1 : t1.length < 900000 := by omega
      rw [if_pos c25, zl_i ht, e1, p1, xm_Oi_some, zl_i ht1, e1, p2, xm_Oi_some]
      exact fin t1 m2 hI1 q1 q2 q3
    rw [if_neg c25]
    by_cases c26 : xm_and s0 63 = 26
    · obtain ⟨z, m1, t1, z', m2, p1, p2, hI1, q1, q2, q3, hz⟩ := a_128 (sc := sc) (t := t) (m := m) (x1 := s1) (x2 := s2) (x3 := s3) hI
      have ht1 : t1.length < 900000 := by omega
      rw [if_pos c26, zl_i ht, e1, zl_i ht, e2, zl_i ht, e3, p1, xm_Oi_some, zl_i ht1, e1, zl_i ht1, e2, zl_i ht1, e3, p2, xm_Oi_some]
      exact fin t1 m2 hI1 q1 q2 q3
    rw [if_neg c26]
    by_cases c27 : xm_and s0 63 = 27
    · obtain ⟨z, m1, t1, z', m2, p1, p2, hI1, q1, q2, q3, hz⟩ := a_129 (sc := sc) (t := t) (m := m) (x1 := s1) (x2 := s2) (x3 := s3) hI r3
      have ht1 : t1.length < 900000 := by omega
      rw [if_pos c27, zl_i ht, e1, zl_i ht, e2, zl_i ht, e3, p1, xm_Oi_some, zl_i ht1, e1, zl_i ht1, e2, zl_i ht1, e3, p2, xm_Oi_some]
      exact fin t1 m2 hI1 q1 q2 q3
    rw [if_neg c27]
    by_cases c28 : xm_and s0 63 = 28
    · obtain ⟨z, m1, t1, z', m2, p1, p2, hI1, q1, q2, q3, hz⟩ := a_130 (sc := sc) (t := t) (m := m) (x1 := s1) (x2 := s2) (x3 := s3) (x4 := s4) (x5 := s5) hI r5.2
      have ht1 : t1.length < 900000 := by omega
      rw [if_pos c28, zl_i ht, e1, zl_i ht, e2, zl_i ht, e3, zl_i ht, e4, zl_i ht, e5, p1, xm_Oi_some, zl_i ht1, e1, zl_i ht1, e2, zl_i ht1, e3, zl_i ht1, e4, zl_i ht1, e5, p2, xm_Oi_some]
      exact fin t1 m2 hI1 q1 q2 q3
    rw [if_neg c28]
    by_cases c29 : xm_and s0 63 = 29
    · obtain ⟨z, m1, t1, z', m2, p1, p2, hI1, q1, q2, q3, hz⟩ := a_131 (sc := sc) (t := t) (m := m) (x1 := s1) (x2 := s2) hI
      have ht1 : t1.length < 900000 := by omega
      rw [if_pos c29, zl_i ht, e1, zl_i ht, e2, p1, xm_Oi_some, zl_i ht1, e1, zl_i ht1, e2, p2, xm_Oi_some]
      exact fin t1 m2 hI1 q1 q2 q3
    rw [if_neg c29]
    by_cases c30 : xm_and s0 63 = 30
    · obtain ⟨z, m1, t1, z', m2, p1, p2, hI1, q1, q2, q3, hz⟩ := a_132 (sc := sc) (t := t) (m := m) (x1 := s1) (x2 := s2) hI
      have ht1 : t1.length < 900000 := by omega
      rw [if_pos c30, zl_i ht, e1, zl_i ht, e2, p1, xm_Oi_some, zl_i ht1, e1, zl_i ht1, e2, p2, xm_Oi_some]
      exact fin t1 m2 hI1 q1 q2 q3
    rw [if_neg c30]
    by_cases c31 : xm_and s0 63 = 31
    · obtain ⟨z, m1, t1, z', m2, p1, p2, hI1, q1, q2, q3, hz⟩ := a_133 (sc := sc) (t := t) (m := m)  hI (by omega)
      rw [if_pos c31, p1, xm_Oi_some, p2, xm_Oi_some]
      exact fin t1 m2 hI1 q1 q2 q3
    rw [if_neg c31]
    by_cases c32 : xm_and s0 63 = 32
    · obtain ⟨z, m1, t1, z', m2, p1, p2, hI1, q1, q2, q3, hz⟩ := a_134 (sc := sc) (t := t) (m := m)  hI
      rw [if_pos c32, p1, xm_Oi_some, p2, xm_Oi_some]
      exact fin t1 m2 hI1 q1 q2 q3
    rw [if_neg c32]
    by_cases c33 : xm_and s0 63 = 33
    · obtain ⟨z, m1, t1, z', m2, p1, p2, hI1, q1, q2, q3, hz⟩ := a_135 (sc := sc) (t := t) (m := m) (x1 := s1) hI
      have ht1 : t1.length < 900000 := by omega
      rw [if_pos c33, zl_i ht, e1, p1, xm_Oi_some, zl_i ht1, e1, p2, xm_Oi_some]
      exact fin t1 m2 hI1 q1 q2 q3
    rw [if_neg c33]
    by_cases c34 : xm_and s0 63 = 34
    · obtain ⟨z, m1, t1, z', m2, p1, p2, hI1, q1, q2, q3, hz⟩ := a_136 (sc := sc) (t := t) (m := m)  hI
      rw [if_pos c34, p1, xm_Oi_some, p2, xm_Oi_some]
      exact fin t1 m2 hI1 q1 q2 q3
    rw [if_neg c34]
    by_cases c35 : xm_and s0 63 = 35
    · obtain ⟨z, m1, t1, z', m2, p1, p2, hI1, q1, q2, q3, hz⟩ := a_137 (sc := sc) (t := t) (m := m) (x1 := s1) hI
      have ht1 : t1.length < 900000 := by omega
      rw [if_pos c35, zl_i ht, e1, p1, xm_Oi_some, zl_i ht1, e1, p2, xm_Oi_some]
      exact fin t1 m2 hI1 q1 q2 q3
    rw [if_neg c35]
    by_cases c36 : xm_and s0 63 = 36
    · obtain ⟨z, m1, t1, z', m2, p1, p2, hI1, q1, q2, q3, hz⟩ := a_138 (sc := sc) (t := t) (m := m) (x1 := s1) hI
      have ht1 : t1.length < 900000 := by omega
      rw [if_pos c36, zl_i ht, e1, p1, xm_Oi_some, zl_i ht1, e1, p2, xm_Oi_some]
      exact fin t1 m2 hI1 q1 q2 q3
    rw [if_neg c36]
    exact fin t m hI (by omega) (by omega) (by omega)
set_option maxRecDepth 20000 in
theorem yl_law (sc : List Int) (hs : sc.length ≤ 3072) (hr : ∀ z ∈ sc, -2147483648 ≤ z ∧ z < 2147483648) : ∃ m t, t.length ≤ 1100 ∧ xm_sz t ≤ 40000 ∧ xm_E (xm_old sc) xm_sta (xm_X (xm_old sc) xm_mt 100) xm_cl0 0 (xm_loc 4 [.inr (.inl (some 1000008))]) [] [] (some (.inl 1), yy_W m t) := by
  have h : xm_EQ (xm_old sc) xm_sta (xm_X (xm_old sc) xm_mt 100) xm_cl0 0 [some (.inr (.inl (some 1000008))), none, none, none] [] [] (fun q => ∃ m t, t.length ≤ 1100 ∧ xm_sz t ≤ 40000 ∧ q = (some (.inl 1), yy_W m t)) := by
    refine xb_0_0 ?_
    obtain ⟨w1, e1, l1, e2⟩ := n_start (sc := sc) (d := 97)
    show xm_Ov (xm_X (xm_old sc) xm_mt (97 + 3) 101 [.inr (.inl (some 0))] [.inr (.inr (8, (xm_kd 8).map xm_dflt))]) _
    rw [e1, xm_Ov_some, e2, xm_Ov_some, l1]
    exact yl_go hs hr (fun m t a b => ⟨m, t, a, b, rfl⟩) 513 0 [] yy_0 (by decide) yz_I (by decide) (by decide) (by decide)
  obtain ⟨q, h1, m, t, a, b, h2⟩ := h
  exact ⟨m, t, a, b, by rw [← h2]; exact h1⟩
