theorem yy_szc (s : Nat × List Nat) (f : Nat → Int) : xm_szC (yy_cel s f) = if s.1 = 0 then s.2.headD 0 else s.2.length := by
  obtain ⟨k, l⟩ := s
  cases k with
  | zero => show (yy_R _ f).length = _; rw [yy_R_len]; rfl
  | succ k =>
    show xm_szC (if k < 49 then _ else _) = l.length
    split
    · exact yy_vs_len l 0
    · exact yy_qs_len l 0
theorem yy_szg {m : Nat → Nat → Int} : ∀ (l : List (Nat × List Nat)) (b : Nat), xm_sz (yy_g m b l) = (l.map fun s => if s.1 = 0 then s.2.headD 0 else s.2.length).sum
  | [], _ => rfl
  | s :: l, b => by
    show xm_szC (yy_cel s (m b)) + xm_sz (yy_g m (b + 1) l) = _
    rw [yy_szc, yy_szg l]; rfl
theorem yy_szW {m : Nat → Nat → Int} {t : xm_W} : xm_sz (yy_W m t) ≤ 10000 + xm_sz t := by
  unfold yy_W xm_sz
  rw [List.map_append, List.sum_append]
  have : xm_sz (yy_g m 0 yy_lay) ≤ 10000 := by rw [yy_szg]; decide +kernel
  unfold xm_sz at this
  omega
theorem yl_ints {sc : List Int} {m : Nat → Nat → Int} {t : xm_W} (ht : t.length < 900000) : xm_ints (xm_old sc) (yy_W m t) 1000008 = some sc := xo_ints (k := 8) (by rw [yy_W_len]; omega) rfl
theorem yl_len {sc : List Int} {m : Nat → Nat → Int} {t : xm_W} (ht : t.length < 900000) (hs : sc.length < 1000000) : xm_len (xm_old sc) (yy_W m t) 1000008 = some sc.length := by
  unfold xm_len
  rw [show xm_get (xm_old sc) (yy_W m t) 1000008 = some (.inl sc) from (xo_get (k := 8) (by rw [yy_W_len]; omega)).trans rfl]
  exact if_pos hs
section yl_sec
variable {s0 s1 s2 s3 s4 s5 : Int} {m : Nat → Nat → Int} {F : List Int → Prop} {G : Int → Prop}
theorem zl_i {sc : List Int} : xm_O (xm_ints (xm_old sc) (yy_W m []) 1000008) F = F sc := congrArg (fun x => xm_O x F) (yl_ints (by decide))
theorem zl_0 : xm_O (xm_at [s0, s1, s2, s3, s4, s5] 0) G = G s0 := rfl
theorem zl_1 : xm_O (xm_at [s0, s1, s2, s3, s4, s5] (xm_w (0 + 1))) G = G s1 := rfl
theorem zl_2 : xm_O (xm_at [s0, s1, s2, s3, s4, s5] (xm_w (0 + 2))) G = G s2 := rfl
theorem zl_3 : xm_O (xm_at [s0, s1, s2, s3, s4, s5] (xm_w (0 + 3))) G = G s3 := rfl
theorem zl_4 : xm_O (xm_at [s0, s1, s2, s3, s4, s5] (xm_w (0 + 4))) G = G s4 := rfl
theorem zl_5 : xm_O (xm_at [s0, s1, s2, s3, s4, s5] (xm_w (0 + 5))) G = G s5 := rfl
theorem yl_fin {Q : Option xm_V × xm_W → Prop} (hQ : ∀ m, Q (some (.inl 1), yy_W m [])) : xm_EQ (xm_old [s0, s1, s2, s3, s4, s5]) xm_sta (xm_X (xm_old [s0, s1, s2, s3, s4, s5]) xm_mt 20) xm_cl0 1015 [some (.inr (.inl (some 1000008))), some (.inr (.inl (some 0))), some (.inr (.inl (some 74))), some (.inl 0)] [] (yy_W m []) Q := by
  refine xb_0_1015 ?_
  refine xb_0_10 ?_
  rw [yl_len (sc := [s0, s1, s2, s3, s4, s5]) (by decide) (show 6 < 1000000 by decide), xm_O_some, show ([s0, s1, s2, s3, s4, s5] : List Int).length = 6 from rfl, if_pos (by decide)]
  exact hQ m
theorem yl_one {Q : Option xm_V × xm_W → Prop} (hQ : ∀ m, Q (some (.inl 1), yy_W m [])) : xm_EQ (xm_old [s0, s1, s2, s3, s4, s5]) xm_sta (xm_X (xm_old [s0, s1, s2, s3, s4, s5]) xm_mt 20) xm_cl0 10 [some (.inr (.inl (some 1000008))), some (.inr (.inl (some 0))), some (.inr (.inl (some 74))), some (.inl 0)] [] (yy_W yy_0 []) Q := by
  refine xb_0_10 ?_
  rw [yl_len (sc := [s0, s1, s2, s3, s4, s5]) (by decide) (show 6 < 1000000 by decide), xm_O_some, show ([s0, s1, s2, s3, s4, s5] : List Int).length = 6 from rfl, if_neg (by decide), zl_i, zl_0]
  by_cases c0 : xm_and s0 63 = 0
  · rw [if_pos c0]
    obtain ⟨z, m1, m2, e1, e2⟩ := q_102 (sc := [s0, s1, s2, s3, s4, s5]) s1 s2
    rw [zl_i, zl_1, zl_i, zl_2]
    rw [e1, xm_Oi_some]
    rw [zl_i, zl_1, zl_i, zl_2]
    rw [e2, xm_Oi_some, if_pos rfl]
    exact yl_fin hQ
  rw [if_neg c0]
  by_cases c1 : xm_and s0 63 = 1
  · rw [if_pos c1]
    obtain ⟨z, m1, m2, e1, e2⟩ := q_103 (sc := [s0, s1, s2, s3, s4, s5]) s1
    rw [zl_i, zl_1]
    rw [e1, xm_Oi_some]
    rw [zl_i, zl_1]
    rw [e2, xm_Oi_some, if_pos rfl]
    exact yl_fin hQ
  rw [if_neg c1]
  by_cases c2 : xm_and s0 63 = 2
  · rw [if_pos c2]
    obtain ⟨z, m1, m2, e1, e2⟩ := q_104 (sc := [s0, s1, s2, s3, s4, s5]) s1 s2
    rw [zl_i, zl_1, zl_i, zl_2]
    rw [e1, xm_Oi_some]
    rw [zl_i, zl_1, zl_i, zl_2]
    rw [e2, xm_Oi_some, if_pos rfl]
    exact yl_fin hQ
  rw [if_neg c2]
  by_cases c3 : xm_and s0 63 = 3
  · rw [if_pos c3]
    obtain ⟨z, m1, m2, e1, e2⟩ := q_105 (sc := [s0, s1, s2, s3, s4, s5]) s1 s2
    rw [zl_i, zl_1, zl_i, zl_2]
    rw [e1, xm_Oi_some]
    rw [zl_i, zl_1, zl_i, zl_2]
    rw [e2, xm_Oi_some, if_pos rfl]
    exact yl_fin hQ
  rw [if_neg c3]
  by_cases c4 : xm_and s0 63 = 4
  · rw [if_pos c4]
    obtain ⟨z, m1, m2, e1, e2⟩ := q_106 (sc := [s0, s1, s2, s3, s4, s5]) s1 s2
    rw [zl_i, zl_1, zl_i, zl_2]
    rw [e1, xm_Oi_some]
    rw [zl_i, zl_1, zl_i, zl_2]
    rw [e2, xm_Oi_some, if_pos rfl]
    exact yl_fin hQ
  rw [if_neg c4]
  by_cases c5 : xm_and s0 63 = 5
  · rw [if_pos c5]
    obtain ⟨z, m1, m2, e1, e2⟩ := q_107 (sc := [s0, s1, s2, s3, s4, s5]) s1 s2 s3
    rw [zl_i, zl_1, zl_i, zl_2, zl_i, zl_3]
    rw [e1, xm_Oi_some]
    rw [zl_i, zl_1, zl_i, zl_2, zl_i, zl_3]
    rw [e2, xm_Oi_some, if_pos rfl]
    exact yl_fin hQ
  rw [if_neg c5]
  by_cases c6 : xm_and s0 63 = 6
  · rw [if_pos c6]
    obtain ⟨z, m1, m2, e1, e2⟩ := q_108 (sc := [s0, s1, s2, s3, s4, s5]) s1 s2
    rw [zl_i, zl_1, zl_i, zl_2]
    rw [e1, xm_Oi_some]
    rw [zl_i, zl_1, zl_i, zl_2]
    rw [e2, xm_Oi_some, if_pos rfl]
    exact yl_fin hQ
  rw [if_neg c6]
  by_cases c7 : xm_and s0 63 = 7
  · rw [if_pos c7]
    obtain ⟨z, m1, m2, e1, e2⟩ := q_109 (sc := [s0, s1, s2, s3, s4, s5]) s1
    rw [zl_i, zl_1]
    rw [e1, xm_Oi_some]
    rw [zl_i, zl_1]
    rw [e2, xm_Oi_some, if_pos rfl]
    exact yl_fin hQ
  rw [if_neg c7]
  by_cases c8 : xm_and s0 63 = 8
  · rw [if_pos c8]
    obtain ⟨z, m1, m2, e1, e2⟩ := q_110 (sc := [s0, s1, s2, s3, s4, s5]) (xm_lshl (Int32.ofInt s1).toInt64 32 ||| ((Int32.ofInt s2).toInt64 &&& Int64.ofInt 4294967295)) s3
    rw [zl_i, zl_1, zl_i, zl_2, zl_i, zl_3]
    rw [e1, xm_Oi_some]
    rw [zl_i, zl_1, zl_i, zl_2, zl_i, zl_3]
    rw [e2, xm_Oi_some, if_pos rfl]
    exact yl_fin hQ
  rw [if_neg c8]
  by_cases c9 : xm_and s0 63 = 9
  · rw [if_pos c9]
    obtain ⟨z, m1, m2, e1, e2⟩ := q_111 (sc := [s0, s1, s2, s3, s4, s5]) s1
    rw [zl_i, zl_1]
    rw [e1, xm_Oi_some]
    rw [zl_i, zl_1]
    rw [e2, xm_Oi_some, if_pos rfl]
    exact yl_fin hQ
  rw [if_neg c9]
  by_cases c10 : xm_and s0 63 = 10
  · rw [if_pos c10]
    obtain ⟨z, m1, m2, e1, e2⟩ := q_112 (sc := [s0, s1, s2, s3, s4, s5]) s1
    rw [zl_i, zl_1]
    rw [e1, xm_Oi_some]
    rw [zl_i, zl_1]
    rw [e2, xm_Oi_some, if_pos rfl]
    exact yl_fin hQ
  rw [if_neg c10]
  by_cases c11 : xm_and s0 63 = 11
  · rw [if_pos c11]
    obtain ⟨z, m1, m2, e1, e2⟩ := q_113 (sc := [s0, s1, s2, s3, s4, s5]) s1
    rw [zl_i, zl_1]
    rw [e1, xm_Oi_some]
    rw [zl_i, zl_1]
    rw [e2, xm_Oi_some, if_pos rfl]
    exact yl_fin hQ
  rw [if_neg c11]
  by_cases c12 : xm_and s0 63 = 12
  · rw [if_pos c12]
    obtain ⟨z, m1, m2, e1, e2⟩ := q_114 (sc := [s0, s1, s2, s3, s4, s5]) s1
    rw [zl_i, zl_1]
    rw [e1, xm_Oi_some]
    rw [zl_i, zl_1]
    rw [e2, xm_Oi_some, if_pos rfl]
    exact yl_fin hQ
  rw [if_neg c12]
  by_cases c13 : xm_and s0 63 = 13
  · rw [if_pos c13]
    obtain ⟨z, m1, m2, e1, e2⟩ := q_115 (sc := [s0, s1, s2, s3, s4, s5]) s1
    rw [zl_i, zl_1]
    rw [e1, xm_Oi_some]
    rw [zl_i, zl_1]
    rw [e2, xm_Oi_some, if_pos rfl]
    exact yl_fin hQ
  rw [if_neg c13]
  by_cases c14 : xm_and s0 63 = 14
  · rw [if_pos c14]
    obtain ⟨z, m1, m2, e1, e2⟩ := q_116 (sc := [s0, s1, s2, s3, s4, s5]) s1 s2
    rw [zl_i, zl_1, zl_i, zl_2]
    rw [e1, xm_Oi_some]
    rw [zl_i, zl_1, zl_i, zl_2]
    rw [e2, xm_Oi_some, if_pos rfl]
    exact yl_fin hQ
  rw [if_neg c14]
  by_cases c15 : xm_and s0 63 = 15
  · rw [if_pos c15]
    obtain ⟨z, m1, m2, e1, e2⟩ := q_117 (sc := [s0, s1, s2, s3, s4, s5]) s1 s2
    rw [zl_i, zl_1, zl_i, zl_2]
    rw [e1, xm_Oi_some]
    rw [zl_i, zl_1, zl_i, zl_2]
    rw [e2, xm_Oi_some, if_pos rfl]
    exact yl_fin hQ
  rw [if_neg c15]
  by_cases c16 : xm_and s0 63 = 16
  · rw [if_pos c16]
    obtain ⟨z, m1, m2, e1, e2⟩ := q_118 (sc := [s0, s1, s2, s3, s4, s5]) s1 s2 s3 s4
    rw [zl_i, zl_1, zl_i, zl_2, zl_i, zl_3, zl_i, zl_4]
    rw [e1, xm_Oi_some]
    rw [zl_i, zl_1, zl_i, zl_2, zl_i, zl_3, zl_i, zl_4]
    rw [e2, xm_Oi_some, if_pos rfl]
    exact yl_fin hQ
  rw [if_neg c16]
  by_cases c17 : xm_and s0 63 = 17
  · rw [if_pos c17]
    obtain ⟨z, m1, m2, e1, e2⟩ := q_119 (sc := [s0, s1, s2, s3, s4, s5]) s1 s2 s3
    rw [zl_i, zl_1, zl_i, zl_2, zl_i, zl_3]
    rw [e1, xm_Oi_some]
    rw [zl_i, zl_1, zl_i, zl_2, zl_i, zl_3]
    rw [e2, xm_Oi_some, if_pos rfl]
    exact yl_fin hQ
  rw [if_neg c17]
  by_cases c18 : xm_and s0 63 = 18
  · rw [if_pos c18]
    obtain ⟨z, m1, m2, e1, e2⟩ := q_120 (sc := [s0, s1, s2, s3, s4, s5]) s1 s2 s3
    rw [zl_i, zl_1, zl_i, zl_2, zl_i, zl_3]
    rw [e1, xm_Oi_some]
    rw [zl_i, zl_1, zl_i, zl_2, zl_i, zl_3]
    rw [e2, xm_Oi_some, if_pos rfl]
    exact yl_fin hQ
  rw [if_neg c18]
  by_cases c19 : xm_and s0 63 = 19
  · rw [if_pos c19]
    obtain ⟨z, m1, m2, e1, e2⟩ := q_121 (sc := [s0, s1, s2, s3, s4, s5]) s1 s2 s3
    rw [zl_i, zl_1, zl_i, zl_2, zl_i, zl_3]
    rw [e1, xm_Oi_some]
    rw [zl_i, zl_1, zl_i, zl_2, zl_i, zl_3]
    rw [e2, xm_Oi_some, if_pos rfl]
    exact yl_fin hQ
  rw [if_neg c19]
  by_cases c20 : xm_and s0 63 = 20
  · rw [if_pos c20]
    obtain ⟨z, m1, m2, e1, e2⟩ := q_122 (sc := [s0, s1, s2, s3, s4, s5]) s1 s2 s3
    rw [zl_i, zl_1, zl_i, zl_2, zl_i, zl_3]
    rw [e1, xm_Oi_some]
    rw [zl_i, zl_1, zl_i, zl_2, zl_i, zl_3]
    rw [e2, xm_Oi_some, if_pos rfl]
    exact yl_fin hQ
  rw [if_neg c20]
  by_cases c21 : xm_and s0 63 = 21
  · rw [if_pos c21]
    obtain ⟨z, m1, m2, e1, e2⟩ := q_123 (sc := [s0, s1, s2, s3, s4, s5]) s1 s2
    rw [zl_i, zl_1, zl_i, zl_2]
    rw [e1, xm_Oi_some]
    rw [zl_i, zl_1, zl_i, zl_2]
    rw [e2, xm_Oi_some, if_pos rfl]
    exact yl_fin hQ
  rw [if_neg c21]
  by_cases c22 : xm_and s0 63 = 22
  · rw [if_pos c22]
    obtain ⟨z, m1, m2, e1, e2⟩ := q_124 (sc := [s0, s1, s2, s3, s4, s5]) s1 s2 s3
    rw [zl_i, zl_1, zl_i, zl_2, zl_i, zl_3]
    rw [e1, xm_Oi_some]
    rw [zl_i, zl_1, zl_i, zl_2, zl_i, zl_3]
    rw [e2, xm_Oi_some, if_pos rfl]
    exact yl_fin hQ
  rw [if_neg c22]
  by_cases c23 : xm_and s0 63 = 23
  · rw [if_pos c23]
    obtain ⟨z, m1, m2, e1, e2⟩ := q_125 (sc := [s0, s1, s2, s3, s4, s5]) s1 s2
    rw [zl_i, zl_1, zl_i, zl_2]
    rw [e1, xm_Oi_some]
    rw [zl_i, zl_1, zl_i, zl_2]
    rw [e2, xm_Oi_some, if_pos rfl]
    exact yl_fin hQ
  rw [if_neg c23]
  by_cases c24 : xm_and s0 63 = 24
  · rw [if_pos c24]
    obtain ⟨z, m1, m2, e1, e2⟩ := q_126 (sc := [s0, s1, s2, s3, s4, s5]) s1 s2 s3
    rw [zl_i, zl_1, zl_i, zl_2, zl_i, zl_3]
    rw [e1, xm_Oi_some]
    rw [zl_i, zl_1, zl_i, zl_2, zl_i, zl_3]
    rw [e2, xm_Oi_some, if_pos rfl]
    exact yl_fin hQ
  rw [if_neg c24]
  by_cases c25 : xm_and s0 63 = 25
  · rw [if_pos c25]
    obtain ⟨z, m1, m2, e1, e2⟩ := q_127 (sc := [s0, s1, s2, s3, s4, s5]) s1
    rw [zl_i, zl_1]
    rw [e1, xm_Oi_some]
    rw [zl_i, zl_1]
    rw [e2, xm_Oi_some, if_pos rfl]
    exact yl_fin hQ
  rw [if_neg c25]
  by_cases c26 : xm_and s0 63 = 26
  · rw [if_pos c26]
    obtain ⟨z, m1, m2, e1, e2⟩ := q_128 (sc := [s0, s1, s2, s3, s4, s5]) s1 s2 s3
    rw [zl_i, zl_1, zl_i, zl_2, zl_i, zl_3]
    rw [e1, xm_Oi_some]
    rw [zl_i, zl_1, zl_i, zl_2, zl_i, zl_3]
    rw [e2, xm_Oi_some, if_pos rfl]
    exact yl_fin hQ
  rw [if_neg c26]
  by_cases c27 : xm_and s0 63 = 27
  · rw [if_pos c27]
    obtain ⟨z, m1, m2, e1, e2⟩ := q_129 (sc := [s0, s1, s2, s3, s4, s5]) s1 s2 s3
    rw [zl_i, zl_1, zl_i, zl_2, zl_i, zl_3]
    rw [e1, xm_Oi_some]
    rw [zl_i, zl_1, zl_i, zl_2, zl_i, zl_3]
    rw [e2, xm_Oi_some, if_pos rfl]
    exact yl_fin hQ
  rw [if_neg c27]
  by_cases c28 : xm_and s0 63 = 28
  · rw [if_pos c28]
    obtain ⟨z, m1, m2, e1, e2⟩ := q_130 (sc := [s0, s1, s2, s3, s4, s5]) s1 s2 s3 s4 s5
    rw [zl_i, zl_1, zl_i, zl_2, zl_i, zl_3, zl_i, zl_4, zl_i, zl_5]
    rw [e1, xm_Oi_some]
    rw [zl_i, zl_1, zl_i, zl_2, zl_i, zl_3, zl_i, zl_4, zl_i, zl_5]
    rw [e2, xm_Oi_some, if_pos rfl]
    exact yl_fin hQ
  rw [if_neg c28]
  by_cases c29 : xm_and s0 63 = 29
  · rw [if_pos c29]
    obtain ⟨z, m1, m2, e1, e2⟩ := q_131 (sc := [s0, s1, s2, s3, s4, s5]) s1 s2
    rw [zl_i, zl_1, zl_i, zl_2]
    rw [e1, xm_Oi_some]
    rw [zl_i, zl_1, zl_i, zl_2]
    rw [e2, xm_Oi_some, if_pos rfl]
    exact yl_fin hQ
  rw [if_neg c29]
  by_cases c30 : xm_and s0 63 = 30
  · rw [if_pos c30]
    obtain ⟨z, m1, m2, e1, e2⟩ := q_132 (sc := [s0, s1, s2, s3, s4, s5]) s1 s2
    rw [zl_i, zl_1, zl_i, zl_2]
    rw [e1, xm_Oi_some]
    rw [zl_i, zl_1, zl_i, zl_2]
    rw [e2, xm_Oi_some, if_pos rfl]
    exact yl_fin hQ
  rw [if_neg c30]
  by_cases c31 : xm_and s0 63 = 31
  · rw [if_pos c31]
    obtain ⟨z, m1, m2, e1, e2⟩ := q_133 (sc := [s0, s1, s2, s3, s4, s5])
    rw [e1, xm_Oi_some]
    rw [e2, xm_Oi_some, if_pos rfl]
    exact yl_fin hQ
  rw [if_neg c31]
  by_cases c32 : xm_and s0 63 = 32
  · rw [if_pos c32]
    obtain ⟨z, m1, m2, e1, e2⟩ := q_134 (sc := [s0, s1, s2, s3, s4, s5])
    rw [e1, xm_Oi_some]
    rw [e2, xm_Oi_some, if_pos rfl]
    exact yl_fin hQ
  rw [if_neg c32]
  by_cases c33 : xm_and s0 63 = 33
  · rw [if_pos c33]
    obtain ⟨z, m1, m2, e1, e2⟩ := q_135 (sc := [s0, s1, s2, s3, s4, s5]) s1
    rw [zl_i, zl_1]
    rw [e1, xm_Oi_some]
    rw [zl_i, zl_1]
    rw [e2, xm_Oi_some, if_pos rfl]
    exact yl_fin hQ
  rw [if_neg c33]
  by_cases c34 : xm_and s0 63 = 34
  · rw [if_pos c34]
    obtain ⟨z, m1, m2, e1, e2⟩ := q_136 (sc := [s0, s1, s2, s3, s4, s5])
    rw [e1, xm_Oi_some]
    rw [e2, xm_Oi_some, if_pos rfl]
    exact yl_fin hQ
  rw [if_neg c34]
  by_cases c35 : xm_and s0 63 = 35
  · rw [if_pos c35]
    obtain ⟨z, m1, m2, e1, e2⟩ := q_137 (sc := [s0, s1, s2, s3, s4, s5]) s1
    rw [zl_i, zl_1]
    rw [e1, xm_Oi_some]
    rw [zl_i, zl_1]
    rw [e2, xm_Oi_some, if_pos rfl]
    exact yl_fin hQ
  rw [if_neg c35]
  by_cases c36 : xm_and s0 63 = 36
  · rw [if_pos c36]
    obtain ⟨z, m1, m2, e1, e2⟩ := q_138 (sc := [s0, s1, s2, s3, s4, s5]) s1
    rw [zl_i, zl_1]
    rw [e1, xm_Oi_some]
    rw [zl_i, zl_1]
    rw [e2, xm_Oi_some, if_pos rfl]
    exact yl_fin hQ
  rw [if_neg c36]
  exact yl_fin hQ
end yl_sec
theorem yl_law (sc : List Int) (hs : sc.length ≤ 6) : ∃ m, xm_E (xm_old sc) xm_sta (xm_X (xm_old sc) xm_mt 20) xm_cl0 0 (xm_loc 4 [.inr (.inl (some 1000008))]) [] [] (some (.inl 1), yy_W m []) := by
  have h : xm_EQ (xm_old sc) xm_sta (xm_X (xm_old sc) xm_mt 20) xm_cl0 0 [some (.inr (.inl (some 1000008))), none, none, none] [] [] (fun q => ∃ m, q = (some (.inl 1), yy_W m [])) := by
    refine xb_0_0 ?_
    obtain ⟨w1, e1, l1, e2⟩ := n_start (sc := sc) (d := 17)
    show xm_Ov (xm_X (xm_old sc) xm_mt (17 + 3) 101 [.inr (.inl (some 0))] [.inr (.inr (8, (xm_kd 8).map xm_dflt))]) _
    rw [e1, xm_Ov_some, e2, xm_Ov_some, l1]
    by_cases h6 : sc.length = 6
    · match sc, h6 with
      | [s0, s1, s2, s3, s4, s5], _ => exact yl_one fun m => ⟨m, rfl⟩
    · refine xb_0_10 ?_
      rw [yl_len (by decide) (by omega), xm_O_some, if_pos (by unfold xm_w; omega)]
      exact ⟨_, rfl⟩
  obtain ⟨q, h1, m, h2⟩ := h
  exact ⟨m, by rw [← h2]; exact h1⟩
