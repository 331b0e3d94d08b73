def sg_KC (s : Nat → Int) (c : Int) (i : Nat) : Bool := decide (sg_p s i 0 ≠ c)
set_option maxRecDepth 20000 in
theorem sg_clr_congr {K K' : Nat → Bool} {s : Nat → Int} (h3 : 0 ≤ s 3) (h : ∀ j : Nat, (j : Int) < s 3 → K j = K' j) : sg_clr K s = sg_clr K' s := by
  unfold sg_clr
  rw [sg_cl_congr (s 3).toNat 0 0 s (fun j _ hj => h j (by omega))]
set_option maxRecDepth 20000 in
theorem sg_KC_K {s : Nat → Int} {c : Int} (hW : sg_W s 0) : sg_clr (sg_KC s c) s = sg_clr (sg_K s 0 c) s := by
  refine sg_clr_congr hW.1.2.2.2.1.1 (fun j hj => ?_)
  have := hW.2.2.1 j hj
  unfold sg_KC sg_K
  by_cases e : sg_p s j 0 ≠ c
  · rw [decide_eq_true e, eq_comm, decide_eq_true_iff]; exact ⟨by omega, e, this⟩
  · rw [decide_eq_false e, eq_comm, decide_eq_false_iff_not]; exact fun h => e h.2.1
set_option maxRecDepth 20000 in
theorem l_410 {sc : List Int} {d : Nat} {t : xm_W} {m0 : Nat → Nat → Int} {s0 : Nat → Int} {c : Int} {Q : Option xm_V × xm_W → Prop} (hM : yy_MR m0 1 s0) (h40 : 0 ≤ s0 3 ∧ s0 3 ≤ 40) (hQ : ∀ m', yy_Fb m0 m' 1 → yy_MR m' 1 (sg_clr (sg_KC s0 c) s0) → (∀ c, c ≠ 1 → c ≠ 4 → m' c = m0 c) → Q ((none, (yy_W (m') t)))) : ∀ (k i l : Nat) (m : Nat → Nat → Int) (s : Nat → Int), ((i + k : Nat) : Int) = s0 3 → l ≤ i → (∀ q, (q < 134 ∨ 134 + 5 * i ≤ q) → s q = s0 q) → (∀ c, c ≠ 4 → m c = m0 c) → (∀ q, q < 200 → m 4 q = s (134 + q)) → sg_cl (sg_KC s0 c) k i l s = sg_cl (sg_KC s0 c) (s0 3).toNat 0 0 s0 → xm_EQ (xm_old sc) xm_sta (xm_X (xm_old sc) xm_mt (d + 2)) xm_c410 4 [some (.inr (.inl (some 1))), some (.inl (c)), some (.inl ((l : Int))), some (.inl ((i : Int)))] [] (yy_W (m) t) Q
  | 0, i, l, m, s, hk, hl, hs, hm, hp, hc => by
    obtain ⟨e1, e2, e3, e4, e5, e6, e7⟩ := id hM
    have a0 : m 1 = m0 1 := hm _ (by decide)
    refine xb_410_4 ?_
    simp (disch := first | omega | (unfold xm_w; omega)) only [↓zy_at, xm_O_some, xm_Oi_some, xm_Ov_some, xm_Oq_some, ↓reduceIte, ↓zz_t, ↓zz_f, ↓zi_t, ↓zi_f, eq_self, yy_d_0, Int.reduceEq, Int.reduceLT, Int.reduceLE, Int.reduceNe, Int.reduceToNat, Int.reduceAdd, Int.reduceSub, Int.reduceMul, Int.reduceNeg, Nat.reduceAdd, Nat.reduceMul, Nat.reduceSub, Nat.reduceEqDiff, Nat.reduceLT, ne_eq, not_false_eq_true, not_true_eq_false, true_and, and_true, and_self, yy_s_eq, yy_s_ne, yy_c_eq, yy_c_ne, yy_u_eq, yy_u_ne, xm_w_id, yy_at, tdiv_pos, tmod_pos, ↓zr_1_0, ↓zf_1_1, ↓zs_1_1, ↓zf_1_2, ↓zs_1_2, ↓zr_1_3, ↓zf_1_4, ↓zs_1_4, ↓zr_1_5, ↓zf_1_6, ↓zs_1_6, ↓zr_1_7, ↓zr_1_8, ↓zr_1_9, a0, e4]
    have hc2 : (s, l) = sg_cl (sg_KC s0 c) (s0 3).toNat 0 0 s0 := hc
    have r1 : (sg_cl (sg_KC s0 c) (s0 3).toNat 0 0 s0).1 = s := by rw [← hc2]
    have r2 : (sg_cl (sg_KC s0 c) (s0 3).toNat 0 0 s0).2 = l := by rw [← hc2]
    have ev : ∀ q, sg_clr (sg_KC s0 c) s0 q = if q = 3 then (l : Int) else s q := fun q => by unfold sg_clr yy_u; rw [r1, r2]
    have ev2 : ∀ q, q < 134 → q ≠ 3 → sg_clr (sg_KC s0 c) s0 q = s0 q := fun q h h' => by rw [ev, if_neg h', hs q (Or.inl h)]
    refine hQ _ (fun c hc => ?_) ⟨?_, ?_, ?_, ?_, fun q hq => ?_, fun q hq => ?_, fun j hj => ⟨fun q hq => ?_, fun q hq => ?_⟩⟩ (fun c c1 c2 => ?_)
    · simp (disch := first | omega | (unfold xm_w; omega)) only [↓zy_at, xm_O_some, xm_Oi_some, xm_Ov_some, xm_Oq_some, ↓reduceIte, ↓zz_t, ↓zz_f, ↓zi_t, ↓zi_f, eq_self, yy_d_0, Int.reduceEq, Int.reduceLT, Int.reduceLE, Int.reduceNe, Int.reduceToNat, Int.reduceAdd, Int.reduceSub, Int.reduceMul, Int.reduceNeg, Nat.reduceAdd, Nat.reduceMul, Nat.reduceSub, Nat.reduceEqDiff, Nat.reduceLT, ne_eq, not_false_eq_true, not_true_eq_false, true_and, and_true, and_self, yy_s_eq, yy_s_ne, yy_c_eq, yy_c_ne, yy_u_eq, yy_u_ne, xm_w_id, yy_at, tdiv_pos, tmod_pos]; exact hm c (by omega)
    · simp (disch := first | omega | (unfold xm_w; omega)) only [↓zy_at, xm_O_some, xm_Oi_some, xm_Ov_some, xm_Oq_some, ↓reduceIte, ↓zz_t, ↓zz_f, ↓zi_t, ↓zi_f, eq_self, yy_d_0, Int.reduceEq, Int.reduceLT, Int.reduceLE, Int.reduceNe, Int.reduceToNat, Int.reduceAdd, Int.reduceSub, Int.reduceMul, Int.reduceNeg, Nat.reduceAdd, Nat.reduceMul, Nat.reduceSub, Nat.reduceEqDiff, Nat.reduceLT, ne_eq, not_false_eq_true, not_true_eq_false, true_and, and_true, and_self, yy_s_eq, yy_s_ne, yy_c_eq, yy_c_ne, yy_u_eq, yy_u_ne, xm_w_id, yy_at, tdiv_pos, tmod_pos, a0, e1]; exact (ev2 2 (by decide) (by decide)).symm
    · simp (disch := first | omega | (unfold xm_w; omega)) only [↓zy_at, xm_O_some, xm_Oi_some, xm_Ov_some, xm_Oq_some, ↓reduceIte, ↓zz_t, ↓zz_f, ↓zi_t, ↓zi_f, eq_self, yy_d_0, Int.reduceEq, Int.reduceLT, Int.reduceLE, Int.reduceNe, Int.reduceToNat, Int.reduceAdd, Int.reduceSub, Int.reduceMul, Int.reduceNeg, Nat.reduceAdd, Nat.reduceMul, Nat.reduceSub, Nat.reduceEqDiff, Nat.reduceLT, ne_eq, not_false_eq_true, not_true_eq_false, true_and, and_true, and_self, yy_s_eq, yy_s_ne, yy_c_eq, yy_c_ne, yy_u_eq, yy_u_ne, xm_w_id, yy_at, tdiv_pos, tmod_pos, a0, e2]; exact (ev2 1 (by decide) (by decide)).symm
    · simp (disch := first | omega | (unfold xm_w; omega)) only [↓zy_at, xm_O_some, xm_Oi_some, xm_Ov_some, xm_Oq_some, ↓reduceIte, ↓zz_t, ↓zz_f, ↓zi_t, ↓zi_f, eq_self, yy_d_0, Int.reduceEq, Int.reduceLT, Int.reduceLE, Int.reduceNe, Int.reduceToNat, Int.reduceAdd, Int.reduceSub, Int.reduceMul, Int.reduceNeg, Nat.reduceAdd, Nat.reduceMul, Nat.reduceSub, Nat.reduceEqDiff, Nat.reduceLT, ne_eq, not_false_eq_true, not_true_eq_false, true_and, and_true, and_self, yy_s_eq, yy_s_ne, yy_c_eq, yy_c_ne, yy_u_eq, yy_u_ne, xm_w_id, yy_at, tdiv_pos, tmod_pos, a0, e3]; exact (ev2 0 (by decide) (by decide)).symm
    · simp (disch := first | omega | (unfold xm_w; omega)) only [↓zy_at, xm_O_some, xm_Oi_some, xm_Ov_some, xm_Oq_some, ↓reduceIte, ↓zz_t, ↓zz_f, ↓zi_t, ↓zi_f, eq_self, yy_d_0, Int.reduceEq, Int.reduceLT, Int.reduceLE, Int.reduceNe, Int.reduceToNat, Int.reduceAdd, Int.reduceSub, Int.reduceMul, Int.reduceNeg, Nat.reduceAdd, Nat.reduceMul, Nat.reduceSub, Nat.reduceEqDiff, Nat.reduceLT, ne_eq, not_false_eq_true, not_true_eq_false, true_and, and_true, and_self, yy_s_eq, yy_s_ne, yy_c_eq, yy_c_ne, yy_u_eq, yy_u_ne, xm_w_id, yy_at, tdiv_pos, tmod_pos]; rw [ev, if_pos rfl]
    · simp (disch := first | omega | (unfold xm_w; omega)) only [↓zy_at, xm_O_some, xm_Oi_some, xm_Ov_some, xm_Oq_some, ↓reduceIte, ↓zz_t, ↓zz_f, ↓zi_t, ↓zi_f, eq_self, yy_d_0, Int.reduceEq, Int.reduceLT, Int.reduceLE, Int.reduceNe, Int.reduceToNat, Int.reduceAdd, Int.reduceSub, Int.reduceMul, Int.reduceNeg, Nat.reduceAdd, Nat.reduceMul, Nat.reduceSub, Nat.reduceEqDiff, Nat.reduceLT, ne_eq, not_false_eq_true, not_true_eq_false, true_and, and_true, and_self, yy_s_eq, yy_s_ne, yy_c_eq, yy_c_ne, yy_u_eq, yy_u_ne, xm_w_id, yy_at, tdiv_pos, tmod_pos]; rw [hm _ (by decide), e5 q hq, ev2 _ (by omega) (by omega)]
    · simp (disch := first | omega | (unfold xm_w; omega)) only [↓zy_at, xm_O_some, xm_Oi_some, xm_Ov_some, xm_Oq_some, ↓reduceIte, ↓zz_t, ↓zz_f, ↓zi_t, ↓zi_f, eq_self, yy_d_0, Int.reduceEq, Int.reduceLT, Int.reduceLE, Int.reduceNe, Int.reduceToNat, Int.reduceAdd, Int.reduceSub, Int.reduceMul, Int.reduceNeg, Nat.reduceAdd, Nat.reduceMul, Nat.reduceSub, Nat.reduceEqDiff, Nat.reduceLT, ne_eq, not_false_eq_true, not_true_eq_false, true_and, and_true, and_self, yy_s_eq, yy_s_ne, yy_c_eq, yy_c_ne, yy_u_eq, yy_u_ne, xm_w_id, yy_at, tdiv_pos, tmod_pos]; rw [hp q hq, ev, if_neg (by omega)]
    · simp (disch := first | omega | (unfold xm_w; omega)) only [↓zy_at, xm_O_some, xm_Oi_some, xm_Ov_some, xm_Oq_some, ↓reduceIte, ↓zz_t, ↓zz_f, ↓zi_t, ↓zi_f, eq_self, yy_d_0, Int.reduceEq, Int.reduceLT, Int.reduceLE, Int.reduceNe, Int.reduceToNat, Int.reduceAdd, Int.reduceSub, Int.reduceMul, Int.reduceNeg, Nat.reduceAdd, Nat.reduceMul, Nat.reduceSub, Nat.reduceEqDiff, Nat.reduceLT, ne_eq, not_false_eq_true, not_true_eq_false, true_and, and_true, and_self, yy_s_eq, yy_s_ne, yy_c_eq, yy_c_ne, yy_u_eq, yy_u_ne, xm_w_id, yy_at, tdiv_pos, tmod_pos]; rw [hm _ (by omega), (e7 j hj).1 q hq, ev2 _ (by omega) (by omega)]
    · simp (disch := first | omega | (unfold xm_w; omega)) only [↓zy_at, xm_O_some, xm_Oi_some, xm_Ov_some, xm_Oq_some, ↓reduceIte, ↓zz_t, ↓zz_f, ↓zi_t, ↓zi_f, eq_self, yy_d_0, Int.reduceEq, Int.reduceLT, Int.reduceLE, Int.reduceNe, Int.reduceToNat, Int.reduceAdd, Int.reduceSub, Int.reduceMul, Int.reduceNeg, Nat.reduceAdd, Nat.reduceMul, Nat.reduceSub, Nat.reduceEqDiff, Nat.reduceLT, ne_eq, not_false_eq_true, not_true_eq_false, true_and, and_true, and_self, yy_s_eq, yy_s_ne, yy_c_eq, yy_c_ne, yy_u_eq, yy_u_ne, xm_w_id, yy_at, tdiv_pos, tmod_pos]; rw [hm _ (by omega), (e7 j hj).2 q hq, ev2 _ (by omega) (by omega)]
    · simp (disch := first | omega | (unfold xm_w; omega)) only [↓zy_at, xm_O_some, xm_Oi_some, xm_Ov_some, xm_Oq_some, ↓reduceIte, ↓zz_t, ↓zz_f, ↓zi_t, ↓zi_f, eq_self, yy_d_0, Int.reduceEq, Int.reduceLT, Int.reduceLE, Int.reduceNe, Int.reduceToNat, Int.reduceAdd, Int.reduceSub, Int.reduceMul, Int.reduceNeg, Nat.reduceAdd, Nat.reduceMul, Nat.reduceSub, Nat.reduceEqDiff, Nat.reduceLT, ne_eq, not_false_eq_true, not_true_eq_false, true_and, and_true, and_self, yy_s_eq, yy_s_ne, yy_c_eq, yy_c_ne, yy_u_eq, yy_u_ne, xm_w_id, yy_at, tdiv_pos, tmod_pos]; exact hm c c2
  | k + 1, i, l, m, s, hk, hl, hs, hm, hp, hc => by
    obtain ⟨e1, e2, e3, e4, e5, e6, e7⟩ := id hM
    have a0 : m 1 = m0 1 := hm _ (by decide)
    have f0 : m 4 (5 * i) = sg_p s0 i 0 := by rw [hp _ (by omega), show 134 + 5 * i = 134 + 5 * i + 0 by omega]; exact hs _ (Or.inr (by omega))
    have i0 : ((i : Int) * 5 + 0).toNat = 5 * i := by omega
    have hKi : sg_KC s0 c i = decide (sg_p s0 i 0 ≠ c) := rfl
    rw [sg_cl_s] at hc
    refine xb_410_4 ?_
    simp (disch := first | omega | (unfold xm_w; omega)) only [↓zy_at, xm_O_some, xm_Oi_some, xm_Ov_some, xm_Oq_some, ↓reduceIte, ↓zz_t, ↓zz_f, ↓zi_t, ↓zi_f, eq_self, yy_d_0, Int.reduceEq, Int.reduceLT, Int.reduceLE, Int.reduceNe, Int.reduceToNat, Int.reduceAdd, Int.reduceSub, Int.reduceMul, Int.reduceNeg, Nat.reduceAdd, Nat.reduceMul, Nat.reduceSub, Nat.reduceEqDiff, Nat.reduceLT, ne_eq, not_false_eq_true, not_true_eq_false, true_and, and_true, and_self, yy_s_eq, yy_s_ne, yy_c_eq, yy_c_ne, yy_u_eq, yy_u_ne, xm_w_id, yy_at, tdiv_pos, tmod_pos, ↓zr_1_0, ↓zf_1_1, ↓zs_1_1, ↓zf_1_2, ↓zs_1_2, ↓zr_1_3, ↓zf_1_4, ↓zs_1_4, ↓zr_1_5, ↓zf_1_6, ↓zs_1_6, ↓zr_1_7, ↓zr_1_8, ↓zr_1_9, ↓zi_4, ↓zt_4, a0, e4, i0, f0]
    by_cases g : sg_p s0 i 0 = c
    · rw [if_neg (by rw [hKi, decide_eq_true_iff]; exact fun h => h g)] at hc
      rw [if_pos g]
      have := l_410 (sc := sc) (d := d) (t := t) (Q := Q) hM h40 hQ k (i + 1) l m s (by omega) (by omega) (fun q hq => hs q (by omega)) hm hp hc
      rw [show ((i + 1 : Nat) : Int) = (i : Int) + 1 by omega] at this
      exact this
    · rw [if_pos (by rw [hKi, decide_eq_true_iff]; exact g)] at hc
      rw [if_neg g, oc_411_1 (by omega) (by omega)]
      have := l_410 (sc := sc) (d := d) (t := t) (Q := Q) hM h40 hQ k (i + 1) (l + 1) (yy_c m 4 (yy_cp (m 4) (m 4) (5 * i) (5 * l) 5)) (sg_c5 s i l) (by omega) (by omega) (fun q hq => by rw [sg_c5_out (by omega)]; exact hs q (by omega)) (fun c hc => by rw [yy_c_ne hc]; exact hm c hc) (fun q hq => ?_) hc
      · rw [show ((i + 1 : Nat) : Int) = (i : Int) + 1 by omega, show ((l + 1 : Nat) : Int) = (l : Int) + 1 by omega] at this
        exact this
      · rw [yy_c_eq]
        unfold yy_cp sg_c5
        by_cases f : 5 * l ≤ q ∧ q < 5 * l + 5
        · rw [if_pos f, if_pos (by omega), hp _ (by omega)]; congr 1; omega
        · rw [if_neg f, if_neg (by omega)]; exact hp q hq
set_option maxRecDepth 20000 in
theorem c_410g {sc : List Int} {d : Nat} {t : xm_W} {m : Nat → Nat → Int} {s : Nat → Int} {c : Int} (hM : yy_MR m 1 s) (h40 : 0 ≤ s 3 ∧ s 3 ≤ 40) : ∃ m', xm_X (xm_old sc) xm_mt (d + 3) 410 [.inr (.inl (some 1)), .inl (c)] (yy_W m t) = some (none, yy_W m' t) ∧ yy_Fb m m' 1 ∧ yy_MR m' 1 (sg_clr (sg_KC s c) s) ∧ (∀ c, c ≠ 1 → c ≠ 4 → m' c = m c) := by
  have key : ∀ {Q : Option xm_V × xm_W → Prop}, (∀ m', (yy_Fb m m' 1 ∧ yy_MR m' 1 (sg_clr (sg_KC s c) s) ∧ (∀ c, c ≠ 1 → c ≠ 4 → m' c = m c)) → Q (none, yy_W m' t)) → xm_EQ (xm_old sc) xm_sta (xm_X (xm_old sc) xm_mt (d + 2)) xm_m410.2.2.2.2.2.2.2 0 (xm_loc xm_m410.2.2.1 [.inr (.inl (some 1)), .inl (c)]) [] (yy_W m t) Q := by
    intro Q hQ
    refine xb_410_0 ?_
    exact l_410 (d := d) hM h40 (fun m' h1 h2 h3 => hQ m' ⟨h1, h2, h3⟩) (s 3).toNat 0 0 m s (by omega) (by decide) (fun q _ => rfl) (fun c _ => rfl) hM.2.2.2.2.2.1 rfl
  obtain ⟨q, h1, m', h2, h3⟩ := yx_of (y := 410) (M := xm_m410) (sc := sc) (d := d + 2) (as := [.inr (.inl (some 1)), .inl (c)]) (w := yy_W m t) (Q := fun q => ∃ m', q = (none, yy_W m' t) ∧ (yy_Fb m m' 1 ∧ yy_MR m' 1 (sg_clr (sg_KC s c) s) ∧ (∀ c, c ≠ 1 → c ≠ 4 → m' c = m c))) rfl (key fun m' h => ⟨m', rfl, h⟩) (fun q ⟨m', h, _⟩ => by rw [h]; rfl) rfl (Nat.le_of_ble_eq_true rfl) (yy_hd rfl (by decide))
  exact ⟨m', by rw [h1, h2], h3⟩
def sg_z (z : Int) : Int := xm_w (xm_w (z * 1103515245) + 12345)
/-! an hour by draws -/
def sg_dr (s : Nat → Int) : Nat → Int := sg_clr (sg_K (yy_u (sg_hour (-1) s) 6 (sg_z (s 6))) 0 ((xm_ushr (sg_z (s 6)) 8).tmod 36)) (yy_u (sg_hour (-1) s) 6 (sg_z (s 6)))
def sg_drs : Nat → (Nat → Int) → (Nat → Int)
  | 0, s => s
  | n + 1, s => sg_drs n (sg_dr s)
set_option maxRecDepth 20000 in
theorem sg_dr_W {s : Nat → Int} (hW : sg_W s 0) (h1 : s 1 < 20000) : sg_W (yy_u (sg_hour (-1) s) 6 (sg_z (s 6))) 0 ∧ sg_W (sg_dr s) 0 ∧ sg_dr s 1 = s 1 + 1 ∧ sg_dr s 6 = sg_z (s 6) ∧ ∀ q, (q < 44 ∨ 339 ≤ q) → q ≠ 3 → q ≠ 1 → q ≠ 6 → sg_dr s q = s q := by
  obtain ⟨w1, w2, w3⟩ := sg_hour_W (st := -1) hW h1
  have o : ∀ k, k ≠ 6 → yy_u (sg_hour (-1) s) 6 (sg_z (s 6)) k = sg_hour (-1) s k := fun k hk => yy_u_ne hk
  have W2 : sg_W (yy_u (sg_hour (-1) s) 6 (sg_z (s 6))) 0 := sg_W_q (fun k hk => o k (by omega)) w1
  have h3 : 0 ≤ yy_u (sg_hour (-1) s) 6 (sg_z (s 6)) 3 ∧ yy_u (sg_hour (-1) s) 6 (sg_z (s 6)) 3 ≤ 41 := by
    have := W2.1.2.2.2.1; omega
  have co : ∀ k, k ≠ 3 → (k < 134 ∨ 339 ≤ k) → sg_dr s k = yy_u (sg_hour (-1) s) 6 (sg_z (s 6)) k := fun k a b => sg_clr_o h3 a b
  refine ⟨W2, sg_clr_W W2 _ (fun i hi _ => W2.2.2.1 i hi), by rw [co 1 (by decide) (Or.inl (by decide)), o 1 (by decide), w2], by rw [co 6 (by decide) (Or.inl (by decide)), yy_u_eq], fun q a b c e => by rw [co q b (by omega), o q e]; exact w3 q a b c⟩
set_option maxRecDepth 20000 in
theorem sg_drs_W : ∀ (n : Nat) (s : Nat → Int), sg_W s 0 → s 1 + n ≤ 20000 → sg_W (sg_drs n s) 0 ∧ sg_drs n s 1 = s 1 + n ∧ ∀ q, (q < 44 ∨ 339 ≤ q) → q ≠ 3 → q ≠ 1 → q ≠ 6 → sg_drs n s q = s q
  | 0, s, hW, _ => ⟨hW, by unfold sg_drs; omega, fun q _ _ _ _ => rfl⟩
  | n + 1, s, hW, h => by
    obtain ⟨-, a, b, -, c⟩ := sg_dr_W hW (by omega)
    obtain ⟨x, y, z⟩ := sg_drs_W n (sg_dr s) a (by omega)
    unfold sg_drs
    exact ⟨x, by rw [y, b]; omega, fun q h1 h2 h3 h4 => by rw [z q h1 h2 h3 h4, c q h1 h2 h3 h4]⟩
set_option maxRecDepth 20000 in
theorem l_114g {sc : List Int} {d : Nat} {t : xm_W} {Q : Option xm_V × xm_W → Prop} {n : Int} {m0 : Nat → Nat → Int} {s' : Nat → Int} (hn : n ≤ 24) (hQ : ∀ m', (∀ c, (18 ≤ c ∨ c = 0) → c ≠ 35 → m' c = m0 c) → (∀ k, k ≠ 4 → m' 35 k = m0 35 k) → m' 35 4 = s' 6 → yy_MX t m' 1 s' → Q ((some (.inl (s' 3)), (yy_W (m') t)))) : ∀ (k : Nat) (m : Nat → Nat → Int) (s : Nat → Int) (i : Int), n - i = k → 0 ≤ i → sg_W s 0 → s 1 + k ≤ 20000 → yy_MX t m 1 s → m 35 4 = s 6 → (∀ c, (18 ≤ c ∨ c = 0) → c ≠ 35 → m c = m0 c) → (∀ k, k ≠ 4 → m 35 k = m0 35 k) → sg_drs k s = s' → xm_EQ (xm_old sc) xm_sta (xm_X (xm_old sc) xm_mt (d + 6)) xm_c114 22 [some (.inr (.inl (some 0))), some (.inl (n)), some (.inl (i))] [] (yy_W (m) t) Q
  | 0, m, s, i, hk, hi, hW, h1, hM, hz, hF, hF2, hs => by
    have hs : s = s' := hs
    refine xb_114_22 ?_
    simp (disch := first | omega | (unfold xm_w; omega)) only [↓zy_at, xm_O_some, xm_Oi_some, xm_Ov_some, xm_Oq_some, ↓reduceIte, ↓zz_t, ↓zz_f, ↓zi_t, ↓zi_f, eq_self, yy_d_0, Int.reduceEq, Int.reduceLT, Int.reduceLE, Int.reduceNe, Int.reduceToNat, Int.reduceAdd, Int.reduceSub, Int.reduceMul, Int.reduceNeg, Nat.reduceAdd, Nat.reduceMul, Nat.reduceSub, Nat.reduceEqDiff, Nat.reduceLT, ne_eq, not_false_eq_true, not_true_eq_false, true_and, and_true, and_self, yy_s_eq, yy_s_ne, yy_c_eq, yy_c_ne, yy_u_eq, yy_u_ne, xm_w_id, yy_at, tdiv_pos, tmod_pos, ↓zr_0_0, ↓zr_0_1, ↓zr_0_2, ↓zr_0_3, ↓zr_0_4, ↓zf_0_5, ↓zs_0_5, ↓zr_0_6, ↓zr_0_7, ↓zr_0_8, ↓zr_0_9, ↓zr_0_10, ↓zr_1_0, ↓zf_1_1, ↓zs_1_1, ↓zf_1_2, ↓zs_1_2, ↓zr_1_3, ↓zf_1_4, ↓zs_1_4, ↓zr_1_5, ↓zf_1_6, ↓zs_1_6, ↓zr_1_7, ↓zr_1_8, ↓zr_1_9, hM.1.2.2.2.1]
    rw [hs] at hM hz ⊢
    exact hQ m hF hF2 hz hM
  | k + 1, m, s, i, hk, hi, hW, h1, hM, hz, hF, hF2, hs => by
    refine xb_114_22 ?_
    rw [if_pos (by omega), zr_0_0]
    obtain ⟨m1, c1, g1, g2⟩ := c_405_1g (sc := sc) (d := d) (t := t) (m := m) hM hW (by omega)
    obtain ⟨v1, v2, v3⟩ := sg_hour_W (st := -1) hW (by omega)
    obtain ⟨W2, w1, w2, w6, w3⟩ := sg_dr_W hW (by omega)
    have z1 : m1 35 = m 35 := g1 35 (by omega)
    rw [c1, xm_Ov_some, zr_0_0, zr_0_2, oc_303 (d := d + 5), z1, hz]
    have ez : xm_w (xm_w (s 6 * 1103515245) + 12345) = sg_z (s 6) := rfl
    rw [ez]
    refine ⟨by decide, ?_⟩
    have M2 : yy_MX t (yy_s m1 35 4 (sg_z (s 6))) 1 (yy_u (sg_hour (-1) s) 6 (sg_z (s 6))) := yy_MX_q (sg_W_T v1) (fun k hk => yy_u_ne (by omega)) (fun c hc => yy_s_ne (by omega)) g2
    obtain ⟨m2, c2, g3, g4, g5⟩ := c_410g (sc := sc) (d := d + 3) (t := t) (m := yy_s m1 35 4 (sg_z (s 6))) (c := (xm_ushr (sg_z (s 6)) 8).tmod 36) M2.1 W2.1.2.2.2.1
    rw [c2, xm_Ov_some, xm_w_id (by omega) (by omega)]
    rw [sg_KC_K W2] at g4
    have e2 : m2 35 = yy_s m1 35 4 (sg_z (s 6)) 35 := g3 35 (by omega)
    refine l_114g hn hQ k m2 (sg_dr s) (i + 1) (by omega) (by omega) w1 (by rw [w2]; omega) (yy_MX_fr (sg_W_T W2) M2 (g3 5 (by omega)) g4 (fun k hk hk2 => by rw [w3 k (by omega) (by omega) (by omega) (by omega), yy_u_ne (by omega), v3 k (by omega) (by omega) (by omega)])) (by rw [e2, yy_s_eq, yy_u_eq, w6]) (fun c hc hc2 => ?_) (fun k hk => ?_) hs
    · rw [g3 c (by omega), yy_s_ne hc2, g1 c (by omega)]; exact hF c hc hc2
    · rw [e2, yy_s_eq, yy_u_ne hk, z1]; exact hF2 k hk
set_option maxRecDepth 20000 in
theorem l_1160 {sc : List Int} {d : Nat} {t : xm_W} {Q : Option xm_V × xm_W → Prop} {n : Int} {m0 : Nat → Nat → Int} {s' : Nat → Int} (hn : n ≤ 24) (h74 : m0 74 3 = -1) (hQ : ∀ m', yy_F3 m0 m' → m' 75 = s' → Q ((some (.inl (s' 3)), (yy_W (m') t)))) : ∀ (k : Nat) (m : Nat → Nat → Int) (i : Int), n - i = k → 0 ≤ i → sg_W (m 75) 0 → m 75 1 + k ≤ 20000 → yy_F3 m0 m → sg_drs k (m 75) = s' → xm_EQ (xm_old sc) xm_sta (xm_X (xm_old sc) xm_mt (d + 8)) xm_c1160 23 [some (.inr (.inl (some 74))), some (.inl (n)), some (.inl (i))] [] (yy_W (m) t) Q
  | 0, m, i, hk, hi, hW, h1, hF, hs => by
    have hs : m 75 = s' := hs
    refine xb_1160_23 ?_
    simp (disch := first | omega | (unfold xm_w; omega)) only [↓zy_at, xm_O_some, xm_Oi_some, xm_Ov_some, xm_Oq_some, ↓reduceIte, ↓zz_t, ↓zz_f, ↓zi_t, ↓zi_f, eq_self, yy_d_0, Int.reduceEq, Int.reduceLT, Int.reduceLE, Int.reduceNe, Int.reduceToNat, Int.reduceAdd, Int.reduceSub, Int.reduceMul, Int.reduceNeg, Nat.reduceAdd, Nat.reduceMul, Nat.reduceSub, Nat.reduceEqDiff, Nat.reduceLT, ne_eq, not_false_eq_true, not_true_eq_false, true_and, and_true, and_self, yy_s_eq, yy_s_ne, yy_c_eq, yy_c_ne, yy_u_eq, yy_u_ne, xm_w_id, yy_at, tdiv_pos, tmod_pos, ↓zr_74_0, ↓zr_74_1, ↓zr_74_2, ↓zf_74_3, ↓zs_74_3, ↓zf_74_4, ↓zs_74_4, ↓zr_74_5, ↓zf_74_6, ↓zs_74_6, ↓zf_74_7, ↓zs_74_7, ↓zf_74_8, ↓zs_74_8, ↓zf_74_9, ↓zs_74_9, ↓zr_74_10, ↓zr_74_11, ↓zr_74_12, ↓zf_74_13, ↓zs_74_13, ↓zr_74_14, ↓zf_74_15, ↓zs_74_15, ↓zf_74_16, ↓zs_74_16, ↓zf_74_17, ↓zs_74_17, ↓zr_74_18, ↓zr_74_19, ↓zr_74_20, ↓zr_74_21, ↓zi_75, ↓zt_75, hs]
    exact hQ m hF hs
  | k + 1, m, i, hk, hi, hW, h1, hF, hs => by
    refine xb_1160_23 ?_
    rw [if_pos (by omega)]
    obtain ⟨m1, c1, g1, g2⟩ := c_1156 (sc := sc) (d := d) (t := t) (m := m) hW (by omega)
    have e74 : m 74 = m0 74 := hF 74 (by decide) (by decide) (by decide)
    rw [e74, h74] at g2
    obtain ⟨v1, v2, v3⟩ := sg_hour_W (st := -1) hW (by omega)
    obtain ⟨W2, w1, w2, w6, w3⟩ := sg_dr_W hW (by omega)
    rw [c1, xm_Ov_some, oc_1159 (d := d + 7), g2, v3 6 (Or.inl (by decide)) (by decide) (by decide)]
    have ez : xm_w (xm_w (m 75 6 * 1103515245) + 12345) = sg_z (m 75 6) := rfl
    rw [ez]
    refine ⟨by decide, ?_⟩
    have e : yy_s m1 75 6 (sg_z (m 75 6)) = yy_c m1 75 (yy_u (sg_hour (-1) (m 75)) 6 (sg_z (m 75 6))) := by unfold yy_s; rw [g2]
    rw [e, oc_1132 (d := d + 3) (by rw [yy_c_eq]; exact sg_W_B W2), yy_c_eq, yy_c_c, xm_w_id (by omega) (by omega)]
    exact l_1160 hn h74 hQ k _ (i + 1) (by omega) (by omega) (by rw [yy_c_eq]; exact w1) (by rw [yy_c_eq]; have := w2; unfold sg_dr at this; omega) (fun c c1 c2 c3 => by rw [yy_c_ne c1, g1 c c1 c2 c3]; exact hF c c1 c2 c3) (by rw [yy_c_eq]; exact hs)
set_option maxRecDepth 20000 in
theorem a_114 {sc : List Int} {t : xm_W} {m : Nat → Nat → Int} {x1 : Int} (hI : yy_I t m) : yy_A sc t m 114 1160 [.inl x1] true := by
  by_cases h : 1 ≤ x1 ∧ x1 ≤ 24
  · obtain ⟨⟨e0, e3, e1, e2⟩, hR⟩ := yy_I_0 hI
    have hG := hI.1
    have b1 := hR.2.1
    by_cases h2 : 9999 < m 75 1 + x1
    · have X1 : xm_X (xm_old sc) xm_mt (99 + 1) 114 [.inr (.inl (some 0)), .inl x1] (yy_W m t) = some (some (.inl (-1000000003)), yy_W (yy_e m 3) t) := by
        refine xm_X_of (M := xm_m114) rfl ⟨xm_EQ.eq (xb_114_0 ?_), rfl, rfl, Nat.le_of_ble_eq_true rfl, yy_hd rfl (by decide)⟩
        simp (disch := first | omega | (unfold xm_w; omega)) only [↓zy_at, xm_O_some, xm_Oi_some, xm_Ov_some, xm_Oq_some, ↓reduceIte, ↓zz_t, ↓zz_f, ↓zi_t, ↓zi_f, eq_self, yy_d_0, Int.reduceEq, Int.reduceLT, Int.reduceLE, Int.reduceNe, Int.reduceToNat, Int.reduceAdd, Int.reduceSub, Int.reduceMul, Int.reduceNeg, Nat.reduceAdd, Nat.reduceMul, Nat.reduceSub, Nat.reduceEqDiff, Nat.reduceLT, ne_eq, not_false_eq_true, not_true_eq_false, true_and, and_true, and_self, yy_s_eq, yy_s_ne, yy_c_eq, yy_c_ne, yy_u_eq, yy_u_ne, xm_w_id, yy_at, tdiv_pos, tmod_pos, ↓oc_142, ↓zr_0_0, ↓zr_0_1, ↓zr_0_2, ↓zr_0_3, ↓zr_0_4, ↓zf_0_5, ↓zs_0_5, ↓zr_0_6, ↓zr_0_7, ↓zr_0_8, ↓zr_0_9, ↓zr_0_10, ↓zr_1_0, ↓zf_1_1, ↓zs_1_1, ↓zf_1_2, ↓zs_1_2, ↓zr_1_3, ↓zf_1_4, ↓zs_1_4, ↓zr_1_5, ↓zf_1_6, ↓zs_1_6, ↓zr_1_7, ↓zr_1_8, ↓zr_1_9, e1, ↓oc_139]
      have X2 : xm_X (xm_old sc) xm_mt (99 + 1) 1160 [.inr (.inl (some 74)), .inl x1] (yy_W (yy_e m 3) t) = some (some (.inl (-1000000003)), yy_W (yy_f (yy_e m 3) 3) t) := by
        have f : yy_e m 3 75 = m 75 := yy_e75 (by decide)
        refine xm_X_of (M := xm_m1160) rfl ⟨xm_EQ.eq (xb_1160_0 ?_), rfl, rfl, Nat.le_of_ble_eq_true rfl, yy_hd rfl (by decide)⟩
        simp (disch := first | omega | (unfold xm_w; omega)) only [↓zy_at, xm_O_some, xm_Oi_some, xm_Ov_some, xm_Oq_some, ↓reduceIte, ↓zz_t, ↓zz_f, ↓zi_t, ↓zi_f, eq_self, yy_d_0, Int.reduceEq, Int.reduceLT, Int.reduceLE, Int.reduceNe, Int.reduceToNat, Int.reduceAdd, Int.reduceSub, Int.reduceMul, Int.reduceNeg, Nat.reduceAdd, Nat.reduceMul, Nat.reduceSub, Nat.reduceEqDiff, Nat.reduceLT, ne_eq, not_false_eq_true, not_true_eq_false, true_and, and_true, and_self, yy_s_eq, yy_s_ne, yy_c_eq, yy_c_ne, yy_u_eq, yy_u_ne, xm_w_id, yy_at, tdiv_pos, tmod_pos, ↓oc_1103, ↓zr_74_0, ↓zr_74_1, ↓zr_74_2, ↓zf_74_3, ↓zs_74_3, ↓zf_74_4, ↓zs_74_4, ↓zr_74_5, ↓zf_74_6, ↓zs_74_6, ↓zf_74_7, ↓zs_74_7, ↓zf_74_8, ↓zs_74_8, ↓zf_74_9, ↓zs_74_9, ↓zr_74_10, ↓zr_74_11, ↓zr_74_12, ↓zf_74_13, ↓zs_74_13, ↓zr_74_14, ↓zf_74_15, ↓zs_74_15, ↓zf_74_16, ↓zs_74_16, ↓zf_74_17, ↓zs_74_17, ↓zr_74_18, ↓zr_74_19, ↓zr_74_20, ↓zr_74_21, ↓zi_75, ↓zt_75, f, ↓oc_1102]
      exact yy_Ao X1 X2 (yy_I_ef hI) yy_ef0 rfl
    · obtain ⟨w1, w2, w3⟩ := sg_drs_W x1.toNat (m 75) hG.1 (by omega)
      obtain ⟨q1, X1, m1, rfl, k1, k2, k3, k4⟩ := yx_of (y := 114) (M := xm_m114) (sc := sc) (d := 99) (as := [.inr (.inl (some 0)), .inl x1]) (w := yy_W m t) (Q := fun q => ∃ m', q = (some (.inl (sg_drs x1.toNat (m 75) 3)), (yy_W (m') t)) ∧ (∀ c, (18 ≤ c ∨ c = 0) → c ≠ 35 → m' c = m c) ∧ (∀ k, k ≠ 4 → m' 35 k = m 35 k) ∧ m' 35 4 = sg_drs x1.toNat (m 75) 6 ∧ yy_MX t m' 1 (sg_drs x1.toNat (m 75))) rfl (by
        refine xb_114_0 ?_
        simp (disch := first | omega | (unfold xm_w; omega)) only [↓zy_at, xm_O_some, xm_Oi_some, xm_Ov_some, xm_Oq_some, ↓reduceIte, ↓zz_t, ↓zz_f, ↓zi_t, ↓zi_f, eq_self, yy_d_0, Int.reduceEq, Int.reduceLT, Int.reduceLE, Int.reduceNe, Int.reduceToNat, Int.reduceAdd, Int.reduceSub, Int.reduceMul, Int.reduceNeg, Nat.reduceAdd, Nat.reduceMul, Nat.reduceSub, Nat.reduceEqDiff, Nat.reduceLT, ne_eq, not_false_eq_true, not_true_eq_false, true_and, and_true, and_self, yy_s_eq, yy_s_ne, yy_c_eq, yy_c_ne, yy_u_eq, yy_u_ne, xm_w_id, yy_at, tdiv_pos, tmod_pos, ↓oc_142, ↓zr_0_0, ↓zr_0_1, ↓zr_0_2, ↓zr_0_3, ↓zr_0_4, ↓zf_0_5, ↓zs_0_5, ↓zr_0_6, ↓zr_0_7, ↓zr_0_8, ↓zr_0_9, ↓zr_0_10, ↓zr_1_0, ↓zf_1_1, ↓zs_1_1, ↓zf_1_2, ↓zs_1_2, ↓zr_1_3, ↓zf_1_4, ↓zs_1_4, ↓zr_1_5, ↓zf_1_6, ↓zs_1_6, ↓zr_1_7, ↓zr_1_8, ↓zr_1_9, e1]
        exact l_114g (d := 93) h.2 (fun m' a b c e => ⟨m', rfl, a, b, c, e⟩) x1.toNat m (m 75) 0 (by omega) (by decide) hG.1 (by omega) hI.2.1 hI.2.2.1.2.2.1 (fun _ _ _ => rfl) (fun _ _ => rfl) rfl) (fun q ⟨m', h, _⟩ => by rw [h]; rfl) rfl (Nat.le_of_ble_eq_true rfl) (yy_hd rfl (by decide))
      have f75 : m1 75 = m 75 := k1 75 (by omega) (by omega)
      have f74 : m1 74 = m 74 := k1 74 (by omega) (by omega)
      obtain ⟨q2, X2, m2, rfl, j1, j2⟩ := yx_of (y := 1160) (M := xm_m1160) (sc := sc) (d := 99) (as := [.inr (.inl (some 74)), .inl x1]) (w := yy_W m1 t) (Q := fun q => ∃ m', q = (some (.inl (sg_drs x1.toNat (m 75) 3)), (yy_W (m') t)) ∧ yy_F3 m1 m' ∧ m' 75 = sg_drs x1.toNat (m 75)) rfl (by
        refine xb_1160_0 ?_
        simp (disch := first | omega | (unfold xm_w; omega)) only [↓zy_at, xm_O_some, xm_Oi_some, xm_Ov_some, xm_Oq_some, ↓reduceIte, ↓zz_t, ↓zz_f, ↓zi_t, ↓zi_f, eq_self, yy_d_0, Int.reduceEq, Int.reduceLT, Int.reduceLE, Int.reduceNe, Int.reduceToNat, Int.reduceAdd, Int.reduceSub, Int.reduceMul, Int.reduceNeg, Nat.reduceAdd, Nat.reduceMul, Nat.reduceSub, Nat.reduceEqDiff, Nat.reduceLT, ne_eq, not_false_eq_true, not_true_eq_false, true_and, and_true, and_self, yy_s_eq, yy_s_ne, yy_c_eq, yy_c_ne, yy_u_eq, yy_u_ne, xm_w_id, yy_at, tdiv_pos, tmod_pos, ↓oc_1103, ↓zr_74_0, ↓zr_74_1, ↓zr_74_2, ↓zf_74_3, ↓zs_74_3, ↓zf_74_4, ↓zs_74_4, ↓zr_74_5, ↓zf_74_6, ↓zs_74_6, ↓zf_74_7, ↓zs_74_7, ↓zf_74_8, ↓zs_74_8, ↓zf_74_9, ↓zs_74_9, ↓zr_74_10, ↓zr_74_11, ↓zr_74_12, ↓zf_74_13, ↓zs_74_13, ↓zr_74_14, ↓zf_74_15, ↓zs_74_15, ↓zf_74_16, ↓zs_74_16, ↓zf_74_17, ↓zs_74_17, ↓zr_74_18, ↓zr_74_19, ↓zr_74_20, ↓zr_74_21, ↓zi_75, ↓zt_75, f75]
        exact l_1160 (d := 91) h.2 (by rw [f74]; exact hI.2.2.2.2.2.1) (fun m' a b => ⟨m', rfl, a, b⟩) x1.toNat m1 0 (by omega) (by decide) (by rw [f75]; exact hG.1) (by rw [f75]; omega) (fun _ _ _ _ => rfl) (by rw [f75])) (fun q ⟨m', h, _⟩ => by rw [h]; rfl) rfl (Nat.le_of_ble_eq_true rfl) (yy_hd rfl (by decide))
      obtain ⟨d1, d2, d3, d4, d5⟩ := hI.2.2.1
      have ho : ∀ k, (k = 4 ∨ k = 5 ∨ 589 ≤ k) → sg_drs x1.toNat (m 75) k = m 75 k := fun k hk => w3 k (by omega) (by omega) (by omega) (by omega)
      refine yy_Ao X1 X2 (yy_I_75 hI ⟨by rw [j2]; exact w1, by rw [j2, w2]; omega, ?_⟩ ?_ ?_ (fun c hc a b e f => ?_)) ?_ rfl
      · rw [j2]; exact sg_D_eq (ho _ (by omega)) (ho _ (by omega)) (fun k hk => ho k (by omega)) hG.2.2
      · rw [j2]; exact yy_MX_r (fun c hc => j1 c (by omega) (by omega) (by omega)) k4
      · rw [j2]
        have x35 : m2 35 = m1 35 := j1 35 (by decide) (by decide) (by decide)
        refine ⟨by rw [x35, k2 1 (by decide), ho 4 (by omega)]; exact d1, by rw [x35, k2 3 (by decide), ho 5 (by omega)]; exact d2, by rw [x35]; exact k3, fun k hk => ?_, fun k hk => ?_⟩
        · rw [j1 36 (by decide) (by decide) (by decide), k1 36 (by omega) (by omega), ho _ (by omega)]; exact d4 k hk
        · rw [j1 37 (by decide) (by decide) (by decide), k1 37 (by omega) (by omega), ho _ (by omega)]; exact d5 k hk
      · unfold yy_no at a
        rw [j1 c f (by omega) (by omega), k1 c (by omega) (by omega)]
      · rw [j1 0 (by decide) (by decide) (by decide), k1 0 (by omega) (by omega)]
  · exact r_114 hI h
