/-! THE CLASS'S MOOR holds a row: MR -/
def yy_MR (m : Nat → Nat → Int) (b : Nat) (s : Nat → Int) : Prop := m b 1 = s 2 ∧ m b 2 = s 1 ∧ m b 4 = s 0 ∧ m b 6 = s 3 ∧ (∀ k, k < 36 → m (b + 1) k = s (8 + k)) ∧ (∀ k, k < 200 → m (b + 3) k = s (134 + k)) ∧ ∀ i, i < 5 → (∀ k, k < 6 → m (b + 7 + 2 * i) k = s (44 + 18 * i + k)) ∧ ∀ k, k < 12 → m (b + 8 + 2 * i) k = s (50 + 18 * i + k)
/-! cells that a Moor's own act may touch: its object, prints, names, stack, riders -/
def yy_Fb (m m' : Nat → Nat → Int) (b : Nat) : Prop := ∀ c, (c < b ∨ b + 17 ≤ c ∨ c = b + 1 ∨ c = b + 2 ∨ c = b + 4) → m' c = m c
set_option maxRecDepth 20000 in
theorem yy_Fb_rf {m : Nat → Nat → Int} {b : Nat} : yy_Fb m m b := fun _ _ => rfl
set_option maxRecDepth 20000 in
theorem yy_Fb_tr {m m' m'' : Nat → Nat → Int} {b : Nat} (h : yy_Fb m m' b) (h' : yy_Fb m' m'' b) : yy_Fb m m'' b := fun c hc => by rw [h' c hc, h c hc]
set_option maxRecDepth 20000 in
theorem sg_cl_s {K : Nat → Bool} {n i l : Nat} {s : Nat → Int} : sg_cl K (n + 1) i l s = if K i = true then sg_cl K n (i + 1) (l + 1) (sg_c5 s i l) else sg_cl K n (i + 1) l s := rfl
set_option maxRecDepth 20000 in
theorem c_403_1 {sc : List Int} {d : Nat} {t : xm_W} {m : Nat → Nat → Int} {s : Nat → Int} {c : Int} (hM : yy_MR m 1 s) (h : 0 ≤ c ∧ c ≤ 35) (hf : 0 ≤ s 2 ∧ s 2 ≤ 9) : xm_X (xm_old sc) xm_mt (d + 1) 403 [.inr (.inl (some 1)), .inl (c)] (yy_W (m) t) = some (some (.inl (sg_k s c)), (yy_W (m) t)) := by
  refine xm_X_of (M := xm_m403) rfl ⟨xm_EQ.eq (xb_403_0 ?_), rfl, rfl, Nat.le_of_ble_eq_true rfl, yy_hd rfl (by decide)⟩
  obtain ⟨e1, -, -, -, e5, -⟩ := hM
  have e6 := e5 c.toNat (by omega)
  have e6 : m 2 c.toNat = s (8 + c).toNat := by rw [show (8 + c).toNat = 8 + c.toNat by omega]; exact e6
  unfold sg_k
  by_cases h0 : s (8 + c).toNat = 0
  · rw [if_pos h0]; simp (disch := first | omega | (unfold xm_w; omega)) only [↓zy_at, xm_O_some, xm_Oi_some, xm_Ov_some, xm_Oq_some, ↓reduceIte, ↓zz_t, ↓zz_f, ↓zi_t, ↓zi_f, eq_self, yy_d_0, Int.reduceEq, Int.reduceLT, Int.reduceLE, Int.reduceNe, Int.reduceToNat, Int.reduceAdd, Int.reduceSub, Int.reduceMul, Int.reduceNeg, Nat.reduceAdd, Nat.reduceMul, Nat.reduceSub, Nat.reduceEqDiff, Nat.reduceLT, ne_eq, not_false_eq_true, not_true_eq_false, true_and, and_true, and_self, yy_s_eq, yy_s_ne, yy_c_eq, yy_c_ne, yy_u_eq, yy_u_ne, xm_w_id, yy_at, tdiv_pos, tmod_pos, ↓zr_1_0, ↓zf_1_1, ↓zs_1_1, ↓zf_1_2, ↓zs_1_2, ↓zr_1_3, ↓zf_1_4, ↓zs_1_4, ↓zr_1_5, ↓zf_1_6, ↓zs_1_6, ↓zr_1_7, ↓zr_1_8, ↓zr_1_9, ↓zi_2, ↓zt_2, e6, h0, e1]
  · rw [if_neg h0]
    by_cases h1 : s (8 + c).toNat = 1
    · rw [if_pos h1]; simp (disch := first | omega | (unfold xm_w; omega)) only [↓zy_at, xm_O_some, xm_Oi_some, xm_Ov_some, xm_Oq_some, ↓reduceIte, ↓zz_t, ↓zz_f, ↓zi_t, ↓zi_f, eq_self, yy_d_0, Int.reduceEq, Int.reduceLT, Int.reduceLE, Int.reduceNe, Int.reduceToNat, Int.reduceAdd, Int.reduceSub, Int.reduceMul, Int.reduceNeg, Nat.reduceAdd, Nat.reduceMul, Nat.reduceSub, Nat.reduceEqDiff, Nat.reduceLT, ne_eq, not_false_eq_true, not_true_eq_false, true_and, and_true, and_self, yy_s_eq, yy_s_ne, yy_c_eq, yy_c_ne, yy_u_eq, yy_u_ne, xm_w_id, yy_at, tdiv_pos, tmod_pos, ↓zr_1_0, ↓zf_1_1, ↓zs_1_1, ↓zf_1_2, ↓zs_1_2, ↓zr_1_3, ↓zf_1_4, ↓zs_1_4, ↓zr_1_5, ↓zf_1_6, ↓zs_1_6, ↓zr_1_7, ↓zr_1_8, ↓zr_1_9, ↓zi_2, ↓zt_2, e6, h1, e1]
    · rw [if_neg h1]
      by_cases h2 : s (8 + c).toNat = 2
      · rw [if_pos h2]; simp (disch := first | omega | (unfold xm_w; omega)) only [↓zy_at, xm_O_some, xm_Oi_some, xm_Ov_some, xm_Oq_some, ↓reduceIte, ↓zz_t, ↓zz_f, ↓zi_t, ↓zi_f, eq_self, yy_d_0, Int.reduceEq, Int.reduceLT, Int.reduceLE, Int.reduceNe, Int.reduceToNat, Int.reduceAdd, Int.reduceSub, Int.reduceMul, Int.reduceNeg, Nat.reduceAdd, Nat.reduceMul, Nat.reduceSub, Nat.reduceEqDiff, Nat.reduceLT, ne_eq, not_false_eq_true, not_true_eq_false, true_and, and_true, and_self, yy_s_eq, yy_s_ne, yy_c_eq, yy_c_ne, yy_u_eq, yy_u_ne, xm_w_id, yy_at, tdiv_pos, tmod_pos, ↓zr_1_0, ↓zf_1_1, ↓zs_1_1, ↓zf_1_2, ↓zs_1_2, ↓zr_1_3, ↓zf_1_4, ↓zs_1_4, ↓zr_1_5, ↓zf_1_6, ↓zs_1_6, ↓zr_1_7, ↓zr_1_8, ↓zr_1_9, ↓zi_2, ↓zt_2, e6, h2]
      · rw [if_neg h2]; simp (disch := first | omega | (unfold xm_w; omega)) only [↓zy_at, xm_O_some, xm_Oi_some, xm_Ov_some, xm_Oq_some, ↓reduceIte, ↓zz_t, ↓zz_f, ↓zi_t, ↓zi_f, eq_self, yy_d_0, Int.reduceEq, Int.reduceLT, Int.reduceLE, Int.reduceNe, Int.reduceToNat, Int.reduceAdd, Int.reduceSub, Int.reduceMul, Int.reduceNeg, Nat.reduceAdd, Nat.reduceMul, Nat.reduceSub, Nat.reduceEqDiff, Nat.reduceLT, ne_eq, not_false_eq_true, not_true_eq_false, true_and, and_true, and_self, yy_s_eq, yy_s_ne, yy_c_eq, yy_c_ne, yy_u_eq, yy_u_ne, xm_w_id, yy_at, tdiv_pos, tmod_pos, ↓zr_1_0, ↓zf_1_1, ↓zs_1_1, ↓zf_1_2, ↓zs_1_2, ↓zr_1_3, ↓zf_1_4, ↓zs_1_4, ↓zr_1_5, ↓zf_1_6, ↓zs_1_6, ↓zr_1_7, ↓zr_1_8, ↓zr_1_9, ↓zi_2, ↓zt_2, e6]
set_option maxRecDepth 20000 in
theorem oc_403_1 {F : Int → xm_W → Prop} {sc : List Int} {d : Nat} {t : xm_W} {m : Nat → Nat → Int} {s : Nat → Int} {c : Int} (hM : yy_MR m 1 s) (h : 0 ≤ c ∧ c ≤ 35) (hf : 0 ≤ s 2 ∧ s 2 ≤ 9) : xm_Oi (xm_X (xm_old sc) xm_mt (d + 1) 403 [.inr (.inl (some 1)), .inl (c)] (yy_W (m) t)) F = F (sg_k s c) (yy_W (m) t) := congrArg (fun x => xm_Oi x F) (c_403_1 hM h hf)
set_option maxRecDepth 20000 in
theorem zc_kp_1 {m : Nat → Nat → Int} {t : xm_W} {K : xm_W → Prop} {i l : Int} (h0 : 0 ≤ i) (h1 : i ≤ 39) (h2 : 0 ≤ l) (h3 : l ≤ 39) : xm_O (xm_copy (yy_W m t) 4 (5 * i) 4 (5 * l) 5) K = K (yy_W (yy_c m 4 (yy_cp (m 4) (m 4) (5 * i).toNat (5 * l).toNat 5)) t) := congrArg (fun x => xm_O x K) (yy_copy rfl rfl (by omega) (by omega) (by decide) (by omega) (by omega))
set_option maxRecDepth 20000 in
theorem c_411_1 {sc : List Int} {d : Nat} {t : xm_W} {m : Nat → Nat → Int} {i l : Nat} (hi : i < 40) (hl : l < 40) : xm_X (xm_old sc) xm_mt (d + 1) 411 [.inr (.inl (some 1)), .inl ((i : Int)), .inl ((l : Int))] (yy_W (m) t) = some (none, (yy_W (yy_c m 4 (yy_cp (m 4) (m 4) (5 * i) (5 * l) 5)) t)) := by
  refine xm_X_of (M := xm_m411) rfl ⟨xm_EQ.eq (xb_411_0 ?_), rfl, rfl, Nat.le_of_ble_eq_true rfl, yy_hd rfl (by decide)⟩
  rw [xm_w_id (by omega) (by omega), xm_w_id (by omega) (by omega)]
  simp (disch := first | omega | (unfold xm_w; omega)) only [↓zy_at, xm_O_some, xm_Oi_some, xm_Ov_some, xm_Oq_some, ↓reduceIte, ↓zz_t, ↓zz_f, ↓zi_t, ↓zi_f, eq_self, yy_d_0, Int.reduceEq, Int.reduceLT, Int.reduceLE, Int.reduceNe, Int.reduceToNat, Int.reduceAdd, Int.reduceSub, Int.reduceMul, Int.reduceNeg, Nat.reduceAdd, Nat.reduceMul, Nat.reduceSub, Nat.reduceEqDiff, Nat.reduceLT, ne_eq, not_false_eq_true, not_true_eq_false, true_and, and_true, and_self, yy_s_eq, yy_s_ne, yy_c_eq, yy_c_ne, yy_u_eq, yy_u_ne, xm_w_id, yy_at, tdiv_pos, tmod_pos, ↓zr_1_0, ↓zf_1_1, ↓zs_1_1, ↓zf_1_2, ↓zs_1_2, ↓zr_1_3, ↓zf_1_4, ↓zs_1_4, ↓zr_1_5, ↓zf_1_6, ↓zs_1_6, ↓zr_1_7, ↓zr_1_8, ↓zr_1_9]
  rw [show (i : Int) * 5 = 5 * i by omega, show (l : Int) * 5 = 5 * l by omega, zc_kp_1 (by omega) (by omega) (by omega) (by omega), show (5 * (i : Int)).toNat = 5 * i by omega, show (5 * (l : Int)).toNat = 5 * l by omega]
set_option maxRecDepth 20000 in
theorem oc_411_1 {F : xm_W → Prop} {sc : List Int} {d : Nat} {t : xm_W} {m : Nat → Nat → Int} {i l : Nat} (hi : i < 40) (hl : l < 40) : xm_Ov (xm_X (xm_old sc) xm_mt (d + 1) 411 [.inr (.inl (some 1)), .inl ((i : Int)), .inl ((l : Int))] (yy_W (m) t)) F = F (yy_W (yy_c m 4 (yy_cp (m 4) (m 4) (5 * i) (5 * l) 5)) t) := congrArg (fun x => xm_Ov x F) (c_411_1 hi hl)
/-! the walk over the prints: fade and tread -/
set_option maxRecDepth 20000 in
theorem l_409_1 {sc : List Int} {d : Nat} {t : xm_W} {m0 : Nat → Nat → Int} {s0 : Nat → Int} {Q : Option xm_V × xm_W → Prop} (hM : yy_MR m0 1 s0) (hB : sg_B s0) (h40 : s0 3 ≤ 40) (hQ : ∀ m', yy_Fb m0 m' 1 → yy_MR m' 1 (sg_clr (sg_K s0 0 (-1)) s0) → (∀ c, c ≠ 1 → c ≠ 4 → m' c = m0 c) → Q ((none, (yy_W (m') t)))) : ∀ (k i l : Nat) (m : Nat → Nat → Int) (s : Nat → Int) (u : Option xm_V), ((i + k : Nat) : Int) = s0 3 → l ≤ i → (∀ q, (q < 134 ∨ 134 + 5 * i ≤ q) → s q = s0 q) → (∀ c, c ≠ 4 → m c = m0 c) → (∀ q, q < 200 → m 4 q = s (134 + q)) → sg_cl (sg_K s0 0 (-1)) k i l s = sg_cl (sg_K s0 0 (-1)) (s0 3).toNat 0 0 s0 → xm_EQ (xm_old sc) xm_sta (xm_X (xm_old sc) xm_mt (d + 2)) xm_c409 4 [some (.inr (.inl (some 1))), some (.inl ((l : Int))), some (.inl ((i : Int))), u] [] (yy_W (m) t) Q
  | 0, i, l, m, s, u, hk, hl, hs, hm, hp, hc => by
    obtain ⟨e1, e2, e3, e4, e5, e6, e7⟩ := id hM
    have a0 : m 1 = m0 1 := hm _ (by decide)
    refine xb_409_4 ?_
    simp (disch := first | omega | (unfold xm_w; omega)) only [↓zy_at, xm_O_some, xm_Oi_some, xm_Ov_some, xm_Oq_some, ↓reduceIte, ↓zz_t, ↓zz_f, ↓zi_t, ↓zi_f, eq_self, yy_d_0, Int.reduceEq, Int.reduceLT, Int.reduceLE, Int.reduceNe, Int.reduceToNat, Int.reduceAdd, Int.reduceSub, Int.reduceMul, Int.reduceNeg, Nat.reduceAdd, Nat.reduceMul, Nat.reduceSub, Nat.reduceEqDiff, Nat.reduceLT, ne_eq, not_false_eq_true, not_true_eq_false, true_and, and_true, and_self, yy_s_eq, yy_s_ne, yy_c_eq, yy_c_ne, yy_u_eq, yy_u_ne, xm_w_id, yy_at, tdiv_pos, tmod_pos, ↓zr_1_0, ↓zf_1_1, ↓zs_1_1, ↓zf_1_2, ↓zs_1_2, ↓zr_1_3, ↓zf_1_4, ↓zs_1_4, ↓zr_1_5, ↓zf_1_6, ↓zs_1_6, ↓zr_1_7, ↓zr_1_8, ↓zr_1_9, a0, e4]
    have hc2 : (s, l) = sg_cl (sg_K s0 0 (-1)) (s0 3).toNat 0 0 s0 := hc
    have r1 : (sg_cl (sg_K s0 0 (-1)) (s0 3).toNat 0 0 s0).1 = s := by rw [← hc2]
    have r2 : (sg_cl (sg_K s0 0 (-1)) (s0 3).toNat 0 0 s0).2 = l := by rw [← hc2]
    have ev : ∀ q, sg_clr (sg_K s0 0 (-1)) s0 q = if q = 3 then (l : Int) else s q := fun q => by unfold sg_clr yy_u; rw [r1, r2]
    have ev2 : ∀ q, q < 134 → q ≠ 3 → sg_clr (sg_K s0 0 (-1)) s0 q = s0 q := fun q h h' => by rw [ev, if_neg h', hs q (Or.inl h)]
    refine hQ _ (fun c hc => ?_) ⟨?_, ?_, ?_, ?_, fun q hq => ?_, fun q hq => ?_, fun j hj => ⟨fun q hq => ?_, fun q hq => ?_⟩⟩ (fun c c1 c2 => ?_)
    · simp (disch := first | omega | (unfold xm_w; omega)) only [↓zy_at, xm_O_some, xm_Oi_some, xm_Ov_some, xm_Oq_some, ↓reduceIte, ↓zz_t, ↓zz_f, ↓zi_t, ↓zi_f, eq_self, yy_d_0, Int.reduceEq, Int.reduceLT, Int.reduceLE, Int.reduceNe, Int.reduceToNat, Int.reduceAdd, Int.reduceSub, Int.reduceMul, Int.reduceNeg, Nat.reduceAdd, Nat.reduceMul, Nat.reduceSub, Nat.reduceEqDiff, Nat.reduceLT, ne_eq, not_false_eq_true, not_true_eq_false, true_and, and_true, and_self, yy_s_eq, yy_s_ne, yy_c_eq, yy_c_ne, yy_u_eq, yy_u_ne, xm_w_id, yy_at, tdiv_pos, tmod_pos]; exact hm c (by omega)
    · simp (disch := first | omega | (unfold xm_w; omega)) only [↓zy_at, xm_O_some, xm_Oi_some, xm_Ov_some, xm_Oq_some, ↓reduceIte, ↓zz_t, ↓zz_f, ↓zi_t, ↓zi_f, eq_self, yy_d_0, Int.reduceEq, Int.reduceLT, Int.reduceLE, Int.reduceNe, Int.reduceToNat, Int.reduceAdd, Int.reduceSub, Int.reduceMul, Int.reduceNeg, Nat.reduceAdd, Nat.reduceMul, Nat.reduceSub, Nat.reduceEqDiff, Nat.reduceLT, ne_eq, not_false_eq_true, not_true_eq_false, true_and, and_true, and_self, yy_s_eq, yy_s_ne, yy_c_eq, yy_c_ne, yy_u_eq, yy_u_ne, xm_w_id, yy_at, tdiv_pos, tmod_pos, a0, e1]; exact (ev2 2 (by decide) (by decide)).symm
    · simp (disch := first | omega | (unfold xm_w; omega)) only [↓zy_at, xm_O_some, xm_Oi_some, xm_Ov_some, xm_Oq_some, ↓reduceIte, ↓zz_t, ↓zz_f, ↓zi_t, ↓zi_f, eq_self, yy_d_0, Int.reduceEq, Int.reduceLT, Int.reduceLE, Int.reduceNe, Int.reduceToNat, Int.reduceAdd, Int.reduceSub, Int.reduceMul, Int.reduceNeg, Nat.reduceAdd, Nat.reduceMul, Nat.reduceSub, Nat.reduceEqDiff, Nat.reduceLT, ne_eq, not_false_eq_true, not_true_eq_false, true_and, and_true, and_self, yy_s_eq, yy_s_ne, yy_c_eq, yy_c_ne, yy_u_eq, yy_u_ne, xm_w_id, yy_at, tdiv_pos, tmod_pos, a0, e2]; exact (ev2 1 (by decide) (by decide)).symm
    · simp (disch := first | omega | (unfold xm_w; omega)) only [↓zy_at, xm_O_some, xm_Oi_some, xm_Ov_some, xm_Oq_some, ↓reduceIte, ↓zz_t, ↓zz_f, ↓zi_t, ↓zi_f, eq_self, yy_d_0, Int.reduceEq, Int.reduceLT, Int.reduceLE, Int.reduceNe, Int.reduceToNat, Int.reduceAdd, Int.reduceSub, Int.reduceMul, Int.reduceNeg, Nat.reduceAdd, Nat.reduceMul, Nat.reduceSub, Nat.reduceEqDiff, Nat.reduceLT, ne_eq, not_false_eq_true, not_true_eq_false, true_and, and_true, and_self, yy_s_eq, yy_s_ne, yy_c_eq, yy_c_ne, yy_u_eq, yy_u_ne, xm_w_id, yy_at, tdiv_pos, tmod_pos, a0, e3]; exact (ev2 0 (by decide) (by decide)).symm
    · simp (disch := first | omega | (unfold xm_w; omega)) only [↓zy_at, xm_O_some, xm_Oi_some, xm_Ov_some, xm_Oq_some, ↓reduceIte, ↓zz_t, ↓zz_f, ↓zi_t, ↓zi_f, eq_self, yy_d_0, Int.reduceEq, Int.reduceLT, Int.reduceLE, Int.reduceNe, Int.reduceToNat, Int.reduceAdd, Int.reduceSub, Int.reduceMul, Int.reduceNeg, Nat.reduceAdd, Nat.reduceMul, Nat.reduceSub, Nat.reduceEqDiff, Nat.reduceLT, ne_eq, not_false_eq_true, not_true_eq_false, true_and, and_true, and_self, yy_s_eq, yy_s_ne, yy_c_eq, yy_c_ne, yy_u_eq, yy_u_ne, xm_w_id, yy_at, tdiv_pos, tmod_pos]; rw [ev, if_pos rfl]
    · simp (disch := first | omega | (unfold xm_w; omega)) only [↓zy_at, xm_O_some, xm_Oi_some, xm_Ov_some, xm_Oq_some, ↓reduceIte, ↓zz_t, ↓zz_f, ↓zi_t, ↓zi_f, eq_self, yy_d_0, Int.reduceEq, Int.reduceLT, Int.reduceLE, Int.reduceNe, Int.reduceToNat, Int.reduceAdd, Int.reduceSub, Int.reduceMul, Int.reduceNeg, Nat.reduceAdd, Nat.reduceMul, Nat.reduceSub, Nat.reduceEqDiff, Nat.reduceLT, ne_eq, not_false_eq_true, not_true_eq_false, true_and, and_true, and_self, yy_s_eq, yy_s_ne, yy_c_eq, yy_c_ne, yy_u_eq, yy_u_ne, xm_w_id, yy_at, tdiv_pos, tmod_pos]; rw [hm _ (by decide), e5 q hq, ev2 _ (by omega) (by omega)]
    · simp (disch := first | omega | (unfold xm_w; omega)) only [↓zy_at, xm_O_some, xm_Oi_some, xm_Ov_some, xm_Oq_some, ↓reduceIte, ↓zz_t, ↓zz_f, ↓zi_t, ↓zi_f, eq_self, yy_d_0, Int.reduceEq, Int.reduceLT, Int.reduceLE, Int.reduceNe, Int.reduceToNat, Int.reduceAdd, Int.reduceSub, Int.reduceMul, Int.reduceNeg, Nat.reduceAdd, Nat.reduceMul, Nat.reduceSub, Nat.reduceEqDiff, Nat.reduceLT, ne_eq, not_false_eq_true, not_true_eq_false, true_and, and_true, and_self, yy_s_eq, yy_s_ne, yy_c_eq, yy_c_ne, yy_u_eq, yy_u_ne, xm_w_id, yy_at, tdiv_pos, tmod_pos]; rw [hp q hq, ev, if_neg (by omega)]
    · simp (disch := first | omega | (unfold xm_w; omega)) only [↓zy_at, xm_O_some, xm_Oi_some, xm_Ov_some, xm_Oq_some, ↓reduceIte, ↓zz_t, ↓zz_f, ↓zi_t, ↓zi_f, eq_self, yy_d_0, Int.reduceEq, Int.reduceLT, Int.reduceLE, Int.reduceNe, Int.reduceToNat, Int.reduceAdd, Int.reduceSub, Int.reduceMul, Int.reduceNeg, Nat.reduceAdd, Nat.reduceMul, Nat.reduceSub, Nat.reduceEqDiff, Nat.reduceLT, ne_eq, not_false_eq_true, not_true_eq_false, true_and, and_true, and_self, yy_s_eq, yy_s_ne, yy_c_eq, yy_c_ne, yy_u_eq, yy_u_ne, xm_w_id, yy_at, tdiv_pos, tmod_pos]; rw [hm _ (by omega), (e7 j hj).1 q hq, ev2 _ (by omega) (by omega)]
    · simp (disch := first | omega | (unfold xm_w; omega)) only [↓zy_at, xm_O_some, xm_Oi_some, xm_Ov_some, xm_Oq_some, ↓reduceIte, ↓zz_t, ↓zz_f, ↓zi_t, ↓zi_f, eq_self, yy_d_0, Int.reduceEq, Int.reduceLT, Int.reduceLE, Int.reduceNe, Int.reduceToNat, Int.reduceAdd, Int.reduceSub, Int.reduceMul, Int.reduceNeg, Nat.reduceAdd, Nat.reduceMul, Nat.reduceSub, Nat.reduceEqDiff, Nat.reduceLT, ne_eq, not_false_eq_true, not_true_eq_false, true_and, and_true, and_self, yy_s_eq, yy_s_ne, yy_c_eq, yy_c_ne, yy_u_eq, yy_u_ne, xm_w_id, yy_at, tdiv_pos, tmod_pos]; rw [hm _ (by omega), (e7 j hj).2 q hq, ev2 _ (by omega) (by omega)]
    · simp (disch := first | omega | (unfold xm_w; omega)) only [↓zy_at, xm_O_some, xm_Oi_some, xm_Ov_some, xm_Oq_some, ↓reduceIte, ↓zz_t, ↓zz_f, ↓zi_t, ↓zi_f, eq_self, yy_d_0, Int.reduceEq, Int.reduceLT, Int.reduceLE, Int.reduceNe, Int.reduceToNat, Int.reduceAdd, Int.reduceSub, Int.reduceMul, Int.reduceNeg, Nat.reduceAdd, Nat.reduceMul, Nat.reduceSub, Nat.reduceEqDiff, Nat.reduceLT, ne_eq, not_false_eq_true, not_true_eq_false, true_and, and_true, and_self, yy_s_eq, yy_s_ne, yy_c_eq, yy_c_ne, yy_u_eq, yy_u_ne, xm_w_id, yy_at, tdiv_pos, tmod_pos]; exact hm c c2
  | k + 1, i, l, m, s, u, hk, hl, hs, hm, hp, hc => by
    obtain ⟨e1, e2, e3, e4, e5, e6, e7⟩ := id hM
    obtain ⟨b1, b2, b3⟩ := id hB
    have b4 := b3 i (by omega)
    have a0 : m 1 = m0 1 := hm _ (by decide)
    have f0 : m 4 (5 * i) = sg_p s0 i 0 := by rw [hp _ (by omega), show 134 + 5 * i = 134 + 5 * i + 0 by omega]; exact hs _ (Or.inr (by omega))
    have f3 : m 4 (5 * i + 3) = sg_p s0 i 3 := by rw [hp _ (by omega), show 134 + (5 * i + 3) = 134 + 5 * i + 3 by omega]; exact hs _ (Or.inr (by omega))
    have kk : ∀ {F : Int → xm_W → Prop}, xm_Oi (xm_X (xm_old sc) xm_mt (d + 2) 403 [.inr (.inl (some 1)), .inl (sg_p s0 i 0)] (yy_W (m) t)) F = F (sg_k s0 (sg_p s0 i 0)) (yy_W m t) := by
      intro F
      have hM2 : yy_MR m 1 s := by
        refine ⟨by rw [a0, e1, hs 2 (Or.inl (by decide))], by rw [a0, e2, hs 1 (Or.inl (by decide))], by rw [a0, e3, hs 0 (Or.inl (by decide))], by rw [a0, e4, hs 3 (Or.inl (by decide))], fun q hq => by rw [hm _ (by decide), e5 q hq, hs _ (Or.inl (by omega))], hp, fun j hj => ⟨fun q hq => ?_, fun q hq => ?_⟩⟩
        · rw [hm _ (by omega), (e7 j hj).1 q hq, hs _ (Or.inl (by omega))]
        · rw [hm _ (by omega), (e7 j hj).2 q hq, hs _ (Or.inl (by omega))]
      rw [oc_403_1 (d := d + 1) hM2 b4.1 (by rw [hs 2 (Or.inl (by decide))]; exact b1)]
      rw [sg_k_eq (hs 2 (Or.inl (by decide))) (hs _ (Or.inl (by omega)))]
    have bk := sg_k_r (c := sg_p s0 i 0) b1
    have next : ¬ (sg_K s0 0 (-1) i = true) → ∀ u, xm_EQ (xm_old sc) xm_sta (xm_X (xm_old sc) xm_mt (d + 2)) xm_c409 4 [some (.inr (.inl (some 1))), some (.inl ((l : Int))), some (.inl ((i : Int) + 1)), u] [] (yy_W (m) t) Q := by
      intro hK u
      rw [sg_cl_s, if_neg hK] at hc
      have := l_409_1 (sc := sc) (d := d) (t := t) (Q := Q) hM hB h40 hQ k (i + 1) l m s u (by omega) (by omega) (fun q hq => hs q (by omega)) hm hp hc
      rw [show ((i + 1 : Nat) : Int) = (i : Int) + 1 by omega] at this
      exact this
    have hKi : sg_K s0 0 (-1) i = decide ((0 : Int) ≤ i ∧ sg_p s0 i 0 ≠ -1 ∧ s0 1 ≤ sg_p s0 i 3 + sg_k s0 (sg_p s0 i 0)) := rfl
    have i0 : ((i : Int) * 5 + 0).toNat = 5 * i := by omega
    have i3 : ((i : Int) * 5 + 3).toNat = 5 * i + 3 := by omega
    refine xb_409_4 ?_
    simp (disch := first | omega | (unfold xm_w; omega)) only [↓zy_at, xm_O_some, xm_Oi_some, xm_Ov_some, xm_Oq_some, ↓reduceIte, ↓zz_t, ↓zz_f, ↓zi_t, ↓zi_f, eq_self, yy_d_0, Int.reduceEq, Int.reduceLT, Int.reduceLE, Int.reduceNe, Int.reduceToNat, Int.reduceAdd, Int.reduceSub, Int.reduceMul, Int.reduceNeg, Nat.reduceAdd, Nat.reduceMul, Nat.reduceSub, Nat.reduceEqDiff, Nat.reduceLT, ne_eq, not_false_eq_true, not_true_eq_false, true_and, and_true, and_self, yy_s_eq, yy_s_ne, yy_c_eq, yy_c_ne, yy_u_eq, yy_u_ne, xm_w_id, yy_at, tdiv_pos, tmod_pos, ↓zr_1_0, ↓zf_1_1, ↓zs_1_1, ↓zf_1_2, ↓zs_1_2, ↓zr_1_3, ↓zf_1_4, ↓zs_1_4, ↓zr_1_5, ↓zf_1_6, ↓zs_1_6, ↓zr_1_7, ↓zr_1_8, ↓zr_1_9, ↓zi_4, ↓zt_4, a0, e4, e2, i0, i3, f0, f3]
    rw [kk]
    simp (disch := first | omega | (unfold xm_w; omega)) only [↓zy_at, xm_O_some, xm_Oi_some, xm_Ov_some, xm_Oq_some, ↓reduceIte, ↓zz_t, ↓zz_f, ↓zi_t, ↓zi_f, eq_self, yy_d_0, Int.reduceEq, Int.reduceLT, Int.reduceLE, Int.reduceNe, Int.reduceToNat, Int.reduceAdd, Int.reduceSub, Int.reduceMul, Int.reduceNeg, Nat.reduceAdd, Nat.reduceMul, Nat.reduceSub, Nat.reduceEqDiff, Nat.reduceLT, ne_eq, not_false_eq_true, not_true_eq_false, true_and, and_true, and_self, yy_s_eq, yy_s_ne, yy_c_eq, yy_c_ne, yy_u_eq, yy_u_ne, xm_w_id, yy_at, tdiv_pos, tmod_pos]
    by_cases g : sg_p s0 i 3 + sg_k s0 (sg_p s0 i 0) < s0 1
    · rw [if_pos g]
      exact next (by rw [hKi, decide_eq_true_iff]; omega) _
    · rw [if_neg g, oc_411_1 (by omega) (by omega)]
      have hK : sg_K s0 0 (-1) i = true := by rw [hKi, decide_eq_true_iff]; omega
      rw [sg_cl_s, if_pos hK] at hc
      have := l_409_1 (sc := sc) (d := d) (t := t) (Q := Q) hM hB h40 hQ k (i + 1) (l + 1) (yy_c m 4 (yy_cp (m 4) (m 4) (5 * i) (5 * l) 5)) (sg_c5 s i l) (some (.inl (sg_p s0 i 0))) (by omega) (by omega) (fun q hq => by rw [sg_c5_out (by omega)]; exact hs q (by omega)) (fun c hc => by rw [yy_c_ne hc]; exact hm c hc) (fun q hq => ?_) hc
      · rw [show ((i + 1 : Nat) : Int) = (i : Int) + 1 by omega, show ((l + 1 : Nat) : Int) = (l : Int) + 1 by omega] at this
        exact this
      · rw [yy_c_eq]
        unfold yy_cp sg_c5
        by_cases f : 5 * l ≤ q ∧ q < 5 * l + 5
        · rw [if_pos f, if_pos (by omega), hp _ (by omega)]; congr 1; omega
        · rw [if_neg f, if_neg (by omega)]; exact hp q hq
set_option maxRecDepth 20000 in
theorem c_409_1g {sc : List Int} {d : Nat} {t : xm_W} {m : Nat → Nat → Int} {s : Nat → Int} (hM : yy_MR m 1 s) (hB : sg_B s) (h40 : s 3 ≤ 40) : ∃ m', xm_X (xm_old sc) xm_mt (d + 3) 409 [.inr (.inl (some 1))] (yy_W m t) = some (none, yy_W m' t) ∧ yy_Fb m m' 1 ∧ yy_MR m' 1 (sg_clr (sg_K s 0 (-1)) s) ∧ (∀ c, c ≠ 1 → c ≠ 4 → m' c = m c) := by
  have key : ∀ {Q : Option xm_V × xm_W → Prop}, (∀ m', (yy_Fb m m' 1 ∧ yy_MR m' 1 (sg_clr (sg_K s 0 (-1)) s) ∧ (∀ c, c ≠ 1 → c ≠ 4 → m' c = m c)) → Q (none, yy_W m' t)) → xm_EQ (xm_old sc) xm_sta (xm_X (xm_old sc) xm_mt (d + 2)) xm_m409.2.2.2.2.2.2.2 0 (xm_loc xm_m409.2.2.1 [.inr (.inl (some 1))]) [] (yy_W m t) Q := by
    intro Q hQ
    refine xb_409_0 ?_
    exact l_409_1 (d := d) hM hB h40 (fun m' h1 h2 h3 => hQ m' ⟨h1, h2, h3⟩) (s 3).toNat 0 0 m s none (by have := hB.2.1; omega) (by decide) (fun q _ => rfl) (fun c _ => rfl) hM.2.2.2.2.2.1 rfl
  obtain ⟨q, h1, m', h2, h3⟩ := yx_of (y := 409) (M := xm_m409) (sc := sc) (d := d + 2) (as := [.inr (.inl (some 1))]) (w := yy_W m t) (Q := fun q => ∃ m', q = (none, yy_W m' t) ∧ (yy_Fb m m' 1 ∧ yy_MR m' 1 (sg_clr (sg_K s 0 (-1)) s) ∧ (∀ c, c ≠ 1 → c ≠ 4 → m' c = m c))) rfl (key fun m' h => ⟨m', rfl, h⟩) (fun q ⟨m', h, _⟩ => by rw [h]; rfl) rfl (Nat.le_of_ble_eq_true rfl) (yy_hd rfl (by decide))
  exact ⟨m', by rw [h1, h2], h3⟩
set_option maxRecDepth 20000 in
theorem c_403_18 {sc : List Int} {d : Nat} {t : xm_W} {m : Nat → Nat → Int} {s : Nat → Int} {c : Int} (hM : yy_MR m 18 s) (h : 0 ≤ c ∧ c ≤ 35) (hf : 0 ≤ s 2 ∧ s 2 ≤ 9) : xm_X (xm_old sc) xm_mt (d + 1) 403 [.inr (.inl (some 18)), .inl (c)] (yy_W (m) t) = some (some (.inl (sg_k s c)), (yy_W (m) t)) := by
  refine xm_X_of (M := xm_m403) rfl ⟨xm_EQ.eq (xb_403_0 ?_), rfl, rfl, Nat.le_of_ble_eq_true rfl, yy_hd rfl (by decide)⟩
  obtain ⟨e1, -, -, -, e5, -⟩ := hM
  have e6 := e5 c.toNat (by omega)
  have e6 : m 19 c.toNat = s (8 + c).toNat := by rw [show (8 + c).toNat = 8 + c.toNat by omega]; exact e6
  unfold sg_k
  by_cases h0 : s (8 + c).toNat = 0
  · rw [if_pos h0]; simp (disch := first | omega | (unfold xm_w; omega)) only [↓zy_at, xm_O_some, xm_Oi_some, xm_Ov_some, xm_Oq_some, ↓reduceIte, ↓zz_t, ↓zz_f, ↓zi_t, ↓zi_f, eq_self, yy_d_0, Int.reduceEq, Int.reduceLT, Int.reduceLE, Int.reduceNe, Int.reduceToNat, Int.reduceAdd, Int.reduceSub, Int.reduceMul, Int.reduceNeg, Nat.reduceAdd, Nat.reduceMul, Nat.reduceSub, Nat.reduceEqDiff, Nat.reduceLT, ne_eq, not_false_eq_true, not_true_eq_false, true_and, and_true, and_self, yy_s_eq, yy_s_ne, yy_c_eq, yy_c_ne, yy_u_eq, yy_u_ne, xm_w_id, yy_at, tdiv_pos, tmod_pos, ↓zr_18_0, ↓zf_18_1, ↓zs_18_1, ↓zf_18_2, ↓zs_18_2, ↓zr_18_3, ↓zf_18_4, ↓zs_18_4, ↓zr_18_5, ↓zf_18_6, ↓zs_18_6, ↓zr_18_7, ↓zr_18_8, ↓zr_18_9, ↓zi_19, ↓zt_19, e6, h0, e1]
  · rw [if_neg h0]
    by_cases h1 : s (8 + c).toNat = 1
    · rw [if_pos h1]; simp (disch := first | omega | (unfold xm_w; omega)) only [↓zy_at, xm_O_some, xm_Oi_some, xm_Ov_some, xm_Oq_some, ↓reduceIte, ↓zz_t, ↓zz_f, ↓zi_t, ↓zi_f, eq_self, yy_d_0, Int.reduceEq, Int.reduceLT, Int.reduceLE, Int.reduceNe, Int.reduceToNat, Int.reduceAdd, Int.reduceSub, Int.reduceMul, Int.reduceNeg, Nat.reduceAdd, Nat.reduceMul, Nat.reduceSub, Nat.reduceEqDiff, Nat.reduceLT, ne_eq, not_false_eq_true, not_true_eq_false, true_and, and_true, and_self, yy_s_eq, yy_s_ne, yy_c_eq, yy_c_ne, yy_u_eq, yy_u_ne, xm_w_id, yy_at, tdiv_pos, tmod_pos, ↓zr_18_0, ↓zf_18_1, ↓zs_18_1, ↓zf_18_2, ↓zs_18_2, ↓zr_18_3, ↓zf_18_4, ↓zs_18_4, ↓zr_18_5, ↓zf_18_6, ↓zs_18_6, ↓zr_18_7, ↓zr_18_8, ↓zr_18_9, ↓zi_19, ↓zt_19, e6, h1, e1]
    · rw [if_neg h1]
      by_cases h2 : s (8 + c).toNat = 2
      · rw [if_pos h2]; simp (disch := first | omega | (unfold xm_w; omega)) only [↓zy_at, xm_O_some, xm_Oi_some, xm_Ov_some, xm_Oq_some, ↓reduceIte, ↓zz_t, ↓zz_f, ↓zi_t, ↓zi_f, eq_self, yy_d_0, Int.reduceEq, Int.reduceLT, Int.reduceLE, Int.reduceNe, Int.reduceToNat, Int.reduceAdd, Int.reduceSub, Int.reduceMul, Int.reduceNeg, Nat.reduceAdd, Nat.reduceMul, Nat.reduceSub, Nat.reduceEqDiff, Nat.reduceLT, ne_eq, not_false_eq_true, not_true_eq_false, true_and, and_true, and_self, yy_s_eq, yy_s_ne, yy_c_eq, yy_c_ne, yy_u_eq, yy_u_ne, xm_w_id, yy_at, tdiv_pos, tmod_pos, ↓zr_18_0, ↓zf_18_1, ↓zs_18_1, ↓zf_18_2, ↓zs_18_2, ↓zr_18_3, ↓zf_18_4, ↓zs_18_4, ↓zr_18_5, ↓zf_18_6, ↓zs_18_6, ↓zr_18_7, ↓zr_18_8, ↓zr_18_9, ↓zi_19, ↓zt_19, e6, h2]
      · rw [if_neg h2]; simp (disch := first | omega | (unfold xm_w; omega)) only [↓zy_at, xm_O_some, xm_Oi_some, xm_Ov_some, xm_Oq_some, ↓reduceIte, ↓zz_t, ↓zz_f, ↓zi_t, ↓zi_f, eq_self, yy_d_0, Int.reduceEq, Int.reduceLT, Int.reduceLE, Int.reduceNe, Int.reduceToNat, Int.reduceAdd, Int.reduceSub, Int.reduceMul, Int.reduceNeg, Nat.reduceAdd, Nat.reduceMul, Nat.reduceSub, Nat.reduceEqDiff, Nat.reduceLT, ne_eq, not_false_eq_true, not_true_eq_false, true_and, and_true, and_self, yy_s_eq, yy_s_ne, yy_c_eq, yy_c_ne, yy_u_eq, yy_u_ne, xm_w_id, yy_at, tdiv_pos, tmod_pos, ↓zr_18_0, ↓zf_18_1, ↓zs_18_1, ↓zf_18_2, ↓zs_18_2, ↓zr_18_3, ↓zf_18_4, ↓zs_18_4, ↓zr_18_5, ↓zf_18_6, ↓zs_18_6, ↓zr_18_7, ↓zr_18_8, ↓zr_18_9, ↓zi_19, ↓zt_19, e6]
set_option maxRecDepth 20000 in
theorem oc_403_18 {F : Int → xm_W → Prop} {sc : List Int} {d : Nat} {t : xm_W} {m : Nat → Nat → Int} {s : Nat → Int} {c : Int} (hM : yy_MR m 18 s) (h : 0 ≤ c ∧ c ≤ 35) (hf : 0 ≤ s 2 ∧ s 2 ≤ 9) : xm_Oi (xm_X (xm_old sc) xm_mt (d + 1) 403 [.inr (.inl (some 18)), .inl (c)] (yy_W (m) t)) F = F (sg_k s c) (yy_W (m) t) := congrArg (fun x => xm_Oi x F) (c_403_18 hM h hf)
set_option maxRecDepth 20000 in
theorem zc_kp_18 {m : Nat → Nat → Int} {t : xm_W} {K : xm_W → Prop} {i l : Int} (h0 : 0 ≤ i) (h1 : i ≤ 39) (h2 : 0 ≤ l) (h3 : l ≤ 39) : xm_O (xm_copy (yy_W m t) 21 (5 * i) 21 (5 * l) 5) K = K (yy_W (yy_c m 21 (yy_cp (m 21) (m 21) (5 * i).toNat (5 * l).toNat 5)) t) := congrArg (fun x => xm_O x K) (yy_copy rfl rfl (by omega) (by omega) (by decide) (by omega) (by omega))
set_option maxRecDepth 20000 in
theorem c_411_18 {sc : List Int} {d : Nat} {t : xm_W} {m : Nat → Nat → Int} {i l : Nat} (hi : i < 40) (hl : l < 40) : xm_X (xm_old sc) xm_mt (d + 1) 411 [.inr (.inl (some 18)), .inl ((i : Int)), .inl ((l : Int))] (yy_W (m) t) = some (none, (yy_W (yy_c m 21 (yy_cp (m 21) (m 21) (5 * i) (5 * l) 5)) t)) := by
  refine xm_X_of (M := xm_m411) rfl ⟨xm_EQ.eq (xb_411_0 ?_), rfl, rfl, Nat.le_of_ble_eq_true rfl, yy_hd rfl (by decide)⟩
  rw [xm_w_id (by omega) (by omega), xm_w_id (by omega) (by omega)]
  simp (disch := first | omega | (unfold xm_w; omega)) only [↓zy_at, xm_O_some, xm_Oi_some, xm_Ov_some, xm_Oq_some, ↓reduceIte, ↓zz_t, ↓zz_f, ↓zi_t, ↓zi_f, eq_self, yy_d_0, Int.reduceEq, Int.reduceLT, Int.reduceLE, Int.reduceNe, Int.reduceToNat, Int.reduceAdd, Int.reduceSub, Int.reduceMul, Int.reduceNeg, Nat.reduceAdd, Nat.reduceMul, Nat.reduceSub, Nat.reduceEqDiff, Nat.reduceLT, ne_eq, not_false_eq_true, not_true_eq_false, true_and, and_true, and_self, yy_s_eq, yy_s_ne, yy_c_eq, yy_c_ne, yy_u_eq, yy_u_ne, xm_w_id, yy_at, tdiv_pos, tmod_pos, ↓zr_18_0, ↓zf_18_1, ↓zs_18_1, ↓zf_18_2, ↓zs_18_2, ↓zr_18_3, ↓zf_18_4, ↓zs_18_4, ↓zr_18_5, ↓zf_18_6, ↓zs_18_6, ↓zr_18_7, ↓zr_18_8, ↓zr_18_9]
  rw [show (i : Int) * 5 = 5 * i by omega, show (l : Int) * 5 = 5 * l by omega, zc_kp_18 (by omega) (by omega) (by omega) (by omega), show (5 * (i : Int)).toNat = 5 * i by omega, show (5 * (l : Int)).toNat = 5 * l by omega]
set_option maxRecDepth 20000 in
theorem oc_411_18 {F : xm_W → Prop} {sc : List Int} {d : Nat} {t : xm_W} {m : Nat → Nat → Int} {i l : Nat} (hi : i < 40) (hl : l < 40) : xm_Ov (xm_X (xm_old sc) xm_mt (d + 1) 411 [.inr (.inl (some 18)), .inl ((i : Int)), .inl ((l : Int))] (yy_W (m) t)) F = F (yy_W (yy_c m 21 (yy_cp (m 21) (m 21) (5 * i) (5 * l) 5)) t) := congrArg (fun x => xm_Ov x F) (c_411_18 hi hl)
/-! the walk over the prints: fade and tread -/
set_option maxRecDepth 20000 in
theorem l_409_18 {sc : List Int} {d : Nat} {t : xm_W} {m0 : Nat → Nat → Int} {s0 : Nat → Int} {Q : Option xm_V × xm_W → Prop} (hM : yy_MR m0 18 s0) (hB : sg_B s0) (h40 : s0 3 ≤ 40) (hQ : ∀ m', yy_Fb m0 m' 18 → yy_MR m' 18 (sg_clr (sg_K s0 0 (-1)) s0) → (∀ c, c ≠ 18 → c ≠ 21 → m' c = m0 c) → Q ((none, (yy_W (m') t)))) : ∀ (k i l : Nat) (m : Nat → Nat → Int) (s : Nat → Int) (u : Option xm_V), ((i + k : Nat) : Int) = s0 3 → l ≤ i → (∀ q, (q < 134 ∨ 134 + 5 * i ≤ q) → s q = s0 q) → (∀ c, c ≠ 21 → m c = m0 c) → (∀ q, q < 200 → m 21 q = s (134 + q)) → sg_cl (sg_K s0 0 (-1)) k i l s = sg_cl (sg_K s0 0 (-1)) (s0 3).toNat 0 0 s0 → xm_EQ (xm_old sc) xm_sta (xm_X (xm_old sc) xm_mt (d + 2)) xm_c409 4 [some (.inr (.inl (some 18))), some (.inl ((l : Int))), some (.inl ((i : Int))), u] [] (yy_W (m) t) Q
  | 0, i, l, m, s, u, hk, hl, hs, hm, hp, hc => by
    obtain ⟨e1, e2, e3, e4, e5, e6, e7⟩ := id hM
    have a0 : m 18 = m0 18 := hm _ (by decide)
    refine xb_409_4 ?_
    simp (disch := first | omega | (unfold xm_w; omega)) only [↓zy_at, xm_O_some, xm_Oi_some, xm_Ov_some, xm_Oq_some, ↓reduceIte, ↓zz_t, ↓zz_f, ↓zi_t, ↓zi_f, eq_self, yy_d_0, Int.reduceEq, Int.reduceLT, Int.reduceLE, Int.reduceNe, Int.reduceToNat, Int.reduceAdd, Int.reduceSub, Int.reduceMul, Int.reduceNeg, Nat.reduceAdd, Nat.reduceMul, Nat.reduceSub, Nat.reduceEqDiff, Nat.reduceLT, ne_eq, not_false_eq_true, not_true_eq_false, true_and, and_true, and_self, yy_s_eq, yy_s_ne, yy_c_eq, yy_c_ne, yy_u_eq, yy_u_ne, xm_w_id, yy_at, tdiv_pos, tmod_pos, ↓zr_18_0, ↓zf_18_1, ↓zs_18_1, ↓zf_18_2, ↓zs_18_2, ↓zr_18_3, ↓zf_18_4, ↓zs_18_4, ↓zr_18_5, ↓zf_18_6, ↓zs_18_6, ↓zr_18_7, ↓zr_18_8, ↓zr_18_9, a0, e4]
    have hc2 : (s, l) = sg_cl (sg_K s0 0 (-1)) (s0 3).toNat 0 0 s0 := hc
    have r1 : (sg_cl (sg_K s0 0 (-1)) (s0 3).toNat 0 0 s0).1 = s := by rw [← hc2]
    have r2 : (sg_cl (sg_K s0 0 (-1)) (s0 3).toNat 0 0 s0).2 = l := by rw [← hc2]
    have ev : ∀ q, sg_clr (sg_K s0 0 (-1)) s0 q = if q = 3 then (l : Int) else s q := fun q => by unfold sg_clr yy_u; rw [r1, r2]
    have ev2 : ∀ q, q < 134 → q ≠ 3 → sg_clr (sg_K s0 0 (-1)) s0 q = s0 q := fun q h h' => by rw [ev, if_neg h', hs q (Or.inl h)]
    refine hQ _ (fun c hc => ?_) ⟨?_, ?_, ?_, ?_, fun q hq => ?_, fun q hq => ?_, fun j hj => ⟨fun q hq => ?_, fun q hq => ?_⟩⟩ (fun c c1 c2 => ?_)
    · simp (disch := first | omega | (unfold xm_w; omega)) only [↓zy_at, xm_O_some, xm_Oi_some, xm_Ov_some, xm_Oq_some, ↓reduceIte, ↓zz_t, ↓zz_f, ↓zi_t, ↓zi_f, eq_self, yy_d_0, Int.reduceEq, Int.reduceLT, Int.reduceLE, Int.reduceNe, Int.reduceToNat, Int.reduceAdd, Int.reduceSub, Int.reduceMul, Int.reduceNeg, Nat.reduceAdd, Nat.reduceMul, Nat.reduceSub, Nat.reduceEqDiff, Nat.reduceLT, ne_eq, not_false_eq_true, not_true_eq_false, true_and, and_true, and_self, yy_s_eq, yy_s_ne, yy_c_eq, yy_c_ne, yy_u_eq, yy_u_ne, xm_w_id, yy_at, tdiv_pos, tmod_pos]; exact hm c (by omega)
    · simp (disch := first | omega | (unfold xm_w; omega)) only [↓zy_at, xm_O_some, xm_Oi_some, xm_Ov_some, xm_Oq_some, ↓reduceIte, ↓zz_t, ↓zz_f, ↓zi_t, ↓zi_f, eq_self, yy_d_0, Int.reduceEq, Int.reduceLT, Int.reduceLE, Int.reduceNe, Int.reduceToNat, Int.reduceAdd, Int.reduceSub, Int.reduceMul, Int.reduceNeg, Nat.reduceAdd, Nat.reduceMul, Nat.reduceSub, Nat.reduceEqDiff, Nat.reduceLT, ne_eq, not_false_eq_true, not_true_eq_false, true_and, and_true, and_self, yy_s_eq, yy_s_ne, yy_c_eq, yy_c_ne, yy_u_eq, yy_u_ne, xm_w_id, yy_at, tdiv_pos, tmod_pos, a0, e1]; exact (ev2 2 (by decide) (by decide)).symm
    · simp (disch := first | omega | (unfold xm_w; omega)) only [↓zy_at, xm_O_some, xm_Oi_some, xm_Ov_some, xm_Oq_some, ↓reduceIte, ↓zz_t, ↓zz_f, ↓zi_t, ↓zi_f, eq_self, yy_d_0, Int.reduceEq, Int.reduceLT, Int.reduceLE, Int.reduceNe, Int.reduceToNat, Int.reduceAdd, Int.reduceSub, Int.reduceMul, Int.reduceNeg, Nat.reduceAdd, Nat.reduceMul, Nat.reduceSub, Nat.reduceEqDiff, Nat.reduceLT, ne_eq, not_false_eq_true, not_true_eq_false, true_and, and_true, and_self, yy_s_eq, yy_s_ne, yy_c_eq, yy_c_ne, yy_u_eq, yy_u_ne, xm_w_id, yy_at, tdiv_pos, tmod_pos, a0, e2]; exact (ev2 1 (by decide) (by decide)).symm
    · simp (disch := first | omega | (unfold xm_w; omega)) only [↓zy_at, xm_O_some, xm_Oi_some, xm_Ov_some, xm_Oq_some, ↓reduceIte, ↓zz_t, ↓zz_f, ↓zi_t, ↓zi_f, eq_self, yy_d_0, Int.reduceEq, Int.reduceLT, Int.reduceLE, Int.reduceNe, Int.reduceToNat, Int.reduceAdd, Int.reduceSub, Int.reduceMul, Int.reduceNeg, Nat.reduceAdd, Nat.reduceMul, Nat.reduceSub, Nat.reduceEqDiff, Nat.reduceLT, ne_eq, not_false_eq_true, not_true_eq_false, true_and, and_true, and_self, yy_s_eq, yy_s_ne, yy_c_eq, yy_c_ne, yy_u_eq, yy_u_ne, xm_w_id, yy_at, tdiv_pos, tmod_pos, a0, e3]; exact (ev2 0 (by decide) (by decide)).symm
    · simp (disch := first | omega | (unfold xm_w; omega)) only [↓zy_at, xm_O_some, xm_Oi_some, xm_Ov_some, xm_Oq_some, ↓reduceIte, ↓zz_t, ↓zz_f, ↓zi_t, ↓zi_f, eq_self, yy_d_0, Int.reduceEq, Int.reduceLT, Int.reduceLE, Int.reduceNe, Int.reduceToNat, Int.reduceAdd, Int.reduceSub, Int.reduceMul, Int.reduceNeg, Nat.reduceAdd, Nat.reduceMul, Nat.reduceSub, Nat.reduceEqDiff, Nat.reduceLT, ne_eq, not_false_eq_true, not_true_eq_false, true_and, and_true, and_self, yy_s_eq, yy_s_ne, yy_c_eq, yy_c_ne, yy_u_eq, yy_u_ne, xm_w_id, yy_at, tdiv_pos, tmod_pos]; rw [ev, if_pos rfl]
    · simp (disch := first | omega | (unfold xm_w; omega)) only [↓zy_at, xm_O_some, xm_Oi_some, xm_Ov_some, xm_Oq_some, ↓reduceIte, ↓zz_t, ↓zz_f, ↓zi_t, ↓zi_f, eq_self, yy_d_0, Int.reduceEq, Int.reduceLT, Int.reduceLE, Int.reduceNe, Int.reduceToNat, Int.reduceAdd, Int.reduceSub, Int.reduceMul, Int.reduceNeg, Nat.reduceAdd, Nat.reduceMul, Nat.reduceSub, Nat.reduceEqDiff, Nat.reduceLT, ne_eq, not_false_eq_true, not_true_eq_false, true_and, and_true, and_self, yy_s_eq, yy_s_ne, yy_c_eq, yy_c_ne, yy_u_eq, yy_u_ne, xm_w_id, yy_at, tdiv_pos, tmod_pos]; rw [hm _ (by decide), e5 q hq, ev2 _ (by omega) (by omega)]
    · simp (disch := first | omega | (unfold xm_w; omega)) only [↓zy_at, xm_O_some, xm_Oi_some, xm_Ov_some, xm_Oq_some, ↓reduceIte, ↓zz_t, ↓zz_f, ↓zi_t, ↓zi_f, eq_self, yy_d_0, Int.reduceEq, Int.reduceLT, Int.reduceLE, Int.reduceNe, Int.reduceToNat, Int.reduceAdd, Int.reduceSub, Int.reduceMul, Int.reduceNeg, Nat.reduceAdd, Nat.reduceMul, Nat.reduceSub, Nat.reduceEqDiff, Nat.reduceLT, ne_eq, not_false_eq_true, not_true_eq_false, true_and, and_true, and_self, yy_s_eq, yy_s_ne, yy_c_eq, yy_c_ne, yy_u_eq, yy_u_ne, xm_w_id, yy_at, tdiv_pos, tmod_pos]; rw [hp q hq, ev, if_neg (by omega)]
    · simp (disch := first | omega | (unfold xm_w; omega)) only [↓zy_at, xm_O_some, xm_Oi_some, xm_Ov_some, xm_Oq_some, ↓reduceIte, ↓zz_t, ↓zz_f, ↓zi_t, ↓zi_f, eq_self, yy_d_0, Int.reduceEq, Int.reduceLT, Int.reduceLE, Int.reduceNe, Int.reduceToNat, Int.reduceAdd, Int.reduceSub, Int.reduceMul, Int.reduceNeg, Nat.reduceAdd, Nat.reduceMul, Nat.reduceSub, Nat.reduceEqDiff, Nat.reduceLT, ne_eq, not_false_eq_true, not_true_eq_false, true_and, and_true, and_self, yy_s_eq, yy_s_ne, yy_c_eq, yy_c_ne, yy_u_eq, yy_u_ne, xm_w_id, yy_at, tdiv_pos, tmod_pos]; rw [hm _ (by omega), (e7 j hj).1 q hq, ev2 _ (by omega) (by omega)]
    · simp (disch := first | omega | (unfold xm_w; omega)) only [↓zy_at, xm_O_some, xm_Oi_some, xm_Ov_some, xm_Oq_some, ↓reduceIte, ↓zz_t, ↓zz_f, ↓zi_t, ↓zi_f, eq_self, yy_d_0, Int.reduceEq, Int.reduceLT, Int.reduceLE, Int.reduceNe, Int.reduceToNat, Int.reduceAdd, Int.reduceSub, Int.reduceMul, Int.reduceNeg, Nat.reduceAdd, Nat.reduceMul, Nat.reduceSub, Nat.reduceEqDiff, Nat.reduceLT, ne_eq, not_false_eq_true, not_true_eq_false, true_and, and_true, and_self, yy_s_eq, yy_s_ne, yy_c_eq, yy_c_ne, yy_u_eq, yy_u_ne, xm_w_id, yy_at, tdiv_pos, tmod_pos]; rw [hm _ (by omega), (e7 j hj).2 q hq, ev2 _ (by omega) (by omega)]
    · simp (disch := first | omega | (unfold xm_w; omega)) only [↓zy_at, xm_O_some, xm_Oi_some, xm_Ov_some, xm_Oq_some, ↓reduceIte, ↓zz_t, ↓zz_f, ↓zi_t, ↓zi_f, eq_self, yy_d_0, Int.reduceEq, Int.reduceLT, Int.reduceLE, Int.reduceNe, Int.reduceToNat, Int.reduceAdd, Int.reduceSub, Int.reduceMul, Int.reduceNeg, Nat.reduceAdd, Nat.reduceMul, Nat.reduceSub, Nat.reduceEqDiff, Nat.reduceLT, ne_eq, not_false_eq_true, not_true_eq_false, true_and, and_true, and_self, yy_s_eq, yy_s_ne, yy_c_eq, yy_c_ne, yy_u_eq, yy_u_ne, xm_w_id, yy_at, tdiv_pos, tmod_pos]; exact hm c c2
  | k + 1, i, l, m, s, u, hk, hl, hs, hm, hp, hc => by
    obtain ⟨e1, e2, e3, e4, e5, e6, e7⟩ := id hM
    obtain ⟨b1, b2, b3⟩ := id hB
    have b4 := b3 i (by omega)
    have a0 : m 18 = m0 18 := hm _ (by decide)
    have f0 : m 21 (5 * i) = sg_p s0 i 0 := by rw [hp _ (by omega), show 134 + 5 * i = 134 + 5 * i + 0 by omega]; exact hs _ (Or.inr (by omega))
    have f3 : m 21 (5 * i + 3) = sg_p s0 i 3 := by rw [hp _ (by omega), show 134 + (5 * i + 3) = 134 + 5 * i + 3 by omega]; exact hs _ (Or.inr (by omega))
    have kk : ∀ {F : Int → xm_W → Prop}, xm_Oi (xm_X (xm_old sc) xm_mt (d + 2) 403 [.inr (.inl (some 18)), .inl (sg_p s0 i 0)] (yy_W (m) t)) F = F (sg_k s0 (sg_p s0 i 0)) (yy_W m t) := by
      intro F
      have hM2 : yy_MR m 18 s := by
        refine ⟨by rw [a0, e1, hs 2 (Or.inl (by decide))], by rw [a0, e2, hs 1 (Or.inl (by decide))], by rw [a0, e3, hs 0 (Or.inl (by decide))], by rw [a0, e4, hs 3 (Or.inl (by decide))], fun q hq => by rw [hm _ (by decide), e5 q hq, hs _ (Or.inl (by omega))], hp, fun j hj => ⟨fun q hq => ?_, fun q hq => ?_⟩⟩
        · rw [hm _ (by omega), (e7 j hj).1 q hq, hs _ (Or.inl (by omega))]
        · rw [hm _ (by omega), (e7 j hj).2 q hq, hs _ (Or.inl (by omega))]
      rw [oc_403_18 (d := d + 1) hM2 b4.1 (by rw [hs 2 (Or.inl (by decide))]; exact b1)]
      rw [sg_k_eq (hs 2 (Or.inl (by decide))) (hs _ (Or.inl (by omega)))]
    have bk := sg_k_r (c := sg_p s0 i 0) b1
    have next : ¬ (sg_K s0 0 (-1) i = true) → ∀ u, xm_EQ (xm_old sc) xm_sta (xm_X (xm_old sc) xm_mt (d + 2)) xm_c409 4 [some (.inr (.inl (some 18))), some (.inl ((l : Int))), some (.inl ((i : Int) + 1)), u] [] (yy_W (m) t) Q := by
      intro hK u
      rw [sg_cl_s, if_neg hK] at hc
      have := l_409_18 (sc := sc) (d := d) (t := t) (Q := Q) hM hB h40 hQ k (i + 1) l m s u (by omega) (by omega) (fun q hq => hs q (by omega)) hm hp hc
      rw [show ((i + 1 : Nat) : Int) = (i : Int) + 1 by omega] at this
      exact this
    have hKi : sg_K s0 0 (-1) i = decide ((0 : Int) ≤ i ∧ sg_p s0 i 0 ≠ -1 ∧ s0 1 ≤ sg_p s0 i 3 + sg_k s0 (sg_p s0 i 0)) := rfl
    have i0 : ((i : Int) * 5 + 0).toNat = 5 * i := by omega
    have i3 : ((i : Int) * 5 + 3).toNat = 5 * i + 3 := by omega
    refine xb_409_4 ?_
    simp (disch := first | omega | (unfold xm_w; omega)) only [↓zy_at, xm_O_some, xm_Oi_some, xm_Ov_some, xm_Oq_some, ↓reduceIte, ↓zz_t, ↓zz_f, ↓zi_t, ↓zi_f, eq_self, yy_d_0, Int.reduceEq, Int.reduceLT, Int.reduceLE, Int.reduceNe, Int.reduceToNat, Int.reduceAdd, Int.reduceSub, Int.reduceMul, Int.reduceNeg, Nat.reduceAdd, Nat.reduceMul, Nat.reduceSub, Nat.reduceEqDiff, Nat.reduceLT, ne_eq, not_false_eq_true, not_true_eq_false, true_and, and_true, and_self, yy_s_eq, yy_s_ne, yy_c_eq, yy_c_ne, yy_u_eq, yy_u_ne, xm_w_id, yy_at, tdiv_pos, tmod_pos, ↓zr_18_0, ↓zf_18_1, ↓zs_18_1, ↓zf_18_2, ↓zs_18_2, ↓zr_18_3, ↓zf_18_4, ↓zs_18_4, ↓zr_18_5, ↓zf_18_6, ↓zs_18_6, ↓zr_18_7, ↓zr_18_8, ↓zr_18_9, ↓zi_21, ↓zt_21, a0, e4, e2, i0, i3, f0, f3]
    rw [kk]
    simp (disch := first | omega | (unfold xm_w; omega)) only [↓zy_at, xm_O_some, xm_Oi_some, xm_Ov_some, xm_Oq_some, ↓reduceIte, ↓zz_t, ↓zz_f, ↓zi_t, ↓zi_f, eq_self, yy_d_0, Int.reduceEq, Int.reduceLT, Int.reduceLE, Int.reduceNe, Int.reduceToNat, Int.reduceAdd, Int.reduceSub, Int.reduceMul, Int.reduceNeg, Nat.reduceAdd, Nat.reduceMul, Nat.reduceSub, Nat.reduceEqDiff, Nat.reduceLT, ne_eq, not_false_eq_true, not_true_eq_false, true_and, and_true, and_self, yy_s_eq, yy_s_ne, yy_c_eq, yy_c_ne, yy_u_eq, yy_u_ne, xm_w_id, yy_at, tdiv_pos, tmod_pos]
    by_cases g : sg_p s0 i 3 + sg_k s0 (sg_p s0 i 0) < s0 1
    · rw [if_pos g]
      exact next (by rw [hKi, decide_eq_true_iff]; omega) _
    · rw [if_neg g, oc_411_18 (by omega) (by omega)]
      have hK : sg_K s0 0 (-1) i = true := by rw [hKi, decide_eq_true_iff]; omega
      rw [sg_cl_s, if_pos hK] at hc
      have := l_409_18 (sc := sc) (d := d) (t := t) (Q := Q) hM hB h40 hQ k (i + 1) (l + 1) (yy_c m 21 (yy_cp (m 21) (m 21) (5 * i) (5 * l) 5)) (sg_c5 s i l) (some (.inl (sg_p s0 i 0))) (by omega) (by omega) (fun q hq => by rw [sg_c5_out (by omega)]; exact hs q (by omega)) (fun c hc => by rw [yy_c_ne hc]; exact hm c hc) (fun q hq => ?_) hc
      · rw [show ((i + 1 : Nat) : Int) = (i : Int) + 1 by omega, show ((l + 1 : Nat) : Int) = (l : Int) + 1 by omega] at this
        exact this
      · rw [yy_c_eq]
        unfold yy_cp sg_c5
        by_cases f : 5 * l ≤ q ∧ q < 5 * l + 5
        · rw [if_pos f, if_pos (by omega), hp _ (by omega)]; congr 1; omega
        · rw [if_neg f, if_neg (by omega)]; exact hp q hq
set_option maxRecDepth 20000 in
theorem c_409_18g {sc : List Int} {d : Nat} {t : xm_W} {m : Nat → Nat → Int} {s : Nat → Int} (hM : yy_MR m 18 s) (hB : sg_B s) (h40 : s 3 ≤ 40) : ∃ m', xm_X (xm_old sc) xm_mt (d + 3) 409 [.inr (.inl (some 18))] (yy_W m t) = some (none, yy_W m' t) ∧ yy_Fb m m' 18 ∧ yy_MR m' 18 (sg_clr (sg_K s 0 (-1)) s) ∧ (∀ c, c ≠ 18 → c ≠ 21 → m' c = m c) := by
  have key : ∀ {Q : Option xm_V × xm_W → Prop}, (∀ m', (yy_Fb m m' 18 ∧ yy_MR m' 18 (sg_clr (sg_K s 0 (-1)) s) ∧ (∀ c, c ≠ 18 → c ≠ 21 → m' c = m c)) → Q (none, yy_W m' t)) → xm_EQ (xm_old sc) xm_sta (xm_X (xm_old sc) xm_mt (d + 2)) xm_m409.2.2.2.2.2.2.2 0 (xm_loc xm_m409.2.2.1 [.inr (.inl (some 18))]) [] (yy_W m t) Q := by
    intro Q hQ
    refine xb_409_0 ?_
    exact l_409_18 (d := d) hM hB h40 (fun m' h1 h2 h3 => hQ m' ⟨h1, h2, h3⟩) (s 3).toNat 0 0 m s none (by have := hB.2.1; omega) (by decide) (fun q _ => rfl) (fun c _ => rfl) hM.2.2.2.2.2.1 rfl
  obtain ⟨q, h1, m', h2, h3⟩ := yx_of (y := 409) (M := xm_m409) (sc := sc) (d := d + 2) (as := [.inr (.inl (some 18))]) (w := yy_W m t) (Q := fun q => ∃ m', q = (none, yy_W m' t) ∧ (yy_Fb m m' 18 ∧ yy_MR m' 18 (sg_clr (sg_K s 0 (-1)) s) ∧ (∀ c, c ≠ 18 → c ≠ 21 → m' c = m c))) rfl (key fun m' h => ⟨m', rfl, h⟩) (fun q ⟨m', h, _⟩ => by rw [h]; rfl) rfl (Nat.le_of_ble_eq_true rfl) (yy_hd rfl (by decide))
  exact ⟨m', by rw [h1, h2], h3⟩
