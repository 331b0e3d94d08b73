/-! a print is left -/
def sg_ap (s : Nat → Int) (c sh dp h r : Int) : Nat → Int := yy_u (yy_u (yy_u (yy_u (yy_u (yy_u s (134 + 5 * (s 3).toNat) c) (134 + 5 * (s 3).toNat + 1) sh) (134 + 5 * (s 3).toNat + 2) dp) (134 + 5 * (s 3).toNat + 3) h) (134 + 5 * (s 3).toNat + 4) r) 3 (s 3 + 1)
def sg_dp (s : Nat → Int) (r : Nat) : Int := sp_deep (s (44 + 18 * r)) (s (45 + 18 * r)) (s (47 + 18 * r))
def sg_lv (s : Nat → Int) (r : Nat) (w step : Int) : Nat → Int :=
  if sg_sh s r w step = -1 ∨ sg_k s (s (46 + 18 * r)) = 0 then s
  else if 40 < s 3 + 1 then sg_clr (sg_K (sg_ap s (s (46 + 18 * r)) (sg_sh s r w step) (sg_dp s r) (s 1) r) 1 (-1)) (sg_ap s (s (46 + 18 * r)) (sg_sh s r w step) (sg_dp s r) (s 1) r)
  else sg_ap s (s (46 + 18 * r)) (sg_sh s r w step) (sg_dp s r) (s 1) r
def sg_way (s : Nat → Int) (r : Nat) : Int := s (50 + 18 * r + (s (49 + 18 * r)).toNat)
def sg_rd (s : Nat → Int) (r : Nat) : Nat → Int :=
  if sp_next (s (46 + 18 * r)) (sg_way s r) = -1 then yy_u s (49 + 18 * r) (s (49 + 18 * r) + 1)
  else yy_u (yy_u (sg_lv s r (sg_way s r) (s (49 + 18 * r))) (46 + 18 * r) (sp_next (s (46 + 18 * r)) (sg_way s r))) (49 + 18 * r) (s (49 + 18 * r) + 1)
def sg_hl (st : Int) : Nat → Nat → (Nat → Int) → (Nat → Int)
  | 0, _, s => s
  | k + 1, r, s => sg_hl st k (r + 1) (if (r : Int) ≠ st ∧ s (49 + 18 * r) < s (48 + 18 * r) then sg_rd s r else s)
def sg_h1 (st : Int) (s : Nat → Int) : Nat → Int := yy_u (sg_hl st (s 0).toNat 0 s) 1 (sg_hl st (s 0).toNat 0 s 1 + 1)
def sg_hour (st : Int) (s : Nat → Int) : Nat → Int := sg_clr (sg_K (sg_h1 st s) 0 (-1)) (sg_h1 st s)
def sg_go (st : Int) : Nat → (Nat → Int) → (Nat → Int)
  | 0, s => s
  | n + 1, s => sg_go st n (sg_hour st s)
set_option maxRecDepth 20000 in
theorem sg_deep_r {k l s : Int} (h1 : 0 ≤ l ∧ l ≤ 9) (h2 : 0 ≤ s ∧ s ≤ 99) : 0 ≤ sp_deep k l s ∧ sp_deep k l s ≤ 99 := by
  unfold sp_deep
  repeat' split
  all_goals omega
set_option maxRecDepth 20000 in
theorem sg_ap_o {s : Nat → Int} {c sh dp h r : Int} {k : Nat} (hk : k ≠ 3) (h2 : k < 134 + 5 * (s 3).toNat ∨ 134 + 5 * (s 3).toNat + 5 ≤ k) : sg_ap s c sh dp h r k = s k := by
  unfold sg_ap yy_u
  rw [if_neg hk, if_neg (by omega), if_neg (by omega), if_neg (by omega), if_neg (by omega), if_neg (by omega)]
set_option maxRecDepth 20000 in
theorem sg_ap_3 {s : Nat → Int} {c sh dp h r : Int} : sg_ap s c sh dp h r 3 = s 3 + 1 := yy_u_eq
set_option maxRecDepth 20000 in
theorem sg_ap_n {s : Nat → Int} {c sh dp h r : Int} : sg_p (sg_ap s c sh dp h r) (s 3).toNat 0 = c ∧ sg_p (sg_ap s c sh dp h r) (s 3).toNat 1 = sh ∧ sg_p (sg_ap s c sh dp h r) (s 3).toNat 2 = dp ∧ sg_p (sg_ap s c sh dp h r) (s 3).toNat 3 = h ∧ sg_p (sg_ap s c sh dp h r) (s 3).toNat 4 = r := by
  unfold sg_p sg_ap yy_u
  refine ⟨?_, ?_, ?_, ?_, ?_⟩
  · rw [if_neg (by omega), if_neg (by omega), if_neg (by omega), if_neg (by omega), if_neg (by omega), if_pos (by omega)]
  · rw [if_neg (by omega), if_neg (by omega), if_neg (by omega), if_neg (by omega), if_pos (by omega)]
  · rw [if_neg (by omega), if_neg (by omega), if_neg (by omega), if_pos (by omega)]
  · rw [if_neg (by omega), if_neg (by omega), if_pos (by omega)]
  · rw [if_neg (by omega), if_pos (by omega)]
set_option maxRecDepth 20000 in
theorem sg_ap_p {s : Nat → Int} {c sh dp h r : Int} {i w : Nat} (hi : (i : Int) < s 3) (hw : w < 5) : sg_p (sg_ap s c sh dp h r) i w = sg_p s i w := by
  unfold sg_p
  exact sg_ap_o (by omega) (by omega)
set_option maxRecDepth 20000 in
theorem sg_k_eq {s s' : Nat → Int} {c : Int} (h2 : s' 2 = s 2) (h : s' (8 + c).toNat = s (8 + c).toNat) : sg_k s' c = sg_k s c := by
  unfold sg_k; rw [h2, h]
/-! all that holds between acts, and (with r) within an hour -/
def sg_W (s : Nat → Int) (r : Int) : Prop := sg_R s ∧ sg_O s r ∧ sg_S s ∧ sg_T s 0 ∧ sg_T s 1
set_option maxRecDepth 20000 in
theorem sg_W_B {s : Nat → Int} {r : Int} (h : sg_W s r) : sg_B s := by
  obtain ⟨⟨h0, h1, h2, h3, -⟩, ⟨h4, -⟩, -⟩ := h
  exact ⟨h2, by omega, fun i hi => ⟨(h4 i hi).1.1, (h4 i hi).1.2.2.2.1⟩⟩
/-! the row with a print more, still in bounds for the walk -/
set_option maxRecDepth 20000 in
theorem sg_ap_B {s : Nat → Int} {c sh dp h r q : Int} (hB : sg_W s q) (hc : 0 ≤ c ∧ c ≤ 35) (hh : 0 ≤ h ∧ h ≤ 20000) : sg_B (sg_ap s c sh dp h r) := by
  have B := sg_W_B hB
  obtain ⟨⟨h0, h1, h2, h3, -⟩, -⟩ := hB
  obtain ⟨n0, -, -, n3, -⟩ := sg_ap_n (s := s) (c := c) (sh := sh) (dp := dp) (h := h) (r := r)
  refine ⟨by rw [sg_ap_o (by decide) (by omega)]; exact h2, by rw [sg_ap_3]; omega, fun i hi => ?_⟩
  rw [sg_ap_3] at hi
  by_cases e : (i : Int) < s 3
  · rw [sg_ap_p e (by decide), sg_ap_p e (by decide)]; exact B.2.2 i e
  · have ei : i = (s 3).toNat := by omega
    subst ei
    rw [n0, n3]; exact ⟨hc, hh⟩
set_option maxRecDepth 20000 in
theorem c_1154 {sc : List Int} {d : Nat} {t : xm_W} {m : Nat → Nat → Int} {r : Nat} {w step q : Int} (hr : r < 5) (hW : sg_W (m 75) q) (hw : 0 ≤ w ∧ w ≤ 3) (hs : 0 ≤ step) : ∃ m', xm_X (xm_old sc) xm_mt (d + 6) 1154 [.inr (.inl (some 74)), .inl ((r : Int)), .inl (w), .inl (step)] (yy_W m t) = some (none, yy_W m' t) ∧ (∀ c, c ≠ 75 → c ≠ 80 → c ≠ 81 → m' c = m c) ∧ m' 75 = sg_lv (m 75) r w step := by
  have key : ∀ {Q : Option xm_V × xm_W → Prop}, (∀ m', ((∀ c, c ≠ 75 → c ≠ 80 → c ≠ 81 → m' c = m c) ∧ m' 75 = sg_lv (m 75) r w step) → Q (none, yy_W m' t)) → xm_EQ (xm_old sc) xm_sta (xm_X (xm_old sc) xm_mt (d + 5)) xm_m1154.2.2.2.2.2.2.2 0 (xm_loc xm_m1154.2.2.1 [.inr (.inl (some 74)), .inl ((r : Int)), .inl (w), .inl (step)]) [] (yy_W m t) Q := by
    intro Q hQ
    obtain ⟨hR, hO, hS, hT, hT1⟩ := id hW
    obtain ⟨b0, b1, b2, b3, hso, hrd⟩ := id hR
    obtain ⟨a0, a1, a2, a3, a4, a5, a6⟩ := hrd r hr
    refine xb_1154_0 ?_
    obtain ⟨m1, e, f1⟩ := c_1136 (sc := sc) (d := d) (t := t) (m := m) (step := step) hr hR hT hw hs
    have e75 : m1 75 = m 75 := f1 75 (by decide) (by decide)
    rw [e, xm_Oi_some, oc_1110_2 hr, e75]
    by_cases g1 : sg_sh (m 75) r w step = -1
    · rw [if_pos g1]
      refine hQ m1 ⟨fun c c1 c2 c3 => f1 c c2 c3, ?_⟩
      unfold sg_lv
      rw [if_pos (Or.inl g1)]; exact e75
    · rw [if_neg g1, oc_1130 a2 (by rw [e75]; exact b2), e75]
      by_cases g2 : sg_k (m 75) (m 75 (46 + 18 * r)) = 0
      · rw [if_pos g2]
        refine hQ m1 ⟨fun c c1 c2 c3 => f1 c c2 c3, ?_⟩
        unfold sg_lv
        rw [if_pos (Or.inr g2)]; exact e75
      · rw [if_neg g2]
        simp (disch := first | omega | (unfold xm_w; omega)) only [↓zy_at, xm_O_some, xm_Oi_some, xm_Ov_some, xm_Oq_some, ↓reduceIte, ↓zz_t, ↓zz_f, ↓zi_t, ↓zi_f, eq_self, yy_d_0, Int.reduceEq, Int.reduceLT, Int.reduceLE, Int.reduceNe, Int.reduceToNat, Int.reduceAdd, Int.reduceSub, Int.reduceMul, Int.reduceNeg, Nat.reduceAdd, Nat.reduceMul, Nat.reduceSub, Nat.reduceEqDiff, Nat.reduceLT, ne_eq, not_false_eq_true, not_true_eq_false, true_and, and_true, and_self, yy_s_eq, yy_s_ne, yy_c_eq, yy_c_ne, yy_u_eq, yy_u_ne, xm_w_id, yy_at, tdiv_pos, tmod_pos, ↓zr_74_0, ↓zr_74_1, ↓zr_74_2, ↓zf_74_3, ↓zs_74_3, ↓zf_74_4, ↓zs_74_4, ↓zr_74_5, ↓zf_74_6, ↓zs_74_6, ↓zf_74_7, ↓zs_74_7, ↓zf_74_8, ↓zs_74_8, ↓zf_74_9, ↓zs_74_9, ↓zr_74_10, ↓zr_74_11, ↓zr_74_12, ↓zf_74_13, ↓zs_74_13, ↓zr_74_14, ↓zf_74_15, ↓zs_74_15, ↓zf_74_16, ↓zs_74_16, ↓zf_74_17, ↓zs_74_17, ↓zr_74_18, ↓zr_74_19, ↓zr_74_20, ↓zr_74_21, ↓zi_75, ↓zt_75, e75, Int.add_zero]
        have hdp : sg_dp (m 75) r = sp_deep (m 75 (44 + 18 * r)) (m 75 (45 + 18 * r)) (m 75 (47 + 18 * r)) := rfl
        rw [oc_1138 hr (by simp (disch := first | omega | (unfold xm_w; omega)) only [↓zy_at, xm_O_some, xm_Oi_some, xm_Ov_some, xm_Oq_some, ↓reduceIte, ↓zz_t, ↓zz_f, ↓zi_t, ↓zi_f, eq_self, yy_d_0, Int.reduceEq, Int.reduceLT, Int.reduceLE, Int.reduceNe, Int.reduceToNat, Int.reduceAdd, Int.reduceSub, Int.reduceMul, Int.reduceNeg, Nat.reduceAdd, Nat.reduceMul, Nat.reduceSub, Nat.reduceEqDiff, Nat.reduceLT, ne_eq, not_false_eq_true, not_true_eq_false, true_and, and_true, and_self, yy_s_eq, yy_s_ne, yy_c_eq, yy_c_ne, yy_u_eq, yy_u_ne, xm_w_id, yy_at, tdiv_pos, tmod_pos, e75]; exact a1) (by simp (disch := first | omega | (unfold xm_w; omega)) only [↓zy_at, xm_O_some, xm_Oi_some, xm_Ov_some, xm_Oq_some, ↓reduceIte, ↓zz_t, ↓zz_f, ↓zi_t, ↓zi_f, eq_self, yy_d_0, Int.reduceEq, Int.reduceLT, Int.reduceLE, Int.reduceNe, Int.reduceToNat, Int.reduceAdd, Int.reduceSub, Int.reduceMul, Int.reduceNeg, Nat.reduceAdd, Nat.reduceMul, Nat.reduceSub, Nat.reduceEqDiff, Nat.reduceLT, ne_eq, not_false_eq_true, not_true_eq_false, true_and, and_true, and_self, yy_s_eq, yy_s_ne, yy_c_eq, yy_c_ne, yy_u_eq, yy_u_ne, xm_w_id, yy_at, tdiv_pos, tmod_pos, e75]; exact a3)]
        simp (disch := first | omega | (unfold xm_w; omega)) only [↓zy_at, xm_O_some, xm_Oi_some, xm_Ov_some, xm_Oq_some, ↓reduceIte, ↓zz_t, ↓zz_f, ↓zi_t, ↓zi_f, eq_self, yy_d_0, Int.reduceEq, Int.reduceLT, Int.reduceLE, Int.reduceNe, Int.reduceToNat, Int.reduceAdd, Int.reduceSub, Int.reduceMul, Int.reduceNeg, Nat.reduceAdd, Nat.reduceMul, Nat.reduceSub, Nat.reduceEqDiff, Nat.reduceLT, ne_eq, not_false_eq_true, not_true_eq_false, true_and, and_true, and_self, yy_s_eq, yy_s_ne, yy_c_eq, yy_c_ne, yy_u_eq, yy_u_ne, xm_w_id, yy_at, tdiv_pos, tmod_pos, ↓zr_74_0, ↓zr_74_1, ↓zr_74_2, ↓zf_74_3, ↓zs_74_3, ↓zf_74_4, ↓zs_74_4, ↓zr_74_5, ↓zf_74_6, ↓zs_74_6, ↓zf_74_7, ↓zs_74_7, ↓zf_74_8, ↓zs_74_8, ↓zf_74_9, ↓zs_74_9, ↓zr_74_10, ↓zr_74_11, ↓zr_74_12, ↓zf_74_13, ↓zs_74_13, ↓zr_74_14, ↓zf_74_15, ↓zs_74_15, ↓zf_74_16, ↓zs_74_16, ↓zf_74_17, ↓zs_74_17, ↓zr_74_18, ↓zr_74_19, ↓zr_74_20, ↓zr_74_21, ↓zi_75, ↓zt_75, e75, Int.add_zero]
        have ti : ∀ j : Int, 0 ≤ j → (134 + 5 * m 75 3 + j).toNat = 134 + 5 * (m 75 3).toNat + j.toNat := fun j hj => by omega
        have t0 : (134 + 5 * m 75 3).toNat = 134 + 5 * (m 75 3).toNat := by omega
        rw [ti 1 (by decide), ti 2 (by decide), ti 3 (by decide), ti 4 (by decide), t0]
        have eW : yy_s (yy_s (yy_s (yy_s (yy_s (yy_s m1 75 (134 + 5 * (m 75 3).toNat) (m 75 (46 + 18 * r))) 75 (134 + 5 * (m 75 3).toNat + Int.toNat 1) (sg_sh (m 75) r w step)) 75 (134 + 5 * (m 75 3).toNat + Int.toNat 2) (sp_deep (m 75 (44 + 18 * r)) (m 75 (45 + 18 * r)) (m 75 (47 + 18 * r)))) 75 (134 + 5 * (m 75 3).toNat + Int.toNat 3) (m 75 1)) 75 (134 + 5 * (m 75 3).toNat + Int.toNat 4) (r : Int)) 75 3 (m 75 3 + 1) = yy_c m1 75 (sg_ap (m 75) (m 75 (46 + 18 * r)) (sg_sh (m 75) r w step) (sg_dp (m 75) r) (m 75 1) r) := by
          simp only [yy_s, yy_c_c, yy_c_eq, e75]
          rfl
        rw [eW]
        have hB := sg_ap_B (c := m 75 (46 + 18 * r)) (sh := sg_sh (m 75) r w step) (dp := sg_dp (m 75) r) (h := m 75 1) (r := r) hW a2 b1
        have fin : ∀ f, (∀ c, c ≠ 75 → c ≠ 80 → c ≠ 81 → yy_c m1 75 f c = m c) := fun f c c1 c2 c3 => by rw [yy_c_ne c1]; exact f1 c c2 c3
        by_cases g3 : 40 < m 75 3 + 1
        · rw [if_pos g3, oc_1132 (d := d) (by rw [yy_c_eq]; exact hB), yy_c_eq, yy_c_c]
          refine hQ _ ⟨fin _, ?_⟩
          unfold sg_lv
          rw [if_neg (by omega), if_pos g3, yy_c_eq]
        · rw [if_neg g3]
          refine hQ _ ⟨fin _, ?_⟩
          unfold sg_lv
          rw [if_neg (by omega), if_neg g3, yy_c_eq]
  obtain ⟨q, h1, m', h2, h3⟩ := yx_of (y := 1154) (M := xm_m1154) (sc := sc) (d := d + 5) (as := [.inr (.inl (some 74)), .inl ((r : Int)), .inl (w), .inl (step)]) (w := yy_W m t) (Q := fun q => ∃ m', q = (none, yy_W m' t) ∧ ((∀ c, c ≠ 75 → c ≠ 80 → c ≠ 81 → m' c = m c) ∧ m' 75 = sg_lv (m 75) r w step)) rfl (key fun m' h => ⟨m', rfl, h⟩) (fun q ⟨m', h, _⟩ => by rw [h]; rfl) rfl (Nat.le_of_ble_eq_true rfl) (yy_hd rfl (by decide))
  exact ⟨m', by rw [h1, h2], h3⟩
/-! an hour keeps what holds -/
set_option maxRecDepth 20000 in
theorem sg_T_eq {s s' : Nat → Int} {u : Nat} (hu : u < 2) (h : ∀ k, 339 ≤ k → k < 589 → s' k = s k) (hT : sg_T s u) : sg_T s' u := by
  have hn : sg_tn s' u = sg_tn s u := h _ (by omega) (by omega)
  obtain ⟨h1, h2, h3⟩ := hT
  have hd : ∀ k : Nat, (k : Int) ≤ sg_tn s u → sg_d s' u k = sg_d s u k := by
    intro k
    induction k with
    | zero => intro _; rfl
    | succ k ih =>
      intro hk
      have e : sg_tw s' u k = sg_tw s u k := h _ (by omega) (by omega)
      unfold sg_d
      rw [ih (by omega), e]
  refine ⟨by rw [hn]; exact h1, fun h0 => ?_, fun k hk => ?_⟩
  · rw [hn] at h0 ⊢; rw [hd _ (by omega)]; exact h2 h0
  · rw [hn] at hk
    have e1 : sg_tw s' u k = sg_tw s u k := h _ (by omega) (by omega)
    have e2 : sg_tv s' u k = sg_tv s u k := h _ (by omega) (by omega)
    have := h3 k hk
    unfold sg_tok at this ⊢
    rw [e1, e2, hd k (by omega)]
    exact this
/-! what stays after a walk over the prints -/
set_option maxRecDepth 20000 in
theorem sg_clr_o {K : Nat → Bool} {s : Nat → Int} {k : Nat} (h3 : 0 ≤ s 3 ∧ s 3 ≤ 41) (hk : k ≠ 3) (h : k < 134 ∨ 339 ≤ k) : sg_clr K s k = s k := by
  obtain ⟨g, g1, g2, g3, g4, g5⟩ := sg_cl_ok K (s 3).toNat 0 0 s (Nat.le_refl 0)
  unfold sg_clr
  rw [yy_u_ne hk]
  exact g5 k (by omega)
set_option maxRecDepth 20000 in
theorem sg_clr_p {K : Nat → Bool} {s : Nat → Int} (h3 : 0 ≤ s 3 ∧ s 3 ≤ 41) : ∃ g : Nat → Nat, (0 ≤ sg_clr K s 3 ∧ sg_clr K s 3 ≤ s 3) ∧ (∀ j : Nat, (j : Int) < sg_clr K s 3 → (g j : Int) < s 3 ∧ K (g j) = true ∧ ∀ w, w < 5 → sg_p (sg_clr K s) j w = sg_p s (g j) w) ∧ ∀ j j' : Nat, j < j' → (j' : Int) < sg_clr K s 3 → g j < g j' := by
  obtain ⟨g, g1, g2, g3, g4, g5⟩ := sg_cl_ok K (s 3).toNat 0 0 s (Nat.le_refl 0)
  have e3 : sg_clr K s 3 = (sg_cl K (s 3).toNat 0 0 s).2 := yy_u_eq
  refine ⟨g, by omega, fun j hj => ?_, fun j j' hj hj' => g4 j j' (by omega) hj (by omega)⟩
  obtain ⟨a1, a2, a3, a4⟩ := g3 j (by omega) (by omega)
  refine ⟨by omega, a3, fun w hw => ?_⟩
  unfold sg_p sg_clr
  rw [yy_u_ne (by omega)]
  exact a4 w hw
/-! the orders of the prints that are kept -/
set_option maxRecDepth 20000 in
theorem sg_clr_O {K : Nat → Bool} {s : Nat → Int} {r : Int} (h3 : 0 ≤ s 3 ∧ s 3 ≤ 41) (h : sg_O s r) : sg_O (sg_clr K s) r := by
  obtain ⟨g, g1, g2, g3⟩ := sg_clr_p (K := K) h3
  have e1 : sg_clr K s 1 = s 1 := sg_clr_o h3 (by decide) (Or.inl (by decide))
  refine ⟨fun i hi => ?_, fun i j hij hj => ?_⟩
  · obtain ⟨a1, a2, a3⟩ := g2 i hi
    obtain ⟨b1, b2⟩ := h.1 (g i) a1
    unfold sg_E at b1 ⊢
    rw [e1, a3 0 (by decide), a3 1 (by decide), a3 2 (by decide), a3 3 (by decide), a3 4 (by decide)]
    exact ⟨b1, b2⟩
  · obtain ⟨a1, a2, a3⟩ := g2 i (by omega)
    obtain ⟨c1, c2, c3⟩ := g2 j hj
    have := h.2 (g i) (g j) (g3 i j hij hj) c1
    unfold sg_lt at this ⊢
    rw [a3 3 (by decide), a3 4 (by decide), c3 3 (by decide), c3 4 (by decide)]
    exact this
set_option maxRecDepth 20000 in
theorem sg_R_eq {s s' : Nat → Int} (h : ∀ k, k < 134 → k ≠ 3 → s' k = s k) (h3 : 0 ≤ s' 3 ∧ s' 3 ≤ 40) (hR : sg_R s) : sg_R s' := by
  obtain ⟨a0, a1, a2, a3, a4, a5⟩ := hR
  refine ⟨by rw [h 0 (by decide) (by decide)]; exact a0, by rw [h 1 (by decide) (by decide)]; exact a1, by rw [h 2 (by decide) (by decide)]; exact a2, h3, fun k hk => by rw [h _ (by omega) (by omega)]; exact a4 k hk, fun i hi => ?_⟩
  obtain ⟨b0, b1, b2, b3, b4, b5, b6⟩ := a5 i hi
  rw [h _ (by omega) (by omega), h _ (by omega) (by omega), h _ (by omega) (by omega), h _ (by omega) (by omega), h _ (by omega) (by omega), h _ (by omega) (by omega)]
  exact ⟨b0, b1, b2, b3, b4, b5, fun k hk => by rw [h _ (by omega) (by omega)]; exact b6 k hk⟩
set_option maxRecDepth 20000 in
theorem sg_clr_k {K : Nat → Bool} {s : Nat → Int} {c : Int} (h3 : 0 ≤ s 3 ∧ s 3 ≤ 41) (hc : 0 ≤ c ∧ c ≤ 35) : sg_k (sg_clr K s) c = sg_k s c :=
  sg_k_eq (sg_clr_o h3 (by decide) (Or.inl (by decide))) (sg_clr_o h3 (by omega) (Or.inl (by omega)))
set_option maxRecDepth 20000 in
theorem sg_clr_S {K : Nat → Bool} {s : Nat → Int} {r : Int} (h3 : 0 ≤ s 3 ∧ s 3 ≤ 41) (hO : sg_O s r) (h : ∀ i : Nat, (i : Int) < s 3 → K i = true → s 1 ≤ sg_p s i 3 + sg_k s (sg_p s i 0)) : sg_S (sg_clr K s) := by
  obtain ⟨g, g1, g2, g3⟩ := sg_clr_p (K := K) h3
  have e1 : sg_clr K s 1 = s 1 := sg_clr_o h3 (by decide) (Or.inl (by decide))
  intro i hi
  obtain ⟨a1, a2, a3⟩ := g2 i hi
  have b := (hO.1 (g i) a1).1.1
  rw [e1, a3 3 (by decide), a3 0 (by decide), sg_clr_k h3 b]
  exact h (g i) a1 a2
