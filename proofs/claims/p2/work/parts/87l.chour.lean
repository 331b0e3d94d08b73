/-! a Moor with its texts and what holds of its row -/
def yy_MX (t : xm_W) (m : Nat → Nat → Int) (b : Nat) (s : Nat → Int) : Prop := yy_MR m b s ∧ yy_TX t s 0 (m (b + 4) 0) ∧ yy_TX t s 1 (m (b + 4) 1)
set_option maxRecDepth 20000 in
theorem yy_TC_eq {t : xm_W} {s s' : Nat → Int} {u a a' : Nat} (hu : u < 2) (hs : sg_tn s u ≤ 60) (h : ∀ k, 339 ≤ k → k < 589 → s' k = s k) (hC : yy_TC t s u a a') : yy_TC t s' u a a' := by
  have hn : sg_tn s' u = sg_tn s u := h _ (by omega) (by omega)
  refine ⟨hC.1, ?_⟩
  rw [hC.2, hn]
  refine congrArg (fun l => some (Sum.inl l)) (yy_R_congr fun k hk => ?_)
  have e1 : sg_tw s' u k = sg_tw s u k := h _ (by omega) (by omega)
  have e2 : sg_tv s' u k = sg_tv s u k := h _ (by omega) (by omega)
  unfold sg_sg
  rw [e1, e2]
set_option maxRecDepth 20000 in
theorem yy_TX_eq {t : xm_W} {s s' : Nat → Int} {u : Nat} {z : Int} (hu : u < 2) (hs : sg_tn s u ≤ 60) (h : ∀ k, 339 ≤ k → k < 589 → s' k = s k) (hX : yy_TX t s u z) : yy_TX t s' u z := by
  have hn : sg_tn s' u = sg_tn s u := h _ (by omega) (by omega)
  rcases hX with ⟨h0, hz⟩ | ⟨h0, a, a', hz, hC⟩
  · exact Or.inl ⟨by rw [hn]; exact h0, hz⟩
  · exact Or.inr ⟨by rw [hn]; exact h0, a, a', hz, yy_TC_eq hu hs h hC⟩
set_option maxRecDepth 20000 in
theorem sg_lv_le {s : Nat → Int} {r : Nat} {w step : Int} (h1 : ¬ sg_sh s r w step = -1) (h2 : ¬ sg_k s (s (46 + 18 * r)) = 0) : sg_lv s r w step = sg_le s (s (46 + 18 * r)) (sg_sh s r w step) (sg_dp s r) (s 1) r := by
  unfold sg_lv sg_le
  rw [if_neg (by omega)]
set_option maxRecDepth 20000 in
theorem sg_lv_s {s : Nat → Int} {r : Nat} {w step : Int} (h : sg_sh s r w step = -1 ∨ sg_k s (s (46 + 18 * r)) = 0) : sg_lv s r w step = s := by
  unfold sg_lv; rw [if_pos h]
/-! a rider's cell and step, behind a print -/
set_option maxRecDepth 20000 in
theorem yy_MR_rd_1 {m : Nat → Nat → Int} {s : Nat → Int} {r : Nat} {c p : Int} (hr : r < 5) (hM : yy_MR m 1 s) : yy_MR (yy_s (yy_s m (8 + 2 * r) 2 c) (8 + 2 * r) 5 p) 1 (yy_u (yy_u s (46 + 18 * r) c) (49 + 18 * r) p) := by
  obtain ⟨e1, e2, e3, e4, e5, e6, e7⟩ := hM
  have o : ∀ k, k ≠ 46 + 18 * r → k ≠ 49 + 18 * r → yy_u (yy_u s (46 + 18 * r) c) (49 + 18 * r) p k = s k := fun k h1 h2 => by rw [yy_u_ne h2, yy_u_ne h1]
  refine ⟨by rw [o _ (by omega) (by omega)]; simp (disch := first | omega | (unfold xm_w; omega)) only [↓zy_at, xm_O_some, xm_Oi_some, xm_Ov_some, xm_Oq_some, ↓reduceIte, ↓zz_t, ↓zz_f, ↓zi_t, ↓zi_f, eq_self, yy_d_0, Int.reduceEq, Int.reduceLT, Int.reduceLE, Int.reduceNe, Int.reduceToNat, Int.reduceAdd, Int.reduceSub, Int.reduceMul, Int.reduceNeg, Nat.reduceAdd, Nat.reduceMul, Nat.reduceSub, Nat.reduceEqDiff, Nat.reduceLT, ne_eq, not_false_eq_true, not_true_eq_false, true_and, and_true, and_self, yy_s_eq, yy_s_ne, yy_c_eq, yy_c_ne, yy_u_eq, yy_u_ne, xm_w_id, yy_at, tdiv_pos, tmod_pos]; exact e1, by rw [o _ (by omega) (by omega)]; simp (disch := first | omega | (unfold xm_w; omega)) only [↓zy_at, xm_O_some, xm_Oi_some, xm_Ov_some, xm_Oq_some, ↓reduceIte, ↓zz_t, ↓zz_f, ↓zi_t, ↓zi_f, eq_self, yy_d_0, Int.reduceEq, Int.reduceLT, Int.reduceLE, Int.reduceNe, Int.reduceToNat, Int.reduceAdd, Int.reduceSub, Int.reduceMul, Int.reduceNeg, Nat.reduceAdd, Nat.reduceMul, Nat.reduceSub, Nat.reduceEqDiff, Nat.reduceLT, ne_eq, not_false_eq_true, not_true_eq_false, true_and, and_true, and_self, yy_s_eq, yy_s_ne, yy_c_eq, yy_c_ne, yy_u_eq, yy_u_ne, xm_w_id, yy_at, tdiv_pos, tmod_pos]; exact e2, by rw [o _ (by omega) (by omega)]; simp (disch := first | omega | (unfold xm_w; omega)) only [↓zy_at, xm_O_some, xm_Oi_some, xm_Ov_some, xm_Oq_some, ↓reduceIte, ↓zz_t, ↓zz_f, ↓zi_t, ↓zi_f, eq_self, yy_d_0, Int.reduceEq, Int.reduceLT, Int.reduceLE, Int.reduceNe, Int.reduceToNat, Int.reduceAdd, Int.reduceSub, Int.reduceMul, Int.reduceNeg, Nat.reduceAdd, Nat.reduceMul, Nat.reduceSub, Nat.reduceEqDiff, Nat.reduceLT, ne_eq, not_false_eq_true, not_true_eq_false, true_and, and_true, and_self, yy_s_eq, yy_s_ne, yy_c_eq, yy_c_ne, yy_u_eq, yy_u_ne, xm_w_id, yy_at, tdiv_pos, tmod_pos]; exact e3, by rw [o _ (by omega) (by omega)]; simp (disch := first | omega | (unfold xm_w; omega)) only [↓zy_at, xm_O_some, xm_Oi_some, xm_Ov_some, xm_Oq_some, ↓reduceIte, ↓zz_t, ↓zz_f, ↓zi_t, ↓zi_f, eq_self, yy_d_0, Int.reduceEq, Int.reduceLT, Int.reduceLE, Int.reduceNe, Int.reduceToNat, Int.reduceAdd, Int.reduceSub, Int.reduceMul, Int.reduceNeg, Nat.reduceAdd, Nat.reduceMul, Nat.reduceSub, Nat.reduceEqDiff, Nat.reduceLT, ne_eq, not_false_eq_true, not_true_eq_false, true_and, and_true, and_self, yy_s_eq, yy_s_ne, yy_c_eq, yy_c_ne, yy_u_eq, yy_u_ne, xm_w_id, yy_at, tdiv_pos, tmod_pos]; exact e4, fun k hk => by rw [o _ (by omega) (by omega)]; simp (disch := first | omega | (unfold xm_w; omega)) only [↓zy_at, xm_O_some, xm_Oi_some, xm_Ov_some, xm_Oq_some, ↓reduceIte, ↓zz_t, ↓zz_f, ↓zi_t, ↓zi_f, eq_self, yy_d_0, Int.reduceEq, Int.reduceLT, Int.reduceLE, Int.reduceNe, Int.reduceToNat, Int.reduceAdd, Int.reduceSub, Int.reduceMul, Int.reduceNeg, Nat.reduceAdd, Nat.reduceMul, Nat.reduceSub, Nat.reduceEqDiff, Nat.reduceLT, ne_eq, not_false_eq_true, not_true_eq_false, true_and, and_true, and_self, yy_s_eq, yy_s_ne, yy_c_eq, yy_c_ne, yy_u_eq, yy_u_ne, xm_w_id, yy_at, tdiv_pos, tmod_pos]; exact e5 k hk, fun k hk => by rw [o _ (by omega) (by omega)]; simp (disch := first | omega | (unfold xm_w; omega)) only [↓zy_at, xm_O_some, xm_Oi_some, xm_Ov_some, xm_Oq_some, ↓reduceIte, ↓zz_t, ↓zz_f, ↓zi_t, ↓zi_f, eq_self, yy_d_0, Int.reduceEq, Int.reduceLT, Int.reduceLE, Int.reduceNe, Int.reduceToNat, Int.reduceAdd, Int.reduceSub, Int.reduceMul, Int.reduceNeg, Nat.reduceAdd, Nat.reduceMul, Nat.reduceSub, Nat.reduceEqDiff, Nat.reduceLT, ne_eq, not_false_eq_true, not_true_eq_false, true_and, and_true, and_self, yy_s_eq, yy_s_ne, yy_c_eq, yy_c_ne, yy_u_eq, yy_u_ne, xm_w_id, yy_at, tdiv_pos, tmod_pos]; exact e6 k hk, fun i hi => ⟨fun k hk => ?_, fun k hk => ?_⟩⟩
  · by_cases e : i = r
    · subst e
      rw [yy_s_s, yy_c_eq]
      by_cases k5 : k = 5
      · subst k5; rw [yy_u_eq, show 44 + 18 * i + 5 = 49 + 18 * i by omega, yy_u_eq]
      · by_cases k2 : k = 2
        · subst k2; rw [yy_u_ne (by decide), yy_u_eq, show 44 + 18 * i + 2 = 46 + 18 * i by omega, yy_u_ne (by omega), yy_u_eq]
        · rw [yy_u_ne k5, yy_u_ne k2, o _ (by omega) (by omega)]; exact (e7 i hi).1 k hk
    · rw [o _ (by omega) (by omega), yy_s_ne (by omega), yy_s_ne (by omega)]; exact (e7 i hi).1 k hk
  · rw [o _ (by omega) (by omega), yy_s_ne (by omega), yy_s_ne (by omega)]; exact (e7 i hi).2 k hk
set_option maxRecDepth 20000 in
theorem yy_MR_r1_1 {m : Nat → Nat → Int} {s : Nat → Int} {r : Nat} {p : Int} (hr : r < 5) (hM : yy_MR m 1 s) : yy_MR (yy_s m (8 + 2 * r) 5 p) 1 (yy_u s (49 + 18 * r) p) := by
  have := yy_MR_rd_1 (c := s (46 + 18 * r)) (p := p) hr hM
  have e : s (46 + 18 * r) = m (8 + 2 * r) 2 := by rw [(hM.2.2.2.2.2.2 r hr).1 2 (by decide)]; congr 1; omega
  rw [yy_u_id] at this
  rw [e, yy_s_id] at this
  exact this
set_option maxRecDepth 20000 in
theorem c_406_1 {sc : List Int} {d : Nat} {t : xm_W} {m : Nat → Nat → Int} {r : Nat} {s : Nat → Int} (hr : r < 5) (hM : yy_MX t m 1 s) (hW : sg_W s r) (hst : s (49 + 18 * r) < s (48 + 18 * r)) : ∃ m', xm_X (xm_old sc) xm_mt (d + 5) 406 [.inr (.inl (some 1)), .inl ((r : Int)), .inr (.inl (some (8 + 2 * r)))] (yy_W m t) = some (none, yy_W m' t) ∧ yy_Fb m m' 1 ∧ yy_MR m' 1 (sg_rd s r) := by
  have key : ∀ {Q : Option xm_V × xm_W → Prop}, (∀ m', (yy_Fb m m' 1 ∧ yy_MR m' 1 (sg_rd s r)) → Q (none, yy_W m' t)) → xm_EQ (xm_old sc) xm_sta (xm_X (xm_old sc) xm_mt (d + 4)) xm_m406.2.2.2.2.2.2.2 0 (xm_loc xm_m406.2.2.1 [.inr (.inl (some 1)), .inl ((r : Int)), .inr (.inl (some (8 + 2 * r)))]) [] (yy_W m t) Q := by
    intro Q hQ
    obtain ⟨hR, hO, hS, hT, hT1⟩ := id hW
    have hw := sg_way_r hr hR hst
    obtain ⟨hMR, hX, hX1⟩ := id hM
    obtain ⟨e1, e2, e3, e4, e5, e6, e7⟩ := id hMR
    obtain ⟨b0, b1, b2, b3, hso, hrd⟩ := id hR
    obtain ⟨a0, a1, a2, a3, a4, a5, a6⟩ := hrd r hr
    have hq : yy_rd (8 + 2 * r) := yy_rdn8 hr
    have f0 : m (8 + 2 * r) 0 = s (44 + 18 * r) := (e7 r hr).1 0 (by decide)
    have f2 : m (8 + 2 * r) 2 = s (46 + 18 * r) := by rw [(e7 r hr).1 2 (by decide)]; congr 1; omega
    have f5 : m (8 + 2 * r) 5 = s (49 + 18 * r) := by rw [(e7 r hr).1 5 (by decide)]; congr 1; omega
    have fw : m (8 + 2 * r + 1) (s (49 + 18 * r)).toNat = sg_way s r := by
      have := (e7 r hr).2 (s (49 + 18 * r)).toNat (by omega)
      rw [show 9 + 2 * r = 8 + 2 * r + 1 by omega] at this
      exact this
    have hnr := sg_next_r (w := sg_way s r) a2
    refine xb_406_0 ?_
    rw [gr_6 hq, gf_5 hq, gi_1 hq, f5, zy_at (by omega) (by omega), fw, gf_2 hq, f2, oc_150 a2.1 (by omega)]
    unfold sg_rd at hQ
    by_cases g1 : sp_next (s (46 + 18 * r)) (sg_way s r) = -1
    · rw [if_pos g1] at hQ
      rw [if_pos (by omega), gf_5 hq, f5, xm_w_id (by omega) (by omega), gs_5 hq]
      exact hQ _ ⟨fun c hc => yy_s_ne (by omega), yy_MR_r1_1 hr hMR⟩
    · rw [if_neg g1] at hQ
      rw [if_neg (by omega), gf_0 hq, f0]
      have fin : ∀ m1, yy_Fb m m1 1 → m1 (8 + 2 * r) = m (8 + 2 * r) → yy_MR m1 1 (sg_lv s r (sg_way s r) (s (49 + 18 * r))) → xm_O (xm_setf (yy_W m1 t) (8 + 2 * r) 4 2 0 (.inl (sp_next (s (46 + 18 * r)) (sg_way s r)))) (fun w30 => xm_O (xm_fi (xm_old sc) w30 (8 + 2 * r) 4 5) (fun z31 => xm_O (xm_setf w30 (8 + 2 * r) 4 5 0 (.inl (xm_w (z31 + 1)))) (fun w32 => Q (none, w32)))) := by
        intro m1 h1 h2 h3
        rw [gs_2 hq, gf_5 hq, yy_s_eq, yy_u_ne (by decide), h2, f5, xm_w_id (by omega) (by omega), gs_5 hq]
        exact hQ _ ⟨fun c hc => by rw [yy_s_ne (by omega), yy_s_ne (by omega)]; exact h1 c hc, yy_MR_rd_1 hr h3⟩
      have h41 : ∀ sh, 0 ≤ sh ∧ sh ≤ 3 → s 3 = 40 → ∀ k, sg_clr (sg_K (sg_ap s (s (46 + 18 * r)) sh (sg_dp s r) (s 1) r) 1 (-1)) (sg_ap s (s (46 + 18 * r)) sh (sg_dp s r) (s 1) r) k = if k = 3 then 40 else if 134 ≤ k ∧ k < 334 then sg_ap s (s (46 + 18 * r)) sh (sg_dp s r) (s 1) r (k + 5) else sg_ap s (s (46 + 18 * r)) sh (sg_dp s r) (s 1) r k := by
        intro sh hsh h40
        have dp := sg_deep_r (k := s (44 + 18 * r)) a1 a3
        exact sg_shift (by rw [sg_ap_3]; omega) (sg_ap_O (c := s (46 + 18 * r)) (sh := sh) (dp := sg_dp s r) b3.1 hO b1 a2 hsh dp (by omega)) (sg_ap_S hR hO hS a2)
      have shr := sg_sh_r (s := s) (r := r) (step := s (49 + 18 * r)) hw
      have rest : ∀ m1 z, z = sg_sh s r (sg_way s r) (s (49 + 18 * r)) → (∀ c, c ≠ 6 → c ≠ 7 → m1 c = m c) → xm_O (xm_fi (xm_old sc) (yy_W m1 t) (8 + 2 * r) 4 2) (fun z33 => xm_Oi (xm_X (xm_old sc) xm_mt (d + 4) 403 [.inr (.inl (some 1)), .inl (z33)] (yy_W (m1) t)) (fun z35 w34 => if (0 : Int) < z35 then xm_Ov (xm_X (xm_old sc) xm_mt (d + 4) 408 [.inr (.inl (some 1)), .inl (r : Int), .inr (.inl (some (8 + 2 * r))), .inl z] w34) (fun w39 => xm_O (xm_setf w39 (8 + 2 * r) 4 2 0 (.inl (sp_next (s (46 + 18 * r)) (sg_way s r)))) (fun w40 => xm_O (xm_fi (xm_old sc) w40 (8 + 2 * r) 4 5) (fun z41 => xm_O (xm_setf w40 (8 + 2 * r) 4 5 0 (.inl (xm_w (z41 + 1)))) (fun w42 => Q (none, w42))))) else xm_O (xm_setf w34 (8 + 2 * r) 4 2 0 (.inl (sp_next (s (46 + 18 * r)) (sg_way s r)))) (fun w36 => xm_O (xm_fi (xm_old sc) w36 (8 + 2 * r) 4 5) (fun z37 => xm_O (xm_setf w36 (8 + 2 * r) 4 5 0 (.inl (xm_w (z37 + 1)))) (fun w38 => Q (none, w38)))))) ∨ z = -1 := by
        intro m1 z hz h1
        by_cases hz1 : z = -1
        · exact Or.inr hz1
        · left
          have hM1 : yy_MR m1 1 s := yy_MR_fr (fun c hc => h1 c (by omega) (by omega)) hMR
          have f2' : m1 (8 + 2 * r) 2 = s (46 + 18 * r) := by rw [h1 _ (by omega) (by omega)]; exact f2
          have hF1 : yy_Fb m m1 1 := fun c hc => h1 c (by omega) (by omega)
          have kr := sg_k_r (c := s (46 + 18 * r)) b2
          rw [gf_2 hq, f2', oc_403_1 (d := d + 3) hM1 a2 b2]
          by_cases gk : sg_k s (s (46 + 18 * r)) = 0
          · rw [if_neg (by omega)]
            exact fin m1 hF1 (h1 _ (by omega) (by omega)) (by rw [sg_lv_s (Or.inr gk)]; exact hM1)
          · rw [if_pos (by omega)]
            obtain ⟨m2, e, g2, g3⟩ := c_408_1 (sc := sc) (d := d + 2) (t := t) (m := m1) (r := r) (sh := z) hr hM1 hR (h41 z (by omega))
            rw [e, xm_Ov_some]
            exact fin m2 (fun c hc => by rw [g2 c (by omega) (by omega)]; exact hF1 c hc) (by rw [g2 _ (by omega) (by omega)]; exact h1 _ (by omega) (by omega)) (by rw [sg_lv_le (by rw [← hz]; exact hz1) gk, ← hz]; exact g3)
      by_cases g6 : s (44 + 18 * r) = 6
      · rw [if_pos g6]
        obtain ⟨m1, e, g2⟩ := c_407_1 (sc := sc) (d := d) (t := t) (m := m) (r := r) (w := sg_way s r) hr hMR hR hT hX hw
        have es : sg_told s r (sg_way s r) (s (49 + 18 * r)) = sg_sh s r (sg_way s r) (s (49 + 18 * r)) := by unfold sg_sh; rw [if_pos g6]
        rw [e, xm_Oi_some, es]
        by_cases gz : sg_sh s r (sg_way s r) (s (49 + 18 * r)) = -1
        · rw [if_pos (by omega)]
          exact fin m1 (fun c hc => g2 c (by omega) (by omega)) (g2 _ (by omega) (by omega)) (by rw [sg_lv_s (Or.inl gz)]; exact yy_MR_fr (fun c hc => g2 c (by omega) (by omega)) hMR)
        · rw [if_neg (by omega)]
          exact (rest m1 _ rfl g2).resolve_right gz
      · rw [if_neg g6, gf_0 hq, gf_5 hq, f0, f5, oc_152 (by omega) (by omega) (by omega)]
        have es : sp_shown (s (44 + 18 * r)) (sg_way s r) (s (49 + 18 * r)) = sg_sh s r (sg_way s r) (s (49 + 18 * r)) := by unfold sg_sh; rw [if_neg g6]
        rw [es]
        by_cases gz : sg_sh s r (sg_way s r) (s (49 + 18 * r)) = -1
        · rw [if_pos (by omega)]
          exact fin m (fun c hc => rfl) rfl (by rw [sg_lv_s (Or.inl gz)]; exact hMR)
        · rw [if_neg (by omega)]
          exact (rest m _ rfl (fun _ _ _ => rfl)).resolve_right gz
  obtain ⟨q, h1, m', h2, h3⟩ := yx_of (y := 406) (M := xm_m406) (sc := sc) (d := d + 4) (as := [.inr (.inl (some 1)), .inl ((r : Int)), .inr (.inl (some (8 + 2 * r)))]) (w := yy_W m t) (Q := fun q => ∃ m', q = (none, yy_W m' t) ∧ (yy_Fb m m' 1 ∧ yy_MR m' 1 (sg_rd s r))) rfl (key fun m' h => ⟨m', rfl, h⟩) (fun q ⟨m', h, _⟩ => by rw [h]; rfl) rfl (Nat.le_of_ble_eq_true rfl) (yy_hd rfl (by decide))
  exact ⟨m', by rw [h1, h2], h3⟩
/-! a rider's cell and step, behind a print -/
set_option maxRecDepth 20000 in
theorem yy_MR_rd_18 {m : Nat → Nat → Int} {s : Nat → Int} {r : Nat} {c p : Int} (hr : r < 5) (hM : yy_MR m 18 s) : yy_MR (yy_s (yy_s m (25 + 2 * r) 2 c) (25 + 2 * r) 5 p) 18 (yy_u (yy_u s (46 + 18 * r) c) (49 + 18 * r) p) := by
  obtain ⟨e1, e2, e3, e4, e5, e6, e7⟩ := hM
  have o : ∀ k, k ≠ 46 + 18 * r → k ≠ 49 + 18 * r → yy_u (yy_u s (46 + 18 * r) c) (49 + 18 * r) p k = s k := fun k h1 h2 => by rw [yy_u_ne h2, yy_u_ne h1]
  refine ⟨by rw [o _ (by omega) (by omega)]; simp (disch := first | omega | (unfold xm_w; omega)) only [↓zy_at, xm_O_some, xm_Oi_some, xm_Ov_some, xm_Oq_some, ↓reduceIte, ↓zz_t, ↓zz_f, ↓zi_t, ↓zi_f, eq_self, yy_d_0, Int.reduceEq, Int.reduceLT, Int.reduceLE, Int.reduceNe, Int.reduceToNat, Int.reduceAdd, Int.reduceSub, Int.reduceMul, Int.reduceNeg, Nat.reduceAdd, Nat.reduceMul, Nat.reduceSub, Nat.reduceEqDiff, Nat.reduceLT, ne_eq, not_false_eq_true, not_true_eq_false, true_and, and_true, and_self, yy_s_eq, yy_s_ne, yy_c_eq, yy_c_ne, yy_u_eq, yy_u_ne, xm_w_id, yy_at, tdiv_pos, tmod_pos]; exact e1, by rw [o _ (by omega) (by omega)]; simp (disch := first | omega | (unfold xm_w; omega)) only [↓zy_at, xm_O_some, xm_Oi_some, xm_Ov_some, xm_Oq_some, ↓reduceIte, ↓zz_t, ↓zz_f, ↓zi_t, ↓zi_f, eq_self, yy_d_0, Int.reduceEq, Int.reduceLT, Int.reduceLE, Int.reduceNe, Int.reduceToNat, Int.reduceAdd, Int.reduceSub, Int.reduceMul, Int.reduceNeg, Nat.reduceAdd, Nat.reduceMul, Nat.reduceSub, Nat.reduceEqDiff, Nat.reduceLT, ne_eq, not_false_eq_true, not_true_eq_false, true_and, and_true, and_self, yy_s_eq, yy_s_ne, yy_c_eq, yy_c_ne, yy_u_eq, yy_u_ne, xm_w_id, yy_at, tdiv_pos, tmod_pos]; exact e2, by rw [o _ (by omega) (by omega)]; simp (disch := first | omega | (unfold xm_w; omega)) only [↓zy_at, xm_O_some, xm_Oi_some, xm_Ov_some, xm_Oq_some, ↓reduceIte, ↓zz_t, ↓zz_f, ↓zi_t, ↓zi_f, eq_self, yy_d_0, Int.reduceEq, Int.reduceLT, Int.reduceLE, Int.reduceNe, Int.reduceToNat, Int.reduceAdd, Int.reduceSub, Int.reduceMul, Int.reduceNeg, Nat.reduceAdd, Nat.reduceMul, Nat.reduceSub, Nat.reduceEqDiff, Nat.reduceLT, ne_eq, not_false_eq_true, not_true_eq_false, true_and, and_true, and_self, yy_s_eq, yy_s_ne, yy_c_eq, yy_c_ne, yy_u_eq, yy_u_ne, xm_w_id, yy_at, tdiv_pos, tmod_pos]; exact e3, by rw [o _ (by omega) (by omega)]; simp (disch := first | omega | (unfold xm_w; omega)) only [↓zy_at, xm_O_some, xm_Oi_some, xm_Ov_some, xm_Oq_some, ↓reduceIte, ↓zz_t, ↓zz_f, ↓zi_t, ↓zi_f, eq_self, yy_d_0, Int.reduceEq, Int.reduceLT, Int.reduceLE, Int.reduceNe, Int.reduceToNat, Int.reduceAdd, Int.reduceSub, Int.reduceMul, Int.reduceNeg, Nat.reduceAdd, Nat.reduceMul, Nat.reduceSub, Nat.reduceEqDiff, Nat.reduceLT, ne_eq, not_false_eq_true, not_true_eq_false, true_and, and_true, and_self, yy_s_eq, yy_s_ne, yy_c_eq, yy_c_ne, yy_u_eq, yy_u_ne, xm_w_id, yy_at, tdiv_pos, tmod_pos]; exact e4, fun k hk => by rw [o _ (by omega) (by omega)]; simp (disch := first | omega | (unfold xm_w; omega)) only [↓zy_at, xm_O_some, xm_Oi_some, xm_Ov_some, xm_Oq_some, ↓reduceIte, ↓zz_t, ↓zz_f, ↓zi_t, ↓zi_f, eq_self, yy_d_0, Int.reduceEq, Int.reduceLT, Int.reduceLE, Int.reduceNe, Int.reduceToNat, Int.reduceAdd, Int.reduceSub, Int.reduceMul, Int.reduceNeg, Nat.reduceAdd, Nat.reduceMul, Nat.reduceSub, Nat.reduceEqDiff, Nat.reduceLT, ne_eq, not_false_eq_true, not_true_eq_false, true_and, and_true, and_self, yy_s_eq, yy_s_ne, yy_c_eq, yy_c_ne, yy_u_eq, yy_u_ne, xm_w_id, yy_at, tdiv_pos, tmod_pos]; exact e5 k hk, fun k hk => by rw [o _ (by omega) (by omega)]; simp (disch := first | omega | (unfold xm_w; omega)) only [↓zy_at, xm_O_some, xm_Oi_some, xm_Ov_some, xm_Oq_some, ↓reduceIte, ↓zz_t, ↓zz_f, ↓zi_t, ↓zi_f, eq_self, yy_d_0, Int.reduceEq, Int.reduceLT, Int.reduceLE, Int.reduceNe, Int.reduceToNat, Int.reduceAdd, Int.reduceSub, Int.reduceMul, Int.reduceNeg, Nat.reduceAdd, Nat.reduceMul, Nat.reduceSub, Nat.reduceEqDiff, Nat.reduceLT, ne_eq, not_false_eq_true, not_true_eq_false, true_and, and_true, and_self, yy_s_eq, yy_s_ne, yy_c_eq, yy_c_ne, yy_u_eq, yy_u_ne, xm_w_id, yy_at, tdiv_pos, tmod_pos]; exact e6 k hk, fun i hi => ⟨fun k hk => ?_, fun k hk => ?_⟩⟩
  · by_cases e : i = r
    · subst e
      rw [yy_s_s, yy_c_eq]
      by_cases k5 : k = 5
      · subst k5; rw [yy_u_eq, show 44 + 18 * i + 5 = 49 + 18 * i by omega, yy_u_eq]
      · by_cases k2 : k = 2
        · subst k2; rw [yy_u_ne (by decide), yy_u_eq, show 44 + 18 * i + 2 = 46 + 18 * i by omega, yy_u_ne (by omega), yy_u_eq]
        · rw [yy_u_ne k5, yy_u_ne k2, o _ (by omega) (by omega)]; exact (e7 i hi).1 k hk
    · rw [o _ (by omega) (by omega), yy_s_ne (by omega), yy_s_ne (by omega)]; exact (e7 i hi).1 k hk
  · rw [o _ (by omega) (by omega), yy_s_ne (by omega), yy_s_ne (by omega)]; exact (e7 i hi).2 k hk
set_option maxRecDepth 20000 in
theorem yy_MR_r1_18 {m : Nat → Nat → Int} {s : Nat → Int} {r : Nat} {p : Int} (hr : r < 5) (hM : yy_MR m 18 s) : yy_MR (yy_s m (25 + 2 * r) 5 p) 18 (yy_u s (49 + 18 * r) p) := by
  have := yy_MR_rd_18 (c := s (46 + 18 * r)) (p := p) hr hM
  have e : s (46 + 18 * r) = m (25 + 2 * r) 2 := by rw [(hM.2.2.2.2.2.2 r hr).1 2 (by decide)]; congr 1; omega
  rw [yy_u_id] at this
  rw [e, yy_s_id] at this
  exact this
set_option maxRecDepth 20000 in
theorem c_406_18 {sc : List Int} {d : Nat} {t : xm_W} {m : Nat → Nat → Int} {r : Nat} {s : Nat → Int} (hr : r < 5) (hM : yy_MX t m 18 s) (hW : sg_W s r) (hst : s (49 + 18 * r) < s (48 + 18 * r)) : ∃ m', xm_X (xm_old sc) xm_mt (d + 5) 406 [.inr (.inl (some 18)), .inl ((r : Int)), .inr (.inl (some (25 + 2 * r)))] (yy_W m t) = some (none, yy_W m' t) ∧ yy_Fb m m' 18 ∧ yy_MR m' 18 (sg_rd s r) := by
  have key : ∀ {Q : Option xm_V × xm_W → Prop}, (∀ m', (yy_Fb m m' 18 ∧ yy_MR m' 18 (sg_rd s r)) → Q (none, yy_W m' t)) → xm_EQ (xm_old sc) xm_sta (xm_X (xm_old sc) xm_mt (d + 4)) xm_m406.2.2.2.2.2.2.2 0 (xm_loc xm_m406.2.2.1 [.inr (.inl (some 18)), .inl ((r : Int)), .inr (.inl (some (25 + 2 * r)))]) [] (yy_W m t) Q := by
    intro Q hQ
    obtain ⟨hR, hO, hS, hT, hT1⟩ := id hW
    have hw := sg_way_r hr hR hst
    obtain ⟨hMR, hX, hX1⟩ := id hM
    obtain ⟨e1, e2, e3, e4, e5, e6, e7⟩ := id hMR
    obtain ⟨b0, b1, b2, b3, hso, hrd⟩ := id hR
    obtain ⟨a0, a1, a2, a3, a4, a5, a6⟩ := hrd r hr
    have hq : yy_rd (25 + 2 * r) := yy_rdn25 hr
    have f0 : m (25 + 2 * r) 0 = s (44 + 18 * r) := (e7 r hr).1 0 (by decide)
    have f2 : m (25 + 2 * r) 2 = s (46 + 18 * r) := by rw [(e7 r hr).1 2 (by decide)]; congr 1; omega
    have f5 : m (25 + 2 * r) 5 = s (49 + 18 * r) := by rw [(e7 r hr).1 5 (by decide)]; congr 1; omega
    have fw : m (25 + 2 * r + 1) (s (49 + 18 * r)).toNat = sg_way s r := by
      have := (e7 r hr).2 (s (49 + 18 * r)).toNat (by omega)
      rw [show 26 + 2 * r = 25 + 2 * r + 1 by omega] at this
      exact this
    have hnr := sg_next_r (w := sg_way s r) a2
    refine xb_406_0 ?_
    rw [gr_6 hq, gf_5 hq, gi_1 hq, f5, zy_at (by omega) (by omega), fw, gf_2 hq, f2, oc_150 a2.1 (by omega)]
    unfold sg_rd at hQ
    by_cases g1 : sp_next (s (46 + 18 * r)) (sg_way s r) = -1
    · rw [if_pos g1] at hQ
      rw [if_pos (by omega), gf_5 hq, f5, xm_w_id (by omega) (by omega), gs_5 hq]
      exact hQ _ ⟨fun c hc => yy_s_ne (by omega), yy_MR_r1_18 hr hMR⟩
    · rw [if_neg g1] at hQ
      rw [if_neg (by omega), gf_0 hq, f0]
      have fin : ∀ m1, yy_Fb m m1 18 → m1 (25 + 2 * r) = m (25 + 2 * r) → yy_MR m1 18 (sg_lv s r (sg_way s r) (s (49 + 18 * r))) → xm_O (xm_setf (yy_W m1 t) (25 + 2 * r) 4 2 0 (.inl (sp_next (s (46 + 18 * r)) (sg_way s r)))) (fun w30 => xm_O (xm_fi (xm_old sc) w30 (25 + 2 * r) 4 5) (fun z31 => xm_O (xm_setf w30 (25 + 2 * r) 4 5 0 (.inl (xm_w (z31 + 1)))) (fun w32 => Q (none, w32)))) := by
        intro m1 h1 h2 h3
        rw [gs_2 hq, gf_5 hq, yy_s_eq, yy_u_ne (by decide), h2, f5, xm_w_id (by omega) (by omega), gs_5 hq]
        exact hQ _ ⟨fun c hc => by rw [yy_s_ne (by omega), yy_s_ne (by omega)]; exact h1 c hc, yy_MR_rd_18 hr h3⟩
      have h41 : ∀ sh, 0 ≤ sh ∧ sh ≤ 3 → s 3 = 40 → ∀ k, sg_clr (sg_K (sg_ap s (s (46 + 18 * r)) sh (sg_dp s r) (s 1) r) 1 (-1)) (sg_ap s (s (46 + 18 * r)) sh (sg_dp s r) (s 1) r) k = if k = 3 then 40 else if 134 ≤ k ∧ k < 334 then sg_ap s (s (46 + 18 * r)) sh (sg_dp s r) (s 1) r (k + 5) else sg_ap s (s (46 + 18 * r)) sh (sg_dp s r) (s 1) r k := by
        intro sh hsh h40
        have dp := sg_deep_r (k := s (44 + 18 * r)) a1 a3
        exact sg_shift (by rw [sg_ap_3]; omega) (sg_ap_O (c := s (46 + 18 * r)) (sh := sh) (dp := sg_dp s r) b3.1 hO b1 a2 hsh dp (by omega)) (sg_ap_S hR hO hS a2)
      have shr := sg_sh_r (s := s) (r := r) (step := s (49 + 18 * r)) hw
      have rest : ∀ m1 z, z = sg_sh s r (sg_way s r) (s (49 + 18 * r)) → (∀ c, c ≠ 23 → c ≠ 24 → m1 c = m c) → xm_O (xm_fi (xm_old sc) (yy_W m1 t) (25 + 2 * r) 4 2) (fun z33 => xm_Oi (xm_X (xm_old sc) xm_mt (d + 4) 403 [.inr (.inl (some 18)), .inl (z33)] (yy_W (m1) t)) (fun z35 w34 => if (0 : Int) < z35 then xm_Ov (xm_X (xm_old sc) xm_mt (d + 4) 408 [.inr (.inl (some 18)), .inl (r : Int), .inr (.inl (some (25 + 2 * r))), .inl z] w34) (fun w39 => xm_O (xm_setf w39 (25 + 2 * r) 4 2 0 (.inl (sp_next (s (46 + 18 * r)) (sg_way s r)))) (fun w40 => xm_O (xm_fi (xm_old sc) w40 (25 + 2 * r) 4 5) (fun z41 => xm_O (xm_setf w40 (25 + 2 * r) 4 5 0 (.inl (xm_w (z41 + 1)))) (fun w42 => Q (none, w42))))) else xm_O (xm_setf w34 (25 + 2 * r) 4 2 0 (.inl (sp_next (s (46 + 18 * r)) (sg_way s r)))) (fun w36 => xm_O (xm_fi (xm_old sc) w36 (25 + 2 * r) 4 5) (fun z37 => xm_O (xm_setf w36 (25 + 2 * r) 4 5 0 (.inl (xm_w (z37 + 1)))) (fun w38 => Q (none, w38)))))) ∨ z = -1 := by
        intro m1 z hz h1
        by_cases hz1 : z = -1
        · exact Or.inr hz1
        · left
          have hM1 : yy_MR m1 18 s := yy_MR_fr (fun c hc => h1 c (by omega) (by omega)) hMR
          have f2' : m1 (25 + 2 * r) 2 = s (46 + 18 * r) := by rw [h1 _ (by omega) (by omega)]; exact f2
          have hF1 : yy_Fb m m1 18 := fun c hc => h1 c (by omega) (by omega)
          have kr := sg_k_r (c := s (46 + 18 * r)) b2
          rw [gf_2 hq, f2', oc_403_18 (d := d + 3) hM1 a2 b2]
          by_cases gk : sg_k s (s (46 + 18 * r)) = 0
          · rw [if_neg (by omega)]
            exact fin m1 hF1 (h1 _ (by omega) (by omega)) (by rw [sg_lv_s (Or.inr gk)]; exact hM1)
          · rw [if_pos (by omega)]
            obtain ⟨m2, e, g2, g3⟩ := c_408_18 (sc := sc) (d := d + 2) (t := t) (m := m1) (r := r) (sh := z) hr hM1 hR (h41 z (by omega))
            rw [e, xm_Ov_some]
            exact fin m2 (fun c hc => by rw [g2 c (by omega) (by omega)]; exact hF1 c hc) (by rw [g2 _ (by omega) (by omega)]; exact h1 _ (by omega) (by omega)) (by rw [sg_lv_le (by rw [← hz]; exact hz1) gk, ← hz]; exact g3)
      by_cases g6 : s (44 + 18 * r) = 6
      · rw [if_pos g6]
        obtain ⟨m1, e, g2⟩ := c_407_18 (sc := sc) (d := d) (t := t) (m := m) (r := r) (w := sg_way s r) hr hMR hR hT hX hw
        have es : sg_told s r (sg_way s r) (s (49 + 18 * r)) = sg_sh s r (sg_way s r) (s (49 + 18 * r)) := by unfold sg_sh; rw [if_pos g6]
        rw [e, xm_Oi_some, es]
        by_cases gz : sg_sh s r (sg_way s r) (s (49 + 18 * r)) = -1
        · rw [if_pos (by omega)]
          exact fin m1 (fun c hc => g2 c (by omega) (by omega)) (g2 _ (by omega) (by omega)) (by rw [sg_lv_s (Or.inl gz)]; exact yy_MR_fr (fun c hc => g2 c (by omega) (by omega)) hMR)
        · rw [if_neg (by omega)]
          exact (rest m1 _ rfl g2).resolve_right gz
      · rw [if_neg g6, gf_0 hq, gf_5 hq, f0, f5, oc_152 (by omega) (by omega) (by omega)]
        have es : sp_shown (s (44 + 18 * r)) (sg_way s r) (s (49 + 18 * r)) = sg_sh s r (sg_way s r) (s (49 + 18 * r)) := by unfold sg_sh; rw [if_neg g6]
        rw [es]
        by_cases gz : sg_sh s r (sg_way s r) (s (49 + 18 * r)) = -1
        · rw [if_pos (by omega)]
          exact fin m (fun c hc => rfl) rfl (by rw [sg_lv_s (Or.inl gz)]; exact hMR)
        · rw [if_neg (by omega)]
          exact (rest m _ rfl (fun _ _ _ => rfl)).resolve_right gz
  obtain ⟨q, h1, m', h2, h3⟩ := yx_of (y := 406) (M := xm_m406) (sc := sc) (d := d + 4) (as := [.inr (.inl (some 18)), .inl ((r : Int)), .inr (.inl (some (25 + 2 * r)))]) (w := yy_W m t) (Q := fun q => ∃ m', q = (none, yy_W m' t) ∧ (yy_Fb m m' 18 ∧ yy_MR m' 18 (sg_rd s r))) rfl (key fun m' h => ⟨m', rfl, h⟩) (fun q ⟨m', h, _⟩ => by rw [h]; rfl) rfl (Nat.le_of_ble_eq_true rfl) (yy_hd rfl (by decide))
  exact ⟨m', by rw [h1, h2], h3⟩
