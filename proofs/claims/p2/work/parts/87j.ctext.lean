/-! TEXTS of the class: signs in cells from 87 on -/
def sg_ix (u : Nat) (v : Int) : Int := if u = 0 then (if v = 119 then 0 else if v = 115 then 1 else if v = 109 then 2 else 3) else (if v = 110 then 0 else if v = 100 then 1 else 2)
def sg_sg (s : Nat → Int) (u k : Nat) : Int := if sg_tw s u k = 0 then sg_tv s u k else if sg_tw s u k = 1 then -1 - sg_ix u (sg_tv s u k) else if sg_tw s u k = 2 then -43 else -10 - sg_tv s u k
def yy_TC (t : xm_W) (s : Nat → Int) (u a a' : Nat) : Prop := t[a]? = some (.inr (.inr (7, [.inr (.inl (some (87 + a')))]))) ∧ t[a']? = some (.inl (yy_R (sg_tn s u).toNat (sg_sg s u)))
def yy_TX (t : xm_W) (s : Nat → Int) (u : Nat) (z : Int) : Prop := (sg_tn s u = 0 ∧ yy_d z = none) ∨ (0 < sg_tn s u ∧ ∃ a a', yy_d z = some (87 + a) ∧ yy_TC t s u a a')
section zx_sec
variable {o : xm_W} {m : Nat → Nat → Int} {t : xm_W} {a a' : Nat} {l : List Int}
set_option maxRecDepth 20000 in
theorem zx_fr {F : Nat → Prop} (h : t[a]? = some (.inr (.inr (7, [.inr (.inl (some (87 + a')))])))) : xm_O (xm_fr o (yy_W m t) (87 + a) 7 0) F = F (87 + a') := by
  have h2 : (yy_W m t)[87 + a]? = some (.inr (.inr (7, [.inr (.inl (some (87 + a')))]))) := by rw [yy_ge (by omega), Nat.add_sub_cancel_left]; exact h
  rw [xw_fr h2 rfl]; rfl
set_option maxRecDepth 20000 in
theorem zx_in {F : List Int → Prop} (h : t[a]? = some (.inl l)) : xm_O (xm_ints o (yy_W m t) (87 + a)) F = F l := by
  have h2 : (yy_W m t)[87 + a]? = some (.inl l) := by rw [yy_ge (by omega), Nat.add_sub_cancel_left]; exact h
  rw [xw_ints h2]; rfl
set_option maxRecDepth 20000 in
theorem zx_ln {F : Nat → Prop} (h : t[a]? = some (.inl l)) (hl : l.length < 1000000) : xm_O (xm_len o (yy_W m t) (87 + a)) F = F l.length := by
  have h2 : (yy_W m t)[87 + a]? = some (.inl l) := by rw [yy_ge (by omega), Nat.add_sub_cancel_left]; exact h
  rw [xw_len h2 hl]; rfl
set_option maxRecDepth 20000 in
theorem zx_hd {as : List xm_V} (h : t[a]? = some (.inr (.inr (7, [.inr (.inl (some (87 + a')))])))) : xm_hd o (yy_W m t) 8 (.inr (.inl (some (87 + a))) :: as) := by
  have h2 : (yy_W m t)[87 + a]? = some (.inr (.inr (7, [.inr (.inl (some (87 + a')))]))) := by rw [yy_ge (by omega), Nat.add_sub_cancel_left]; exact h
  exact xw_hd h2
end zx_sec
set_option maxRecDepth 20000 in
theorem sg_ix_b {u : Nat} {v : Int} : 0 ≤ sg_ix u v ∧ sg_ix u v ≤ 3 := by
  unfold sg_ix; repeat' split
  all_goals omega
set_option maxRecDepth 20000 in
theorem sg_sign_b {o : Int} (h : sp_sign o) : 37 ≤ o ∧ o ≤ 124 := by
  unfold sp_sign at h; omega
set_option maxRecDepth 20000 in
theorem l_902_1 {sc : List Int} {d : Nat} {t : xm_W} {Q : Option xm_V × xm_W → Prop} {u a a' : Nat} {s : Nat → Int} {nc : Nat → Int} (hT : sg_T s u) (h0 : 0 < sg_tn s u) (hC : yy_TC t s u a a') : ∀ (k i : Nat) (m : Nat → Nat → Int) (v : Option xm_V), ((i + k : Nat) : Int) = sg_tn s u → m 6 = nc → (∀ j, j < (sg_rn s u (fun v => nc (sg_ix u v).toNat) i).2 → m 7 j = (sg_rn s u (fun v => nc (sg_ix u v).toNat) i).1 j) → (∀ m', (∀ c, c ≠ 7 → m' c = m c) → Q ((some (.inl (sg_val s u (fun v => nc (sg_ix u v).toNat))), (yy_W (m') t)))) → xm_EQ (xm_old sc) xm_sta (xm_X (xm_old sc) xm_mt (d + 1)) xm_c902 4 [some (.inr (.inl (some (87 + a)))), some (.inr (.inl (some 6))), some (.inr (.inl (some 7))), some (.inl ((sg_d s u i))), some (.inl ((i : Int))), v] [] (yy_W (m) t) Q
  | 0, i, m, v, hk, hn, hp, hQ => by
    obtain ⟨t1, t2, t3⟩ := id hT
    obtain ⟨d1, d2⟩ := sg_rn_d (nm := fun v => nc (sg_ix u v).toNat) hT i (by omega)
    have ei : i = (sg_tn s u).toNat := by omega
    have hd := t2 h0
    rw [← ei] at hd
    refine xb_902_4 ?_
    rw [zx_fr hC.1, zx_ln hC.2 (by rw [yy_R_len]; omega), yy_R_len, if_neg (by omega), if_pos (by omega)]
    simp (disch := first | omega | (unfold xm_w; omega)) only [↓zy_at, xm_O_some, xm_Oi_some, xm_Ov_some, xm_Oq_some, ↓reduceIte, ↓zz_t, ↓zz_f, ↓zi_t, ↓zi_f, eq_self, yy_d_0, Int.reduceEq, Int.reduceLT, Int.reduceLE, Int.reduceNe, Int.reduceToNat, Int.reduceAdd, Int.reduceSub, Int.reduceMul, Int.reduceNeg, Nat.reduceAdd, Nat.reduceMul, Nat.reduceSub, Nat.reduceEqDiff, Nat.reduceLT, ne_eq, not_false_eq_true, not_true_eq_false, true_and, and_true, and_self, yy_s_eq, yy_s_ne, yy_c_eq, yy_c_ne, yy_u_eq, yy_u_ne, xm_w_id, yy_at, tdiv_pos, tmod_pos, ↓zi_7, ↓zt_7]
    have := hQ m fun c _ => rfl
    unfold sg_val at this
    rw [← ei, ← hp 0 (by omega)] at this
    exact this
  | k + 1, i, m, v, hk, hn, hp, hQ => by
    obtain ⟨t1, t2, t3⟩ := id hT
    obtain ⟨d1, d2⟩ := sg_rn_d (nm := fun v => nc (sg_ix u v).toNat) hT i (by omega)
    have db := sg_d_b (s := s) (u := u) i
    have step : ∀ m1, m1 6 = nc → (∀ c, c ≠ 7 → m1 c = m c) → (∀ j, j < (sg_rn s u (fun v => nc (sg_ix u v).toNat) (i + 1)).2 → m1 7 j = (sg_rn s u (fun v => nc (sg_ix u v).toNat) (i + 1)).1 j) → ∀ v, xm_EQ (xm_old sc) xm_sta (xm_X (xm_old sc) xm_mt (d + 1)) xm_c902 4 [some (.inr (.inl (some (87 + a)))), some (.inr (.inl (some 6))), some (.inr (.inl (some 7))), some (.inl ((sg_d s u (i + 1)))), some (.inl ((i : Int) + 1)), v] [] (yy_W (m1) t) Q := by
      intro m1 a2 a3 a4 v
      have := l_902_1 (sc := sc) (d := d) (t := t) (Q := Q) hT h0 hC k (i + 1) m1 v (by omega) a2 a4 (fun m' h => hQ m' fun c hc => by rw [h c hc, a3 c hc])
      rw [show ((i + 1 : Nat) : Int) = (i : Int) + 1 by omega] at this
      exact this
    have hr : sg_rn s u (fun v => nc (sg_ix u v).toNat) (i + 1) = sg_st (fun v => nc (sg_ix u v).toNat) (sg_tw s u i) (sg_tv s u i) (sg_rn s u (fun v => nc (sg_ix u v).toNat) i).1 (sg_rn s u (fun v => nc (sg_ix u v).toNat) i).2 := rfl
    have hd1 : sg_d s u (i + 1) = sg_d s u i + (if sg_tw s u i = 0 ∨ sg_tw s u i = 1 then 1 else if sg_tw s u i = 2 then 0 else -1) := rfl
    have hsg : ∀ {z}, sg_sg s u i = z → sg_sg s u ((i : Int)).toNat = z := fun h => by rw [Int.toNat_natCast]; exact h
    refine xb_902_4 ?_
    rw [zx_fr hC.1, zx_ln hC.2 (by rw [yy_R_len]; omega), yy_R_len, if_pos (by omega), zx_fr hC.1, zx_in hC.2, zy_at (by omega) (by omega)]
    rcases t3 i (by omega) with ⟨a1, b1, c1⟩ | ⟨a1, b1⟩ | ⟨a1, b1⟩ | ⟨a1, b1, c1⟩
    · have es := hsg (show sg_sg s u i = sg_tv s u i by unfold sg_sg; rw [if_pos a1])
      rw [if_pos (Or.inl a1)] at hd1
      rw [hd1] at step
      rw [a1] at hr
      rw [es, if_neg (by omega), yy_len (n := 60) rfl (by decide), xm_O_some, if_pos (by omega), if_neg (by omega)]
      simp (disch := first | omega | (unfold xm_w; omega)) only [↓zy_at, xm_O_some, xm_Oi_some, xm_Ov_some, xm_Oq_some, ↓reduceIte, ↓zz_t, ↓zz_f, ↓zi_t, ↓zi_f, eq_self, yy_d_0, Int.reduceEq, Int.reduceLT, Int.reduceLE, Int.reduceNe, Int.reduceToNat, Int.reduceAdd, Int.reduceSub, Int.reduceMul, Int.reduceNeg, Nat.reduceAdd, Nat.reduceMul, Nat.reduceSub, Nat.reduceEqDiff, Nat.reduceLT, ne_eq, not_false_eq_true, not_true_eq_false, true_and, and_true, and_self, yy_s_eq, yy_s_ne, yy_c_eq, yy_c_ne, yy_u_eq, yy_u_ne, xm_w_id, yy_at, tdiv_pos, tmod_pos, ↓zi_7, ↓zt_7]
      refine step _ (by simp (disch := first | omega | (unfold xm_w; omega)) only [↓zy_at, xm_O_some, xm_Oi_some, xm_Ov_some, xm_Oq_some, ↓reduceIte, ↓zz_t, ↓zz_f, ↓zi_t, ↓zi_f, eq_self, yy_d_0, Int.reduceEq, Int.reduceLT, Int.reduceLE, Int.reduceNe, Int.reduceToNat, Int.reduceAdd, Int.reduceSub, Int.reduceMul, Int.reduceNeg, Nat.reduceAdd, Nat.reduceMul, Nat.reduceSub, Nat.reduceEqDiff, Nat.reduceLT, ne_eq, not_false_eq_true, not_true_eq_false, true_and, and_true, and_self, yy_s_eq, yy_s_ne, yy_c_eq, yy_c_ne, yy_u_eq, yy_u_ne, xm_w_id, yy_at, tdiv_pos, tmod_pos, hn]) (fun c hc => by simp (disch := first | omega | (unfold xm_w; omega)) only [↓zy_at, xm_O_some, xm_Oi_some, xm_Ov_some, xm_Oq_some, ↓reduceIte, ↓zz_t, ↓zz_f, ↓zi_t, ↓zi_f, eq_self, yy_d_0, Int.reduceEq, Int.reduceLT, Int.reduceLE, Int.reduceNe, Int.reduceToNat, Int.reduceAdd, Int.reduceSub, Int.reduceMul, Int.reduceNeg, Nat.reduceAdd, Nat.reduceMul, Nat.reduceSub, Nat.reduceEqDiff, Nat.reduceLT, ne_eq, not_false_eq_true, not_true_eq_false, true_and, and_true, and_self, yy_s_eq, yy_s_ne, yy_c_eq, yy_c_ne, yy_u_eq, yy_u_ne, xm_w_id, yy_at, tdiv_pos, tmod_pos]) (fun j hj => ?_) _
      rw [hr]
      rw [hr] at hj
      unfold sg_st at hj ⊢
      rw [if_pos rfl] at hj ⊢
      have hj : j < (sg_rn s u (fun v => nc (sg_ix u v).toNat) i).2 + 1 := hj
      show _ = yy_u _ _ _ j
      rw [yy_s_eq, d2]
      by_cases ej : j = (sg_d s u i).toNat
      · subst ej; rw [yy_u_eq, yy_u_eq]
      · rw [yy_u_ne ej, yy_u_ne ej]; exact hp j (by omega)
    · have b2 := sg_ix_b (u := u) (v := sg_tv s u i)
      have es := hsg (show sg_sg s u i = -1 - sg_ix u (sg_tv s u i) by unfold sg_sg; rw [if_neg (by omega), if_pos a1])
      have e6 : (-1 - (-1 - sg_ix u (sg_tv s u i))).toNat = (sg_ix u (sg_tv s u i)).toNat := by omega
      rw [if_pos (Or.inr a1)] at hd1
      rw [hd1] at step
      rw [a1] at hr
      rw [es, if_neg (by omega), yy_len (n := 60) rfl (by decide), xm_O_some, if_pos (by omega), if_pos (by omega)]
      simp (disch := first | omega | (unfold xm_w; omega)) only [↓zy_at, xm_O_some, xm_Oi_some, xm_Ov_some, xm_Oq_some, ↓reduceIte, ↓zz_t, ↓zz_f, ↓zi_t, ↓zi_f, eq_self, yy_d_0, Int.reduceEq, Int.reduceLT, Int.reduceLE, Int.reduceNe, Int.reduceToNat, Int.reduceAdd, Int.reduceSub, Int.reduceMul, Int.reduceNeg, Nat.reduceAdd, Nat.reduceMul, Nat.reduceSub, Nat.reduceEqDiff, Nat.reduceLT, ne_eq, not_false_eq_true, not_true_eq_false, true_and, and_true, and_self, yy_s_eq, yy_s_ne, yy_c_eq, yy_c_ne, yy_u_eq, yy_u_ne, xm_w_id, yy_at, tdiv_pos, tmod_pos, ↓zi_6, ↓zt_6, ↓zi_7, ↓zt_7, hn, e6]
      refine step _ (by simp (disch := first | omega | (unfold xm_w; omega)) only [↓zy_at, xm_O_some, xm_Oi_some, xm_Ov_some, xm_Oq_some, ↓reduceIte, ↓zz_t, ↓zz_f, ↓zi_t, ↓zi_f, eq_self, yy_d_0, Int.reduceEq, Int.reduceLT, Int.reduceLE, Int.reduceNe, Int.reduceToNat, Int.reduceAdd, Int.reduceSub, Int.reduceMul, Int.reduceNeg, Nat.reduceAdd, Nat.reduceMul, Nat.reduceSub, Nat.reduceEqDiff, Nat.reduceLT, ne_eq, not_false_eq_true, not_true_eq_false, true_and, and_true, and_self, yy_s_eq, yy_s_ne, yy_c_eq, yy_c_ne, yy_u_eq, yy_u_ne, xm_w_id, yy_at, tdiv_pos, tmod_pos, hn]) (fun c hc => by simp (disch := first | omega | (unfold xm_w; omega)) only [↓zy_at, xm_O_some, xm_Oi_some, xm_Ov_some, xm_Oq_some, ↓reduceIte, ↓zz_t, ↓zz_f, ↓zi_t, ↓zi_f, eq_self, yy_d_0, Int.reduceEq, Int.reduceLT, Int.reduceLE, Int.reduceNe, Int.reduceToNat, Int.reduceAdd, Int.reduceSub, Int.reduceMul, Int.reduceNeg, Nat.reduceAdd, Nat.reduceMul, Nat.reduceSub, Nat.reduceEqDiff, Nat.reduceLT, ne_eq, not_false_eq_true, not_true_eq_false, true_and, and_true, and_self, yy_s_eq, yy_s_ne, yy_c_eq, yy_c_ne, yy_u_eq, yy_u_ne, xm_w_id, yy_at, tdiv_pos, tmod_pos]) (fun j hj => ?_) _
      rw [hr]
      rw [hr] at hj
      unfold sg_st at hj ⊢
      rw [if_neg (by decide), if_pos rfl] at hj ⊢
      have hj : j < (sg_rn s u (fun v => nc (sg_ix u v).toNat) i).2 + 1 := hj
      show _ = yy_u _ _ _ j
      rw [yy_s_eq, d2]
      by_cases ej : j = (sg_d s u i).toNat
      · subst ej; rw [yy_u_eq, yy_u_eq]
      · rw [yy_u_ne ej, yy_u_ne ej]; exact hp j (by omega)
    · have es := hsg (show sg_sg s u i = -43 by unfold sg_sg; rw [if_neg (by omega), if_neg (by omega), if_pos a1])
      rw [if_neg (by omega), if_pos a1, Int.add_zero] at hd1
      rw [hd1] at step
      rw [a1] at hr
      have g := hp ((sg_d s u i).toNat - 1) (by omega)
      have e3 : (sg_d s u i - 1).toNat = (sg_d s u i).toNat - 1 := by omega
      rw [es, if_pos (by decide), if_pos (by decide), if_neg (by omega)]
      simp (disch := first | omega | (unfold xm_w; omega)) only [↓zy_at, xm_O_some, xm_Oi_some, xm_Ov_some, xm_Oq_some, ↓reduceIte, ↓zz_t, ↓zz_f, ↓zi_t, ↓zi_f, eq_self, yy_d_0, Int.reduceEq, Int.reduceLT, Int.reduceLE, Int.reduceNe, Int.reduceToNat, Int.reduceAdd, Int.reduceSub, Int.reduceMul, Int.reduceNeg, Nat.reduceAdd, Nat.reduceMul, Nat.reduceSub, Nat.reduceEqDiff, Nat.reduceLT, ne_eq, not_false_eq_true, not_true_eq_false, true_and, and_true, and_self, yy_s_eq, yy_s_ne, yy_c_eq, yy_c_ne, yy_u_eq, yy_u_ne, xm_w_id, yy_at, tdiv_pos, tmod_pos, ↓zi_7, ↓zt_7, e3, g]
      have fin : ∀ j, j < (sg_rn s u (fun v => nc (sg_ix u v).toNat) (i + 1)).2 → (yy_s m 7 ((sg_d s u i).toNat - 1) (if (sg_rn s u (fun v => nc (sg_ix u v).toNat) i).1 ((sg_d s u i).toNat - 1) = 0 then 1 else 0)) 7 j = (sg_rn s u (fun v => nc (sg_ix u v).toNat) (i + 1)).1 j := by
        intro j hj
        rw [hr]
        rw [hr] at hj
        rw [sg_st_2] at hj ⊢
        have hj : j < (sg_rn s u (fun v => nc (sg_ix u v).toNat) i).2 := hj
        show _ = yy_u _ _ _ j
        rw [yy_s_eq, d2]
        by_cases ej : j = (sg_d s u i).toNat - 1
        · subst ej; rw [yy_u_eq, yy_u_eq]
        · rw [yy_u_ne ej, yy_u_ne ej]; exact hp j (by omega)
      split
      · rename_i e4
        rw [if_pos e4] at fin
        exact step _ (by simp (disch := first | omega | (unfold xm_w; omega)) only [↓zy_at, xm_O_some, xm_Oi_some, xm_Ov_some, xm_Oq_some, ↓reduceIte, ↓zz_t, ↓zz_f, ↓zi_t, ↓zi_f, eq_self, yy_d_0, Int.reduceEq, Int.reduceLT, Int.reduceLE, Int.reduceNe, Int.reduceToNat, Int.reduceAdd, Int.reduceSub, Int.reduceMul, Int.reduceNeg, Nat.reduceAdd, Nat.reduceMul, Nat.reduceSub, Nat.reduceEqDiff, Nat.reduceLT, ne_eq, not_false_eq_true, not_true_eq_false, true_and, and_true, and_self, yy_s_eq, yy_s_ne, yy_c_eq, yy_c_ne, yy_u_eq, yy_u_ne, xm_w_id, yy_at, tdiv_pos, tmod_pos, hn]) (fun c hc => by simp (disch := first | omega | (unfold xm_w; omega)) only [↓zy_at, xm_O_some, xm_Oi_some, xm_Ov_some, xm_Oq_some, ↓reduceIte, ↓zz_t, ↓zz_f, ↓zi_t, ↓zi_f, eq_self, yy_d_0, Int.reduceEq, Int.reduceLT, Int.reduceLE, Int.reduceNe, Int.reduceToNat, Int.reduceAdd, Int.reduceSub, Int.reduceMul, Int.reduceNeg, Nat.reduceAdd, Nat.reduceMul, Nat.reduceSub, Nat.reduceEqDiff, Nat.reduceLT, ne_eq, not_false_eq_true, not_true_eq_false, true_and, and_true, and_self, yy_s_eq, yy_s_ne, yy_c_eq, yy_c_ne, yy_u_eq, yy_u_ne, xm_w_id, yy_at, tdiv_pos, tmod_pos]) fin _
      · rename_i e4
        rw [if_neg e4] at fin
        exact step _ (by simp (disch := first | omega | (unfold xm_w; omega)) only [↓zy_at, xm_O_some, xm_Oi_some, xm_Ov_some, xm_Oq_some, ↓reduceIte, ↓zz_t, ↓zz_f, ↓zi_t, ↓zi_f, eq_self, yy_d_0, Int.reduceEq, Int.reduceLT, Int.reduceLE, Int.reduceNe, Int.reduceToNat, Int.reduceAdd, Int.reduceSub, Int.reduceMul, Int.reduceNeg, Nat.reduceAdd, Nat.reduceMul, Nat.reduceSub, Nat.reduceEqDiff, Nat.reduceLT, ne_eq, not_false_eq_true, not_true_eq_false, true_and, and_true, and_self, yy_s_eq, yy_s_ne, yy_c_eq, yy_c_ne, yy_u_eq, yy_u_ne, xm_w_id, yy_at, tdiv_pos, tmod_pos, hn]) (fun c hc => by simp (disch := first | omega | (unfold xm_w; omega)) only [↓zy_at, xm_O_some, xm_Oi_some, xm_Ov_some, xm_Oq_some, ↓reduceIte, ↓zz_t, ↓zz_f, ↓zi_t, ↓zi_f, eq_self, yy_d_0, Int.reduceEq, Int.reduceLT, Int.reduceLE, Int.reduceNe, Int.reduceToNat, Int.reduceAdd, Int.reduceSub, Int.reduceMul, Int.reduceNeg, Nat.reduceAdd, Nat.reduceMul, Nat.reduceSub, Nat.reduceEqDiff, Nat.reduceLT, ne_eq, not_false_eq_true, not_true_eq_false, true_and, and_true, and_self, yy_s_eq, yy_s_ne, yy_c_eq, yy_c_ne, yy_u_eq, yy_u_ne, xm_w_id, yy_at, tdiv_pos, tmod_pos]) fin _
    · have so := sg_sign_b c1
      have es := hsg (show sg_sg s u i = -10 - sg_tv s u i by unfold sg_sg; rw [if_neg (by omega), if_neg (by omega), if_neg (by omega)])
      rw [if_neg (by omega), if_neg (by omega)] at hd1
      rw [hd1] at step
      rw [a1] at hr
      have g1 := hp ((sg_d s u i).toNat - 1) (by omega)
      have g2 := hp ((sg_d s u i).toNat - 2) (by omega)
      have e3 : (sg_d s u i + -1).toNat = (sg_d s u i).toNat - 1 := by omega
      have e4 : (sg_d s u i + -1 - 1).toNat = (sg_d s u i).toNat - 2 := by omega
      have e5 : xm_w (-10 - (-10 - sg_tv s u i)) = sg_tv s u i := by rw [xm_w_id (by omega) (by omega)]; omega
      have n33 : ¬ sg_tv s u i = 33 := by omega
      rw [es, if_pos (by omega), e5, if_neg n33, if_neg (by omega)]
      simp (disch := first | omega | (unfold xm_w; omega)) only [↓zy_at, xm_O_some, xm_Oi_some, xm_Ov_some, xm_Oq_some, ↓reduceIte, ↓zz_t, ↓zz_f, ↓zi_t, ↓zi_f, eq_self, yy_d_0, Int.reduceEq, Int.reduceLT, Int.reduceLE, Int.reduceNe, Int.reduceToNat, Int.reduceAdd, Int.reduceSub, Int.reduceMul, Int.reduceNeg, Nat.reduceAdd, Nat.reduceMul, Nat.reduceSub, Nat.reduceEqDiff, Nat.reduceLT, ne_eq, not_false_eq_true, not_true_eq_false, true_and, and_true, and_self, yy_s_eq, yy_s_ne, yy_c_eq, yy_c_ne, yy_u_eq, yy_u_ne, xm_w_id, yy_at, tdiv_pos, tmod_pos, ↓zi_7, ↓zt_7, e3, e4, g1, g2]
      rw [oc_903 c1]
      simp (disch := first | omega | (unfold xm_w; omega)) only [↓zy_at, xm_O_some, xm_Oi_some, xm_Ov_some, xm_Oq_some, ↓reduceIte, ↓zz_t, ↓zz_f, ↓zi_t, ↓zi_f, eq_self, yy_d_0, Int.reduceEq, Int.reduceLT, Int.reduceLE, Int.reduceNe, Int.reduceToNat, Int.reduceAdd, Int.reduceSub, Int.reduceMul, Int.reduceNeg, Nat.reduceAdd, Nat.reduceMul, Nat.reduceSub, Nat.reduceEqDiff, Nat.reduceLT, ne_eq, not_false_eq_true, not_true_eq_false, true_and, and_true, and_self, yy_s_eq, yy_s_ne, yy_c_eq, yy_c_ne, yy_u_eq, yy_u_ne, xm_w_id, yy_at, tdiv_pos, tmod_pos, ↓zi_7, ↓zt_7, e4]
      refine step _ (by simp (disch := first | omega | (unfold xm_w; omega)) only [↓zy_at, xm_O_some, xm_Oi_some, xm_Ov_some, xm_Oq_some, ↓reduceIte, ↓zz_t, ↓zz_f, ↓zi_t, ↓zi_f, eq_self, yy_d_0, Int.reduceEq, Int.reduceLT, Int.reduceLE, Int.reduceNe, Int.reduceToNat, Int.reduceAdd, Int.reduceSub, Int.reduceMul, Int.reduceNeg, Nat.reduceAdd, Nat.reduceMul, Nat.reduceSub, Nat.reduceEqDiff, Nat.reduceLT, ne_eq, not_false_eq_true, not_true_eq_false, true_and, and_true, and_self, yy_s_eq, yy_s_ne, yy_c_eq, yy_c_ne, yy_u_eq, yy_u_ne, xm_w_id, yy_at, tdiv_pos, tmod_pos, hn]) (fun c hc => by simp (disch := first | omega | (unfold xm_w; omega)) only [↓zy_at, xm_O_some, xm_Oi_some, xm_Ov_some, xm_Oq_some, ↓reduceIte, ↓zz_t, ↓zz_f, ↓zi_t, ↓zi_f, eq_self, yy_d_0, Int.reduceEq, Int.reduceLT, Int.reduceLE, Int.reduceNe, Int.reduceToNat, Int.reduceAdd, Int.reduceSub, Int.reduceMul, Int.reduceNeg, Nat.reduceAdd, Nat.reduceMul, Nat.reduceSub, Nat.reduceEqDiff, Nat.reduceLT, ne_eq, not_false_eq_true, not_true_eq_false, true_and, and_true, and_self, yy_s_eq, yy_s_ne, yy_c_eq, yy_c_ne, yy_u_eq, yy_u_ne, xm_w_id, yy_at, tdiv_pos, tmod_pos]) (fun j hj => ?_) _
      rw [hr]
      rw [hr] at hj
      unfold sg_st at hj ⊢
      rw [if_neg (by decide), if_neg (by decide), if_neg (by decide)] at hj ⊢
      have hj : j < (sg_rn s u (fun v => nc (sg_ix u v).toNat) i).2 - 1 := hj
      show _ = yy_u _ _ _ j
      rw [yy_s_eq, d2]
      by_cases ej : j = (sg_d s u i).toNat - 2
      · subst ej; rw [yy_u_eq, yy_u_eq]
      · rw [yy_u_ne ej, yy_u_ne ej]; exact hp j (by omega)
set_option maxRecDepth 20000 in
theorem c_902_1 {sc : List Int} {d : Nat} {t : xm_W} {m : Nat → Nat → Int} {u a a' : Nat} {s : Nat → Int} (hT : sg_T s u) (h0 : 0 < sg_tn s u) (hC : yy_TC t s u a a') : ∃ m', xm_X (xm_old sc) xm_mt (d + 2) 902 [.inr (.inl (some (87 + a))), .inr (.inl (some 6)), .inr (.inl (some 7))] (yy_W m t) = some (some (.inl (sg_val s u (fun v => m 6 (sg_ix u v).toNat))), yy_W m' t) ∧ ∀ c, c ≠ 7 → m' c = m c := by
  have key : ∀ {Q : Option xm_V × xm_W → Prop}, (∀ m', (∀ c, c ≠ 7 → m' c = m c) → Q (some (.inl (sg_val s u (fun v => m 6 (sg_ix u v).toNat))), yy_W m' t)) → xm_EQ (xm_old sc) xm_sta (xm_X (xm_old sc) xm_mt (d + 1)) xm_m902.2.2.2.2.2.2.2 0 (xm_loc xm_m902.2.2.1 [.inr (.inl (some (87 + a))), .inr (.inl (some 6)), .inr (.inl (some 7))]) [] (yy_W m t) Q := by
    intro Q hQ
    refine xb_902_0 ?_
    exact l_902_1 (d := d) hT h0 hC (sg_tn s u).toNat 0 m none (by have := hT.1; omega) rfl (fun j hj => absurd hj (Nat.not_lt_zero j)) hQ
  obtain ⟨q, h1, m', h2, h3⟩ := yx_of (y := 902) (M := xm_m902) (sc := sc) (d := d + 1) (as := [.inr (.inl (some (87 + a))), .inr (.inl (some 6)), .inr (.inl (some 7))]) (w := yy_W m t) (Q := fun q => ∃ m', q = (some (.inl (sg_val s u (fun v => m 6 (sg_ix u v).toNat))), yy_W m' t) ∧ (∀ c, c ≠ 7 → m' c = m c)) rfl (key fun m' h => ⟨m', rfl, h⟩) (fun q ⟨m', h, _⟩ => by rw [h]; rfl) rfl (Nat.le_of_ble_eq_true rfl) (zx_hd hC.1)
  exact ⟨m', by rw [h1, h2], h3⟩
set_option maxRecDepth 20000 in
theorem l_902_18 {sc : List Int} {d : Nat} {t : xm_W} {Q : Option xm_V × xm_W → Prop} {u a a' : Nat} {s : Nat → Int} {nc : Nat → Int} (hT : sg_T s u) (h0 : 0 < sg_tn s u) (hC : yy_TC t s u a a') : ∀ (k i : Nat) (m : Nat → Nat → Int) (v : Option xm_V), ((i + k : Nat) : Int) = sg_tn s u → m 23 = nc → (∀ j, j < (sg_rn s u (fun v => nc (sg_ix u v).toNat) i).2 → m 24 j = (sg_rn s u (fun v => nc (sg_ix u v).toNat) i).1 j) → (∀ m', (∀ c, c ≠ 24 → m' c = m c) → Q ((some (.inl (sg_val s u (fun v => nc (sg_ix u v).toNat))), (yy_W (m') t)))) → xm_EQ (xm_old sc) xm_sta (xm_X (xm_old sc) xm_mt (d + 1)) xm_c902 4 [some (.inr (.inl (some (87 + a)))), some (.inr (.inl (some 23))), some (.inr (.inl (some 24))), some (.inl ((sg_d s u i))), some (.inl ((i : Int))), v] [] (yy_W (m) t) Q
  | 0, i, m, v, hk, hn, hp, hQ => by
    obtain ⟨t1, t2, t3⟩ := id hT
    obtain ⟨d1, d2⟩ := sg_rn_d (nm := fun v => nc (sg_ix u v).toNat) hT i (by omega)
    have ei : i = (sg_tn s u).toNat := by omega
    have hd := t2 h0
    rw [← ei] at hd
    refine xb_902_4 ?_
    rw [zx_fr hC.1, zx_ln hC.2 (by rw [yy_R_len]; omega), yy_R_len, if_neg (by omega), if_pos (by omega)]
    simp (disch := first | omega | (unfold xm_w; omega)) only [↓zy_at, xm_O_some, xm_Oi_some, xm_Ov_some, xm_Oq_some, ↓reduceIte, ↓zz_t, ↓zz_f, ↓zi_t, ↓zi_f, eq_self, yy_d_0, Int.reduceEq, Int.reduceLT, Int.reduceLE, Int.reduceNe, Int.reduceToNat, Int.reduceAdd, Int.reduceSub, Int.reduceMul, Int.reduceNeg, Nat.reduceAdd, Nat.reduceMul, Nat.reduceSub, Nat.reduceEqDiff, Nat.reduceLT, ne_eq, not_false_eq_true, not_true_eq_false, true_and, and_true, and_self, yy_s_eq, yy_s_ne, yy_c_eq, yy_c_ne, yy_u_eq, yy_u_ne, xm_w_id, yy_at, tdiv_pos, tmod_pos, ↓zi_24, ↓zt_24]
    have := hQ m fun c _ => rfl
    unfold sg_val at this
    rw [← ei, ← hp 0 (by omega)] at this
    exact this
  | k + 1, i, m, v, hk, hn, hp, hQ => by
    obtain ⟨t1, t2, t3⟩ := id hT
    obtain ⟨d1, d2⟩ := sg_rn_d (nm := fun v => nc (sg_ix u v).toNat) hT i (by omega)
    have db := sg_d_b (s := s) (u := u) i
    have step : ∀ m1, m1 23 = nc → (∀ c, c ≠ 24 → m1 c = m c) → (∀ j, j < (sg_rn s u (fun v => nc (sg_ix u v).toNat) (i + 1)).2 → m1 24 j = (sg_rn s u (fun v => nc (sg_ix u v).toNat) (i + 1)).1 j) → ∀ v, xm_EQ (xm_old sc) xm_sta (xm_X (xm_old sc) xm_mt (d + 1)) xm_c902 4 [some (.inr (.inl (some (87 + a)))), some (.inr (.inl (some 23))), some (.inr (.inl (some 24))), some (.inl ((sg_d s u (i + 1)))), some (.inl ((i : Int) + 1)), v] [] (yy_W (m1) t) Q := by
      intro m1 a2 a3 a4 v
      have := l_902_18 (sc := sc) (d := d) (t := t) (Q := Q) hT h0 hC k (i + 1) m1 v (by omega) a2 a4 (fun m' h => hQ m' fun c hc => by rw [h c hc, a3 c hc])
      rw [show ((i + 1 : Nat) : Int) = (i : Int) + 1 by omega] at this
      exact this
    have hr : sg_rn s u (fun v => nc (sg_ix u v).toNat) (i + 1) = sg_st (fun v => nc (sg_ix u v).toNat) (sg_tw s u i) (sg_tv s u i) (sg_rn s u (fun v => nc (sg_ix u v).toNat) i).1 (sg_rn s u (fun v => nc (sg_ix u v).toNat) i).2 := rfl
    have hd1 : sg_d s u (i + 1) = sg_d s u i + (if sg_tw s u i = 0 ∨ sg_tw s u i = 1 then 1 else if sg_tw s u i = 2 then 0 else -1) := rfl
    have hsg : ∀ {z}, sg_sg s u i = z → sg_sg s u ((i : Int)).toNat = z := fun h => by rw [Int.toNat_natCast]; exact h
    refine xb_902_4 ?_
    rw [zx_fr hC.1, zx_ln hC.2 (by rw [yy_R_len]; omega), yy_R_len, if_pos (by omega), zx_fr hC.1, zx_in hC.2, zy_at (by omega) (by omega)]
    rcases t3 i (by omega) with ⟨a1, b1, c1⟩ | ⟨a1, b1⟩ | ⟨a1, b1⟩ | ⟨a1, b1, c1⟩
    · have es := hsg (show sg_sg s u i = sg_tv s u i by unfold sg_sg; rw [if_pos a1])
      rw [if_pos (Or.inl a1)] at hd1
      rw [hd1] at step
      rw [a1] at hr
      rw [es, if_neg (by omega), yy_len (n := 60) rfl (by decide), xm_O_some, if_pos (by omega), if_neg (by omega)]
      simp (disch := first | omega | (unfold xm_w; omega)) only [↓zy_at, xm_O_some, xm_Oi_some, xm_Ov_some, xm_Oq_some, ↓reduceIte, ↓zz_t, ↓zz_f, ↓zi_t, ↓zi_f, eq_self, yy_d_0, Int.reduceEq, Int.reduceLT, Int.reduceLE, Int.reduceNe, Int.reduceToNat, Int.reduceAdd, Int.reduceSub, Int.reduceMul, Int.reduceNeg, Nat.reduceAdd, Nat.reduceMul, Nat.reduceSub, Nat.reduceEqDiff, Nat.reduceLT, ne_eq, not_false_eq_true, not_true_eq_false, true_and, and_true, and_self, yy_s_eq, yy_s_ne, yy_c_eq, yy_c_ne, yy_u_eq, yy_u_ne, xm_w_id, yy_at, tdiv_pos, tmod_pos, ↓zi_24, ↓zt_24]
      refine step _ (by simp (disch := first | omega | (unfold xm_w; omega)) only [↓zy_at, xm_O_some, xm_Oi_some, xm_Ov_some, xm_Oq_some, ↓reduceIte, ↓zz_t, ↓zz_f, ↓zi_t, ↓zi_f, eq_self, yy_d_0, Int.reduceEq, Int.reduceLT, Int.reduceLE, Int.reduceNe, Int.reduceToNat, Int.reduceAdd, Int.reduceSub, Int.reduceMul, Int.reduceNeg, Nat.reduceAdd, Nat.reduceMul, Nat.reduceSub, Nat.reduceEqDiff, Nat.reduceLT, ne_eq, not_false_eq_true, not_true_eq_false, true_and, and_true, and_self, yy_s_eq, yy_s_ne, yy_c_eq, yy_c_ne, yy_u_eq, yy_u_ne, xm_w_id, yy_at, tdiv_pos, tmod_pos, hn]) (fun c hc => by simp (disch := first | omega | (unfold xm_w; omega)) only [↓zy_at, xm_O_some, xm_Oi_some, xm_Ov_some, xm_Oq_some, ↓reduceIte, ↓zz_t, ↓zz_f, ↓zi_t, ↓zi_f, eq_self, yy_d_0, Int.reduceEq, Int.reduceLT, Int.reduceLE, Int.reduceNe, Int.reduceToNat, Int.reduceAdd, Int.reduceSub, Int.reduceMul, Int.reduceNeg, Nat.reduceAdd, Nat.reduceMul, Nat.reduceSub, Nat.reduceEqDiff, Nat.reduceLT, ne_eq, not_false_eq_true, not_true_eq_false, true_and, and_true, and_self, yy_s_eq, yy_s_ne, yy_c_eq, yy_c_ne, yy_u_eq, yy_u_ne, xm_w_id, yy_at, tdiv_pos, tmod_pos]) (fun j hj => ?_) _
      rw [hr]
      rw [hr] at hj
      unfold sg_st at hj ⊢
      rw [if_pos rfl] at hj ⊢
      have hj : j < (sg_rn s u (fun v => nc (sg_ix u v).toNat) i).2 + 1 := hj
      show _ = yy_u _ _ _ j
      rw [yy_s_eq, d2]
      by_cases ej : j = (sg_d s u i).toNat
      · subst ej; rw [yy_u_eq, yy_u_eq]
      · rw [yy_u_ne ej, yy_u_ne ej]; exact hp j (by omega)
    · have b2 := sg_ix_b (u := u) (v := sg_tv s u i)
      have es := hsg (show sg_sg s u i = -1 - sg_ix u (sg_tv s u i) by unfold sg_sg; rw [if_neg (by omega), if_pos a1])
      have e6 : (-1 - (-1 - sg_ix u (sg_tv s u i))).toNat = (sg_ix u (sg_tv s u i)).toNat := by omega
      rw [if_pos (Or.inr a1)] at hd1
      rw [hd1] at step
      rw [a1] at hr
      rw [es, if_neg (by omega), yy_len (n := 60) rfl (by decide), xm_O_some, if_pos (by omega), if_pos (by omega)]
      simp (disch := first | omega | (unfold xm_w; omega)) only [↓zy_at, xm_O_some, xm_Oi_some, xm_Ov_some, xm_Oq_some, ↓reduceIte, ↓zz_t, ↓zz_f, ↓zi_t, ↓zi_f, eq_self, yy_d_0, Int.reduceEq, Int.reduceLT, Int.reduceLE, Int.reduceNe, Int.reduceToNat, Int.reduceAdd, Int.reduceSub, Int.reduceMul, Int.reduceNeg, Nat.reduceAdd, Nat.reduceMul, Nat.reduceSub, Nat.reduceEqDiff, Nat.reduceLT, ne_eq, not_false_eq_true, not_true_eq_false, true_and, and_true, and_self, yy_s_eq, yy_s_ne, yy_c_eq, yy_c_ne, yy_u_eq, yy_u_ne, xm_w_id, yy_at, tdiv_pos, tmod_pos, ↓zi_23, ↓zt_23, ↓zi_24, ↓zt_24, hn, e6]
      refine step _ (by simp (disch := first | omega | (unfold xm_w; omega)) only [↓zy_at, xm_O_some, xm_Oi_some, xm_Ov_some, xm_Oq_some, ↓reduceIte, ↓zz_t, ↓zz_f, ↓zi_t, ↓zi_f, eq_self, yy_d_0, Int.reduceEq, Int.reduceLT, Int.reduceLE, Int.reduceNe, Int.reduceToNat, Int.reduceAdd, Int.reduceSub, Int.reduceMul, Int.reduceNeg, Nat.reduceAdd, Nat.reduceMul, Nat.reduceSub, Nat.reduceEqDiff, Nat.reduceLT, ne_eq, not_false_eq_true, not_true_eq_false, true_and, and_true, and_self, yy_s_eq, yy_s_ne, yy_c_eq, yy_c_ne, yy_u_eq, yy_u_ne, xm_w_id, yy_at, tdiv_pos, tmod_pos, hn]) (fun c hc => by simp (disch := first | omega | (unfold xm_w; omega)) only [↓zy_at, xm_O_some, xm_Oi_some, xm_Ov_some, xm_Oq_some, ↓reduceIte, ↓zz_t, ↓zz_f, ↓zi_t, ↓zi_f, eq_self, yy_d_0, Int.reduceEq, Int.reduceLT, Int.reduceLE, Int.reduceNe, Int.reduceToNat, Int.reduceAdd, Int.reduceSub, Int.reduceMul, Int.reduceNeg, Nat.reduceAdd, Nat.reduceMul, Nat.reduceSub, Nat.reduceEqDiff, Nat.reduceLT, ne_eq, not_false_eq_true, not_true_eq_false, true_and, and_true, and_self, yy_s_eq, yy_s_ne, yy_c_eq, yy_c_ne, yy_u_eq, yy_u_ne, xm_w_id, yy_at, tdiv_pos, tmod_pos]) (fun j hj => ?_) _
      rw [hr]
      rw [hr] at hj
      unfold sg_st at hj ⊢
      rw [if_neg (by decide), if_pos rfl] at hj ⊢
      have hj : j < (sg_rn s u (fun v => nc (sg_ix u v).toNat) i).2 + 1 := hj
      show _ = yy_u _ _ _ j
      rw [yy_s_eq, d2]
      by_cases ej : j = (sg_d s u i).toNat
      · subst ej; rw [yy_u_eq, yy_u_eq]
      · rw [yy_u_ne ej, yy_u_ne ej]; exact hp j (by omega)
    · have es := hsg (show sg_sg s u i = -43 by unfold sg_sg; rw [if_neg (by omega), if_neg (by omega), if_pos a1])
      rw [if_neg (by omega), if_pos a1, Int.add_zero] at hd1
      rw [hd1] at step
      rw [a1] at hr
      have g := hp ((sg_d s u i).toNat - 1) (by omega)
      have e3 : (sg_d s u i - 1).toNat = (sg_d s u i).toNat - 1 := by omega
      rw [es, if_pos (by decide), if_pos (by decide), if_neg (by omega)]
      simp (disch := first | omega | (unfold xm_w; omega)) only [↓zy_at, xm_O_some, xm_Oi_some, xm_Ov_some, xm_Oq_some, ↓reduceIte, ↓zz_t, ↓zz_f, ↓zi_t, ↓zi_f, eq_self, yy_d_0, Int.reduceEq, Int.reduceLT, Int.reduceLE, Int.reduceNe, Int.reduceToNat, Int.reduceAdd, Int.reduceSub, Int.reduceMul, Int.reduceNeg, Nat.reduceAdd, Nat.reduceMul, Nat.reduceSub, Nat.reduceEqDiff, Nat.reduceLT, ne_eq, not_false_eq_true, not_true_eq_false, true_and, and_true, and_self, yy_s_eq, yy_s_ne, yy_c_eq, yy_c_ne, yy_u_eq, yy_u_ne, xm_w_id, yy_at, tdiv_pos, tmod_pos, ↓zi_24, ↓zt_24, e3, g]
      have fin : ∀ j, j < (sg_rn s u (fun v => nc (sg_ix u v).toNat) (i + 1)).2 → (yy_s m 24 ((sg_d s u i).toNat - 1) (if (sg_rn s u (fun v => nc (sg_ix u v).toNat) i).1 ((sg_d s u i).toNat - 1) = 0 then 1 else 0)) 24 j = (sg_rn s u (fun v => nc (sg_ix u v).toNat) (i + 1)).1 j := by
        intro j hj
        rw [hr]
        rw [hr] at hj
        rw [sg_st_2] at hj ⊢
        have hj : j < (sg_rn s u (fun v => nc (sg_ix u v).toNat) i).2 := hj
        show _ = yy_u _ _ _ j
        rw [yy_s_eq, d2]
        by_cases ej : j = (sg_d s u i).toNat - 1
        · subst ej; rw [yy_u_eq, yy_u_eq]
        · rw [yy_u_ne ej, yy_u_ne ej]; exact hp j (by omega)
      split
      · rename_i e4
        rw [if_pos e4] at fin
        exact step _ (by simp (disch := first | omega | (unfold xm_w; omega)) only [↓zy_at, xm_O_some, xm_Oi_some, xm_Ov_some, xm_Oq_some, ↓reduceIte, ↓zz_t, ↓zz_f, ↓zi_t, ↓zi_f, eq_self, yy_d_0, Int.reduceEq, Int.reduceLT, Int.reduceLE, Int.reduceNe, Int.reduceToNat, Int.reduceAdd, Int.reduceSub, Int.reduceMul, Int.reduceNeg, Nat.reduceAdd, Nat.reduceMul, Nat.reduceSub, Nat.reduceEqDiff, Nat.reduceLT, ne_eq, not_false_eq_true, not_true_eq_false, true_and, and_true, and_self, yy_s_eq, yy_s_ne, yy_c_eq, yy_c_ne, yy_u_eq, yy_u_ne, xm_w_id, yy_at, tdiv_pos, tmod_pos, hn]) (fun c hc => by simp (disch := first | omega | (unfold xm_w; omega)) only [↓zy_at, xm_O_some, xm_Oi_some, xm_Ov_some, xm_Oq_some, ↓reduceIte, ↓zz_t, ↓zz_f, ↓zi_t, ↓zi_f, eq_self, yy_d_0, Int.reduceEq, Int.reduceLT, Int.reduceLE, Int.reduceNe, Int.reduceToNat, Int.reduceAdd, Int.reduceSub, Int.reduceMul, Int.reduceNeg, Nat.reduceAdd, Nat.reduceMul, Nat.reduceSub, Nat.reduceEqDiff, Nat.reduceLT, ne_eq, not_false_eq_true, not_true_eq_false, true_and, and_true, and_self, yy_s_eq, yy_s_ne, yy_c_eq, yy_c_ne, yy_u_eq, yy_u_ne, xm_w_id, yy_at, tdiv_pos, tmod_pos]) fin _
      · rename_i e4
        rw [if_neg e4] at fin
        exact step _ (by simp (disch := first | omega | (unfold xm_w; omega)) only [↓zy_at, xm_O_some, xm_Oi_some, xm_Ov_some, xm_Oq_some, ↓reduceIte, ↓zz_t, ↓zz_f, ↓zi_t, ↓zi_f, eq_self, yy_d_0, Int.reduceEq, Int.reduceLT, Int.reduceLE, Int.reduceNe, Int.reduceToNat, Int.reduceAdd, Int.reduceSub, Int.reduceMul, Int.reduceNeg, Nat.reduceAdd, Nat.reduceMul, Nat.reduceSub, Nat.reduceEqDiff, Nat.reduceLT, ne_eq, not_false_eq_true, not_true_eq_false, true_and, and_true, and_self, yy_s_eq, yy_s_ne, yy_c_eq, yy_c_ne, yy_u_eq, yy_u_ne, xm_w_id, yy_at, tdiv_pos, tmod_pos, hn]) (fun c hc => by simp (disch := first | omega | (unfold xm_w; omega)) only [↓zy_at, xm_O_some, xm_Oi_some, xm_Ov_some, xm_Oq_some, ↓reduceIte, ↓zz_t, ↓zz_f, ↓zi_t, ↓zi_f, eq_self, yy_d_0, Int.reduceEq, Int.reduceLT, Int.reduceLE, Int.reduceNe, Int.reduceToNat, Int.reduceAdd, Int.reduceSub, Int.reduceMul, Int.reduceNeg, Nat.reduceAdd, Nat.reduceMul, Nat.reduceSub, Nat.reduceEqDiff, Nat.reduceLT, ne_eq, not_false_eq_true, not_true_eq_false, true_and, and_true, and_self, yy_s_eq, yy_s_ne, yy_c_eq, yy_c_ne, yy_u_eq, yy_u_ne, xm_w_id, yy_at, tdiv_pos, tmod_pos]) fin _
    · have so := sg_sign_b c1
      have es := hsg (show sg_sg s u i = -10 - sg_tv s u i by unfold sg_sg; rw [if_neg (by omega), if_neg (by omega), if_neg (by omega)])
      rw [if_neg (by omega), if_neg (by omega)] at hd1
      rw [hd1] at step
      rw [a1] at hr
      have g1 := hp ((sg_d s u i).toNat - 1) (by omega)
      have g2 := hp ((sg_d s u i).toNat - 2) (by omega)
      have e3 : (sg_d s u i + -1).toNat = (sg_d s u i).toNat - 1 := by omega
      have e4 : (sg_d s u i + -1 - 1).toNat = (sg_d s u i).toNat - 2 := by omega
      have e5 : xm_w (-10 - (-10 - sg_tv s u i)) = sg_tv s u i := by rw [xm_w_id (by omega) (by omega)]; omega
      have n33 : ¬ sg_tv s u i = 33 := by omega
      rw [es, if_pos (by omega), e5, if_neg n33, if_neg (by omega)]
      simp (disch := first | omega | (unfold xm_w; omega)) only [↓zy_at, xm_O_some, xm_Oi_some, xm_Ov_some, xm_Oq_some, ↓reduceIte, ↓zz_t, ↓zz_f, ↓zi_t, ↓zi_f, eq_self, yy_d_0, Int.reduceEq, Int.reduceLT, Int.reduceLE, Int.reduceNe, Int.reduceToNat, Int.reduceAdd, Int.reduceSub, Int.reduceMul, Int.reduceNeg, Nat.reduceAdd, Nat.reduceMul, Nat.reduceSub, Nat.reduceEqDiff, Nat.reduceLT, ne_eq, not_false_eq_true, not_true_eq_false, true_and, and_true, and_self, yy_s_eq, yy_s_ne, yy_c_eq, yy_c_ne, yy_u_eq, yy_u_ne, xm_w_id, yy_at, tdiv_pos, tmod_pos, ↓zi_24, ↓zt_24, e3, e4, g1, g2]
      rw [oc_903 c1]
      simp (disch := first | omega | (unfold xm_w; omega)) only [↓zy_at, xm_O_some, xm_Oi_some, xm_Ov_some, xm_Oq_some, ↓reduceIte, ↓zz_t, ↓zz_f, ↓zi_t, ↓zi_f, eq_self, yy_d_0, Int.reduceEq, Int.reduceLT, Int.reduceLE, Int.reduceNe, Int.reduceToNat, Int.reduceAdd, Int.reduceSub, Int.reduceMul, Int.reduceNeg, Nat.reduceAdd, Nat.reduceMul, Nat.reduceSub, Nat.reduceEqDiff, Nat.reduceLT, ne_eq, not_false_eq_true, not_true_eq_false, true_and, and_true, and_self, yy_s_eq, yy_s_ne, yy_c_eq, yy_c_ne, yy_u_eq, yy_u_ne, xm_w_id, yy_at, tdiv_pos, tmod_pos, ↓zi_24, ↓zt_24, e4]
      refine step _ (by simp (disch := first | omega | (unfold xm_w; omega)) only [↓zy_at, xm_O_some, xm_Oi_some, xm_Ov_some, xm_Oq_some, ↓reduceIte, ↓zz_t, ↓zz_f, ↓zi_t, ↓zi_f, eq_self, yy_d_0, Int.reduceEq, Int.reduceLT, Int.reduceLE, Int.reduceNe, Int.reduceToNat, Int.reduceAdd, Int.reduceSub, Int.reduceMul, Int.reduceNeg, Nat.reduceAdd, Nat.reduceMul, Nat.reduceSub, Nat.reduceEqDiff, Nat.reduceLT, ne_eq, not_false_eq_true, not_true_eq_false, true_and, and_true, and_self, yy_s_eq, yy_s_ne, yy_c_eq, yy_c_ne, yy_u_eq, yy_u_ne, xm_w_id, yy_at, tdiv_pos, tmod_pos, hn]) (fun c hc => by simp (disch := first | omega | (unfold xm_w; omega)) only [↓zy_at, xm_O_some, xm_Oi_some, xm_Ov_some, xm_Oq_some, ↓reduceIte, ↓zz_t, ↓zz_f, ↓zi_t, ↓zi_f, eq_self, yy_d_0, Int.reduceEq, Int.reduceLT, Int.reduceLE, Int.reduceNe, Int.reduceToNat, Int.reduceAdd, Int.reduceSub, Int.reduceMul, Int.reduceNeg, Nat.reduceAdd, Nat.reduceMul, Nat.reduceSub, Nat.reduceEqDiff, Nat.reduceLT, ne_eq, not_false_eq_true, not_true_eq_false, true_and, and_true, and_self, yy_s_eq, yy_s_ne, yy_c_eq, yy_c_ne, yy_u_eq, yy_u_ne, xm_w_id, yy_at, tdiv_pos, tmod_pos]) (fun j hj => ?_) _
      rw [hr]
      rw [hr] at hj
      unfold sg_st at hj ⊢
      rw [if_neg (by decide), if_neg (by decide), if_neg (by decide)] at hj ⊢
      have hj : j < (sg_rn s u (fun v => nc (sg_ix u v).toNat) i).2 - 1 := hj
      show _ = yy_u _ _ _ j
      rw [yy_s_eq, d2]
      by_cases ej : j = (sg_d s u i).toNat - 2
      · subst ej; rw [yy_u_eq, yy_u_eq]
      · rw [yy_u_ne ej, yy_u_ne ej]; exact hp j (by omega)
set_option maxRecDepth 20000 in
theorem c_902_18 {sc : List Int} {d : Nat} {t : xm_W} {m : Nat → Nat → Int} {u a a' : Nat} {s : Nat → Int} (hT : sg_T s u) (h0 : 0 < sg_tn s u) (hC : yy_TC t s u a a') : ∃ m', xm_X (xm_old sc) xm_mt (d + 2) 902 [.inr (.inl (some (87 + a))), .inr (.inl (some 23)), .inr (.inl (some 24))] (yy_W m t) = some (some (.inl (sg_val s u (fun v => m 23 (sg_ix u v).toNat))), yy_W m' t) ∧ ∀ c, c ≠ 24 → m' c = m c := by
  have key : ∀ {Q : Option xm_V × xm_W → Prop}, (∀ m', (∀ c, c ≠ 24 → m' c = m c) → Q (some (.inl (sg_val s u (fun v => m 23 (sg_ix u v).toNat))), yy_W m' t)) → xm_EQ (xm_old sc) xm_sta (xm_X (xm_old sc) xm_mt (d + 1)) xm_m902.2.2.2.2.2.2.2 0 (xm_loc xm_m902.2.2.1 [.inr (.inl (some (87 + a))), .inr (.inl (some 23)), .inr (.inl (some 24))]) [] (yy_W m t) Q := by
    intro Q hQ
    refine xb_902_0 ?_
    exact l_902_18 (d := d) hT h0 hC (sg_tn s u).toNat 0 m none (by have := hT.1; omega) rfl (fun j hj => absurd hj (Nat.not_lt_zero j)) hQ
  obtain ⟨q, h1, m', h2, h3⟩ := yx_of (y := 902) (M := xm_m902) (sc := sc) (d := d + 1) (as := [.inr (.inl (some (87 + a))), .inr (.inl (some 23)), .inr (.inl (some 24))]) (w := yy_W m t) (Q := fun q => ∃ m', q = (some (.inl (sg_val s u (fun v => m 23 (sg_ix u v).toNat))), yy_W m' t) ∧ (∀ c, c ≠ 24 → m' c = m c)) rfl (key fun m' h => ⟨m', rfl, h⟩) (fun q ⟨m', h, _⟩ => by rw [h]; rfl) rfl (Nat.le_of_ble_eq_true rfl) (zx_hd hC.1)
  exact ⟨m', by rw [h1, h2], h3⟩
