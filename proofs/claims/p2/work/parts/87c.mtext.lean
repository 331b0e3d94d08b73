/-! TEXTS as steps in the reference's row, and what they give -/
def sg_tw (s : Nat → Int) (u k : Nat) : Int := s (340 + 125 * u + 2 * k)
def sg_tv (s : Nat → Int) (u k : Nat) : Int := s (341 + 125 * u + 2 * k)
def sg_tn (s : Nat → Int) (u : Nat) : Int := s (339 + 125 * u)
def sg_st (nm : Int → Int) (w v : Int) (f : Nat → Int) (n : Nat) : (Nat → Int) × Nat := if w = 0 then (yy_u f n v, n + 1) else if w = 1 then (yy_u f n (nm v), n + 1) else if w = 2 then (yy_u f (n - 1) (if f (n - 1) = 0 then 1 else 0), n) else (yy_u f (n - 2) (sp_join v (f (n - 2)) (f (n - 1))), n - 1)
set_option maxRecDepth 20000 in
theorem sg_st_2 {nm : Int → Int} {v : Int} {f : Nat → Int} {n : Nat} : sg_st nm 2 v f n = (yy_u f (n - 1) (if f (n - 1) = 0 then 1 else 0), n) := by
  unfold sg_st; rw [if_neg (by decide), if_neg (by decide), if_pos rfl]
def sg_rn (s : Nat → Int) (u : Nat) (nm : Int → Int) : Nat → (Nat → Int) × Nat
  | 0 => (fun _ => 0, 0)
  | k + 1 => sg_st nm (sg_tw s u k) (sg_tv s u k) (sg_rn s u nm k).1 (sg_rn s u nm k).2
def sg_val (s : Nat → Int) (u : Nat) (nm : Int → Int) : Int := (sg_rn s u nm (sg_tn s u).toNat).1 0
/-! how high the pile stands -/
def sg_d (s : Nat → Int) (u : Nat) : Nat → Int
  | 0 => 0
  | k + 1 => sg_d s u k + (if sg_tw s u k = 0 ∨ sg_tw s u k = 1 then 1 else if sg_tw s u k = 2 then 0 else -1)
def sg_nm (u : Nat) (v : Int) : Prop := if u = 0 then v = 119 ∨ v = 115 ∨ v = 109 ∨ v = 103 else v = 110 ∨ v = 100 ∨ v = 97
def sg_tok (s : Nat → Int) (u k : Nat) : Prop := (sg_tw s u k = 0 ∧ 0 ≤ sg_tv s u k ∧ sg_tv s u k ≤ 9999) ∨ (sg_tw s u k = 1 ∧ sg_nm u (sg_tv s u k)) ∨ (sg_tw s u k = 2 ∧ 1 ≤ sg_d s u k) ∨ (sg_tw s u k = 3 ∧ 2 ≤ sg_d s u k ∧ sp_sign (sg_tv s u k))
def sg_T (s : Nat → Int) (u : Nat) : Prop := (0 ≤ sg_tn s u ∧ sg_tn s u ≤ 60) ∧ (0 < sg_tn s u → 1 ≤ sg_d s u (sg_tn s u).toNat) ∧ ∀ k : Nat, (k : Int) < sg_tn s u → sg_tok s u k
set_option maxRecDepth 20000 in
theorem sg_d_b {s : Nat → Int} {u : Nat} : ∀ k, sg_d s u k ≤ k
  | 0 => by unfold sg_d; omega
  | k + 1 => by
    unfold sg_d
    have := sg_d_b (s := s) (u := u) k
    split
    · omega
    · split <;> omega
set_option maxRecDepth 20000 in
theorem sg_rn_d {s : Nat → Int} {u : Nat} {nm : Int → Int} (h : sg_T s u) : ∀ k : Nat, (k : Int) ≤ sg_tn s u → 0 ≤ sg_d s u k ∧ (sg_rn s u nm k).2 = (sg_d s u k).toNat
  | 0, _ => ⟨by unfold sg_d; omega, rfl⟩
  | k + 1, hk => by
    obtain ⟨h1, h2⟩ := sg_rn_d (nm := nm) h k (by omega)
    have ht := h.2.2 k (by omega)
    unfold sg_d sg_rn sg_st
    rcases ht with ⟨a, _⟩ | ⟨a, _⟩ | ⟨a, b⟩ | ⟨a, b, _⟩
    · rw [if_pos (Or.inl a), if_pos a]; exact ⟨by omega, by show (sg_rn s u nm k).2 + 1 = _; omega⟩
    · rw [if_pos (Or.inr a), if_neg (by omega), if_pos a]; exact ⟨by omega, by show (sg_rn s u nm k).2 + 1 = _; omega⟩
    · rw [if_neg (by omega), if_pos a, if_neg (by omega), if_neg (by omega), if_pos a]; exact ⟨by omega, by show (sg_rn s u nm k).2 = _; omega⟩
    · rw [if_neg (by omega), if_neg (by omega), if_neg (by omega), if_neg (by omega), if_neg (by omega)]; exact ⟨by omega, by show (sg_rn s u nm k).2 - 1 = _; omega⟩
set_option maxRecDepth 20000 in
theorem sg_nm_b {u : Nat} {v : Int} (h : sg_nm u v) : 0 ≤ v ∧ v < 128 := by
  unfold sg_nm at h
  split at h <;> omega
set_option maxRecDepth 20000 in
theorem l_1129 {sc : List Int} {d : Nat} {t : xm_W} {Q : Option xm_V × xm_W → Prop} {u : Nat} (hu : u < 2) {s : Nat → Int} {na : Nat → Int} (hT : sg_T s u) (h0 : 0 < sg_tn s u) : ∀ (k i : Nat) (m : Nat → Nat → Int) (v w : Option xm_V), ((i + k : Nat) : Int) = sg_tn s u → m 75 = s → m 80 = na → (∀ j, j < (sg_rn s u (fun v => na v.toNat) i).2 → m 81 j = (sg_rn s u (fun v => na v.toNat) i).1 j) → (∀ m', (∀ c, c ≠ 81 → m' c = m c) → Q ((some (.inl (sg_val s u (fun v => na v.toNat))), (yy_W (m') t)))) → xm_EQ (xm_old sc) xm_sta (xm_X (xm_old sc) xm_mt (d + 1)) xm_c1129 10 [some (.inr (.inl (some 74))), some (.inl ((u : Int))), some (.inl (((339 + 125 * u : Nat) : Int))), some (.inl ((sg_d s u i))), some (.inl ((i : Int))), v, w] [] (yy_W (m) t) Q
  | 0, i, m, v, w, hk, hs, hn, hp, hQ => by
    obtain ⟨t1, t2, t3⟩ := id hT
    obtain ⟨d1, d2⟩ := sg_rn_d (nm := fun v => na v.toNat) hT i (by omega)
    have ei : i = (sg_tn s u).toNat := by omega
    have hd := t2 h0
    rw [← ei] at hd
    have eN : s (((339 + 125 * u : Nat) : Int)).toNat = sg_tn s u := rfl
    refine xb_1129_10 ?_
    simp (disch := first | omega | (unfold xm_w; omega)) only [↓zy_at, xm_O_some, xm_Oi_some, xm_Ov_some, xm_Oq_some, ↓reduceIte, ↓zz_t, ↓zz_f, ↓zi_t, ↓zi_f, eq_self, yy_d_0, Int.reduceEq, Int.reduceLT, Int.reduceLE, Int.reduceNe, Int.reduceToNat, Int.reduceAdd, Int.reduceSub, Int.reduceMul, Int.reduceNeg, Nat.reduceAdd, Nat.reduceMul, Nat.reduceSub, Nat.reduceEqDiff, Nat.reduceLT, ne_eq, not_false_eq_true, not_true_eq_false, true_and, and_true, and_self, yy_s_eq, yy_s_ne, yy_c_eq, yy_c_ne, yy_u_eq, yy_u_ne, xm_w_id, yy_at, tdiv_pos, tmod_pos, ↓zr_74_0, ↓zr_74_1, ↓zr_74_2, ↓zf_74_3, ↓zs_74_3, ↓zf_74_4, ↓zs_74_4, ↓zr_74_5, ↓zf_74_6, ↓zs_74_6, ↓zf_74_7, ↓zs_74_7, ↓zf_74_8, ↓zs_74_8, ↓zf_74_9, ↓zs_74_9, ↓zr_74_10, ↓zr_74_11, ↓zr_74_12, ↓zf_74_13, ↓zs_74_13, ↓zr_74_14, ↓zf_74_15, ↓zs_74_15, ↓zf_74_16, ↓zs_74_16, ↓zf_74_17, ↓zs_74_17, ↓zr_74_18, ↓zr_74_19, ↓zr_74_20, ↓zr_74_21, ↓zi_75, ↓zt_75, ↓zi_81, ↓zt_81, hs, eN]
    have := hQ m fun c _ => rfl
    unfold sg_val at this
    rw [← ei, ← hp 0 (by omega)] at this
    exact this
  | k + 1, i, m, v, w, hk, hs, hn, hp, hQ => by
    obtain ⟨t1, t2, t3⟩ := id hT
    obtain ⟨d1, d2⟩ := sg_rn_d (nm := fun v => na v.toNat) hT i (by omega)
    have db := sg_d_b (s := s) (u := u) i
    have hi : (i : Int) < s (339 + 125 * u) := by unfold sg_tn at hk; omega
    have hn60 : (i : Int) < 60 := by unfold sg_tn at hk t1; omega
    have ew : s (340 + 125 * u + 2 * i) = sg_tw s u i := rfl
    have ev : s (341 + 125 * u + 2 * i) = sg_tv s u i := rfl
    have e1 : ((339 + 125 * u : Nat) : Int) + 1 + 2 * (i : Int) = ((340 + 125 * u + 2 * i : Nat) : Int) := by omega
    have e2 : ((339 + 125 * u : Nat) : Int) + 2 + 2 * (i : Int) = ((341 + 125 * u + 2 * i : Nat) : Int) := by omega
    have eN : s (((339 + 125 * u : Nat) : Int)).toNat = sg_tn s u := rfl
    have eW : s (((339 + 125 * u : Nat) : Int) + 1 + 2 * (i : Int)).toNat = sg_tw s u i := by rw [e1]; rfl
    have eV : s (((339 + 125 * u : Nat) : Int) + 2 + 2 * (i : Int)).toNat = sg_tv s u i := by rw [e2]; rfl
    have hi2 : (i : Int) < sg_tn s u := hi
    have step : ∀ m1, m1 75 = s → m1 80 = na → (∀ c, c ≠ 81 → m1 c = m c) → (∀ j, j < (sg_rn s u (fun v => na v.toNat) (i + 1)).2 → m1 81 j = (sg_rn s u (fun v => na v.toNat) (i + 1)).1 j) → ∀ v w, xm_EQ (xm_old sc) xm_sta (xm_X (xm_old sc) xm_mt (d + 1)) xm_c1129 10 [some (.inr (.inl (some 74))), some (.inl ((u : Int))), some (.inl (((339 + 125 * u : Nat) : Int))), some (.inl ((sg_d s u (i + 1)))), some (.inl ((i : Int) + 1)), v, w] [] (yy_W (m1) t) Q := by
      intro m1 a1 a2 a3 a4 v w
      have := l_1129 (sc := sc) (d := d) (t := t) (Q := Q) hu hT h0 k (i + 1) m1 v w (by omega) a1 a2 a4 (fun m' h => hQ m' fun c hc => by rw [h c hc, a3 c hc])
      rw [show ((i + 1 : Nat) : Int) = (i : Int) + 1 by omega] at this
      exact this
    have hr : sg_rn s u (fun v => na v.toNat) (i + 1) = sg_st (fun v => na v.toNat) (sg_tw s u i) (sg_tv s u i) (sg_rn s u (fun v => na v.toNat) i).1 (sg_rn s u (fun v => na v.toNat) i).2 := rfl
    have hd1 : sg_d s u (i + 1) = sg_d s u i + (if sg_tw s u i = 0 ∨ sg_tw s u i = 1 then 1 else if sg_tw s u i = 2 then 0 else -1) := rfl
    rcases t3 i (by unfold sg_tn; omega) with ⟨a, b, c⟩ | ⟨a, b⟩ | ⟨a, b⟩ | ⟨a, b, c⟩
    · rw [if_pos (Or.inl a)] at hd1
      rw [hd1] at step
      rw [a] at hr
      refine xb_1129_10 ?_
      simp (disch := first | omega | (unfold xm_w; omega)) only [↓zy_at, xm_O_some, xm_Oi_some, xm_Ov_some, xm_Oq_some, ↓reduceIte, ↓zz_t, ↓zz_f, ↓zi_t, ↓zi_f, eq_self, yy_d_0, Int.reduceEq, Int.reduceLT, Int.reduceLE, Int.reduceNe, Int.reduceToNat, Int.reduceAdd, Int.reduceSub, Int.reduceMul, Int.reduceNeg, Nat.reduceAdd, Nat.reduceMul, Nat.reduceSub, Nat.reduceEqDiff, Nat.reduceLT, ne_eq, not_false_eq_true, not_true_eq_false, true_and, and_true, and_self, yy_s_eq, yy_s_ne, yy_c_eq, yy_c_ne, yy_u_eq, yy_u_ne, xm_w_id, yy_at, tdiv_pos, tmod_pos, ↓zr_74_0, ↓zr_74_1, ↓zr_74_2, ↓zf_74_3, ↓zs_74_3, ↓zf_74_4, ↓zs_74_4, ↓zr_74_5, ↓zf_74_6, ↓zs_74_6, ↓zf_74_7, ↓zs_74_7, ↓zf_74_8, ↓zs_74_8, ↓zf_74_9, ↓zs_74_9, ↓zr_74_10, ↓zr_74_11, ↓zr_74_12, ↓zf_74_13, ↓zs_74_13, ↓zr_74_14, ↓zf_74_15, ↓zs_74_15, ↓zf_74_16, ↓zs_74_16, ↓zf_74_17, ↓zs_74_17, ↓zr_74_18, ↓zr_74_19, ↓zr_74_20, ↓zr_74_21, ↓zi_75, ↓zt_75, ↓zi_81, ↓zt_81, hs, eN, eW, eV, a]
      refine step _ (by simp (disch := first | omega | (unfold xm_w; omega)) only [↓zy_at, xm_O_some, xm_Oi_some, xm_Ov_some, xm_Oq_some, ↓reduceIte, ↓zz_t, ↓zz_f, ↓zi_t, ↓zi_f, eq_self, yy_d_0, Int.reduceEq, Int.reduceLT, Int.reduceLE, Int.reduceNe, Int.reduceToNat, Int.reduceAdd, Int.reduceSub, Int.reduceMul, Int.reduceNeg, Nat.reduceAdd, Nat.reduceMul, Nat.reduceSub, Nat.reduceEqDiff, Nat.reduceLT, ne_eq, not_false_eq_true, not_true_eq_false, true_and, and_true, and_self, yy_s_eq, yy_s_ne, yy_c_eq, yy_c_ne, yy_u_eq, yy_u_ne, xm_w_id, yy_at, tdiv_pos, tmod_pos, hs]) (by simp (disch := first | omega | (unfold xm_w; omega)) only [↓zy_at, xm_O_some, xm_Oi_some, xm_Ov_some, xm_Oq_some, ↓reduceIte, ↓zz_t, ↓zz_f, ↓zi_t, ↓zi_f, eq_self, yy_d_0, Int.reduceEq, Int.reduceLT, Int.reduceLE, Int.reduceNe, Int.reduceToNat, Int.reduceAdd, Int.reduceSub, Int.reduceMul, Int.reduceNeg, Nat.reduceAdd, Nat.reduceMul, Nat.reduceSub, Nat.reduceEqDiff, Nat.reduceLT, ne_eq, not_false_eq_true, not_true_eq_false, true_and, and_true, and_self, yy_s_eq, yy_s_ne, yy_c_eq, yy_c_ne, yy_u_eq, yy_u_ne, xm_w_id, yy_at, tdiv_pos, tmod_pos, hn]) (fun c hc => by simp (disch := first | omega | (unfold xm_w; omega)) only [↓zy_at, xm_O_some, xm_Oi_some, xm_Ov_some, xm_Oq_some, ↓reduceIte, ↓zz_t, ↓zz_f, ↓zi_t, ↓zi_f, eq_self, yy_d_0, Int.reduceEq, Int.reduceLT, Int.reduceLE, Int.reduceNe, Int.reduceToNat, Int.reduceAdd, Int.reduceSub, Int.reduceMul, Int.reduceNeg, Nat.reduceAdd, Nat.reduceMul, Nat.reduceSub, Nat.reduceEqDiff, Nat.reduceLT, ne_eq, not_false_eq_true, not_true_eq_false, true_and, and_true, and_self, yy_s_eq, yy_s_ne, yy_c_eq, yy_c_ne, yy_u_eq, yy_u_ne, xm_w_id, yy_at, tdiv_pos, tmod_pos]) (fun j hj => ?_) _ _
      rw [hr]
      rw [hr] at hj
      unfold sg_st at hj ⊢
      rw [if_pos rfl] at hj ⊢
      have hj : j < (sg_rn s u (fun v => na v.toNat) i).2 + 1 := hj
      show _ = yy_u _ _ _ j
      rw [yy_s_eq, d2]
      by_cases ej : j = (sg_d s u i).toNat
      · subst ej; rw [yy_u_eq, yy_u_eq]
      · rw [yy_u_ne ej, yy_u_ne ej]; exact hp j (by omega)
    · have b2 := sg_nm_b b
      rw [if_pos (Or.inr a)] at hd1
      rw [hd1] at step
      rw [a] at hr
      refine xb_1129_10 ?_
      simp (disch := first | omega | (unfold xm_w; omega)) only [↓zy_at, xm_O_some, xm_Oi_some, xm_Ov_some, xm_Oq_some, ↓reduceIte, ↓zz_t, ↓zz_f, ↓zi_t, ↓zi_f, eq_self, yy_d_0, Int.reduceEq, Int.reduceLT, Int.reduceLE, Int.reduceNe, Int.reduceToNat, Int.reduceAdd, Int.reduceSub, Int.reduceMul, Int.reduceNeg, Nat.reduceAdd, Nat.reduceMul, Nat.reduceSub, Nat.reduceEqDiff, Nat.reduceLT, ne_eq, not_false_eq_true, not_true_eq_false, true_and, and_true, and_self, yy_s_eq, yy_s_ne, yy_c_eq, yy_c_ne, yy_u_eq, yy_u_ne, xm_w_id, yy_at, tdiv_pos, tmod_pos, ↓zr_74_0, ↓zr_74_1, ↓zr_74_2, ↓zf_74_3, ↓zs_74_3, ↓zf_74_4, ↓zs_74_4, ↓zr_74_5, ↓zf_74_6, ↓zs_74_6, ↓zf_74_7, ↓zs_74_7, ↓zf_74_8, ↓zs_74_8, ↓zf_74_9, ↓zs_74_9, ↓zr_74_10, ↓zr_74_11, ↓zr_74_12, ↓zf_74_13, ↓zs_74_13, ↓zr_74_14, ↓zf_74_15, ↓zs_74_15, ↓zf_74_16, ↓zs_74_16, ↓zf_74_17, ↓zs_74_17, ↓zr_74_18, ↓zr_74_19, ↓zr_74_20, ↓zr_74_21, ↓zi_75, ↓zt_75, ↓zi_80, ↓zt_80, ↓zi_81, ↓zt_81, hs, eN, eW, eV, a, hn]
      refine step _ (by simp (disch := first | omega | (unfold xm_w; omega)) only [↓zy_at, xm_O_some, xm_Oi_some, xm_Ov_some, xm_Oq_some, ↓reduceIte, ↓zz_t, ↓zz_f, ↓zi_t, ↓zi_f, eq_self, yy_d_0, Int.reduceEq, Int.reduceLT, Int.reduceLE, Int.reduceNe, Int.reduceToNat, Int.reduceAdd, Int.reduceSub, Int.reduceMul, Int.reduceNeg, Nat.reduceAdd, Nat.reduceMul, Nat.reduceSub, Nat.reduceEqDiff, Nat.reduceLT, ne_eq, not_false_eq_true, not_true_eq_false, true_and, and_true, and_self, yy_s_eq, yy_s_ne, yy_c_eq, yy_c_ne, yy_u_eq, yy_u_ne, xm_w_id, yy_at, tdiv_pos, tmod_pos, hs]) (by simp (disch := first | omega | (unfold xm_w; omega)) only [↓zy_at, xm_O_some, xm_Oi_some, xm_Ov_some, xm_Oq_some, ↓reduceIte, ↓zz_t, ↓zz_f, ↓zi_t, ↓zi_f, eq_self, yy_d_0, Int.reduceEq, Int.reduceLT, Int.reduceLE, Int.reduceNe, Int.reduceToNat, Int.reduceAdd, Int.reduceSub, Int.reduceMul, Int.reduceNeg, Nat.reduceAdd, Nat.reduceMul, Nat.reduceSub, Nat.reduceEqDiff, Nat.reduceLT, ne_eq, not_false_eq_true, not_true_eq_false, true_and, and_true, and_self, yy_s_eq, yy_s_ne, yy_c_eq, yy_c_ne, yy_u_eq, yy_u_ne, xm_w_id, yy_at, tdiv_pos, tmod_pos, hn]) (fun c hc => by simp (disch := first | omega | (unfold xm_w; omega)) only [↓zy_at, xm_O_some, xm_Oi_some, xm_Ov_some, xm_Oq_some, ↓reduceIte, ↓zz_t, ↓zz_f, ↓zi_t, ↓zi_f, eq_self, yy_d_0, Int.reduceEq, Int.reduceLT, Int.reduceLE, Int.reduceNe, Int.reduceToNat, Int.reduceAdd, Int.reduceSub, Int.reduceMul, Int.reduceNeg, Nat.reduceAdd, Nat.reduceMul, Nat.reduceSub, Nat.reduceEqDiff, Nat.reduceLT, ne_eq, not_false_eq_true, not_true_eq_false, true_and, and_true, and_self, yy_s_eq, yy_s_ne, yy_c_eq, yy_c_ne, yy_u_eq, yy_u_ne, xm_w_id, yy_at, tdiv_pos, tmod_pos]) (fun j hj => ?_) _ _
      rw [hr]
      rw [hr] at hj
      unfold sg_st at hj ⊢
      rw [if_neg (by decide), if_pos rfl] at hj ⊢
      have hj : j < (sg_rn s u (fun v => na v.toNat) i).2 + 1 := hj
      show _ = yy_u _ _ _ j
      rw [yy_s_eq, d2]
      by_cases ej : j = (sg_d s u i).toNat
      · subst ej; rw [yy_u_eq, yy_u_eq]
      · rw [yy_u_ne ej, yy_u_ne ej]; exact hp j (by omega)
    · rw [if_neg (by omega), if_pos a, Int.add_zero] at hd1
      rw [hd1] at step
      rw [a] at hr
      have g := hp ((sg_d s u i).toNat - 1) (by omega)
      have e3 : (sg_d s u i - 1).toNat = (sg_d s u i).toNat - 1 := by omega
      refine xb_1129_10 ?_
      simp (disch := first | omega | (unfold xm_w; omega)) only [↓zy_at, xm_O_some, xm_Oi_some, xm_Ov_some, xm_Oq_some, ↓reduceIte, ↓zz_t, ↓zz_f, ↓zi_t, ↓zi_f, eq_self, yy_d_0, Int.reduceEq, Int.reduceLT, Int.reduceLE, Int.reduceNe, Int.reduceToNat, Int.reduceAdd, Int.reduceSub, Int.reduceMul, Int.reduceNeg, Nat.reduceAdd, Nat.reduceMul, Nat.reduceSub, Nat.reduceEqDiff, Nat.reduceLT, ne_eq, not_false_eq_true, not_true_eq_false, true_and, and_true, and_self, yy_s_eq, yy_s_ne, yy_c_eq, yy_c_ne, yy_u_eq, yy_u_ne, xm_w_id, yy_at, tdiv_pos, tmod_pos, ↓zr_74_0, ↓zr_74_1, ↓zr_74_2, ↓zf_74_3, ↓zs_74_3, ↓zf_74_4, ↓zs_74_4, ↓zr_74_5, ↓zf_74_6, ↓zs_74_6, ↓zf_74_7, ↓zs_74_7, ↓zf_74_8, ↓zs_74_8, ↓zf_74_9, ↓zs_74_9, ↓zr_74_10, ↓zr_74_11, ↓zr_74_12, ↓zf_74_13, ↓zs_74_13, ↓zr_74_14, ↓zf_74_15, ↓zs_74_15, ↓zf_74_16, ↓zs_74_16, ↓zf_74_17, ↓zs_74_17, ↓zr_74_18, ↓zr_74_19, ↓zr_74_20, ↓zr_74_21, ↓zi_75, ↓zt_75, ↓zi_81, ↓zt_81, hs, eN, eW, eV, a, e3, g]
      have fin : ∀ j, j < (sg_rn s u (fun v => na v.toNat) (i + 1)).2 → (yy_s m 81 ((sg_d s u i).toNat - 1) (if (sg_rn s u (fun v => na v.toNat) i).1 ((sg_d s u i).toNat - 1) = 0 then 1 else 0)) 81 j = (sg_rn s u (fun v => na v.toNat) (i + 1)).1 j := by
        intro j hj
        rw [hr]
        rw [hr] at hj
        rw [sg_st_2] at hj ⊢
        have hj : j < (sg_rn s u (fun v => na v.toNat) i).2 := hj
        show _ = yy_u _ _ _ j
        rw [yy_s_eq, d2]
        by_cases ej : j = (sg_d s u i).toNat - 1
        · subst ej; rw [yy_u_eq, yy_u_eq]
        · rw [yy_u_ne ej, yy_u_ne ej]; exact hp j (by omega)
      split
      · rename_i e4
        rw [if_pos e4] at fin
        exact step _ (by simp (disch := first | omega | (unfold xm_w; omega)) only [↓zy_at, xm_O_some, xm_Oi_some, xm_Ov_some, xm_Oq_some, ↓reduceIte, ↓zz_t, ↓zz_f, ↓zi_t, ↓zi_f, eq_self, yy_d_0, Int.reduceEq, Int.reduceLT, Int.reduceLE, Int.reduceNe, Int.reduceToNat, Int.reduceAdd, Int.reduceSub, Int.reduceMul, Int.reduceNeg, Nat.reduceAdd, Nat.reduceMul, Nat.reduceSub, Nat.reduceEqDiff, Nat.reduceLT, ne_eq, not_false_eq_true, not_true_eq_false, true_and, and_true, and_self, yy_s_eq, yy_s_ne, yy_c_eq, yy_c_ne, yy_u_eq, yy_u_ne, xm_w_id, yy_at, tdiv_pos, tmod_pos, hs]) (by simp (disch := first | omega | (unfold xm_w; omega)) only [↓zy_at, xm_O_some, xm_Oi_some, xm_Ov_some, xm_Oq_some, ↓reduceIte, ↓zz_t, ↓zz_f, ↓zi_t, ↓zi_f, eq_self, yy_d_0, Int.reduceEq, Int.reduceLT, Int.reduceLE, Int.reduceNe, Int.reduceToNat, Int.reduceAdd, Int.reduceSub, Int.reduceMul, Int.reduceNeg, Nat.reduceAdd, Nat.reduceMul, Nat.reduceSub, Nat.reduceEqDiff, Nat.reduceLT, ne_eq, not_false_eq_true, not_true_eq_false, true_and, and_true, and_self, yy_s_eq, yy_s_ne, yy_c_eq, yy_c_ne, yy_u_eq, yy_u_ne, xm_w_id, yy_at, tdiv_pos, tmod_pos, hn]) (fun c hc => by simp (disch := first | omega | (unfold xm_w; omega)) only [↓zy_at, xm_O_some, xm_Oi_some, xm_Ov_some, xm_Oq_some, ↓reduceIte, ↓zz_t, ↓zz_f, ↓zi_t, ↓zi_f, eq_self, yy_d_0, Int.reduceEq, Int.reduceLT, Int.reduceLE, Int.reduceNe, Int.reduceToNat, Int.reduceAdd, Int.reduceSub, Int.reduceMul, Int.reduceNeg, Nat.reduceAdd, Nat.reduceMul, Nat.reduceSub, Nat.reduceEqDiff, Nat.reduceLT, ne_eq, not_false_eq_true, not_true_eq_false, true_and, and_true, and_self, yy_s_eq, yy_s_ne, yy_c_eq, yy_c_ne, yy_u_eq, yy_u_ne, xm_w_id, yy_at, tdiv_pos, tmod_pos]) fin _ _
      · rename_i e4
        rw [if_neg e4] at fin
        exact step _ (by simp (disch := first | omega | (unfold xm_w; omega)) only [↓zy_at, xm_O_some, xm_Oi_some, xm_Ov_some, xm_Oq_some, ↓reduceIte, ↓zz_t, ↓zz_f, ↓zi_t, ↓zi_f, eq_self, yy_d_0, Int.reduceEq, Int.reduceLT, Int.reduceLE, Int.reduceNe, Int.reduceToNat, Int.reduceAdd, Int.reduceSub, Int.reduceMul, Int.reduceNeg, Nat.reduceAdd, Nat.reduceMul, Nat.reduceSub, Nat.reduceEqDiff, Nat.reduceLT, ne_eq, not_false_eq_true, not_true_eq_false, true_and, and_true, and_self, yy_s_eq, yy_s_ne, yy_c_eq, yy_c_ne, yy_u_eq, yy_u_ne, xm_w_id, yy_at, tdiv_pos, tmod_pos, hs]) (by simp (disch := first | omega | (unfold xm_w; omega)) only [↓zy_at, xm_O_some, xm_Oi_some, xm_Ov_some, xm_Oq_some, ↓reduceIte, ↓zz_t, ↓zz_f, ↓zi_t, ↓zi_f, eq_self, yy_d_0, Int.reduceEq, Int.reduceLT, Int.reduceLE, Int.reduceNe, Int.reduceToNat, Int.reduceAdd, Int.reduceSub, Int.reduceMul, Int.reduceNeg, Nat.reduceAdd, Nat.reduceMul, Nat.reduceSub, Nat.reduceEqDiff, Nat.reduceLT, ne_eq, not_false_eq_true, not_true_eq_false, true_and, and_true, and_self, yy_s_eq, yy_s_ne, yy_c_eq, yy_c_ne, yy_u_eq, yy_u_ne, xm_w_id, yy_at, tdiv_pos, tmod_pos, hn]) (fun c hc => by simp (disch := first | omega | (unfold xm_w; omega)) only [↓zy_at, xm_O_some, xm_Oi_some, xm_Ov_some, xm_Oq_some, ↓reduceIte, ↓zz_t, ↓zz_f, ↓zi_t, ↓zi_f, eq_self, yy_d_0, Int.reduceEq, Int.reduceLT, Int.reduceLE, Int.reduceNe, Int.reduceToNat, Int.reduceAdd, Int.reduceSub, Int.reduceMul, Int.reduceNeg, Nat.reduceAdd, Nat.reduceMul, Nat.reduceSub, Nat.reduceEqDiff, Nat.reduceLT, ne_eq, not_false_eq_true, not_true_eq_false, true_and, and_true, and_self, yy_s_eq, yy_s_ne, yy_c_eq, yy_c_ne, yy_u_eq, yy_u_ne, xm_w_id, yy_at, tdiv_pos, tmod_pos]) fin _ _
    · rw [if_neg (by omega), if_neg (by omega)] at hd1
      rw [hd1] at step
      rw [a] at hr
      have g1 := hp ((sg_d s u i).toNat - 1) (by omega)
      have g2 := hp ((sg_d s u i).toNat - 2) (by omega)
      have e3 : (sg_d s u i + -1).toNat = (sg_d s u i).toNat - 1 := by omega
      have e4 : (sg_d s u i + -1 - 1).toNat = (sg_d s u i).toNat - 2 := by omega
      refine xb_1129_10 ?_
      simp (disch := first | omega | (unfold xm_w; omega)) only [↓zy_at, xm_O_some, xm_Oi_some, xm_Ov_some, xm_Oq_some, ↓reduceIte, ↓zz_t, ↓zz_f, ↓zi_t, ↓zi_f, eq_self, yy_d_0, Int.reduceEq, Int.reduceLT, Int.reduceLE, Int.reduceNe, Int.reduceToNat, Int.reduceAdd, Int.reduceSub, Int.reduceMul, Int.reduceNeg, Nat.reduceAdd, Nat.reduceMul, Nat.reduceSub, Nat.reduceEqDiff, Nat.reduceLT, ne_eq, not_false_eq_true, not_true_eq_false, true_and, and_true, and_self, yy_s_eq, yy_s_ne, yy_c_eq, yy_c_ne, yy_u_eq, yy_u_ne, xm_w_id, yy_at, tdiv_pos, tmod_pos, ↓zr_74_0, ↓zr_74_1, ↓zr_74_2, ↓zf_74_3, ↓zs_74_3, ↓zf_74_4, ↓zs_74_4, ↓zr_74_5, ↓zf_74_6, ↓zs_74_6, ↓zf_74_7, ↓zs_74_7, ↓zf_74_8, ↓zs_74_8, ↓zf_74_9, ↓zs_74_9, ↓zr_74_10, ↓zr_74_11, ↓zr_74_12, ↓zf_74_13, ↓zs_74_13, ↓zr_74_14, ↓zf_74_15, ↓zs_74_15, ↓zf_74_16, ↓zs_74_16, ↓zf_74_17, ↓zs_74_17, ↓zr_74_18, ↓zr_74_19, ↓zr_74_20, ↓zr_74_21, ↓zi_75, ↓zt_75, ↓zi_81, ↓zt_81, hs, eN, eW, eV, a, e3, e4, g1, g2]
      rw [oc_1128 c]
      simp (disch := first | omega | (unfold xm_w; omega)) only [↓zy_at, xm_O_some, xm_Oi_some, xm_Ov_some, xm_Oq_some, ↓reduceIte, ↓zz_t, ↓zz_f, ↓zi_t, ↓zi_f, eq_self, yy_d_0, Int.reduceEq, Int.reduceLT, Int.reduceLE, Int.reduceNe, Int.reduceToNat, Int.reduceAdd, Int.reduceSub, Int.reduceMul, Int.reduceNeg, Nat.reduceAdd, Nat.reduceMul, Nat.reduceSub, Nat.reduceEqDiff, Nat.reduceLT, ne_eq, not_false_eq_true, not_true_eq_false, true_and, and_true, and_self, yy_s_eq, yy_s_ne, yy_c_eq, yy_c_ne, yy_u_eq, yy_u_ne, xm_w_id, yy_at, tdiv_pos, tmod_pos, ↓zr_74_0, ↓zr_74_1, ↓zr_74_2, ↓zf_74_3, ↓zs_74_3, ↓zf_74_4, ↓zs_74_4, ↓zr_74_5, ↓zf_74_6, ↓zs_74_6, ↓zf_74_7, ↓zs_74_7, ↓zf_74_8, ↓zs_74_8, ↓zf_74_9, ↓zs_74_9, ↓zr_74_10, ↓zr_74_11, ↓zr_74_12, ↓zf_74_13, ↓zs_74_13, ↓zr_74_14, ↓zf_74_15, ↓zs_74_15, ↓zf_74_16, ↓zs_74_16, ↓zf_74_17, ↓zs_74_17, ↓zr_74_18, ↓zr_74_19, ↓zr_74_20, ↓zr_74_21, ↓zi_81, ↓zt_81, e4]
      refine step _ (by simp (disch := first | omega | (unfold xm_w; omega)) only [↓zy_at, xm_O_some, xm_Oi_some, xm_Ov_some, xm_Oq_some, ↓reduceIte, ↓zz_t, ↓zz_f, ↓zi_t, ↓zi_f, eq_self, yy_d_0, Int.reduceEq, Int.reduceLT, Int.reduceLE, Int.reduceNe, Int.reduceToNat, Int.reduceAdd, Int.reduceSub, Int.reduceMul, Int.reduceNeg, Nat.reduceAdd, Nat.reduceMul, Nat.reduceSub, Nat.reduceEqDiff, Nat.reduceLT, ne_eq, not_false_eq_true, not_true_eq_false, true_and, and_true, and_self, yy_s_eq, yy_s_ne, yy_c_eq, yy_c_ne, yy_u_eq, yy_u_ne, xm_w_id, yy_at, tdiv_pos, tmod_pos, hs]) (by simp (disch := first | omega | (unfold xm_w; omega)) only [↓zy_at, xm_O_some, xm_Oi_some, xm_Ov_some, xm_Oq_some, ↓reduceIte, ↓zz_t, ↓zz_f, ↓zi_t, ↓zi_f, eq_self, yy_d_0, Int.reduceEq, Int.reduceLT, Int.reduceLE, Int.reduceNe, Int.reduceToNat, Int.reduceAdd, Int.reduceSub, Int.reduceMul, Int.reduceNeg, Nat.reduceAdd, Nat.reduceMul, Nat.reduceSub, Nat.reduceEqDiff, Nat.reduceLT, ne_eq, not_false_eq_true, not_true_eq_false, true_and, and_true, and_self, yy_s_eq, yy_s_ne, yy_c_eq, yy_c_ne, yy_u_eq, yy_u_ne, xm_w_id, yy_at, tdiv_pos, tmod_pos, hn]) (fun c hc => by simp (disch := first | omega | (unfold xm_w; omega)) only [↓zy_at, xm_O_some, xm_Oi_some, xm_Ov_some, xm_Oq_some, ↓reduceIte, ↓zz_t, ↓zz_f, ↓zi_t, ↓zi_f, eq_self, yy_d_0, Int.reduceEq, Int.reduceLT, Int.reduceLE, Int.reduceNe, Int.reduceToNat, Int.reduceAdd, Int.reduceSub, Int.reduceMul, Int.reduceNeg, Nat.reduceAdd, Nat.reduceMul, Nat.reduceSub, Nat.reduceEqDiff, Nat.reduceLT, ne_eq, not_false_eq_true, not_true_eq_false, true_and, and_true, and_self, yy_s_eq, yy_s_ne, yy_c_eq, yy_c_ne, yy_u_eq, yy_u_ne, xm_w_id, yy_at, tdiv_pos, tmod_pos]) (fun j hj => ?_) _ _
      rw [hr]
      rw [hr] at hj
      unfold sg_st at hj ⊢
      rw [if_neg (by decide), if_neg (by decide), if_neg (by decide)] at hj ⊢
      have hj : j < (sg_rn s u (fun v => na v.toNat) i).2 - 1 := hj
      show _ = yy_u _ _ _ j
      rw [yy_s_eq, d2]
      by_cases ej : j = (sg_d s u i).toNat - 2
      · subst ej; rw [yy_u_eq, yy_u_eq]
      · rw [yy_u_ne ej, yy_u_ne ej]; exact hp j (by omega)
set_option maxRecDepth 20000 in
theorem c_1129 {sc : List Int} {d : Nat} {t : xm_W} {m : Nat → Nat → Int} {u : Nat} (hu : u < 2) (hT : sg_T (m 75) u) (h0 : 0 < sg_tn (m 75) u) : ∃ m', xm_X (xm_old sc) xm_mt (d + 2) 1129 [.inr (.inl (some 74)), .inl ((u : Int))] (yy_W m t) = some (some (.inl (sg_val (m 75) u (fun v => m 80 v.toNat))), yy_W m' t) ∧ ∀ c, c ≠ 81 → m' c = m c := by
  have key : ∀ {Q : Option xm_V × xm_W → Prop}, (∀ m', (∀ c, c ≠ 81 → m' c = m c) → Q (some (.inl (sg_val (m 75) u (fun v => m 80 v.toNat))), yy_W m' t)) → xm_EQ (xm_old sc) xm_sta (xm_X (xm_old sc) xm_mt (d + 1)) xm_m1129.2.2.2.2.2.2.2 0 (xm_loc xm_m1129.2.2.1 [.inr (.inl (some 74)), .inl ((u : Int))]) [] (yy_W m t) Q := by
    intro Q hQ
    refine xb_1129_0 ?_
    rw [xm_w_id (z := 125 * (u : Int)) (by omega) (by omega), xm_w_id (by omega) (by omega), show 339 + 125 * (u : Int) = ((339 + 125 * u : Nat) : Int) by omega]
    exact l_1129 (d := d) hu hT h0 (sg_tn (m 75) u).toNat 0 m none none (by have := hT.1; omega) rfl rfl (fun j hj => absurd hj (Nat.not_lt_zero j)) hQ
  obtain ⟨q, h1, m', h2, h3⟩ := yx_of (y := 1129) (M := xm_m1129) (sc := sc) (d := d + 1) (as := [.inr (.inl (some 74)), .inl ((u : Int))]) (w := yy_W m t) (Q := fun q => ∃ m', q = (some (.inl (sg_val (m 75) u (fun v => m 80 v.toNat))), yy_W m' t) ∧ (∀ c, c ≠ 81 → m' c = m c)) rfl (key fun m' h => ⟨m', rfl, h⟩) (fun q ⟨m', h, _⟩ => by rw [h]; rfl) rfl (Nat.le_of_ble_eq_true rfl) (yy_hd rfl (by decide))
  exact ⟨m', by rw [h1, h2], h3⟩
