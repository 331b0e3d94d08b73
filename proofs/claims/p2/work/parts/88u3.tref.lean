/-! TEXTS read: the reference -/
def tp_lk (n : Nat) (T : Nat → Int) (p : Nat) : Int := if p < n then T p else -1
def tp_ms (u n : Nat) (T : Nat → Int) (k : Int) (p c : Nat) (g : Nat → Int × Int) (m : Nat → Nat → Int) : Prop := m 75 4 = n ∧ (∀ j, j < 60 → m 75 (589 + j) = T j) ∧ m 74 6 = p ∧ m 74 7 = k ∧ m 74 8 = c ∧ m 74 9 = u ∧ ∀ j, j < c → m 79 (2 * j) = (g j).1 ∧ m 79 (2 * j + 1) = (g j).2
def tp_fm (m m' : Nat → Nat → Int) : Prop := (∀ x, x ≠ 74 → x ≠ 79 → m' x = m x) ∧ ∀ q, q ≠ 6 → q ≠ 7 → q ≠ 8 → m' 74 q = m 74 q
def tp_mo (u n : Nat) (T : Nat → Int) (k ok : Int) (p c : Nat) (g : Nat → Int × Int) (m m' : Nat → Nat → Int) : Prop := tp_fm m m' ∧ m' 74 6 = p ∧ (ok = 1 → tp_ms u n T k p c g m')
def tp_M (sc : List Int) (t : xm_W) (u n : Nat) (T : Nat → Int) (k : Int) (N me : Nat) (p c : Nat) (g : Nat → Int × Int) (ok : Int) (p' c' : Nat) (g' : Nat → Int × Int) : Prop := ∀ (d : Nat) (m : Nat → Nat → Int), tp_ms u n T k p c g m → ∃ m', xm_X (xm_old sc) xm_mt (d + N) me [.inr (.inl (some 74))] (yy_W m t) = some (some (.inl ok), yy_W m' t) ∧ tp_mo u n T k ok p' c' g' m m'
def tp_ME (sc : List Int) (t : xm_W) (u n : Nat) (T : Nat → Int) (k : Int) (N : Nat) (cd : List xm_I) (L : Option xm_V → List (Option xm_V)) (p c : Nat) (g : Nat → Int × Int) (ok : Int) (p' c' : Nat) (g' : Nat → Int × Int) : Prop := ∀ (d : Nat) (m : Nat → Nat → Int) (v : Option xm_V) (Q : Option xm_V × xm_W → Prop), tp_ms u n T k p c g m → (∀ m', tp_mo u n T k ok p' c' g' m m' → Q ((some (.inl (ok)), (yy_W (m') t)))) → xm_EQ (xm_old sc) xm_sta (xm_X (xm_old sc) xm_mt (d + N)) cd 5 (L v) [] (yy_W m t) Q
set_option maxRecDepth 20000 in
theorem tp_M_up {sc : List Int} {t : xm_W} {u n : Nat} {T : Nat → Int} {k : Int} {N N' me : Nat} {p c : Nat} {g : Nat → Int × Int} {ok : Int} {p' c' : Nat} {g' : Nat → Int × Int} (hn : N ≤ N') (h : tp_M sc t u n T k N me p c g ok p' c' g') : tp_M sc t u n T k N' me p c g ok p' c' g' := fun d m a => by
  obtain ⟨j, rfl⟩ : ∃ j, N' = N + j := ⟨N' - N, by omega⟩
  have := h (d + j) m a
  rw [show d + (N + j) = d + j + N by omega]
  exact this
set_option maxRecDepth 20000 in
theorem tp_fm_rf {m : Nat → Nat → Int} : tp_fm m m := ⟨fun _ _ _ => rfl, fun _ _ _ _ => rfl⟩
set_option maxRecDepth 20000 in
theorem tp_fm_tr {m m' m'' : Nat → Nat → Int} (h : tp_fm m m') (h' : tp_fm m' m'') : tp_fm m m'' := ⟨fun x a b => by rw [h'.1 x a b, h.1 x a b], fun q a b c => by rw [h'.2 q a b c, h.2 q a b c]⟩
set_option maxRecDepth 20000 in
theorem tp_mo_tr {u n : Nat} {T : Nat → Int} {k ok : Int} {p c : Nat} {g : Nat → Int × Int} {m m' m'' : Nat → Nat → Int} (h : tp_fm m m') (h' : tp_mo u n T k ok p c g m' m'') : tp_mo u n T k ok p c g m m'' := ⟨tp_fm_tr h h'.1, h'.2⟩
set_option maxRecDepth 20000 in
theorem tp_mo_1 {u n : Nat} {T : Nat → Int} {k : Int} {p c : Nat} {g : Nat → Int × Int} {m m' : Nat → Nat → Int} (h : tp_fm m m') (h' : tp_ms u n T k p c g m') : tp_mo u n T k 1 p c g m m' := ⟨h, h'.2.2.1, fun _ => h'⟩
set_option maxRecDepth 20000 in
theorem tp_mo_0 {u n : Nat} {T : Nat → Int} {k : Int} {p c : Nat} {g : Nat → Int × Int} {m m' : Nat → Nat → Int} (h : tp_fm m m') (h' : m' 74 6 = p) : tp_mo u n T k 0 p c g m m' := ⟨h, h', fun e => absurd e (by decide)⟩
set_option maxRecDepth 20000 in
theorem tp_ms_mv {u n : Nat} {T : Nat → Int} {k : Int} {p c : Nat} {g : Nat → Int × Int} {m : Nat → Nat → Int} (h : tp_ms u n T k p c g m) : tp_ms u n T k (p + 1) c g (yy_s m 74 6 ((p : Int) + 1)) := by
  obtain ⟨a0, a1, a2, a3, a4, a5, a6⟩ := h
  exact ⟨by simp (disch := first | omega | (unfold xm_w; omega)) only [↓zy_at, xm_O_some, xm_Oi_some, xm_Ov_some, xm_Oq_some, ↓reduceIte, ↓zz_t, ↓zz_f, ↓zi_t, ↓zi_f, eq_self, yy_d_0, Int.reduceEq, Int.reduceLT, Int.reduceLE, Int.reduceNe, Int.reduceToNat, Int.reduceAdd, Int.reduceSub, Int.reduceMul, Int.reduceNeg, Nat.reduceAdd, Nat.reduceMul, Nat.reduceSub, Nat.reduceEqDiff, Nat.reduceLT, ne_eq, not_false_eq_true, not_true_eq_false, true_and, and_true, and_self, yy_s_eq, yy_s_ne, yy_c_eq, yy_c_ne, yy_u_eq, yy_u_ne, xm_w_id, yy_at, tdiv_pos, tmod_pos, a0], fun j hj => by rw [yy_s_ne (by decide)]; exact a1 j hj, by rw [yy_s_eq, yy_u_eq]; omega, by simp (disch := first | omega | (unfold xm_w; omega)) only [↓zy_at, xm_O_some, xm_Oi_some, xm_Ov_some, xm_Oq_some, ↓reduceIte, ↓zz_t, ↓zz_f, ↓zi_t, ↓zi_f, eq_self, yy_d_0, Int.reduceEq, Int.reduceLT, Int.reduceLE, Int.reduceNe, Int.reduceToNat, Int.reduceAdd, Int.reduceSub, Int.reduceMul, Int.reduceNeg, Nat.reduceAdd, Nat.reduceMul, Nat.reduceSub, Nat.reduceEqDiff, Nat.reduceLT, ne_eq, not_false_eq_true, not_true_eq_false, true_and, and_true, and_self, yy_s_eq, yy_s_ne, yy_c_eq, yy_c_ne, yy_u_eq, yy_u_ne, xm_w_id, yy_at, tdiv_pos, tmod_pos, a3], by simp (disch := first | omega | (unfold xm_w; omega)) only [↓zy_at, xm_O_some, xm_Oi_some, xm_Ov_some, xm_Oq_some, ↓reduceIte, ↓zz_t, ↓zz_f, ↓zi_t, ↓zi_f, eq_self, yy_d_0, Int.reduceEq, Int.reduceLT, Int.reduceLE, Int.reduceNe, Int.reduceToNat, Int.reduceAdd, Int.reduceSub, Int.reduceMul, Int.reduceNeg, Nat.reduceAdd, Nat.reduceMul, Nat.reduceSub, Nat.reduceEqDiff, Nat.reduceLT, ne_eq, not_false_eq_true, not_true_eq_false, true_and, and_true, and_self, yy_s_eq, yy_s_ne, yy_c_eq, yy_c_ne, yy_u_eq, yy_u_ne, xm_w_id, yy_at, tdiv_pos, tmod_pos, a4], by simp (disch := first | omega | (unfold xm_w; omega)) only [↓zy_at, xm_O_some, xm_Oi_some, xm_Ov_some, xm_Oq_some, ↓reduceIte, ↓zz_t, ↓zz_f, ↓zi_t, ↓zi_f, eq_self, yy_d_0, Int.reduceEq, Int.reduceLT, Int.reduceLE, Int.reduceNe, Int.reduceToNat, Int.reduceAdd, Int.reduceSub, Int.reduceMul, Int.reduceNeg, Nat.reduceAdd, Nat.reduceMul, Nat.reduceSub, Nat.reduceEqDiff, Nat.reduceLT, ne_eq, not_false_eq_true, not_true_eq_false, true_and, and_true, and_self, yy_s_eq, yy_s_ne, yy_c_eq, yy_c_ne, yy_u_eq, yy_u_ne, xm_w_id, yy_at, tdiv_pos, tmod_pos, a5], fun j hj => by rw [yy_s_ne (by decide)]; exact a6 j hj⟩
set_option maxRecDepth 20000 in
theorem tp_ms_k {u n : Nat} {T : Nat → Int} {k k' : Int} {p c : Nat} {g : Nat → Int × Int} {m : Nat → Nat → Int} (h : tp_ms u n T k p c g m) : tp_ms u n T k' p c g (yy_s m 74 7 k') := by
  obtain ⟨a0, a1, a2, a3, a4, a5, a6⟩ := h
  exact ⟨by simp (disch := first | omega | (unfold xm_w; omega)) only [↓zy_at, xm_O_some, xm_Oi_some, xm_Ov_some, xm_Oq_some, ↓reduceIte, ↓zz_t, ↓zz_f, ↓zi_t, ↓zi_f, eq_self, yy_d_0, Int.reduceEq, Int.reduceLT, Int.reduceLE, Int.reduceNe, Int.reduceToNat, Int.reduceAdd, Int.reduceSub, Int.reduceMul, Int.reduceNeg, Nat.reduceAdd, Nat.reduceMul, Nat.reduceSub, Nat.reduceEqDiff, Nat.reduceLT, ne_eq, not_false_eq_true, not_true_eq_false, true_and, and_true, and_self, yy_s_eq, yy_s_ne, yy_c_eq, yy_c_ne, yy_u_eq, yy_u_ne, xm_w_id, yy_at, tdiv_pos, tmod_pos, a0], fun j hj => by rw [yy_s_ne (by decide)]; exact a1 j hj, by simp (disch := first | omega | (unfold xm_w; omega)) only [↓zy_at, xm_O_some, xm_Oi_some, xm_Ov_some, xm_Oq_some, ↓reduceIte, ↓zz_t, ↓zz_f, ↓zi_t, ↓zi_f, eq_self, yy_d_0, Int.reduceEq, Int.reduceLT, Int.reduceLE, Int.reduceNe, Int.reduceToNat, Int.reduceAdd, Int.reduceSub, Int.reduceMul, Int.reduceNeg, Nat.reduceAdd, Nat.reduceMul, Nat.reduceSub, Nat.reduceEqDiff, Nat.reduceLT, ne_eq, not_false_eq_true, not_true_eq_false, true_and, and_true, and_self, yy_s_eq, yy_s_ne, yy_c_eq, yy_c_ne, yy_u_eq, yy_u_ne, xm_w_id, yy_at, tdiv_pos, tmod_pos, a2], by simp (disch := first | omega | (unfold xm_w; omega)) only [↓zy_at, xm_O_some, xm_Oi_some, xm_Ov_some, xm_Oq_some, ↓reduceIte, ↓zz_t, ↓zz_f, ↓zi_t, ↓zi_f, eq_self, yy_d_0, Int.reduceEq, Int.reduceLT, Int.reduceLE, Int.reduceNe, Int.reduceToNat, Int.reduceAdd, Int.reduceSub, Int.reduceMul, Int.reduceNeg, Nat.reduceAdd, Nat.reduceMul, Nat.reduceSub, Nat.reduceEqDiff, Nat.reduceLT, ne_eq, not_false_eq_true, not_true_eq_false, true_and, and_true, and_self, yy_s_eq, yy_s_ne, yy_c_eq, yy_c_ne, yy_u_eq, yy_u_ne, xm_w_id, yy_at, tdiv_pos, tmod_pos], by simp (disch := first | omega | (unfold xm_w; omega)) only [↓zy_at, xm_O_some, xm_Oi_some, xm_Ov_some, xm_Oq_some, ↓reduceIte, ↓zz_t, ↓zz_f, ↓zi_t, ↓zi_f, eq_self, yy_d_0, Int.reduceEq, Int.reduceLT, Int.reduceLE, Int.reduceNe, Int.reduceToNat, Int.reduceAdd, Int.reduceSub, Int.reduceMul, Int.reduceNeg, Nat.reduceAdd, Nat.reduceMul, Nat.reduceSub, Nat.reduceEqDiff, Nat.reduceLT, ne_eq, not_false_eq_true, not_true_eq_false, true_and, and_true, and_self, yy_s_eq, yy_s_ne, yy_c_eq, yy_c_ne, yy_u_eq, yy_u_ne, xm_w_id, yy_at, tdiv_pos, tmod_pos, a4], by simp (disch := first | omega | (unfold xm_w; omega)) only [↓zy_at, xm_O_some, xm_Oi_some, xm_Ov_some, xm_Oq_some, ↓reduceIte, ↓zz_t, ↓zz_f, ↓zi_t, ↓zi_f, eq_self, yy_d_0, Int.reduceEq, Int.reduceLT, Int.reduceLE, Int.reduceNe, Int.reduceToNat, Int.reduceAdd, Int.reduceSub, Int.reduceMul, Int.reduceNeg, Nat.reduceAdd, Nat.reduceMul, Nat.reduceSub, Nat.reduceEqDiff, Nat.reduceLT, ne_eq, not_false_eq_true, not_true_eq_false, true_and, and_true, and_self, yy_s_eq, yy_s_ne, yy_c_eq, yy_c_ne, yy_u_eq, yy_u_ne, xm_w_id, yy_at, tdiv_pos, tmod_pos, a5], fun j hj => by rw [yy_s_ne (by decide)]; exact a6 j hj⟩
set_option maxRecDepth 20000 in
theorem tp_ms_em {u n : Nat} {T : Nat → Int} {k : Int} {p c : Nat} {g : Nat → Int × Int} {m : Nat → Nat → Int} {a b : Int} (h : tp_ms u n T k p c g m) : tp_ms u n T k p (c + 1) (tp_u g c (a, b)) (yy_s (yy_s (yy_s m 79 (2 * c) a) 79 (2 * c + 1) b) 74 8 ((c : Int) + 1)) := by
  obtain ⟨a0, a1, a2, a3, a4, a5, a6⟩ := h
  refine ⟨by simp (disch := first | omega | (unfold xm_w; omega)) only [↓zy_at, xm_O_some, xm_Oi_some, xm_Ov_some, xm_Oq_some, ↓reduceIte, ↓zz_t, ↓zz_f, ↓zi_t, ↓zi_f, eq_self, yy_d_0, Int.reduceEq, Int.reduceLT, Int.reduceLE, Int.reduceNe, Int.reduceToNat, Int.reduceAdd, Int.reduceSub, Int.reduceMul, Int.reduceNeg, Nat.reduceAdd, Nat.reduceMul, Nat.reduceSub, Nat.reduceEqDiff, Nat.reduceLT, ne_eq, not_false_eq_true, not_true_eq_false, true_and, and_true, and_self, yy_s_eq, yy_s_ne, yy_c_eq, yy_c_ne, yy_u_eq, yy_u_ne, xm_w_id, yy_at, tdiv_pos, tmod_pos, a0], fun j hj => by rw [yy_s_ne (by decide), yy_s_ne (by decide), yy_s_ne (by decide)]; exact a1 j hj, by simp (disch := first | omega | (unfold xm_w; omega)) only [↓zy_at, xm_O_some, xm_Oi_some, xm_Ov_some, xm_Oq_some, ↓reduceIte, ↓zz_t, ↓zz_f, ↓zi_t, ↓zi_f, eq_self, yy_d_0, Int.reduceEq, Int.reduceLT, Int.reduceLE, Int.reduceNe, Int.reduceToNat, Int.reduceAdd, Int.reduceSub, Int.reduceMul, Int.reduceNeg, Nat.reduceAdd, Nat.reduceMul, Nat.reduceSub, Nat.reduceEqDiff, Nat.reduceLT, ne_eq, not_false_eq_true, not_true_eq_false, true_and, and_true, and_self, yy_s_eq, yy_s_ne, yy_c_eq, yy_c_ne, yy_u_eq, yy_u_ne, xm_w_id, yy_at, tdiv_pos, tmod_pos, a2], by simp (disch := first | omega | (unfold xm_w; omega)) only [↓zy_at, xm_O_some, xm_Oi_some, xm_Ov_some, xm_Oq_some, ↓reduceIte, ↓zz_t, ↓zz_f, ↓zi_t, ↓zi_f, eq_self, yy_d_0, Int.reduceEq, Int.reduceLT, Int.reduceLE, Int.reduceNe, Int.reduceToNat, Int.reduceAdd, Int.reduceSub, Int.reduceMul, Int.reduceNeg, Nat.reduceAdd, Nat.reduceMul, Nat.reduceSub, Nat.reduceEqDiff, Nat.reduceLT, ne_eq, not_false_eq_true, not_true_eq_false, true_and, and_true, and_self, yy_s_eq, yy_s_ne, yy_c_eq, yy_c_ne, yy_u_eq, yy_u_ne, xm_w_id, yy_at, tdiv_pos, tmod_pos, a3], by rw [yy_s_eq, yy_u_eq]; omega, by simp (disch := first | omega | (unfold xm_w; omega)) only [↓zy_at, xm_O_some, xm_Oi_some, xm_Ov_some, xm_Oq_some, ↓reduceIte, ↓zz_t, ↓zz_f, ↓zi_t, ↓zi_f, eq_self, yy_d_0, Int.reduceEq, Int.reduceLT, Int.reduceLE, Int.reduceNe, Int.reduceToNat, Int.reduceAdd, Int.reduceSub, Int.reduceMul, Int.reduceNeg, Nat.reduceAdd, Nat.reduceMul, Nat.reduceSub, Nat.reduceEqDiff, Nat.reduceLT, ne_eq, not_false_eq_true, not_true_eq_false, true_and, and_true, and_self, yy_s_eq, yy_s_ne, yy_c_eq, yy_c_ne, yy_u_eq, yy_u_ne, xm_w_id, yy_at, tdiv_pos, tmod_pos, a5], fun j hj => ?_⟩
  rw [yy_s_ne (by decide), yy_s_eq, yy_s_eq]
  by_cases e : j = c
  · subst e; rw [tp_u_eq, yy_u_ne (show 2 * j ≠ 2 * j + 1 by omega), yy_u_eq, yy_u_eq]; exact ⟨rfl, rfl⟩
  · rw [tp_u_ne e, yy_u_ne (by omega), yy_u_ne (by omega), yy_u_ne (by omega), yy_u_ne (by omega)]; exact a6 j (by omega)
set_option maxRecDepth 20000 in
theorem tp_fm_mv {m : Nat → Nat → Int} {v : Int} : tp_fm m (yy_s m 74 6 v) := ⟨fun x a _ => yy_s_ne a, fun q a _ _ => by rw [yy_s_eq, yy_u_ne a]⟩
set_option maxRecDepth 20000 in
theorem tp_fm_k {m : Nat → Nat → Int} {v : Int} : tp_fm m (yy_s m 74 7 v) := ⟨fun x a _ => yy_s_ne a, fun q _ a _ => by rw [yy_s_eq, yy_u_ne a]⟩
set_option maxRecDepth 20000 in
theorem tp_fm_em {m : Nat → Nat → Int} {v a b : Int} {k k' : Nat} : tp_fm m (yy_s (yy_s (yy_s m 79 k a) 79 k' b) 74 8 v) := ⟨fun x a b => by rw [yy_s_ne a, yy_s_ne b, yy_s_ne b], fun q _ _ a => by rw [yy_s_eq, yy_u_ne a, yy_s_ne (by decide), yy_s_ne (by decide)]⟩
set_option maxRecDepth 20000 in
theorem c_1115 {sc : List Int} {d : Nat} {t : xm_W} {m : Nat → Nat → Int} {u n : Nat} {T : Nat → Int} {k : Int} {p c : Nat} {g : Nat → Int × Int} (hT : tp_T n T) (hs : tp_ms u n T k p c g m) : xm_X (xm_old sc) xm_mt (d + 1) 1115 [.inr (.inl (some 74))] (yy_W (m) t) = some (some (.inl (tp_lk n T p)), (yy_W (m) t)) := by
  obtain ⟨a0, a1, a2, a3, a4, a5, a6⟩ := id hs
  have hn := hT.1
  refine xm_X_of (M := xm_m1115) rfl ⟨xm_EQ.eq (xb_1115_0 ?_), rfl, rfl, Nat.le_of_ble_eq_true rfl, yy_hd rfl (by decide)⟩
  have e4 : m 75 ((4 : Int)).toNat = n := a0
  unfold tp_lk
  rw [zf_74_6, zr_74_0, zi_75, zy_at (by decide) (by decide), e4, a2]
  by_cases h : p < n
  · have e1 : m 75 (589 + (p : Int)).toNat = T p := by rw [show (589 + (p : Int)).toNat = 589 + p by omega]; exact a1 p (by omega)
    rw [if_pos (by omega), zr_74_0, zf_74_6, a2, zi_75, xm_w_id (by omega) (by omega), zy_at (by omega) (by omega), e1, if_pos h]
  · rw [if_neg (by omega), if_neg h]
set_option maxRecDepth 20000 in
theorem oc_1115 {F : Int → xm_W → Prop} {sc : List Int} {d : Nat} {t : xm_W} {m : Nat → Nat → Int} {u n : Nat} {T : Nat → Int} {k : Int} {p c : Nat} {g : Nat → Int × Int} (hT : tp_T n T) (hs : tp_ms u n T k p c g m) : xm_Oi (xm_X (xm_old sc) xm_mt (d + 1) 1115 [.inr (.inl (some 74))] (yy_W (m) t)) F = F (tp_lk n T p) (yy_W (m) t) := congrArg (fun x => xm_Oi x F) (c_1115 hT hs)
set_option maxRecDepth 20000 in
theorem c_1116t {sc : List Int} {d : Nat} {t : xm_W} {m : Nat → Nat → Int} {u : Nat} {z : Int} (h : m 74 9 = u) (hz : sg_nm u z) : xm_X (xm_old sc) xm_mt (d + 1) 1116 [.inr (.inl (some 74)), .inl (z)] (yy_W (m) t) = some (some (.inl (1)), (yy_W (m) t)) := by
  refine xm_X_of (M := xm_m1116) rfl ⟨xm_EQ.eq (xb_1116_0 ?_), rfl, rfl, Nat.le_of_ble_eq_true rfl, yy_hd rfl (by decide)⟩
  rw [zf_74_9, h]
  unfold sg_nm at hz
  by_cases e : u = 0
  · rw [if_pos e] at hz; rw [if_pos (by omega)]
    rcases hz with q | q | q | q <;> subst q <;> rfl
  · rw [if_neg e] at hz; rw [if_neg (by omega)]
    rcases hz with q | q | q <;> subst q <;> rfl
set_option maxRecDepth 20000 in
theorem oc_1116t {F : Int → xm_W → Prop} {sc : List Int} {d : Nat} {t : xm_W} {m : Nat → Nat → Int} {u : Nat} {z : Int} (h : m 74 9 = u) (hz : sg_nm u z) : xm_Oi (xm_X (xm_old sc) xm_mt (d + 1) 1116 [.inr (.inl (some 74)), .inl (z)] (yy_W (m) t)) F = F (1) (yy_W (m) t) := congrArg (fun x => xm_Oi x F) (c_1116t h hz)
set_option maxRecDepth 20000 in
theorem c_1116f {sc : List Int} {d : Nat} {t : xm_W} {m : Nat → Nat → Int} {u : Nat} {z : Int} (h : m 74 9 = u) (hz : ¬ sg_nm u z) : xm_X (xm_old sc) xm_mt (d + 1) 1116 [.inr (.inl (some 74)), .inl (z)] (yy_W (m) t) = some (some (.inl (0)), (yy_W (m) t)) := by
  refine xm_X_of (M := xm_m1116) rfl ⟨xm_EQ.eq (xb_1116_0 ?_), rfl, rfl, Nat.le_of_ble_eq_true rfl, yy_hd rfl (by decide)⟩
  rw [zf_74_9, h]
  unfold sg_nm at hz
  by_cases e : u = 0
  · rw [if_pos e] at hz; rw [if_pos (by omega), if_neg (by omega), if_neg (by omega), if_neg (by omega), if_neg (by omega)]
  · rw [if_neg e] at hz; rw [if_neg (by omega), if_neg (by omega), if_neg (by omega), if_neg (by omega)]
set_option maxRecDepth 20000 in
theorem oc_1116f {F : Int → xm_W → Prop} {sc : List Int} {d : Nat} {t : xm_W} {m : Nat → Nat → Int} {u : Nat} {z : Int} (h : m 74 9 = u) (hz : ¬ sg_nm u z) : xm_Oi (xm_X (xm_old sc) xm_mt (d + 1) 1116 [.inr (.inl (some 74)), .inl (z)] (yy_W (m) t)) F = F (0) (yy_W (m) t) := congrArg (fun x => xm_Oi x F) (c_1116f h hz)
set_option maxRecDepth 20000 in
theorem c_1117 {sc : List Int} {d : Nat} {t : xm_W} {m : Nat → Nat → Int} {c : Nat} {a b : Int} (h : m 74 8 = c) (hc : c < 60) : xm_X (xm_old sc) xm_mt (d + 1) 1117 [.inr (.inl (some 74)), .inl (a), .inl (b)] (yy_W (m) t) = some (none, (yy_W (yy_s (yy_s (yy_s m 79 (2 * c) a) 79 (2 * c + 1) b) 74 8 ((c : Int) + 1)) t)) := by
  refine xm_X_of (M := xm_m1117) rfl ⟨xm_EQ.eq (xb_1117_0 ?_), rfl, rfl, Nat.le_of_ble_eq_true rfl, yy_hd rfl (by decide)⟩
  rw [zr_74_10, zf_74_8, h, xm_w_id (z := 2 * (c : Int)) (by omega) (by omega), zt_79 (by omega) (by omega), show (2 * (c : Int)).toNat = 2 * c by omega, zr_74_10, zf_74_8, yy_s_ne (by decide), h, xm_w_id (z := 2 * (c : Int)) (by omega) (by omega), xm_w_id (z := 2 * (c : Int) + 1) (by omega) (by omega), zt_79 (by omega) (by omega), show (2 * (c : Int) + 1).toNat = 2 * c + 1 by omega, zf_74_8, yy_s_ne (by decide), yy_s_ne (by decide), h, xm_w_id (z := (c : Int) + 1) (by omega) (by omega), zs_74_8]
set_option maxRecDepth 20000 in
theorem oc_1117 {F : xm_W → Prop} {sc : List Int} {d : Nat} {t : xm_W} {m : Nat → Nat → Int} {c : Nat} {a b : Int} (h : m 74 8 = c) (hc : c < 60) : xm_Ov (xm_X (xm_old sc) xm_mt (d + 1) 1117 [.inr (.inl (some 74)), .inl (a), .inl (b)] (yy_W (m) t)) F = F (yy_W (yy_s (yy_s (yy_s m 79 (2 * c) a) 79 (2 * c + 1) b) 74 8 ((c : Int) + 1)) t) := congrArg (fun x => xm_Ov x F) (c_1117 h hc)
set_option maxRecDepth 20000 in
theorem tm_end {sc : List Int} {t : xm_W} {u n : Nat} {T : Nat → Int} {k : Int} {p c : Nat} {g : Nat → Int × Int} (hT : tp_T n T) (h : n ≤ p) : tp_M sc t u n T k 2 1124 p c g 0 p c g := fun d m hs => by
  obtain ⟨a0, a1, a2, a3, a4, a5, a6⟩ := id hs
  refine ⟨m, ?_, tp_mo_0 tp_fm_rf a2⟩
  show xm_X (xm_old sc) xm_mt (d + 1 + 1) 1124 [.inr (.inl (some 74))] (yy_W (m) t) = _
  refine xm_X_of (M := xm_m1124) rfl ⟨xm_EQ.eq (xb_1124_0 ?_), rfl, rfl, Nat.le_of_ble_eq_true rfl, yy_hd rfl (by decide)⟩
  have e : tp_lk n T p = -1 := if_neg (by omega)
  rw [oc_1115 (d := d) hT hs, e, oc_1116f (d := d) a5 (by unfold sg_nm; split <;> omega), if_pos rfl, oc_1103 (d := d), zz_f (by decide), if_neg (by decide), if_neg (by decide)]
set_option maxRecDepth 20000 in
theorem tm_nam {sc : List Int} {t : xm_W} {u n : Nat} {T : Nat → Int} {k : Int} {p c : Nat} {g : Nat → Int × Int} (hT : tp_T n T) (hp : p < n) (hc : c ≤ p) (hz : sg_nm u (T p)) : tp_M sc t u n T k 2 1124 p c g 1 (p + 1) (c + 1) (tp_u g c (1, T p)) := fun d m hs => by
  obtain ⟨a0, a1, a2, a3, a4, a5, a6⟩ := id hs
  have hn := hT.1
  refine ⟨_, ?_, tp_mo_1 (tp_fm_tr tp_fm_mv tp_fm_em) (tp_ms_em (a := 1) (b := T p) (tp_ms_mv hs))⟩
  show xm_X (xm_old sc) xm_mt (d + 1 + 1) 1124 [.inr (.inl (some 74))] (yy_W (m) t) = _
  refine xm_X_of (M := xm_m1124) rfl ⟨xm_EQ.eq (xb_1124_0 ?_), rfl, rfl, Nat.le_of_ble_eq_true rfl, yy_hd rfl (by decide)⟩
  have e : tp_lk n T p = T p := if_pos hp
  rw [oc_1115 (d := d) hT hs, e, oc_1116t (d := d) a5 hz, if_neg (by decide), zf_74_6, a2, zs_74_6, xm_w_id (z := (p : Int) + 1) (by omega) (by omega), oc_1117 (d := d) (c := c) (by simp (disch := first | omega | (unfold xm_w; omega)) only [↓zy_at, xm_O_some, xm_Oi_some, xm_Ov_some, xm_Oq_some, ↓reduceIte, ↓zz_t, ↓zz_f, ↓zi_t, ↓zi_f, eq_self, yy_d_0, Int.reduceEq, Int.reduceLT, Int.reduceLE, Int.reduceNe, Int.reduceToNat, Int.reduceAdd, Int.reduceSub, Int.reduceMul, Int.reduceNeg, Nat.reduceAdd, Nat.reduceMul, Nat.reduceSub, Nat.reduceEqDiff, Nat.reduceLT, ne_eq, not_false_eq_true, not_true_eq_false, true_and, and_true, and_self, yy_s_eq, yy_s_ne, yy_c_eq, yy_c_ne, yy_u_eq, yy_u_ne, xm_w_id, yy_at, tdiv_pos, tmod_pos, a4]) (by omega)]
set_option maxRecDepth 20000 in
theorem l_1124 {sc : List Int} {d : Nat} {t : xm_W} {u n : Nat} {T : Nat → Int} {k z0 : Int} {c : Nat} {g : Nat → Int × Int} {Q : Option xm_V × xm_W → Prop} (hT : tp_T n T) (hc : c < 60) : ∀ (f p : Nat) (v i : Int) (m : Nat → Nat → Int), (0 ≤ i ∧ i + f = 4) → (0 ≤ v ∧ v ≤ tp_B f) → p ≤ n → tp_ms u n T k p c g m → (∀ m', tp_mo u n T k 1 (tp_nu n T f p v).2 (c + 1) (tp_u g c (0, (tp_nu n T f p v).1)) m m' → Q ((some (.inl (1)), (yy_W (m') t)))) → xm_EQ (xm_old sc) xm_sta (xm_X (xm_old sc) xm_mt (d + 1)) xm_c1124 28 [some (.inr (.inl (some 74))), some (.inl (z0)), some (.inl (v)), some (.inl (i))] [] (yy_W (m) t) Q
  | 0, p, v, i, m, hi, hv, hp, hs, hQ => by
    obtain ⟨a0, a1, a2, a3, a4, a5, a6⟩ := id hs
    refine xb_1124_28 ?_
    rw [if_neg (by omega), oc_1117 (d := d) (c := c) a4 hc]
    exact hQ _ (tp_mo_1 tp_fm_em (tp_ms_em hs))
  | f + 1, p, v, i, m, hi, hv, hp, hs, hQ => by
    obtain ⟨a0, a1, a2, a3, a4, a5, a6⟩ := id hs
    have hn := hT.1
    refine xb_1124_28 ?_
    rw [if_pos (by omega), oc_1115 (d := d) hT hs, oc_1103 (d := d)]
    by_cases h : p < n ∧ 48 ≤ T p ∧ T p ≤ 57
    · have e : tp_nu n T (f + 1) p v = tp_nu n T f (p + 1) (10 * v + T p - 48) := by
        conv => lhs; unfold tp_nu
        rw [if_pos h]
      have hB := tp_B_s (by omega) hv h.2
      have hb := tp_B_b hB
      have hb2 := tp_B_b hv
      have el : tp_lk n T p = T p := if_pos h.1
      rw [e] at hQ
      rw [el, zz_t h.2, oc_1115 (d := d) hT hs, el, zf_74_6, a2, zs_74_6, xm_w_id (z := (p : Int) + 1) (by omega) (by omega), xm_w_id (z := i + 1) (by omega) (by omega), xm_w_id (z := 10 * v) (by omega) (by omega), xm_w_id (z := 10 * v + T p) (by omega) (by omega), xm_w_id (z := 10 * v + T p - 48) (by omega) (by omega)]
      exact l_1124 hT hc f (p + 1) _ (i + 1) _ (by omega) hB (by omega) (tp_ms_mv hs) fun m' h => hQ m' (tp_mo_tr tp_fm_mv h)
    · have e : tp_nu n T (f + 1) p v = (v, p) := by
        conv => lhs; unfold tp_nu
        rw [if_neg h]
      rw [e] at hQ
      have el : ¬ (48 ≤ tp_lk n T p ∧ tp_lk n T p ≤ 57) := by
        unfold tp_lk
        by_cases h1 : p < n
        · rw [if_pos h1]; exact fun g => h ⟨h1, g⟩
        · rw [if_neg h1]; decide
      rw [zz_f el, oc_1117 (d := d) (c := c) a4 hc]
      exact hQ _ (tp_mo_1 tp_fm_em (tp_ms_em hs))
set_option maxRecDepth 20000 in
theorem c_1124n {sc : List Int} {d : Nat} {t : xm_W} {m : Nat → Nat → Int} {u n : Nat} {T : Nat → Int} {k : Int} {p c : Nat} {g : Nat → Int × Int} (hT : tp_T n T) (hc : c < 60) (hp : p < n) (hz : 48 ≤ T p ∧ T p ≤ 57) (hs : tp_ms u n T k p c g m) : ∃ m', xm_X (xm_old sc) xm_mt (d + 2) 1124 [.inr (.inl (some 74))] (yy_W m t) = some (some (.inl (1)), yy_W m' t) ∧ tp_mo u n T k 1 (tp_nu n T 4 p 0).2 (c + 1) (tp_u g c (0, (tp_nu n T 4 p 0).1)) m m' := by
  have key : ∀ {Q : Option xm_V × xm_W → Prop}, (∀ m', (tp_mo u n T k 1 (tp_nu n T 4 p 0).2 (c + 1) (tp_u g c (0, (tp_nu n T 4 p 0).1)) m m') → Q (some (.inl (1)), yy_W m' t)) → xm_EQ (xm_old sc) xm_sta (xm_X (xm_old sc) xm_mt (d + 1)) xm_m1124.2.2.2.2.2.2.2 0 (xm_loc xm_m1124.2.2.1 [.inr (.inl (some 74))]) [] (yy_W m t) Q := by
    intro Q hQ
    refine xb_1124_0 ?_
    have e : tp_lk n T p = T p := if_pos hp
    have nn : ¬ sg_nm u (T p) := by unfold sg_nm; split <;> omega
    rw [oc_1115 (d := d) hT hs, e, oc_1116f (d := d) hs.2.2.2.2.2.1 nn, if_pos rfl, oc_1103 (d := d), zz_t hz]
    exact l_1124 (d := d) hT hc 4 p 0 0 m (by decide) (by decide) (by omega) hs hQ
  obtain ⟨q, h1, m', h2, h3⟩ := yx_of (y := 1124) (M := xm_m1124) (sc := sc) (d := d + 1) (as := [.inr (.inl (some 74))]) (w := yy_W m t) (Q := fun q => ∃ m', q = (some (.inl (1)), yy_W m' t) ∧ (tp_mo u n T k 1 (tp_nu n T 4 p 0).2 (c + 1) (tp_u g c (0, (tp_nu n T 4 p 0).1)) m m')) rfl (key fun m' h => ⟨m', rfl, h⟩) (fun q ⟨m', h, _⟩ => by rw [h]; rfl) rfl (Nat.le_of_ble_eq_true rfl) (yy_hd rfl (by decide))
  exact ⟨m', by rw [h1, h2], h3⟩
set_option maxRecDepth 20000 in
theorem tm_num {sc : List Int} {t : xm_W} {u n : Nat} {T : Nat → Int} {k : Int} {p c : Nat} {g : Nat → Int × Int} (hT : tp_T n T) (hp : p < n) (hc : c ≤ p) (hz : 48 ≤ T p ∧ T p ≤ 57) : tp_M sc t u n T k 2 1124 p c g 1 (tp_nu n T 4 p 0).2 (c + 1) (tp_u g c (0, (tp_nu n T 4 p 0).1)) := fun d m hs => by
  have hn := hT.1
  exact c_1124n (d := d) hT (by omega) hp hz hs
set_option maxRecDepth 20000 in
theorem c_1123 {sc : List Int} {d : Nat} {t : xm_W} {m : Nat → Nat → Int} {u n : Nat} {T : Nat → Int} {k : Int} {p c : Nat} {g : Nat → Int × Int} (hT : tp_T n T) (hp : p < n) (hk : 0 ≤ k ∧ k < 5) (hs : tp_ms u n T k p c g m) : xm_X (xm_old sc) xm_mt (d + 1) 1123 [.inr (.inl (some 74))] (yy_W (m) t) = some (some (.inl (1)), (yy_W (yy_s (yy_s m 74 7 (k + 1)) 74 6 ((p : Int) + 1)) t)) := by
  obtain ⟨a0, a1, a2, a3, a4, a5, a6⟩ := id hs
  have hn := hT.1
  refine xm_X_of (M := xm_m1123) rfl ⟨xm_EQ.eq (xb_1123_0 ?_), rfl, rfl, Nat.le_of_ble_eq_true rfl, yy_hd rfl (by decide)⟩
  rw [zf_74_7, a3, if_neg (by omega), zf_74_7, a3, zs_74_7, xm_w_id (z := k + 1) (by omega) (by omega), zf_74_6, show yy_s m 74 7 (k + 1) 74 6 = p by simp (disch := first | omega | (unfold xm_w; omega)) only [↓zy_at, xm_O_some, xm_Oi_some, xm_Ov_some, xm_Oq_some, ↓reduceIte, ↓zz_t, ↓zz_f, ↓zi_t, ↓zi_f, eq_self, yy_d_0, Int.reduceEq, Int.reduceLT, Int.reduceLE, Int.reduceNe, Int.reduceToNat, Int.reduceAdd, Int.reduceSub, Int.reduceMul, Int.reduceNeg, Nat.reduceAdd, Nat.reduceMul, Nat.reduceSub, Nat.reduceEqDiff, Nat.reduceLT, ne_eq, not_false_eq_true, not_true_eq_false, true_and, and_true, and_self, yy_s_eq, yy_s_ne, yy_c_eq, yy_c_ne, yy_u_eq, yy_u_ne, xm_w_id, yy_at, tdiv_pos, tmod_pos, a2], xm_w_id (z := (p : Int) + 1) (by omega) (by omega), zs_74_6]
set_option maxRecDepth 20000 in
theorem oc_1123 {F : Int → xm_W → Prop} {sc : List Int} {d : Nat} {t : xm_W} {m : Nat → Nat → Int} {u n : Nat} {T : Nat → Int} {k : Int} {p c : Nat} {g : Nat → Int × Int} (hT : tp_T n T) (hp : p < n) (hk : 0 ≤ k ∧ k < 5) (hs : tp_ms u n T k p c g m) : xm_Oi (xm_X (xm_old sc) xm_mt (d + 1) 1123 [.inr (.inl (some 74))] (yy_W (m) t)) F = F (1) (yy_W (yy_s (yy_s m 74 7 (k + 1)) 74 6 ((p : Int) + 1)) t) := congrArg (fun x => xm_Oi x F) (c_1123 hT hp hk hs)
set_option maxRecDepth 20000 in
theorem c_1123f {sc : List Int} {d : Nat} {t : xm_W} {m : Nat → Nat → Int} (hk : m 74 7 = 5) : xm_X (xm_old sc) xm_mt (d + 1) 1123 [.inr (.inl (some 74))] (yy_W (m) t) = some (some (.inl (0)), (yy_W (m) t)) := by
  refine xm_X_of (M := xm_m1123) rfl ⟨xm_EQ.eq (xb_1123_0 ?_), rfl, rfl, Nat.le_of_ble_eq_true rfl, yy_hd rfl (by decide)⟩
  rw [zf_74_7, if_pos hk]
set_option maxRecDepth 20000 in
theorem oc_1123f {F : Int → xm_W → Prop} {sc : List Int} {d : Nat} {t : xm_W} {m : Nat → Nat → Int} (hk : m 74 7 = 5) : xm_Oi (xm_X (xm_old sc) xm_mt (d + 1) 1123 [.inr (.inl (some 74))] (yy_W (m) t)) F = F (0) (yy_W (m) t) := congrArg (fun x => xm_Oi x F) (c_1123f hk)
set_option maxRecDepth 20000 in
theorem tm_bad {sc : List Int} {t : xm_W} {u n : Nat} {T : Nat → Int} {k : Int} {p c : Nat} {g : Nat → Int × Int} (hT : tp_T n T) (hp : p < n) (hz : ¬ sg_nm u (T p)) (hd : ¬ (48 ≤ T p ∧ T p ≤ 57)) (h : (T p ≠ 33 ∧ T p ≠ 40) ∨ k = 5) : tp_M sc t u n T k 2 1124 p c g 0 p c g := fun d m hs => by
  obtain ⟨a0, a1, a2, a3, a4, a5, a6⟩ := id hs
  refine ⟨m, ?_, tp_mo_0 tp_fm_rf a2⟩
  show xm_X (xm_old sc) xm_mt (d + 1 + 1) 1124 [.inr (.inl (some 74))] (yy_W (m) t) = _
  refine xm_X_of (M := xm_m1124) rfl ⟨xm_EQ.eq (xb_1124_0 ?_), rfl, rfl, Nat.le_of_ble_eq_true rfl, yy_hd rfl (by decide)⟩
  have e : tp_lk n T p = T p := if_pos hp
  rw [oc_1115 (d := d) hT hs, e, oc_1116f (d := d) a5 hz, if_pos rfl, oc_1103 (d := d), zz_f hd]
  by_cases h3 : T p = 33
  · rw [if_pos h3, oc_1123f (d := d) (by omega), if_pos rfl]
  · rw [if_neg h3]
    by_cases h4 : T p = 40
    · rw [if_pos h4, oc_1123f (d := d) (by omega), if_pos rfl]
    · rw [if_neg h4]
set_option maxRecDepth 20000 in
theorem tm_not {sc : List Int} {t : xm_W} {u n : Nat} {T : Nat → Int} {N p c p1 c1 : Nat} {g g1 : Nat → Int × Int} {k ok : Int} (hT : tp_T n T) (hp : p < n) (hz : T p = 33) (hk : 0 ≤ k ∧ k < 5) (hc : ok = 1 → c1 < 60) (hok : ok = 0 ∨ ok = 1) (w : tp_M sc t u n T (k + 1) (N + 1) 1124 (p + 1) c g ok p1 c1 g1) : tp_M sc t u n T k (N + 2) 1124 p c g ok p1 (c1 + 1) (tp_u g1 c1 (2, 0)) := fun d m hs => by
  obtain ⟨a0, a1, a2, a3, a4, a5, a6⟩ := id hs
  have hn := hT.1
  have nz : ¬ sg_nm u (T p) := by unfold sg_nm; split <;> omega
  have e : tp_lk n T p = T p := if_pos hp
  obtain ⟨m1, e1, f1, f2, f3⟩ := w d _ (tp_ms_mv (tp_ms_k (k' := k + 1) hs))
  rw [show d + (N + 1) = d + N + 1 by omega] at e1
  have ff := tp_fm_tr (tp_fm_tr tp_fm_k tp_fm_mv) f1
  rcases hok with q | q <;> subst q
  · refine ⟨m1, ?_, tp_mo_0 ff f2⟩
    show xm_X (xm_old sc) xm_mt (d + N + 1 + 1) 1124 [.inr (.inl (some 74))] (yy_W (m) t) = _
    refine xm_X_of (M := xm_m1124) rfl ⟨xm_EQ.eq (xb_1124_0 ?_), rfl, rfl, Nat.le_of_ble_eq_true rfl, yy_hd rfl (by decide)⟩
    rw [oc_1115 (d := d + N) hT hs, e, oc_1116f (d := d + N) a5 nz, if_pos rfl, oc_1103 (d := d + N), zz_f (by omega), if_pos hz, oc_1123 (d := d + N) hT hp hk hs, if_neg (by decide), e1, xm_Oi_some, if_pos rfl]
  · have hs1 := f3 rfl
    refine ⟨_, ?_, tp_mo_1 (tp_fm_tr (tp_fm_tr ff tp_fm_k) tp_fm_em) (tp_ms_em (a := 2) (b := 0) (tp_ms_k (k' := k) hs1))⟩
    show xm_X (xm_old sc) xm_mt (d + N + 1 + 1) 1124 [.inr (.inl (some 74))] (yy_W (m) t) = _
    refine xm_X_of (M := xm_m1124) rfl ⟨xm_EQ.eq (xb_1124_0 ?_), rfl, rfl, Nat.le_of_ble_eq_true rfl, yy_hd rfl (by decide)⟩
    rw [oc_1115 (d := d + N) hT hs, e, oc_1116f (d := d + N) a5 nz, if_pos rfl, oc_1103 (d := d + N), zz_f (by omega), if_pos hz, oc_1123 (d := d + N) hT hp hk hs, if_neg (by decide), e1, xm_Oi_some, if_neg (by decide), zf_74_7, hs1.2.2.2.1, zs_74_7, xm_w_id (z := k + 1 - 1) (by omega) (by omega), show k + 1 - 1 = k by omega, oc_1117 (d := d + N) (c := c1) (by have := hs1.2.2.2.2.1; simp (disch := first | omega | (unfold xm_w; omega)) only [↓zy_at, xm_O_some, xm_Oi_some, xm_Ov_some, xm_Oq_some, ↓reduceIte, ↓zz_t, ↓zz_f, ↓zi_t, ↓zi_f, eq_self, yy_d_0, Int.reduceEq, Int.reduceLT, Int.reduceLE, Int.reduceNe, Int.reduceToNat, Int.reduceAdd, Int.reduceSub, Int.reduceMul, Int.reduceNeg, Nat.reduceAdd, Nat.reduceMul, Nat.reduceSub, Nat.reduceEqDiff, Nat.reduceLT, ne_eq, not_false_eq_true, not_true_eq_false, true_and, and_true, and_self, yy_s_eq, yy_s_ne, yy_c_eq, yy_c_ne, yy_u_eq, yy_u_ne, xm_w_id, yy_at, tdiv_pos, tmod_pos, this]) (hc rfl)]
set_option maxRecDepth 20000 in
theorem tm_opn {sc : List Int} {t : xm_W} {u n : Nat} {T : Nat → Int} {N p c p1 c1 : Nat} {g g1 : Nat → Int × Int} {k ok : Int} (hT : tp_T n T) (hp : p < n) (hz : T p = 40) (hk : 0 ≤ k ∧ k < 5) (hp1 : p1 ≤ n) (hok : ok = 0 ∨ ok = 1) (w : tp_M sc t u n T (k + 1) (N + 1) 1118 (p + 1) c g ok p1 c1 g1) : tp_M sc t u n T k (N + 2) 1124 p c g (if ok = 1 ∧ p1 < n ∧ T p1 = 41 then 1 else 0) (if ok = 1 ∧ p1 < n ∧ T p1 = 41 then p1 + 1 else p1) c1 g1 := fun d m hs => by
  obtain ⟨a0, a1, a2, a3, a4, a5, a6⟩ := id hs
  have hn := hT.1
  have nz : ¬ sg_nm u (T p) := by unfold sg_nm; split <;> omega
  have e : tp_lk n T p = T p := if_pos hp
  have n33 : ¬ T p = 33 := by omega
  obtain ⟨m1, e1, f1, f2, f3⟩ := w d _ (tp_ms_mv (tp_ms_k (k' := k + 1) hs))
  rw [show d + (N + 1) = d + N + 1 by omega] at e1
  have ff := tp_fm_tr (tp_fm_tr tp_fm_k tp_fm_mv) f1
  rcases hok with q | q <;> subst q
  · rw [if_neg (fun h => absurd h.1 (by decide)), if_neg (fun h => absurd h.1 (by decide))]
    refine ⟨m1, ?_, tp_mo_0 ff f2⟩
    show xm_X (xm_old sc) xm_mt (d + N + 1 + 1) 1124 [.inr (.inl (some 74))] (yy_W (m) t) = _
    refine xm_X_of (M := xm_m1124) rfl ⟨xm_EQ.eq (xb_1124_0 ?_), rfl, rfl, Nat.le_of_ble_eq_true rfl, yy_hd rfl (by decide)⟩
    rw [oc_1115 (d := d + N) hT hs, e, oc_1116f (d := d + N) a5 nz, if_pos rfl, oc_1103 (d := d + N), zz_f (by omega), if_neg n33, if_pos hz, oc_1123 (d := d + N) hT hp hk hs, if_neg (by decide), e1, xm_Oi_some, if_pos rfl]
  · have hs1 := f3 rfl
    by_cases h : p1 < n ∧ T p1 = 41
    · rw [if_pos ⟨rfl, h⟩, if_pos ⟨rfl, h⟩]
      have el : tp_lk n T p1 = 41 := by unfold tp_lk; rw [if_pos h.1]; exact h.2
      refine ⟨_, ?_, tp_mo_1 (tp_fm_tr (tp_fm_tr ff tp_fm_mv) tp_fm_k) (tp_ms_k (k' := k) (tp_ms_mv hs1))⟩
      show xm_X (xm_old sc) xm_mt (d + N + 1 + 1) 1124 [.inr (.inl (some 74))] (yy_W (m) t) = _
      refine xm_X_of (M := xm_m1124) rfl ⟨xm_EQ.eq (xb_1124_0 ?_), rfl, rfl, Nat.le_of_ble_eq_true rfl, yy_hd rfl (by decide)⟩
      rw [oc_1115 (d := d + N) hT hs, e, oc_1116f (d := d + N) a5 nz, if_pos rfl, oc_1103 (d := d + N), zz_f (by omega), if_neg n33, if_pos hz, oc_1123 (d := d + N) hT hp hk hs, if_neg (by decide), e1, xm_Oi_some, if_neg (by decide), oc_1115 (d := d + N) hT hs1, el, if_pos rfl, zf_74_6, hs1.2.2.1, zs_74_6, xm_w_id (z := (p1 : Int) + 1) (by omega) (by omega), zf_74_7, show yy_s m1 74 6 ((p1 : Int) + 1) 74 7 = k + 1 by have := hs1.2.2.2.1; simp (disch := first | omega | (unfold xm_w; omega)) only [↓zy_at, xm_O_some, xm_Oi_some, xm_Ov_some, xm_Oq_some, ↓reduceIte, ↓zz_t, ↓zz_f, ↓zi_t, ↓zi_f, eq_self, yy_d_0, Int.reduceEq, Int.reduceLT, Int.reduceLE, Int.reduceNe, Int.reduceToNat, Int.reduceAdd, Int.reduceSub, Int.reduceMul, Int.reduceNeg, Nat.reduceAdd, Nat.reduceMul, Nat.reduceSub, Nat.reduceEqDiff, Nat.reduceLT, ne_eq, not_false_eq_true, not_true_eq_false, true_and, and_true, and_self, yy_s_eq, yy_s_ne, yy_c_eq, yy_c_ne, yy_u_eq, yy_u_ne, xm_w_id, yy_at, tdiv_pos, tmod_pos, this], zs_74_7, xm_w_id (z := k + 1 - 1) (by omega) (by omega), show k + 1 - 1 = k by omega]
    · rw [if_neg (fun g => h g.2), if_neg (fun g => h g.2)]
      have el : ¬ tp_lk n T p1 = 41 := by
        unfold tp_lk
        by_cases h1 : p1 < n
        · rw [if_pos h1]; exact fun g => h ⟨h1, g⟩
        · rw [if_neg h1]; decide
      refine ⟨m1, ?_, tp_mo_0 ff f2⟩
      show xm_X (xm_old sc) xm_mt (d + N + 1 + 1) 1124 [.inr (.inl (some 74))] (yy_W (m) t) = _
      refine xm_X_of (M := xm_m1124) rfl ⟨xm_EQ.eq (xb_1124_0 ?_), rfl, rfl, Nat.le_of_ble_eq_true rfl, yy_hd rfl (by decide)⟩
      rw [oc_1115 (d := d + N) hT hs, e, oc_1116f (d := d + N) a5 nz, if_pos rfl, oc_1103 (d := d + N), zz_f (by omega), if_neg n33, if_pos hz, oc_1123 (d := d + N) hT hp hk hs, if_neg (by decide), e1, xm_Oi_some, if_neg (by decide), oc_1115 (d := d + N) hT hs1, if_neg el]
/- the levels -/
def tp_L1 (_ : Option xm_V) : List (Option xm_V) := [some (.inr (.inl (some 74)))]
def tp_L2 (v : Option xm_V) : List (Option xm_V) := [some (.inr (.inl (some 74))), v]
set_option maxRecDepth 20000 in
theorem tm_1118_0 {sc : List Int} {t : xm_W} {u n : Nat} {T : Nat → Int} {N p c p1 c1 : Nat} {g g1 : Nat → Int × Int} {k : Int} (w : tp_M sc t u n T k N 1119 p c g 0 p1 c1 g1) : tp_M sc t u n T k (N + 1) 1118 p c g 0 p1 c1 g1 := fun d m hs => by
  obtain ⟨m1, e, ho⟩ := w d m hs
  refine ⟨m1, ?_, ho⟩
  show xm_X (xm_old sc) xm_mt (d + N + 1) 1118 [.inr (.inl (some 74))] (yy_W (m) t) = _
  refine xm_X_of (M := xm_m1118) rfl ⟨xm_EQ.eq (xb_1118_0 ?_), rfl, rfl, Nat.le_of_ble_eq_true rfl, yy_hd rfl (by decide)⟩
  rw [e, xm_Oi_some, if_pos rfl]
set_option maxRecDepth 20000 in
theorem tm_1118_1 {sc : List Int} {t : xm_W} {u n : Nat} {T : Nat → Int} {N p c p1 c1 p2 c2 : Nat} {g g1 g2 : Nat → Int × Int} {k ok : Int} (hok : ok = 0 ∨ ok = 1) (w : tp_M sc t u n T k N 1119 p c g 1 p1 c1 g1) (w2 : tp_ME sc t u n T k N xm_c1118 tp_L1 p1 c1 g1 ok p2 c2 g2) : tp_M sc t u n T k (N + 1) 1118 p c g ok p2 c2 g2 := fun d m hs => by
  obtain ⟨m1, e, f1, f2, f3⟩ := w d m hs
  have key : ∀ {Q : Option xm_V × xm_W → Prop}, (∀ m', tp_mo u n T k ok p2 c2 g2 m m' → Q ((some (.inl (ok)), (yy_W (m') t)))) → xm_EQ (xm_old sc) xm_sta (xm_X (xm_old sc) xm_mt (d + N)) xm_m1118.2.2.2.2.2.2.2 0 (xm_loc xm_m1118.2.2.1 [.inr (.inl (some 74))]) [] (yy_W m t) Q := by
    intro Q hQ
    refine xb_1118_0 ?_
    rw [e, xm_Oi_some, if_neg (by decide)]
    exact w2 d m1 none Q (f3 rfl) fun m' h => hQ m' (tp_mo_tr f1 h)
  obtain ⟨q, h1, m', h2, h3⟩ := yx_of (y := 1118) (M := xm_m1118) (sc := sc) (d := d + N) (as := [.inr (.inl (some 74))]) (w := yy_W m t) (Q := fun q => ∃ m', q = ((some (.inl (ok)), (yy_W (m') t))) ∧ tp_mo u n T k ok p2 c2 g2 m m') rfl (key fun m' h => ⟨m', rfl, h⟩) (fun q ⟨m', h, _⟩ => by rw [h]; rcases hok with e | e <;> subst e <;> rfl) rfl (Nat.le_of_ble_eq_true rfl) (yy_hd rfl (by decide))
  exact ⟨m', by rw [show d + (N + 1) = d + N + 1 by omega, h1, h2], h3⟩
set_option maxRecDepth 20000 in
theorem tm_1119_0 {sc : List Int} {t : xm_W} {u n : Nat} {T : Nat → Int} {N p c p1 c1 : Nat} {g g1 : Nat → Int × Int} {k : Int} (w : tp_M sc t u n T k N 1120 p c g 0 p1 c1 g1) : tp_M sc t u n T k (N + 1) 1119 p c g 0 p1 c1 g1 := fun d m hs => by
  obtain ⟨m1, e, ho⟩ := w d m hs
  refine ⟨m1, ?_, ho⟩
  show xm_X (xm_old sc) xm_mt (d + N + 1) 1119 [.inr (.inl (some 74))] (yy_W (m) t) = _
  refine xm_X_of (M := xm_m1119) rfl ⟨xm_EQ.eq (xb_1119_0 ?_), rfl, rfl, Nat.le_of_ble_eq_true rfl, yy_hd rfl (by decide)⟩
  rw [e, xm_Oi_some, if_pos rfl]
set_option maxRecDepth 20000 in
theorem tm_1119_1 {sc : List Int} {t : xm_W} {u n : Nat} {T : Nat → Int} {N p c p1 c1 p2 c2 : Nat} {g g1 g2 : Nat → Int × Int} {k ok : Int} (hok : ok = 0 ∨ ok = 1) (w : tp_M sc t u n T k N 1120 p c g 1 p1 c1 g1) (w2 : tp_ME sc t u n T k N xm_c1119 tp_L1 p1 c1 g1 ok p2 c2 g2) : tp_M sc t u n T k (N + 1) 1119 p c g ok p2 c2 g2 := fun d m hs => by
  obtain ⟨m1, e, f1, f2, f3⟩ := w d m hs
  have key : ∀ {Q : Option xm_V × xm_W → Prop}, (∀ m', tp_mo u n T k ok p2 c2 g2 m m' → Q ((some (.inl (ok)), (yy_W (m') t)))) → xm_EQ (xm_old sc) xm_sta (xm_X (xm_old sc) xm_mt (d + N)) xm_m1119.2.2.2.2.2.2.2 0 (xm_loc xm_m1119.2.2.1 [.inr (.inl (some 74))]) [] (yy_W m t) Q := by
    intro Q hQ
    refine xb_1119_0 ?_
    rw [e, xm_Oi_some, if_neg (by decide)]
    exact w2 d m1 none Q (f3 rfl) fun m' h => hQ m' (tp_mo_tr f1 h)
  obtain ⟨q, h1, m', h2, h3⟩ := yx_of (y := 1119) (M := xm_m1119) (sc := sc) (d := d + N) (as := [.inr (.inl (some 74))]) (w := yy_W m t) (Q := fun q => ∃ m', q = ((some (.inl (ok)), (yy_W (m') t))) ∧ tp_mo u n T k ok p2 c2 g2 m m') rfl (key fun m' h => ⟨m', rfl, h⟩) (fun q ⟨m', h, _⟩ => by rw [h]; rcases hok with e | e <;> subst e <;> rfl) rfl (Nat.le_of_ble_eq_true rfl) (yy_hd rfl (by decide))
  exact ⟨m', by rw [show d + (N + 1) = d + N + 1 by omega, h1, h2], h3⟩
set_option maxRecDepth 20000 in
theorem tm_1121_0 {sc : List Int} {t : xm_W} {u n : Nat} {T : Nat → Int} {N p c p1 c1 : Nat} {g g1 : Nat → Int × Int} {k : Int} (w : tp_M sc t u n T k N 1122 p c g 0 p1 c1 g1) : tp_M sc t u n T k (N + 1) 1121 p c g 0 p1 c1 g1 := fun d m hs => by
  obtain ⟨m1, e, ho⟩ := w d m hs
  refine ⟨m1, ?_, ho⟩
  show xm_X (xm_old sc) xm_mt (d + N + 1) 1121 [.inr (.inl (some 74))] (yy_W (m) t) = _
  refine xm_X_of (M := xm_m1121) rfl ⟨xm_EQ.eq (xb_1121_0 ?_), rfl, rfl, Nat.le_of_ble_eq_true rfl, yy_hd rfl (by decide)⟩
  rw [e, xm_Oi_some, if_pos rfl]
set_option maxRecDepth 20000 in
theorem tm_1121_1 {sc : List Int} {t : xm_W} {u n : Nat} {T : Nat → Int} {N p c p1 c1 p2 c2 : Nat} {g g1 g2 : Nat → Int × Int} {k ok : Int} (hok : ok = 0 ∨ ok = 1) (w : tp_M sc t u n T k N 1122 p c g 1 p1 c1 g1) (w2 : tp_ME sc t u n T k N xm_c1121 tp_L2 p1 c1 g1 ok p2 c2 g2) : tp_M sc t u n T k (N + 1) 1121 p c g ok p2 c2 g2 := fun d m hs => by
  obtain ⟨m1, e, f1, f2, f3⟩ := w d m hs
  have key : ∀ {Q : Option xm_V × xm_W → Prop}, (∀ m', tp_mo u n T k ok p2 c2 g2 m m' → Q ((some (.inl (ok)), (yy_W (m') t)))) → xm_EQ (xm_old sc) xm_sta (xm_X (xm_old sc) xm_mt (d + N)) xm_m1121.2.2.2.2.2.2.2 0 (xm_loc xm_m1121.2.2.1 [.inr (.inl (some 74))]) [] (yy_W m t) Q := by
    intro Q hQ
    refine xb_1121_0 ?_
    rw [e, xm_Oi_some, if_neg (by decide)]
    exact w2 d m1 none Q (f3 rfl) fun m' h => hQ m' (tp_mo_tr f1 h)
  obtain ⟨q, h1, m', h2, h3⟩ := yx_of (y := 1121) (M := xm_m1121) (sc := sc) (d := d + N) (as := [.inr (.inl (some 74))]) (w := yy_W m t) (Q := fun q => ∃ m', q = ((some (.inl (ok)), (yy_W (m') t))) ∧ tp_mo u n T k ok p2 c2 g2 m m') rfl (key fun m' h => ⟨m', rfl, h⟩) (fun q ⟨m', h, _⟩ => by rw [h]; rcases hok with e | e <;> subst e <;> rfl) rfl (Nat.le_of_ble_eq_true rfl) (yy_hd rfl (by decide))
  exact ⟨m', by rw [show d + (N + 1) = d + N + 1 by omega, h1, h2], h3⟩
set_option maxRecDepth 20000 in
theorem tm_1122_0 {sc : List Int} {t : xm_W} {u n : Nat} {T : Nat → Int} {N p c p1 c1 : Nat} {g g1 : Nat → Int × Int} {k : Int} (w : tp_M sc t u n T k N 1124 p c g 0 p1 c1 g1) : tp_M sc t u n T k (N + 1) 1122 p c g 0 p1 c1 g1 := fun d m hs => by
  obtain ⟨m1, e, ho⟩ := w d m hs
  refine ⟨m1, ?_, ho⟩
  show xm_X (xm_old sc) xm_mt (d + N + 1) 1122 [.inr (.inl (some 74))] (yy_W (m) t) = _
  refine xm_X_of (M := xm_m1122) rfl ⟨xm_EQ.eq (xb_1122_0 ?_), rfl, rfl, Nat.le_of_ble_eq_true rfl, yy_hd rfl (by decide)⟩
  rw [e, xm_Oi_some, if_pos rfl]
set_option maxRecDepth 20000 in
theorem tm_1122_1 {sc : List Int} {t : xm_W} {u n : Nat} {T : Nat → Int} {N p c p1 c1 p2 c2 : Nat} {g g1 g2 : Nat → Int × Int} {k ok : Int} (hok : ok = 0 ∨ ok = 1) (w : tp_M sc t u n T k N 1124 p c g 1 p1 c1 g1) (w2 : tp_ME sc t u n T k N xm_c1122 tp_L2 p1 c1 g1 ok p2 c2 g2) : tp_M sc t u n T k (N + 1) 1122 p c g ok p2 c2 g2 := fun d m hs => by
  obtain ⟨m1, e, f1, f2, f3⟩ := w d m hs
  have key : ∀ {Q : Option xm_V × xm_W → Prop}, (∀ m', tp_mo u n T k ok p2 c2 g2 m m' → Q ((some (.inl (ok)), (yy_W (m') t)))) → xm_EQ (xm_old sc) xm_sta (xm_X (xm_old sc) xm_mt (d + N)) xm_m1122.2.2.2.2.2.2.2 0 (xm_loc xm_m1122.2.2.1 [.inr (.inl (some 74))]) [] (yy_W m t) Q := by
    intro Q hQ
    refine xb_1122_0 ?_
    rw [e, xm_Oi_some, if_neg (by decide)]
    exact w2 d m1 none Q (f3 rfl) fun m' h => hQ m' (tp_mo_tr f1 h)
  obtain ⟨q, h1, m', h2, h3⟩ := yx_of (y := 1122) (M := xm_m1122) (sc := sc) (d := d + N) (as := [.inr (.inl (some 74))]) (w := yy_W m t) (Q := fun q => ∃ m', q = ((some (.inl (ok)), (yy_W (m') t))) ∧ tp_mo u n T k ok p2 c2 g2 m m') rfl (key fun m' h => ⟨m', rfl, h⟩) (fun q ⟨m', h, _⟩ => by rw [h]; rcases hok with e | e <;> subst e <;> rfl) rfl (Nat.le_of_ble_eq_true rfl) (yy_hd rfl (by decide))
  exact ⟨m', by rw [show d + (N + 1) = d + N + 1 by omega, h1, h2], h3⟩
set_option maxRecDepth 20000 in
theorem tm_1118_end {sc : List Int} {t : xm_W} {u n : Nat} {T : Nat → Int} {N p c : Nat} {g : Nat → Int × Int} {k : Int} (hT : tp_T n T) (h : ¬ tp_lk n T p = 124) : tp_ME sc t u n T k (N + 1) xm_c1118 tp_L1 p c g 1 p c g := fun d m v Q hs hQ => by
  rw [show d + (N + 1) = d + N + 1 by omega]
  refine xb_1118_5 ?_
  rw [oc_1115 (d := d + N) hT hs, if_neg h]
  exact hQ m (tp_mo_1 tp_fm_rf hs)
set_option maxRecDepth 20000 in
theorem tm_1118_e0 {sc : List Int} {t : xm_W} {u n : Nat} {T : Nat → Int} {N p c p1 c1 : Nat} {g g1 : Nat → Int × Int} {k : Int} (hT : tp_T n T) (hp : p < n) (hz : T p = 124) (w : tp_M sc t u n T k (N + 1) 1119 (p + 1) c g 0 p1 c1 g1) : tp_ME sc t u n T k (N + 1) xm_c1118 tp_L1 p c g 0 p1 c1 g1 := fun d m v Q hs hQ => by
  have hn := hT.1
  have e : tp_lk n T p = 124 := by unfold tp_lk; rw [if_pos hp]; exact hz
  obtain ⟨m1, e1, f1, f2, f3⟩ := w d _ (tp_ms_mv hs)
  rw [show d + (N + 1) = d + N + 1 by omega] at e1
  rw [show d + (N + 1) = d + N + 1 by omega]
  refine xb_1118_5 ?_
  rw [oc_1115 (d := d + N) hT hs, if_pos e, zf_74_6, hs.2.2.1, zs_74_6, xm_w_id (z := (p : Int) + 1) (by omega) (by omega), e1, xm_Oi_some, if_pos rfl]
  exact hQ m1 (tp_mo_0 (tp_fm_tr tp_fm_mv f1) f2)
set_option maxRecDepth 20000 in
theorem tm_1118_e1 {sc : List Int} {t : xm_W} {u n : Nat} {T : Nat → Int} {N p c p1 c1 p2 c2 : Nat} {g g1 g2 : Nat → Int × Int} {k ok : Int} (hT : tp_T n T) (hp : p < n) (hz : T p = 124) (hc : c1 < 60) (w : tp_M sc t u n T k (N + 1) 1119 (p + 1) c g 1 p1 c1 g1) (w2 : tp_ME sc t u n T k (N + 1) xm_c1118 tp_L1 p1 (c1 + 1) (tp_u g1 c1 (3, T p)) ok p2 c2 g2) : tp_ME sc t u n T k (N + 1) xm_c1118 tp_L1 p c g ok p2 c2 g2 := fun d m v Q hs hQ => by
  have hn := hT.1
  have e : tp_lk n T p = 124 := by unfold tp_lk; rw [if_pos hp]; exact hz
  obtain ⟨m1, e1, f1, f2, f3⟩ := w d _ (tp_ms_mv hs)
  rw [show d + (N + 1) = d + N + 1 by omega] at e1
  have hs1 := f3 rfl
  rw [show d + (N + 1) = d + N + 1 by omega]
  refine xb_1118_5 ?_
  rw [oc_1115 (d := d + N) hT hs, if_pos e, zf_74_6, hs.2.2.1, zs_74_6, xm_w_id (z := (p : Int) + 1) (by omega) (by omega), e1, xm_Oi_some, if_neg (by decide), oc_1117 (d := d + N) (c := c1) hs1.2.2.2.2.1 hc, ← hz]
  exact w2 d _ none Q (tp_ms_em hs1) fun m' h => hQ m' (tp_mo_tr (tp_fm_tr (tp_fm_tr tp_fm_mv f1) tp_fm_em) h)
set_option maxRecDepth 20000 in
theorem tm_1119_end {sc : List Int} {t : xm_W} {u n : Nat} {T : Nat → Int} {N p c : Nat} {g : Nat → Int × Int} {k : Int} (hT : tp_T n T) (h : ¬ tp_lk n T p = 38) : tp_ME sc t u n T k (N + 1) xm_c1119 tp_L1 p c g 1 p c g := fun d m v Q hs hQ => by
  rw [show d + (N + 1) = d + N + 1 by omega]
  refine xb_1119_5 ?_
  rw [oc_1115 (d := d + N) hT hs, if_neg h]
  exact hQ m (tp_mo_1 tp_fm_rf hs)
set_option maxRecDepth 20000 in
theorem tm_1119_e0 {sc : List Int} {t : xm_W} {u n : Nat} {T : Nat → Int} {N p c p1 c1 : Nat} {g g1 : Nat → Int × Int} {k : Int} (hT : tp_T n T) (hp : p < n) (hz : T p = 38) (w : tp_M sc t u n T k (N + 1) 1120 (p + 1) c g 0 p1 c1 g1) : tp_ME sc t u n T k (N + 1) xm_c1119 tp_L1 p c g 0 p1 c1 g1 := fun d m v Q hs hQ => by
  have hn := hT.1
  have e : tp_lk n T p = 38 := by unfold tp_lk; rw [if_pos hp]; exact hz
  obtain ⟨m1, e1, f1, f2, f3⟩ := w d _ (tp_ms_mv hs)
  rw [show d + (N + 1) = d + N + 1 by omega] at e1
  rw [show d + (N + 1) = d + N + 1 by omega]
  refine xb_1119_5 ?_
  rw [oc_1115 (d := d + N) hT hs, if_pos e, zf_74_6, hs.2.2.1, zs_74_6, xm_w_id (z := (p : Int) + 1) (by omega) (by omega), e1, xm_Oi_some, if_pos rfl]
  exact hQ m1 (tp_mo_0 (tp_fm_tr tp_fm_mv f1) f2)
set_option maxRecDepth 20000 in
theorem tm_1119_e1 {sc : List Int} {t : xm_W} {u n : Nat} {T : Nat → Int} {N p c p1 c1 p2 c2 : Nat} {g g1 g2 : Nat → Int × Int} {k ok : Int} (hT : tp_T n T) (hp : p < n) (hz : T p = 38) (hc : c1 < 60) (w : tp_M sc t u n T k (N + 1) 1120 (p + 1) c g 1 p1 c1 g1) (w2 : tp_ME sc t u n T k (N + 1) xm_c1119 tp_L1 p1 (c1 + 1) (tp_u g1 c1 (3, T p)) ok p2 c2 g2) : tp_ME sc t u n T k (N + 1) xm_c1119 tp_L1 p c g ok p2 c2 g2 := fun d m v Q hs hQ => by
  have hn := hT.1
  have e : tp_lk n T p = 38 := by unfold tp_lk; rw [if_pos hp]; exact hz
  obtain ⟨m1, e1, f1, f2, f3⟩ := w d _ (tp_ms_mv hs)
  rw [show d + (N + 1) = d + N + 1 by omega] at e1
  have hs1 := f3 rfl
  rw [show d + (N + 1) = d + N + 1 by omega]
  refine xb_1119_5 ?_
  rw [oc_1115 (d := d + N) hT hs, if_pos e, zf_74_6, hs.2.2.1, zs_74_6, xm_w_id (z := (p : Int) + 1) (by omega) (by omega), e1, xm_Oi_some, if_neg (by decide), oc_1117 (d := d + N) (c := c1) hs1.2.2.2.2.1 hc, ← hz]
  exact w2 d _ none Q (tp_ms_em hs1) fun m' h => hQ m' (tp_mo_tr (tp_fm_tr (tp_fm_tr tp_fm_mv f1) tp_fm_em) h)
set_option maxRecDepth 20000 in
theorem tm_1120_0 {sc : List Int} {t : xm_W} {u n : Nat} {T : Nat → Int} {N p c p1 c1 : Nat} {g g1 : Nat → Int × Int} {k : Int} (w : tp_M sc t u n T k N 1121 p c g 0 p1 c1 g1) : tp_M sc t u n T k (N + 1) 1120 p c g 0 p1 c1 g1 := fun d m hs => by
  obtain ⟨m1, e, ho⟩ := w d m hs
  refine ⟨m1, ?_, ho⟩
  show xm_X (xm_old sc) xm_mt (d + N + 1) 1120 [.inr (.inl (some 74))] (yy_W (m) t) = _
  refine xm_X_of (M := xm_m1120) rfl ⟨xm_EQ.eq (xb_1120_0 ?_), rfl, rfl, Nat.le_of_ble_eq_true rfl, yy_hd rfl (by decide)⟩
  rw [e, xm_Oi_some, if_pos rfl]
set_option maxRecDepth 20000 in
theorem tm_1120_end {sc : List Int} {t : xm_W} {u n : Nat} {T : Nat → Int} {N p c p1 c1 : Nat} {g g1 : Nat → Int × Int} {k : Int} (hT : tp_T n T) (w : tp_M sc t u n T k (N + 1) 1121 p c g 1 p1 c1 g1) (h : ¬ (60 ≤ tp_lk n T p1 ∧ tp_lk n T p1 ≤ 62)) : tp_M sc t u n T k (N + 2) 1120 p c g 1 p1 c1 g1 := fun d m hs => by
  obtain ⟨m1, e, f1, f2, f3⟩ := w d m hs
  rw [show d + (N + 1) = d + N + 1 by omega] at e
  refine ⟨m1, ?_, f1, f2, f3⟩
  show xm_X (xm_old sc) xm_mt (d + N + 1 + 1) 1120 [.inr (.inl (some 74))] (yy_W (m) t) = _
  refine xm_X_of (M := xm_m1120) rfl ⟨xm_EQ.eq (xb_1120_0 ?_), rfl, rfl, Nat.le_of_ble_eq_true rfl, yy_hd rfl (by decide)⟩
  rw [e, xm_Oi_some, if_neg (by decide), oc_1115 (d := d + N) hT (f3 rfl), if_neg (by omega), if_neg (by omega), if_neg (by omega)]
set_option maxRecDepth 20000 in
theorem tm_1120_e0 {sc : List Int} {t : xm_W} {u n : Nat} {T : Nat → Int} {N p c p1 c1 p2 c2 : Nat} {g g1 g2 : Nat → Int × Int} {k : Int} (hT : tp_T n T) (w : tp_M sc t u n T k (N + 1) 1121 p c g 1 p1 c1 g1) (hp : p1 < n) (hz : T p1 = 60 ∨ T p1 = 61 ∨ T p1 = 62) (w2 : tp_M sc t u n T k (N + 1) 1121 (p1 + 1) c1 g1 0 p2 c2 g2) : tp_M sc t u n T k (N + 2) 1120 p c g 0 p2 c2 g2 := fun d m hs => by
  have hn := hT.1
  obtain ⟨m1, e, f1, f2, f3⟩ := w d m hs
  rw [show d + (N + 1) = d + N + 1 by omega] at e
  have hs1 := f3 rfl
  have el : tp_lk n T p1 = T p1 := if_pos hp
  obtain ⟨m2, e2, k1, k2, k3⟩ := w2 d _ (tp_ms_mv hs1)
  rw [show d + (N + 1) = d + N + 1 by omega] at e2
  refine ⟨m2, ?_, tp_mo_0 (tp_fm_tr (tp_fm_tr f1 tp_fm_mv) k1) k2⟩
  show xm_X (xm_old sc) xm_mt (d + N + 1 + 1) 1120 [.inr (.inl (some 74))] (yy_W (m) t) = _
  refine xm_X_of (M := xm_m1120) rfl ⟨xm_EQ.eq (xb_1120_0 ?_), rfl, rfl, Nat.le_of_ble_eq_true rfl, yy_hd rfl (by decide)⟩
  rw [e, xm_Oi_some, if_neg (by decide), oc_1115 (d := d + N) hT hs1, el]
  rcases hz with q | q | q
  · rw [if_pos q, zf_74_6, hs1.2.2.1, zs_74_6, xm_w_id (z := (p1 : Int) + 1) (by omega) (by omega), e2, xm_Oi_some, if_pos rfl]
  · rw [if_neg (by omega), if_pos q, zf_74_6, hs1.2.2.1, zs_74_6, xm_w_id (z := (p1 : Int) + 1) (by omega) (by omega), e2, xm_Oi_some, if_pos rfl]
  · rw [if_neg (by omega), if_neg (by omega), if_pos q, zf_74_6, hs1.2.2.1, zs_74_6, xm_w_id (z := (p1 : Int) + 1) (by omega) (by omega), e2, xm_Oi_some, if_pos rfl]
set_option maxRecDepth 20000 in
theorem tm_1120_e1 {sc : List Int} {t : xm_W} {u n : Nat} {T : Nat → Int} {N p c p1 c1 p2 c2 : Nat} {g g1 g2 : Nat → Int × Int} {k : Int} (hT : tp_T n T) (w : tp_M sc t u n T k (N + 1) 1121 p c g 1 p1 c1 g1) (hp : p1 < n) (hz : T p1 = 60 ∨ T p1 = 61 ∨ T p1 = 62) (hc : c2 < 60) (w2 : tp_M sc t u n T k (N + 1) 1121 (p1 + 1) c1 g1 1 p2 c2 g2) : tp_M sc t u n T k (N + 2) 1120 p c g 1 p2 (c2 + 1) (tp_u g2 c2 (3, T p1)) := fun d m hs => by
  have hn := hT.1
  obtain ⟨m1, e, f1, f2, f3⟩ := w d m hs
  rw [show d + (N + 1) = d + N + 1 by omega] at e
  have hs1 := f3 rfl
  have el : tp_lk n T p1 = T p1 := if_pos hp
  obtain ⟨m2, e2, k1, k2, k3⟩ := w2 d _ (tp_ms_mv hs1)
  rw [show d + (N + 1) = d + N + 1 by omega] at e2
  have hs2 := k3 rfl
  refine ⟨_, ?_, tp_mo_1 (tp_fm_tr (tp_fm_tr (tp_fm_tr f1 tp_fm_mv) k1) tp_fm_em) (tp_ms_em (a := 3) (b := T p1) hs2)⟩
  show xm_X (xm_old sc) xm_mt (d + N + 1 + 1) 1120 [.inr (.inl (some 74))] (yy_W (m) t) = _
  refine xm_X_of (M := xm_m1120) rfl ⟨xm_EQ.eq (xb_1120_0 ?_), rfl, rfl, Nat.le_of_ble_eq_true rfl, yy_hd rfl (by decide)⟩
  rw [e, xm_Oi_some, if_neg (by decide), oc_1115 (d := d + N) hT hs1, el]
  rcases hz with q | q | q
  · rw [if_pos q, zf_74_6, hs1.2.2.1, zs_74_6, xm_w_id (z := (p1 : Int) + 1) (by omega) (by omega), e2, xm_Oi_some, if_neg (by decide), oc_1117 (d := d + N) (c := c2) hs2.2.2.2.2.1 hc]
  · rw [if_neg (by omega), if_pos q, zf_74_6, hs1.2.2.1, zs_74_6, xm_w_id (z := (p1 : Int) + 1) (by omega) (by omega), e2, xm_Oi_some, if_neg (by decide), oc_1117 (d := d + N) (c := c2) hs2.2.2.2.2.1 hc]
  · rw [if_neg (by omega), if_neg (by omega), if_pos q, zf_74_6, hs1.2.2.1, zs_74_6, xm_w_id (z := (p1 : Int) + 1) (by omega) (by omega), e2, xm_Oi_some, if_neg (by decide), oc_1117 (d := d + N) (c := c2) hs2.2.2.2.2.1 hc]
set_option maxRecDepth 20000 in
theorem tm_1121_end {sc : List Int} {t : xm_W} {u n : Nat} {T : Nat → Int} {N p c : Nat} {g : Nat → Int × Int} {k : Int} (hT : tp_T n T) (h : ¬ (tp_lk n T p = 43 ∨ tp_lk n T p = 45)) : tp_ME sc t u n T k (N + 1) xm_c1121 tp_L2 p c g 1 p c g := fun d m v Q hs hQ => by
  rw [show d + (N + 1) = d + N + 1 by omega]
  refine xb_1121_5 ?_
  rw [oc_1115 (d := d + N) hT hs, if_neg (by omega), oc_1115 (d := d + N) hT hs, if_neg (by omega)]
  exact hQ m (tp_mo_1 tp_fm_rf hs)
set_option maxRecDepth 20000 in
theorem tm_1121_e0 {sc : List Int} {t : xm_W} {u n : Nat} {T : Nat → Int} {N p c p1 c1 : Nat} {g g1 : Nat → Int × Int} {k : Int} (hT : tp_T n T) (hp : p < n) (hz : T p = 43 ∨ T p = 45) (w : tp_M sc t u n T k (N + 1) 1122 (p + 1) c g 0 p1 c1 g1) : tp_ME sc t u n T k (N + 1) xm_c1121 tp_L2 p c g 0 p1 c1 g1 := fun d m v Q hs hQ => by
  have hn := hT.1
  have e : tp_lk n T p = T p := if_pos hp
  obtain ⟨m1, e1, f1, f2, f3⟩ := w d _ (tp_ms_mv hs)
  rw [show d + (N + 1) = d + N + 1 by omega] at e1
  have := hQ m1 (tp_mo_0 (tp_fm_tr tp_fm_mv f1) f2)
  rw [show d + (N + 1) = d + N + 1 by omega]
  refine xb_1121_5 ?_
  rcases hz with q | q
  · rw [oc_1115 (d := d + N) hT hs, e, if_pos q, oc_1115 (d := d + N) hT hs, zf_74_6, hs.2.2.1, zs_74_6, xm_w_id (z := (p : Int) + 1) (by omega) (by omega), e1, xm_Oi_some, if_pos rfl]; exact this
  · rw [oc_1115 (d := d + N) hT hs, e, if_neg (by omega), oc_1115 (d := d + N) hT hs, e, if_pos q, oc_1115 (d := d + N) hT hs, zf_74_6, hs.2.2.1, zs_74_6, xm_w_id (z := (p : Int) + 1) (by omega) (by omega), e1, xm_Oi_some, if_pos rfl]; exact this
set_option maxRecDepth 20000 in
theorem tm_1121_e1 {sc : List Int} {t : xm_W} {u n : Nat} {T : Nat → Int} {N p c p1 c1 p2 c2 : Nat} {g g1 g2 : Nat → Int × Int} {k ok : Int} (hT : tp_T n T) (hp : p < n) (hz : T p = 43 ∨ T p = 45) (hc : c1 < 60) (w : tp_M sc t u n T k (N + 1) 1122 (p + 1) c g 1 p1 c1 g1) (w2 : tp_ME sc t u n T k (N + 1) xm_c1121 tp_L2 p1 (c1 + 1) (tp_u g1 c1 (3, T p)) ok p2 c2 g2) : tp_ME sc t u n T k (N + 1) xm_c1121 tp_L2 p c g ok p2 c2 g2 := fun d m v Q hs hQ => by
  have hn := hT.1
  have e : tp_lk n T p = T p := if_pos hp
  obtain ⟨m1, e1, f1, f2, f3⟩ := w d _ (tp_ms_mv hs)
  rw [show d + (N + 1) = d + N + 1 by omega] at e1
  have hs1 := f3 rfl
  have fin := fun v => w2 d _ v Q (tp_ms_em hs1) fun m' h => hQ m' (tp_mo_tr (tp_fm_tr (tp_fm_tr tp_fm_mv f1) tp_fm_em) h)
  rw [show d + (N + 1) = d + N + 1 by omega]
  refine xb_1121_5 ?_
  rcases hz with q | q
  · rw [oc_1115 (d := d + N) hT hs, e, if_pos q, oc_1115 (d := d + N) hT hs, e, zf_74_6, hs.2.2.1, zs_74_6, xm_w_id (z := (p : Int) + 1) (by omega) (by omega), e1, xm_Oi_some, if_neg (by decide), oc_1117 (d := d + N) (c := c1) hs1.2.2.2.2.1 hc]; exact fin _
  · rw [oc_1115 (d := d + N) hT hs, e, if_neg (by omega), oc_1115 (d := d + N) hT hs, e, if_pos q, oc_1115 (d := d + N) hT hs, e, zf_74_6, hs.2.2.1, zs_74_6, xm_w_id (z := (p : Int) + 1) (by omega) (by omega), e1, xm_Oi_some, if_neg (by decide), oc_1117 (d := d + N) (c := c1) hs1.2.2.2.2.1 hc]; exact fin _
set_option maxRecDepth 20000 in
theorem tm_1122_end {sc : List Int} {t : xm_W} {u n : Nat} {T : Nat → Int} {N p c : Nat} {g : Nat → Int × Int} {k : Int} (hT : tp_T n T) (h : ¬ (tp_lk n T p = 42 ∨ tp_lk n T p = 47 ∨ tp_lk n T p = 37)) : tp_ME sc t u n T k (N + 1) xm_c1122 tp_L2 p c g 1 p c g := fun d m v Q hs hQ => by
  rw [show d + (N + 1) = d + N + 1 by omega]
  refine xb_1122_5 ?_
  rw [oc_1115 (d := d + N) hT hs, if_neg (by omega), oc_1115 (d := d + N) hT hs, if_neg (by omega), oc_1115 (d := d + N) hT hs, if_neg (by omega)]
  exact hQ m (tp_mo_1 tp_fm_rf hs)
set_option maxRecDepth 20000 in
theorem tm_1122_e0 {sc : List Int} {t : xm_W} {u n : Nat} {T : Nat → Int} {N p c p1 c1 : Nat} {g g1 : Nat → Int × Int} {k : Int} (hT : tp_T n T) (hp : p < n) (hz : T p = 42 ∨ T p = 47 ∨ T p = 37) (w : tp_M sc t u n T k (N + 1) 1124 (p + 1) c g 0 p1 c1 g1) : tp_ME sc t u n T k (N + 1) xm_c1122 tp_L2 p c g 0 p1 c1 g1 := fun d m v Q hs hQ => by
  have hn := hT.1
  have e : tp_lk n T p = T p := if_pos hp
  obtain ⟨m1, e1, f1, f2, f3⟩ := w d _ (tp_ms_mv hs)
  rw [show d + (N + 1) = d + N + 1 by omega] at e1
  have := hQ m1 (tp_mo_0 (tp_fm_tr tp_fm_mv f1) f2)
  rw [show d + (N + 1) = d + N + 1 by omega]
  refine xb_1122_5 ?_
  rcases hz with q | q | q
  · rw [oc_1115 (d := d + N) hT hs, e, if_pos q, oc_1115 (d := d + N) hT hs, zf_74_6, hs.2.2.1, zs_74_6, xm_w_id (z := (p : Int) + 1) (by omega) (by omega), e1, xm_Oi_some, if_pos rfl]; exact this
  · rw [oc_1115 (d := d + N) hT hs, e, if_neg (by omega), oc_1115 (d := d + N) hT hs, e, if_pos q, oc_1115 (d := d + N) hT hs, zf_74_6, hs.2.2.1, zs_74_6, xm_w_id (z := (p : Int) + 1) (by omega) (by omega), e1, xm_Oi_some, if_pos rfl]; exact this
  · rw [oc_1115 (d := d + N) hT hs, e, if_neg (by omega), oc_1115 (d := d + N) hT hs, e, if_neg (by omega), oc_1115 (d := d + N) hT hs, e, if_pos q, oc_1115 (d := d + N) hT hs, zf_74_6, hs.2.2.1, zs_74_6, xm_w_id (z := (p : Int) + 1) (by omega) (by omega), e1, xm_Oi_some, if_pos rfl]; exact this
set_option maxRecDepth 20000 in
theorem tm_1122_e1 {sc : List Int} {t : xm_W} {u n : Nat} {T : Nat → Int} {N p c p1 c1 p2 c2 : Nat} {g g1 g2 : Nat → Int × Int} {k ok : Int} (hT : tp_T n T) (hp : p < n) (hz : T p = 42 ∨ T p = 47 ∨ T p = 37) (hc : c1 < 60) (w : tp_M sc t u n T k (N + 1) 1124 (p + 1) c g 1 p1 c1 g1) (w2 : tp_ME sc t u n T k (N + 1) xm_c1122 tp_L2 p1 (c1 + 1) (tp_u g1 c1 (3, T p)) ok p2 c2 g2) : tp_ME sc t u n T k (N + 1) xm_c1122 tp_L2 p c g ok p2 c2 g2 := fun d m v Q hs hQ => by
  have hn := hT.1
  have e : tp_lk n T p = T p := if_pos hp
  obtain ⟨m1, e1, f1, f2, f3⟩ := w d _ (tp_ms_mv hs)
  rw [show d + (N + 1) = d + N + 1 by omega] at e1
  have hs1 := f3 rfl
  have fin := fun v => w2 d _ v Q (tp_ms_em hs1) fun m' h => hQ m' (tp_mo_tr (tp_fm_tr (tp_fm_tr tp_fm_mv f1) tp_fm_em) h)
  rw [show d + (N + 1) = d + N + 1 by omega]
  refine xb_1122_5 ?_
  rcases hz with q | q | q
  · rw [oc_1115 (d := d + N) hT hs, e, if_pos q, oc_1115 (d := d + N) hT hs, e, zf_74_6, hs.2.2.1, zs_74_6, xm_w_id (z := (p : Int) + 1) (by omega) (by omega), e1, xm_Oi_some, if_neg (by decide), oc_1117 (d := d + N) (c := c1) hs1.2.2.2.2.1 hc]; exact fin _
  · rw [oc_1115 (d := d + N) hT hs, e, if_neg (by omega), oc_1115 (d := d + N) hT hs, e, if_pos q, oc_1115 (d := d + N) hT hs, e, zf_74_6, hs.2.2.1, zs_74_6, xm_w_id (z := (p : Int) + 1) (by omega) (by omega), e1, xm_Oi_some, if_neg (by decide), oc_1117 (d := d + N) (c := c1) hs1.2.2.2.2.1 hc]; exact fin _
  · rw [oc_1115 (d := d + N) hT hs, e, if_neg (by omega), oc_1115 (d := d + N) hT hs, e, if_neg (by omega), oc_1115 (d := d + N) hT hs, e, if_pos q, oc_1115 (d := d + N) hT hs, e, zf_74_6, hs.2.2.1, zs_74_6, xm_w_id (z := (p : Int) + 1) (by omega) (by omega), e1, xm_Oi_some, if_neg (by decide), oc_1117 (d := d + N) (c := c1) hs1.2.2.2.2.1 hc]; exact fin _
