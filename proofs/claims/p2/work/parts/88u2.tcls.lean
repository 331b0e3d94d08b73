/-! TEXTS read: what both sides come to; the class -/
def tp_d (g : Nat → Int × Int) : Nat → Int
  | 0 => 0
  | k + 1 => tp_d g k + (if (g k).1 = 0 ∨ (g k).1 = 1 then 1 else if (g k).1 = 2 then 0 else -1)
set_option maxRecDepth 20000 in
theorem tp_d_eq {g g' : Nat → Int × Int} : ∀ k, (∀ j, j < k → g' j = g j) → tp_d g' k = tp_d g k
  | 0, _ => rfl
  | k + 1, h => by unfold tp_d; rw [tp_d_eq k (fun j hj => h j (by omega)), h k (by omega)]
def tp_tok (u : Nat) (g : Nat → Int × Int) (k : Nat) : Prop := ((g k).1 = 0 ∧ 0 ≤ (g k).2 ∧ (g k).2 ≤ 9999) ∨ ((g k).1 = 1 ∧ sg_nm u (g k).2) ∨ ((g k).1 = 2 ∧ 1 ≤ tp_d g k) ∨ ((g k).1 = 3 ∧ 2 ≤ tp_d g k ∧ sp_sign (g k).2)
def tp_sg (u : Nat) (x : Int × Int) : Int := if x.1 = 0 then x.2 else if x.1 = 1 then -1 - sg_ix u x.2 else if x.1 = 2 then -43 else -10 - x.2
def tp_u (g : Nat → Int × Int) (c : Nat) (x : Int × Int) : Nat → Int × Int := fun k => if k = c then x else g k
set_option maxRecDepth 20000 in
theorem tp_u_eq {g : Nat → Int × Int} {c : Nat} {x : Int × Int} : tp_u g c x c = x := if_pos rfl
set_option maxRecDepth 20000 in
theorem tp_u_ne {g : Nat → Int × Int} {c k : Nat} {x : Int × Int} (h : k ≠ c) : tp_u g c x k = g k := if_neg h
def tp_cs (u n : Nat) (T : Nat → Int) (p c : Nat) (g : Nat → Int × Int) (m : Nat → Nat → Int) : Prop := m 58 0 = 37 ∧ m 58 1 = n ∧ m 58 2 = 1000004 + u ∧ m 58 3 = p ∧ m 58 5 = c ∧ (∀ j, j < 60 → m 36 j = T j) ∧ ∀ j, j < c → m 60 j = tp_sg u (g j)
def tp_fc (m m' : Nat → Nat → Int) : Prop := ∀ x, x ≠ 58 → x ≠ 60 → m' x = m x
def tp_co (u n : Nat) (T : Nat → Int) (ok : Int) (p c : Nat) (g : Nat → Int × Int) (m m' : Nat → Nat → Int) : Prop := tp_fc m m' ∧ m' 58 3 = p ∧ (ok = 1 → tp_cs u n T p c g m')
def tp_C (sc : List Int) (t : xm_W) (u n : Nat) (T : Nat → Int) (N me : Nat) (as : List xm_V) (p c : Nat) (g : Nat → Int × Int) (ok : Int) (p' c' : Nat) (g' : Nat → Int × Int) : Prop := ∀ (d : Nat) (m : Nat → Nat → Int), tp_cs u n T p c g m → ∃ m', xm_X (xm_old sc) xm_mt (d + N) me as (yy_W m t) = some (some (.inl ok), yy_W m' t) ∧ tp_co u n T ok p' c' g' m m'
def tp_CE (sc : List Int) (t : xm_W) (u n : Nat) (T : Nat → Int) (N : Nat) (l k : Int) (p c : Nat) (g : Nat → Int × Int) (ok : Int) (p' c' : Nat) (g' : Nat → Int × Int) : Prop := ∀ (d : Nat) (m : Nat → Nat → Int) (v : Option xm_V) (Q : Option xm_V × xm_W → Prop), tp_cs u n T p c g m → (∀ m', tp_co u n T ok p' c' g' m m' → Q ((some (.inl (ok)), (yy_W (m') t)))) → xm_EQ (xm_old sc) xm_sta (xm_X (xm_old sc) xm_mt (d + N)) xm_c504 16 [some (.inr (.inl (some 58))), some (.inl (l)), some (.inl (k)), v] [] (yy_W (m) t) Q
set_option maxRecDepth 20000 in
theorem tp_C_up {sc : List Int} {t : xm_W} {u n : Nat} {T : Nat → Int} {N N' me : Nat} {as : List xm_V} {p c : Nat} {g : Nat → Int × Int} {ok : Int} {p' c' : Nat} {g' : Nat → Int × Int} (hn : N ≤ N') (h : tp_C sc t u n T N me as p c g ok p' c' g') : tp_C sc t u n T N' me as p c g ok p' c' g' := fun d m a => by
  obtain ⟨j, rfl⟩ : ∃ j, N' = N + j := ⟨N' - N, by omega⟩
  have := h (d + j) m a
  rw [show d + (N + j) = d + j + N by omega]
  exact this
set_option maxRecDepth 20000 in
theorem tp_fc_tr {m m' m'' : Nat → Nat → Int} (h : tp_fc m m') (h' : tp_fc m' m'') : tp_fc m m'' := fun x a b => by rw [h' x a b, h x a b]
set_option maxRecDepth 20000 in
theorem tp_co_tr {u n : Nat} {T : Nat → Int} {ok : Int} {p c : Nat} {g : Nat → Int × Int} {m m' m'' : Nat → Nat → Int} (h : tp_fc m m') (h' : tp_co u n T ok p c g m' m'') : tp_co u n T ok p c g m m'' := ⟨tp_fc_tr h h'.1, h'.2⟩
set_option maxRecDepth 20000 in
theorem tp_co_1 {u n : Nat} {T : Nat → Int} {p c : Nat} {g : Nat → Int × Int} {m m' : Nat → Nat → Int} (h : tp_fc m m') (h' : tp_cs u n T p c g m') : tp_co u n T 1 p c g m m' := ⟨h, h'.2.2.2.1, fun _ => h'⟩
set_option maxRecDepth 20000 in
theorem tp_co_0 {u n : Nat} {T : Nat → Int} {p c : Nat} {g : Nat → Int × Int} {m m' : Nat → Nat → Int} (h : tp_fc m m') (h' : m' 58 3 = p) : tp_co u n T 0 p c g m m' := ⟨h, h', fun e => absurd e (by decide)⟩
set_option maxRecDepth 20000 in
theorem tp_cs_mv {u n : Nat} {T : Nat → Int} {p c : Nat} {g : Nat → Int × Int} {m : Nat → Nat → Int} (h : tp_cs u n T p c g m) : tp_cs u n T (p + 1) c g (yy_s m 58 3 ((p : Int) + 1)) := by
  obtain ⟨a0, a1, a2, a3, a4, a5, a6⟩ := h
  exact ⟨by simp (disch := first | omega | (unfold xm_w; omega)) only [↓zy_at, xm_O_some, xm_Oi_some, xm_Ov_some, xm_Oq_some, ↓reduceIte, ↓zz_t, ↓zz_f, ↓zi_t, ↓zi_f, eq_self, yy_d_0, Int.reduceEq, Int.reduceLT, Int.reduceLE, Int.reduceNe, Int.reduceToNat, Int.reduceAdd, Int.reduceSub, Int.reduceMul, Int.reduceNeg, Nat.reduceAdd, Nat.reduceMul, Nat.reduceSub, Nat.reduceEqDiff, Nat.reduceLT, ne_eq, not_false_eq_true, not_true_eq_false, true_and, and_true, and_self, yy_s_eq, yy_s_ne, yy_c_eq, yy_c_ne, yy_u_eq, yy_u_ne, xm_w_id, yy_at, tdiv_pos, tmod_pos, a0], by simp (disch := first | omega | (unfold xm_w; omega)) only [↓zy_at, xm_O_some, xm_Oi_some, xm_Ov_some, xm_Oq_some, ↓reduceIte, ↓zz_t, ↓zz_f, ↓zi_t, ↓zi_f, eq_self, yy_d_0, Int.reduceEq, Int.reduceLT, Int.reduceLE, Int.reduceNe, Int.reduceToNat, Int.reduceAdd, Int.reduceSub, Int.reduceMul, Int.reduceNeg, Nat.reduceAdd, Nat.reduceMul, Nat.reduceSub, Nat.reduceEqDiff, Nat.reduceLT, ne_eq, not_false_eq_true, not_true_eq_false, true_and, and_true, and_self, yy_s_eq, yy_s_ne, yy_c_eq, yy_c_ne, yy_u_eq, yy_u_ne, xm_w_id, yy_at, tdiv_pos, tmod_pos, a1], by simp (disch := first | omega | (unfold xm_w; omega)) only [↓zy_at, xm_O_some, xm_Oi_some, xm_Ov_some, xm_Oq_some, ↓reduceIte, ↓zz_t, ↓zz_f, ↓zi_t, ↓zi_f, eq_self, yy_d_0, Int.reduceEq, Int.reduceLT, Int.reduceLE, Int.reduceNe, Int.reduceToNat, Int.reduceAdd, Int.reduceSub, Int.reduceMul, Int.reduceNeg, Nat.reduceAdd, Nat.reduceMul, Nat.reduceSub, Nat.reduceEqDiff, Nat.reduceLT, ne_eq, not_false_eq_true, not_true_eq_false, true_and, and_true, and_self, yy_s_eq, yy_s_ne, yy_c_eq, yy_c_ne, yy_u_eq, yy_u_ne, xm_w_id, yy_at, tdiv_pos, tmod_pos, a2], by rw [yy_s_eq, yy_u_eq]; omega, by simp (disch := first | omega | (unfold xm_w; omega)) only [↓zy_at, xm_O_some, xm_Oi_some, xm_Ov_some, xm_Oq_some, ↓reduceIte, ↓zz_t, ↓zz_f, ↓zi_t, ↓zi_f, eq_self, yy_d_0, Int.reduceEq, Int.reduceLT, Int.reduceLE, Int.reduceNe, Int.reduceToNat, Int.reduceAdd, Int.reduceSub, Int.reduceMul, Int.reduceNeg, Nat.reduceAdd, Nat.reduceMul, Nat.reduceSub, Nat.reduceEqDiff, Nat.reduceLT, ne_eq, not_false_eq_true, not_true_eq_false, true_and, and_true, and_self, yy_s_eq, yy_s_ne, yy_c_eq, yy_c_ne, yy_u_eq, yy_u_ne, xm_w_id, yy_at, tdiv_pos, tmod_pos, a4], fun j hj => by rw [yy_s_ne (by decide)]; exact a5 j hj, fun j hj => by rw [yy_s_ne (by decide)]; exact a6 j hj⟩
set_option maxRecDepth 20000 in
theorem tp_cs_em {u n : Nat} {T : Nat → Int} {p c : Nat} {g : Nat → Int × Int} {m : Nat → Nat → Int} {x : Int × Int} {v : Int} (h : tp_cs u n T p c g m) (hv : v = tp_sg u x) : tp_cs u n T p (c + 1) (tp_u g c x) (yy_s (yy_s m 60 c v) 58 5 ((c : Int) + 1)) := by
  obtain ⟨a0, a1, a2, a3, a4, a5, a6⟩ := h
  refine ⟨by simp (disch := first | omega | (unfold xm_w; omega)) only [↓zy_at, xm_O_some, xm_Oi_some, xm_Ov_some, xm_Oq_some, ↓reduceIte, ↓zz_t, ↓zz_f, ↓zi_t, ↓zi_f, eq_self, yy_d_0, Int.reduceEq, Int.reduceLT, Int.reduceLE, Int.reduceNe, Int.reduceToNat, Int.reduceAdd, Int.reduceSub, Int.reduceMul, Int.reduceNeg, Nat.reduceAdd, Nat.reduceMul, Nat.reduceSub, Nat.reduceEqDiff, Nat.reduceLT, ne_eq, not_false_eq_true, not_true_eq_false, true_and, and_true, and_self, yy_s_eq, yy_s_ne, yy_c_eq, yy_c_ne, yy_u_eq, yy_u_ne, xm_w_id, yy_at, tdiv_pos, tmod_pos, a0], by simp (disch := first | omega | (unfold xm_w; omega)) only [↓zy_at, xm_O_some, xm_Oi_some, xm_Ov_some, xm_Oq_some, ↓reduceIte, ↓zz_t, ↓zz_f, ↓zi_t, ↓zi_f, eq_self, yy_d_0, Int.reduceEq, Int.reduceLT, Int.reduceLE, Int.reduceNe, Int.reduceToNat, Int.reduceAdd, Int.reduceSub, Int.reduceMul, Int.reduceNeg, Nat.reduceAdd, Nat.reduceMul, Nat.reduceSub, Nat.reduceEqDiff, Nat.reduceLT, ne_eq, not_false_eq_true, not_true_eq_false, true_and, and_true, and_self, yy_s_eq, yy_s_ne, yy_c_eq, yy_c_ne, yy_u_eq, yy_u_ne, xm_w_id, yy_at, tdiv_pos, tmod_pos, a1], by simp (disch := first | omega | (unfold xm_w; omega)) only [↓zy_at, xm_O_some, xm_Oi_some, xm_Ov_some, xm_Oq_some, ↓reduceIte, ↓zz_t, ↓zz_f, ↓zi_t, ↓zi_f, eq_self, yy_d_0, Int.reduceEq, Int.reduceLT, Int.reduceLE, Int.reduceNe, Int.reduceToNat, Int.reduceAdd, Int.reduceSub, Int.reduceMul, Int.reduceNeg, Nat.reduceAdd, Nat.reduceMul, Nat.reduceSub, Nat.reduceEqDiff, Nat.reduceLT, ne_eq, not_false_eq_true, not_true_eq_false, true_and, and_true, and_self, yy_s_eq, yy_s_ne, yy_c_eq, yy_c_ne, yy_u_eq, yy_u_ne, xm_w_id, yy_at, tdiv_pos, tmod_pos, a2], by simp (disch := first | omega | (unfold xm_w; omega)) only [↓zy_at, xm_O_some, xm_Oi_some, xm_Ov_some, xm_Oq_some, ↓reduceIte, ↓zz_t, ↓zz_f, ↓zi_t, ↓zi_f, eq_self, yy_d_0, Int.reduceEq, Int.reduceLT, Int.reduceLE, Int.reduceNe, Int.reduceToNat, Int.reduceAdd, Int.reduceSub, Int.reduceMul, Int.reduceNeg, Nat.reduceAdd, Nat.reduceMul, Nat.reduceSub, Nat.reduceEqDiff, Nat.reduceLT, ne_eq, not_false_eq_true, not_true_eq_false, true_and, and_true, and_self, yy_s_eq, yy_s_ne, yy_c_eq, yy_c_ne, yy_u_eq, yy_u_ne, xm_w_id, yy_at, tdiv_pos, tmod_pos, a3], by rw [yy_s_eq, yy_u_eq]; omega, fun j hj => by rw [yy_s_ne (by decide), yy_s_ne (by decide)]; exact a5 j hj, fun j hj => ?_⟩
  rw [yy_s_ne (by decide), yy_s_eq]
  by_cases e : j = c
  · subst e; rw [yy_u_eq, tp_u_eq, hv]
  · rw [yy_u_ne e, tp_u_ne e]; exact a6 j (by omega)
set_option maxRecDepth 20000 in
theorem tp_fc_mv {m : Nat → Nat → Int} {v : Int} {k : Nat} : tp_fc m (yy_s m 58 k v) := fun x a _ => yy_s_ne a
set_option maxRecDepth 20000 in
theorem tp_fc_em {m : Nat → Nat → Int} {v v' : Int} {k k' : Nat} : tp_fc m (yy_s (yy_s m 60 k v) 58 k' v') := fun x a b => by rw [yy_s_ne a, yy_s_ne b]
section
variable {o : xm_W} {t : xm_W} {m : Nat → Nat → Int} {F : Nat → Prop}
set_option maxRecDepth 20000 in
theorem zx_58_0 (h : m 58 0 = 37) : xm_O (xm_fr o (yy_W m t) 58 3 0) F = F 36 := by
  have e : (yy_W m t)[58]? = some (.inr (.inr (3, yy_vs (m 58) 0 [1, 0, 1, 0, 62, 0]))) := (yy_get rfl).trans rfl
  rw [xw_fr (j := 36) e (by show (some (Sum.inr (Sum.inl (yy_d (m 58 0)))) : Option xm_V) = _; rw [h]; rfl)]; rfl
set_option maxRecDepth 20000 in
theorem zx_58_2 {u : Nat} (h : m 58 2 = 1000004 + u) : xm_O (xm_fr o (yy_W m t) 58 3 2) F = F (1000003 + u) := by
  have e : (yy_W m t)[58]? = some (.inr (.inr (3, yy_vs (m 58) 0 [1, 0, 1, 0, 62, 0]))) := (yy_get rfl).trans rfl
  rw [xw_fr (j := 1000003 + u) e (by show (some (Sum.inr (Sum.inl (yy_d (m 58 2)))) : Option xm_V) = _; rw [h]; unfold yy_d; rw [if_neg (by omega), show (1000004 + (u : Int) - 1).toNat = 1000003 + u by omega])]; rfl
end
def tp_ix (u : Nat) (z : Int) : Int := if u = 0 then tp_ix0 z else tp_ix1 z
set_option maxRecDepth 20000 in
theorem tp_ix_t {u : Nat} {z : Int} (h : sg_nm u z) : tp_ix u z = sg_ix u z := by
  unfold sg_nm at h
  unfold tp_ix sg_ix
  by_cases e : u = 0
  · rw [if_pos e] at h; rw [if_pos e, if_pos e]
    unfold tp_ix0
    rcases h with h | h | h | h <;> subst h <;> rfl
  · rw [if_neg e] at h; rw [if_neg e, if_neg e]
    unfold tp_ix1
    rcases h with h | h | h <;> subst h <;> rfl
set_option maxRecDepth 20000 in
theorem tp_ix_f {u : Nat} {z : Int} (h : ¬ sg_nm u z) : tp_ix u z = -1 := by
  unfold sg_nm at h
  unfold tp_ix
  by_cases e : u = 0
  · rw [if_pos e] at h; rw [if_pos e]
    unfold tp_ix0
    rw [if_neg (by omega), if_neg (by omega), if_neg (by omega), if_neg (by omega)]
  · rw [if_neg e] at h; rw [if_neg e]
    unfold tp_ix1
    rw [if_neg (by omega), if_neg (by omega), if_neg (by omega)]
set_option maxRecDepth 20000 in
theorem c_1479 {sc : List Int} {d : Nat} {t : xm_W} {m : Nat → Nat → Int} {u : Nat} {z : Int} (ht : t.length < 900000) (hu : u < 2) (hz : 0 ≤ z ∧ z ≤ 255) : xm_X (xm_old sc) xm_mt (d + 4) 1479 [.inr (.inl (some (1000003 + u))), .inl (z)] (yy_W (m) t) = some (some (.inl (tp_ix u z)), (yy_W (m) t)) := by
  rcases (show u = 0 ∨ u = 1 by omega) with e | e <;> subst e
  · exact c_1479_0 ht hz
  · exact c_1479_1 ht hz
set_option maxRecDepth 20000 in
theorem oc_1479 {F : Int → xm_W → Prop} {sc : List Int} {d : Nat} {t : xm_W} {m : Nat → Nat → Int} {u : Nat} {z : Int} (ht : t.length < 900000) (hu : u < 2) (hz : 0 ≤ z ∧ z ≤ 255) : xm_Oi (xm_X (xm_old sc) xm_mt (d + 4) 1479 [.inr (.inl (some (1000003 + u))), .inl (z)] (yy_W (m) t)) F = F (tp_ix u z) (yy_W (m) t) := congrArg (fun x => xm_Oi x F) (c_1479 ht hu hz)
set_option maxRecDepth 20000 in
theorem c_509 {sc : List Int} {d : Nat} {t : xm_W} {m : Nat → Nat → Int} {c : Nat} {v : Int} (h : m 58 5 = c) (hc : c < 60) : xm_X (xm_old sc) xm_mt (d + 1) 509 [.inr (.inl (some 58)), .inl (v)] (yy_W (m) t) = some (none, (yy_W (yy_s (yy_s m 60 c v) 58 5 ((c : Int) + 1)) t)) := by
  refine xm_X_of (M := xm_m509) rfl ⟨xm_EQ.eq (xb_509_0 ?_), rfl, rfl, Nat.le_of_ble_eq_true rfl, yy_hd rfl (by decide)⟩
  rw [zf_58_5, h, if_pos (by omega), zr_58_4, zf_58_5, h, zt_60 (by omega) (by omega), zf_58_5, yy_s_ne (by decide), h, zs_58_5, xm_w_id (by omega) (by omega), Int.toNat_natCast]
set_option maxRecDepth 20000 in
theorem oc_509 {F : xm_W → Prop} {sc : List Int} {d : Nat} {t : xm_W} {m : Nat → Nat → Int} {c : Nat} {v : Int} (h : m 58 5 = c) (hc : c < 60) : xm_Ov (xm_X (xm_old sc) xm_mt (d + 1) 509 [.inr (.inl (some 58)), .inl (v)] (yy_W (m) t)) F = F (yy_W (yy_s (yy_s m 60 c v) 58 5 ((c : Int) + 1)) t) := congrArg (fun x => xm_Ov x F) (c_509 h hc)
set_option maxRecDepth 20000 in
theorem c_510 {sc : List Int} {d : Nat} {x : Int} {w : xm_W} : xm_X (xm_old sc) xm_mt (d + 1) 510 [.inl x] w = some (some (.inl (if 48 ≤ x ∧ x ≤ 57 then 1 else 0)), w) := by
  by_cases h : 48 ≤ x ∧ x ≤ 57
  · rw [if_pos h]
    refine xm_X_of (M := xm_m510) rfl ⟨xm_EQ.eq (xb_510_0 ?_), rfl, rfl, Nat.le_of_ble_eq_true rfl, xw_hd0⟩
    rw [if_neg (by omega), if_neg (by omega)]
  · rw [if_neg h]
    refine xm_X_of (M := xm_m510) rfl ⟨xm_EQ.eq (xb_510_0 ?_), rfl, rfl, Nat.le_of_ble_eq_true rfl, xw_hd0⟩
    by_cases g : x < 48
    · rw [if_pos g]
    · rw [if_neg g, if_pos (by omega)]
set_option maxRecDepth 20000 in
theorem oc_510 {F : Int → xm_W → Prop} {sc : List Int} {d : Nat} {x : Int} {w : xm_W} : xm_Oi (xm_X (xm_old sc) xm_mt (d + 1) 510 [.inl x] w) F = F (if 48 ≤ x ∧ x ≤ 57 then 1 else 0) (w) := congrArg (fun x => xm_Oi x F) (c_510)
def tp_lv (x : Int) : Int := if x = 37 then 4 else if x = 38 then 1 else if x = 42 then 4 else if x = 43 then 3 else if x = 45 then 3 else if x = 47 then 4 else if x = 60 then 2 else if x = 61 then 2 else if x = 62 then 2 else if x = 124 then 0 else -1
set_option maxRecDepth 20000 in
theorem c_511 {sc : List Int} {d : Nat} {x : Int} {w : xm_W} : xm_X (xm_old sc) xm_mt (d + 1) 511 [.inl x] w = some (some (.inl (tp_lv x)), w) := by
  refine xm_X_of (M := xm_m511) rfl ⟨xm_EQ.eq (xb_511_0 ?_), rfl, rfl, Nat.le_of_ble_eq_true rfl, xw_hd0⟩
  unfold tp_lv
  by_cases h37 : x = 37
  · rw [if_pos h37, if_pos h37]
  rw [if_neg h37, if_neg h37]
  by_cases h38 : x = 38
  · rw [if_pos h38, if_pos h38]
  rw [if_neg h38, if_neg h38]
  by_cases h42 : x = 42
  · rw [if_pos h42, if_pos h42]
  rw [if_neg h42, if_neg h42]
  by_cases h43 : x = 43
  · rw [if_pos h43, if_pos h43]
  rw [if_neg h43, if_neg h43]
  by_cases h45 : x = 45
  · rw [if_pos h45, if_pos h45]
  rw [if_neg h45, if_neg h45]
  by_cases h47 : x = 47
  · rw [if_pos h47, if_pos h47]
  rw [if_neg h47, if_neg h47]
  by_cases h60 : x = 60
  · rw [if_pos h60, if_pos h60]
  rw [if_neg h60, if_neg h60]
  by_cases h61 : x = 61
  · rw [if_pos h61, if_pos h61]
  rw [if_neg h61, if_neg h61]
  by_cases h62 : x = 62
  · rw [if_pos h62, if_pos h62]
  rw [if_neg h62, if_neg h62]
  by_cases h124 : x = 124
  · rw [if_pos h124, if_pos h124]
  rw [if_neg h124, if_neg h124]
/- the tape -/
set_option maxRecDepth 20000 in
theorem oc_511 {F : Int → xm_W → Prop} {sc : List Int} {d : Nat} {x : Int} {w : xm_W} : xm_Oi (xm_X (xm_old sc) xm_mt (d + 1) 511 [.inl x] w) F = F (tp_lv x) (w) := congrArg (fun x => xm_Oi x F) (c_511)
def tp_T (n : Nat) (T : Nat → Int) : Prop := n ≤ 60 ∧ ∀ j, j < 60 → 0 ≤ T j ∧ T j ≤ 255
set_option maxRecDepth 20000 in
theorem tp_end {sc : List Int} {t : xm_W} {u n : Nat} {T : Nat → Int} {p c : Nat} {g : Nat → Int × Int} {k : Int} (h : n ≤ p) : tp_C sc t u n T 1 505 [.inr (.inl (some 58)), .inl k] p c g 0 p c g := fun d m hs => by
  obtain ⟨a0, a1, a2, a3, a4, a5, a6⟩ := id hs
  exact ⟨m, c_505e (by omega), tp_co_0 (fun _ _ _ => rfl) a3⟩
set_option maxRecDepth 20000 in
theorem tp_nam {sc : List Int} {t : xm_W} {u n : Nat} {T : Nat → Int} {p c : Nat} {g : Nat → Int × Int} {k : Int} (ht : t.length < 900000) (hu : u < 2) (hT : tp_T n T) (hp : p < n) (hc : c ≤ p) (hz : sg_nm u (T p)) : tp_C sc t u n T 5 505 [.inr (.inl (some 58)), .inl k] p c g 1 (p + 1) (c + 1) (tp_u g c (1, T p)) := fun d m hs => by
  obtain ⟨a0, a1, a2, a3, a4, a5, a6⟩ := id hs
  have hn := hT.1
  have hb := hT.2 p (by omega)
  have hv : -1 - sg_ix u (T p) = tp_sg u (1, T p) := by
    unfold tp_sg; rw [if_neg (by show ¬ (1 : Int) = 0; decide), if_pos (show (1 : Int) = 1 from rfl)]
  have hx := sg_ix_b (u := u) (v := T p)
  refine ⟨yy_s (yy_s (yy_s m 58 3 ((p : Int) + 1)) 60 c (-1 - sg_ix u (T p))) 58 5 ((c : Int) + 1), ?_, tp_co_1 (tp_fc_tr tp_fc_mv tp_fc_em) (tp_cs_em (tp_cs_mv hs) hv)⟩
  show xm_X (xm_old sc) xm_mt (d + 4 + 1) 505 [.inr (.inl (some 58)), .inl (k)] (yy_W (m) t) = _
  refine xm_X_of (M := xm_m505) rfl ⟨xm_EQ.eq (xb_505_0 ?_), rfl, rfl, Nat.le_of_ble_eq_true rfl, yy_hd rfl (by decide)⟩
  have e1 : m 36 ((p : Int)).toNat = T p := by rw [Int.toNat_natCast]; exact a5 p (by omega)
  have nd : ¬ (48 ≤ T p ∧ T p ≤ 57) := by unfold sg_nm at hz; split at hz <;> omega
  rw [zf_58_3, zf_58_1, a1, a3, if_pos (by omega), zx_58_0 a0, zf_58_3, a3, zi_36, zy_at (by omega) (by omega), e1, oc_510 (d := d + 3), zz_f nd, zx_58_2 a2, show T p % 65536 = T p by omega, oc_1479 (d := d) ht hu hb, tp_ix_t hz, if_neg (by omega), zf_58_3, a3, zs_58_3, xm_w_id (z := (p : Int) + 1) (by omega) (by omega), xm_w_id (z := -1 - sg_ix u (T p)) (by omega) (by omega), oc_509 (d := d + 3) (c := c) (by simp (disch := first | omega | (unfold xm_w; omega)) only [↓zy_at, xm_O_some, xm_Oi_some, xm_Ov_some, xm_Oq_some, ↓reduceIte, ↓zz_t, ↓zz_f, ↓zi_t, ↓zi_f, eq_self, yy_d_0, Int.reduceEq, Int.reduceLT, Int.reduceLE, Int.reduceNe, Int.reduceToNat, Int.reduceAdd, Int.reduceSub, Int.reduceMul, Int.reduceNeg, Nat.reduceAdd, Nat.reduceMul, Nat.reduceSub, Nat.reduceEqDiff, Nat.reduceLT, ne_eq, not_false_eq_true, not_true_eq_false, true_and, and_true, and_self, yy_s_eq, yy_s_ne, yy_c_eq, yy_c_ne, yy_u_eq, yy_u_ne, xm_w_id, yy_at, tdiv_pos, tmod_pos, a4]) (by omega)]
def tp_B (f : Nat) : Int := if f = 0 then 9999 else if f = 1 then 999 else if f = 2 then 99 else if f = 3 then 9 else 0
set_option maxRecDepth 20000 in
theorem tp_B_s {f : Nat} {v z : Int} (hf : f + 1 ≤ 4) (hv : 0 ≤ v ∧ v ≤ tp_B (f + 1)) (hz : 48 ≤ z ∧ z ≤ 57) : 0 ≤ 10 * v + z - 48 ∧ 10 * v + z - 48 ≤ tp_B f := by
  rcases (show f = 0 ∨ f = 1 ∨ f = 2 ∨ f = 3 by omega) with e | e | e | e <;> subst e <;> unfold tp_B at * <;> simp at hv ⊢ <;> omega
set_option maxRecDepth 20000 in
theorem tp_B_b {f : Nat} {v : Int} (hv : 0 ≤ v ∧ v ≤ tp_B f) : 0 ≤ v ∧ v ≤ 9999 := by
  unfold tp_B at hv; repeat' split at hv
  all_goals omega
def tp_nu (n : Nat) (T : Nat → Int) : Nat → Nat → Int → Int × Nat
  | 0, p, v => (v, p)
  | f + 1, p, v => if p < n ∧ 48 ≤ T p ∧ T p ≤ 57 then tp_nu n T f (p + 1) (10 * v + T p - 48) else (v, p)
set_option maxRecDepth 20000 in
theorem tp_nu_b {n : Nat} {T : Nat → Int} : ∀ (f p : Nat) (v : Int), f ≤ 4 → p ≤ n → (0 ≤ v ∧ v ≤ tp_B f) → (0 ≤ (tp_nu n T f p v).1 ∧ (tp_nu n T f p v).1 ≤ 9999) ∧ p ≤ (tp_nu n T f p v).2 ∧ (tp_nu n T f p v).2 ≤ n
  | 0, p, v, _, hp, hv => ⟨tp_B_b hv, Nat.le_refl p, hp⟩
  | f + 1, p, v, hf, hp, hv => by
    unfold tp_nu
    by_cases h : p < n ∧ 48 ≤ T p ∧ T p ≤ 57
    · rw [if_pos h]
      have := tp_nu_b (n := n) (T := T) f (p + 1) (10 * v + T p - 48) (by omega) (by omega) (tp_B_s hf hv h.2)
      exact ⟨this.1, by omega, this.2.2⟩
    · rw [if_neg h]; exact ⟨tp_B_b hv, Nat.le_refl p, hp⟩
set_option maxRecDepth 20000 in
theorem l_508 {sc : List Int} {d : Nat} {t : xm_W} {u n : Nat} {T : Nat → Int} {c : Nat} {g : Nat → Int × Int} {Q : Option xm_V × xm_W → Prop} (hT : tp_T n T) (hc : c < 60) : ∀ (f p : Nat) (v i : Int) (m : Nat → Nat → Int), (0 ≤ i ∧ i + f = 4) → (0 ≤ v ∧ v ≤ tp_B f) → p ≤ n → tp_cs u n T p c g m → (∀ m', tp_co u n T 1 (tp_nu n T f p v).2 (c + 1) (tp_u g c (0, (tp_nu n T f p v).1)) m m' → Q ((none, (yy_W (m') t)))) → xm_EQ (xm_old sc) xm_sta (xm_X (xm_old sc) xm_mt (d + 1)) xm_c508 4 [some (.inr (.inl (some 58))), some (.inl (v)), some (.inl (i))] [] (yy_W (m) t) Q
  | 0, p, v, i, m, hi, hv, hp, hs, hQ => by
    obtain ⟨a0, a1, a2, a3, a4, a5, a6⟩ := id hs
    refine xb_508_4 ?_
    rw [if_neg (by omega), oc_509 (d := d) (c := c) a4 hc]
    exact hQ _ (tp_co_1 tp_fc_em (tp_cs_em hs (by unfold tp_sg; rw [if_pos rfl]; rfl)))
  | f + 1, p, v, i, m, hi, hv, hp, hs, hQ => by
    obtain ⟨a0, a1, a2, a3, a4, a5, a6⟩ := id hs
    have hn := hT.1
    have hem := fun v => tp_cs_em (x := (0, v)) (v := v) hs (by unfold tp_sg; rw [if_pos rfl])
    refine xb_508_4 ?_
    rw [if_pos (by omega), zf_58_3, zf_58_1, a1, a3]
    by_cases h1 : p < n
    · have e1 : m 36 ((p : Int)).toNat = T p := by rw [Int.toNat_natCast]; exact a5 p (by omega)
      rw [if_pos (by omega), zx_58_0 a0, zf_58_3, a3, zi_36, zy_at (by omega) (by omega), e1, oc_510 (d := d)]
      by_cases h : 48 ≤ T p ∧ T p ≤ 57
      · have e : tp_nu n T (f + 1) p v = tp_nu n T f (p + 1) (10 * v + T p - 48) := by
          conv => lhs; unfold tp_nu
          rw [if_pos ⟨h1, h⟩]
        have hB := tp_B_s (by omega) hv h
        have hb := tp_B_b hB
        have hb2 := tp_B_b hv
        rw [e] at hQ
        rw [zz_t h, zx_58_0 a0, zf_58_3, a3, zi_36, zy_at (by omega) (by omega), e1, zf_58_3, a3, zs_58_3, xm_w_id (z := (p : Int) + 1) (by omega) (by omega), xm_w_id (z := i + 1) (by omega) (by omega), xm_w_id (z := v * 10) (by omega) (by omega), xm_w_id (z := v * 10 + T p) (by omega) (by omega), xm_w_id (z := v * 10 + T p - 48) (by omega) (by omega), show v * 10 + T p - 48 = 10 * v + T p - 48 by omega]
        exact l_508 hT hc f (p + 1) _ (i + 1) _ (by omega) hB (by omega) (tp_cs_mv hs) fun m' h => hQ m' (tp_co_tr tp_fc_mv h)
      · have e : tp_nu n T (f + 1) p v = (v, p) := by
          conv => lhs; unfold tp_nu
          rw [if_neg (fun g => h g.2)]
        rw [e] at hQ
        rw [zz_f h, oc_509 (d := d) (c := c) a4 hc]
        exact hQ _ (tp_co_1 tp_fc_em (hem v))
    · have e : tp_nu n T (f + 1) p v = (v, p) := by
        conv => lhs; unfold tp_nu
        rw [if_neg (fun g => h1 g.1)]
      rw [e] at hQ
      rw [if_neg (by omega), oc_509 (d := d) (c := c) a4 hc]
      exact hQ _ (tp_co_1 tp_fc_em (hem v))
set_option maxRecDepth 20000 in
theorem c_508 {sc : List Int} {d : Nat} {t : xm_W} {m : Nat → Nat → Int} {u n : Nat} {T : Nat → Int} {p c : Nat} {g : Nat → Int × Int} (hT : tp_T n T) (hc : c < 60) (hp : p ≤ n) (hs : tp_cs u n T p c g m) : ∃ m', xm_X (xm_old sc) xm_mt (d + 2) 508 [.inr (.inl (some 58))] (yy_W m t) = some (none, yy_W m' t) ∧ tp_co u n T 1 (tp_nu n T 4 p 0).2 (c + 1) (tp_u g c (0, (tp_nu n T 4 p 0).1)) m m' := by
  have key : ∀ {Q : Option xm_V × xm_W → Prop}, (∀ m', (tp_co u n T 1 (tp_nu n T 4 p 0).2 (c + 1) (tp_u g c (0, (tp_nu n T 4 p 0).1)) m m') → Q (none, yy_W m' t)) → xm_EQ (xm_old sc) xm_sta (xm_X (xm_old sc) xm_mt (d + 1)) xm_m508.2.2.2.2.2.2.2 0 (xm_loc xm_m508.2.2.1 [.inr (.inl (some 58))]) [] (yy_W m t) Q := by
    intro Q hQ
    refine xb_508_0 ?_
    exact l_508 (d := d) hT hc 4 p 0 0 m (by decide) (by decide) hp hs hQ
  obtain ⟨q, h1, m', h2, h3⟩ := yx_of (y := 508) (M := xm_m508) (sc := sc) (d := d + 1) (as := [.inr (.inl (some 58))]) (w := yy_W m t) (Q := fun q => ∃ m', q = (none, yy_W m' t) ∧ (tp_co u n T 1 (tp_nu n T 4 p 0).2 (c + 1) (tp_u g c (0, (tp_nu n T 4 p 0).1)) m m')) rfl (key fun m' h => ⟨m', rfl, h⟩) (fun q ⟨m', h, _⟩ => by rw [h]; rfl) rfl (Nat.le_of_ble_eq_true rfl) (yy_hd rfl (by decide))
  exact ⟨m', by rw [h1, h2], h3⟩
set_option maxRecDepth 20000 in
theorem tp_num {sc : List Int} {t : xm_W} {u n : Nat} {T : Nat → Int} {p c : Nat} {g : Nat → Int × Int} {k : Int} (hT : tp_T n T) (hp : p < n) (hc : c ≤ p) (hz : 48 ≤ T p ∧ T p ≤ 57) : tp_C sc t u n T 3 505 [.inr (.inl (some 58)), .inl k] p c g 1 (tp_nu n T 4 p 0).2 (c + 1) (tp_u g c (0, (tp_nu n T 4 p 0).1)) := fun d m hs => by
  obtain ⟨a0, a1, a2, a3, a4, a5, a6⟩ := id hs
  have hn := hT.1
  obtain ⟨m', e, ho⟩ := c_508 (sc := sc) (d := d) (t := t) hT (by omega) (by omega) hs
  refine ⟨m', ?_, ho⟩
  show xm_X (xm_old sc) xm_mt (d + 2 + 1) 505 [.inr (.inl (some 58)), .inl (k)] (yy_W (m) t) = _
  refine xm_X_of (M := xm_m505) rfl ⟨xm_EQ.eq (xb_505_0 ?_), rfl, rfl, Nat.le_of_ble_eq_true rfl, yy_hd rfl (by decide)⟩
  have e1 : m 36 ((p : Int)).toNat = T p := by rw [Int.toNat_natCast]; exact a5 p (by omega)
  rw [zf_58_3, zf_58_1, a1, a3, if_pos (by omega), zx_58_0 a0, zf_58_3, a3, zi_36, zy_at (by omega) (by omega), e1, oc_510 (d := d + 1), zz_t hz, e, xm_Ov_some]
set_option maxRecDepth 20000 in
theorem tp_bad {sc : List Int} {t : xm_W} {u n : Nat} {T : Nat → Int} {p c : Nat} {g : Nat → Int × Int} {k : Int} (ht : t.length < 900000) (hu : u < 2) (hT : tp_T n T) (hp : p < n) (hz : ¬ sg_nm u (T p)) (hd : ¬ (48 ≤ T p ∧ T p ≤ 57)) (h : (T p ≠ 33 ∧ T p ≠ 40) ∨ 5 ≤ k) : tp_C sc t u n T 5 505 [.inr (.inl (some 58)), .inl k] p c g 0 p c g := fun d m hs => by
  obtain ⟨a0, a1, a2, a3, a4, a5, a6⟩ := id hs
  have hn := hT.1
  have hb := hT.2 p (by omega)
  refine ⟨m, ?_, tp_co_0 (fun _ _ _ => rfl) a3⟩
  show xm_X (xm_old sc) xm_mt (d + 4 + 1) 505 [.inr (.inl (some 58)), .inl (k)] (yy_W (m) t) = _
  refine xm_X_of (M := xm_m505) rfl ⟨xm_EQ.eq (xb_505_0 ?_), rfl, rfl, Nat.le_of_ble_eq_true rfl, yy_hd rfl (by decide)⟩
  have e1 : m 36 ((p : Int)).toNat = T p := by rw [Int.toNat_natCast]; exact a5 p (by omega)
  rw [zf_58_3, zf_58_1, a1, a3, if_pos (by omega), zx_58_0 a0, zf_58_3, a3, zi_36, zy_at (by omega) (by omega), e1, oc_510 (d := d + 3), zz_f hd, zx_58_2 a2, show T p % 65536 = T p by omega, oc_1479 (d := d) ht hu hb, tp_ix_f hz, if_pos (by decide)]
  by_cases h3 : T p = 33
  · rw [if_pos h3, if_neg (by omega)]
  · rw [if_neg h3]
    by_cases h4 : T p = 40
    · rw [if_pos h4, if_neg (by omega)]
    · rw [if_neg h4]
set_option maxRecDepth 20000 in
theorem tp_not {sc : List Int} {t : xm_W} {u n : Nat} {T : Nat → Int} {N p c p1 c1 : Nat} {g g1 : Nat → Int × Int} {k ok : Int} (ht : t.length < 900000) (hu : u < 2) (hT : tp_T n T) (hp : p < n) (hz : T p = 33) (hk : 0 ≤ k ∧ k < 5) (hc : ok = 1 → c1 < 60) (hok : ok = 0 ∨ ok = 1) (w : tp_C sc t u n T (N + 3) 505 [.inr (.inl (some 58)), .inl (k + 1)] (p + 1) c g ok p1 c1 g1) : tp_C sc t u n T (N + 5) 505 [.inr (.inl (some 58)), .inl k] p c g ok p1 (c1 + 1) (tp_u g1 c1 (2, 0)) := fun d m hs => by
  obtain ⟨a0, a1, a2, a3, a4, a5, a6⟩ := id hs
  have hn := hT.1
  have hb := hT.2 p (by omega)
  have nz : ¬ sg_nm u (T p) := by unfold sg_nm; split <;> omega
  obtain ⟨m1, e, f1, f2, f3⟩ := w d _ (tp_cs_mv hs)
  rw [show d + (N + 3) = d + N + 3 by omega] at e
  have X6 : ∃ m', xm_X (xm_old sc) xm_mt (d + N + 3 + 1) 506 [.inr (.inl (some 58)), .inl (k + 1)] (yy_W (yy_s m 58 3 ((p : Int) + 1)) t) = some (some (.inl (ok)), (yy_W (m') t)) ∧ tp_co u n T ok p1 (c1 + 1) (tp_u g1 c1 (2, 0)) m m' := by
    rcases hok with q | q <;> subst q
    · refine ⟨m1, ?_, tp_co_0 (tp_fc_tr tp_fc_mv f1) f2⟩
      refine xm_X_of (M := xm_m506) rfl ⟨xm_EQ.eq (xb_506_0 ?_), rfl, rfl, Nat.le_of_ble_eq_true rfl, yy_hd rfl (by decide)⟩
      rw [e, xm_Oi_some, if_pos rfl]
    · have hs1 := f3 rfl
      refine ⟨_, ?_, tp_co_1 (tp_fc_tr (tp_fc_tr tp_fc_mv f1) tp_fc_em) (tp_cs_em (x := (2, 0)) (v := -43) hs1 rfl)⟩
      refine xm_X_of (M := xm_m506) rfl ⟨xm_EQ.eq (xb_506_0 ?_), rfl, rfl, Nat.le_of_ble_eq_true rfl, yy_hd rfl (by decide)⟩
      rw [e, xm_Oi_some, if_neg (by decide), oc_509 (d := d + N + 2) (c := c1) hs1.2.2.2.2.1 (hc rfl)]
  obtain ⟨m', e6, ho⟩ := X6
  refine ⟨m', ?_, ho⟩
  show xm_X (xm_old sc) xm_mt (d + N + 4 + 1) 505 [.inr (.inl (some 58)), .inl (k)] (yy_W (m) t) = _
  refine xm_X_of (M := xm_m505) rfl ⟨xm_EQ.eq (xb_505_0 ?_), ?_, rfl, Nat.le_of_ble_eq_true rfl, yy_hd rfl (by decide)⟩
  rotate_left
  · rcases hok with q | q <;> subst q <;> rfl
  have e1 : m 36 ((p : Int)).toNat = T p := by rw [Int.toNat_natCast]; exact a5 p (by omega)
  rw [zf_58_3, zf_58_1, a1, a3, if_pos (by omega), zx_58_0 a0, zf_58_3, a3, zi_36, zy_at (by omega) (by omega), e1, oc_510 (d := d + N + 3), zz_f (by omega), zx_58_2 a2, show T p % 65536 = T p by omega, oc_1479 (d := d + N) ht hu hb, tp_ix_f nz, if_pos (by decide), if_pos hz, if_pos hk.2, zf_58_3, a3, zs_58_3, if_pos hz, xm_w_id (z := (p : Int) + 1) (by omega) (by omega), xm_w_id (z := k + 1) (by omega) (by omega), e6, xm_Oi_some]
set_option maxRecDepth 20000 in
theorem tp_opn {sc : List Int} {t : xm_W} {u n : Nat} {T : Nat → Int} {N p c p1 c1 : Nat} {g g1 : Nat → Int × Int} {k ok : Int} (ht : t.length < 900000) (hu : u < 2) (hT : tp_T n T) (hp : p < n) (hz : T p = 40) (hk : 0 ≤ k ∧ k < 5) (hp1 : p1 ≤ n) (hok : ok = 0 ∨ ok = 1) (w : tp_C sc t u n T (N + 3) 504 [.inr (.inl (some 58)), .inl 0, .inl (k + 1)] (p + 1) c g ok p1 c1 g1) : tp_C sc t u n T (N + 5) 505 [.inr (.inl (some 58)), .inl k] p c g (if ok = 1 ∧ p1 < n ∧ T p1 = 41 then 1 else 0) (if ok = 1 ∧ p1 < n ∧ T p1 = 41 then p1 + 1 else p1) c1 g1 := fun d m hs => by
  obtain ⟨a0, a1, a2, a3, a4, a5, a6⟩ := id hs
  have hn := hT.1
  have hb := hT.2 p (by omega)
  have nz : ¬ sg_nm u (T p) := by unfold sg_nm; split <;> omega
  obtain ⟨m1, e, f1, f2, f3⟩ := w d _ (tp_cs_mv hs)
  rw [show d + (N + 3) = d + N + 3 by omega] at e
  have X7 : ∃ m', xm_X (xm_old sc) xm_mt (d + N + 3 + 1) 507 [.inr (.inl (some 58)), .inl (k + 1)] (yy_W (yy_s m 58 3 ((p : Int) + 1)) t) = some (some (.inl (if ok = 1 ∧ p1 < n ∧ T p1 = 41 then 1 else 0)), (yy_W (m') t)) ∧ tp_co u n T (if ok = 1 ∧ p1 < n ∧ T p1 = 41 then 1 else 0) (if ok = 1 ∧ p1 < n ∧ T p1 = 41 then p1 + 1 else p1) c1 g1 m m' := by
    rcases hok with q | q <;> subst q
    · rw [if_neg (fun h => absurd h.1 (by decide)), if_neg (fun h => absurd h.1 (by decide))]
      refine ⟨m1, ?_, tp_co_0 (tp_fc_tr tp_fc_mv f1) f2⟩
      refine xm_X_of (M := xm_m507) rfl ⟨xm_EQ.eq (xb_507_0 ?_), rfl, rfl, Nat.le_of_ble_eq_true rfl, yy_hd rfl (by decide)⟩
      rw [e, xm_Oi_some, if_pos rfl]
    · have hs1 := f3 rfl
      obtain ⟨b0, b1, b2, b3, b4, b5, b6⟩ := id hs1
      by_cases h1 : p1 < n
      · have e2 : m1 36 ((p1 : Int)).toNat = T p1 := by rw [Int.toNat_natCast]; exact b5 p1 (by omega)
        by_cases h2 : T p1 = 41
        · rw [if_pos ⟨rfl, h1, h2⟩, if_pos ⟨rfl, h1, h2⟩]
          refine ⟨_, ?_, tp_co_1 (tp_fc_tr (tp_fc_tr tp_fc_mv f1) tp_fc_mv) (tp_cs_mv hs1)⟩
          refine xm_X_of (M := xm_m507) rfl ⟨xm_EQ.eq (xb_507_0 ?_), rfl, rfl, Nat.le_of_ble_eq_true rfl, yy_hd rfl (by decide)⟩
          rw [e, xm_Oi_some, if_neg (by decide), zf_58_3, zf_58_1, b1, b3, if_pos (by omega), zx_58_0 b0, zf_58_3, b3, zi_36, zy_at (by omega) (by omega), e2, if_pos h2, zf_58_3, b3, zs_58_3, xm_w_id (z := (p1 : Int) + 1) (by omega) (by omega)]
        · rw [if_neg (fun h => h2 h.2.2), if_neg (fun h => h2 h.2.2)]
          refine ⟨m1, ?_, tp_co_0 (tp_fc_tr tp_fc_mv f1) f2⟩
          refine xm_X_of (M := xm_m507) rfl ⟨xm_EQ.eq (xb_507_0 ?_), rfl, rfl, Nat.le_of_ble_eq_true rfl, yy_hd rfl (by decide)⟩
          rw [e, xm_Oi_some, if_neg (by decide), zf_58_3, zf_58_1, b1, b3, if_pos (by omega), zx_58_0 b0, zf_58_3, b3, zi_36, zy_at (by omega) (by omega), e2, if_neg h2]
      · rw [if_neg (fun h => h1 h.2.1), if_neg (fun h => h1 h.2.1)]
        refine ⟨m1, ?_, tp_co_0 (tp_fc_tr tp_fc_mv f1) f2⟩
        refine xm_X_of (M := xm_m507) rfl ⟨xm_EQ.eq (xb_507_0 ?_), rfl, rfl, Nat.le_of_ble_eq_true rfl, yy_hd rfl (by decide)⟩
        rw [e, xm_Oi_some, if_neg (by decide), zf_58_3, zf_58_1, b1, b3, if_neg (by omega)]
  obtain ⟨m', e6, ho⟩ := X7
  refine ⟨m', ?_, ho⟩
  show xm_X (xm_old sc) xm_mt (d + N + 4 + 1) 505 [.inr (.inl (some 58)), .inl (k)] (yy_W (m) t) = _
  refine xm_X_of (M := xm_m505) rfl ⟨xm_EQ.eq (xb_505_0 ?_), ?_, rfl, Nat.le_of_ble_eq_true rfl, yy_hd rfl (by decide)⟩
  rotate_left
  · split <;> rfl
  have e1 : m 36 ((p : Int)).toNat = T p := by rw [Int.toNat_natCast]; exact a5 p (by omega)
  have n33 : ¬ T p = 33 := by omega
  rw [zf_58_3, zf_58_1, a1, a3, if_pos (by omega), zx_58_0 a0, zf_58_3, a3, zi_36, zy_at (by omega) (by omega), e1, oc_510 (d := d + N + 3), zz_f (by omega), zx_58_2 a2, show T p % 65536 = T p by omega, oc_1479 (d := d + N) ht hu hb, tp_ix_f nz, if_pos (by decide), if_neg n33, if_pos hz, if_pos hk.2, zf_58_3, a3, zs_58_3, if_neg n33, xm_w_id (z := (p : Int) + 1) (by omega) (by omega), xm_w_id (z := k + 1) (by omega) (by omega), e6, xm_Oi_some]
/- the levels -/
set_option maxRecDepth 20000 in
theorem tp_5 {sc : List Int} {t : xm_W} {u n : Nat} {T : Nat → Int} {N p c p1 c1 : Nat} {g g1 : Nat → Int × Int} {k ok : Int} (hok : ok = 0 ∨ ok = 1) (w : tp_C sc t u n T N 505 [.inr (.inl (some 58)), .inl k] p c g ok p1 c1 g1) : tp_C sc t u n T (N + 1) 504 [.inr (.inl (some 58)), .inl 5, .inl k] p c g ok p1 c1 g1 := fun d m hs => by
  obtain ⟨m1, e, ho⟩ := w d m hs
  refine ⟨m1, ?_, ho⟩
  show xm_X (xm_old sc) xm_mt (d + N + 1) 504 [.inr (.inl (some 58)), .inl (5), .inl (k)] (yy_W (m) t) = _
  refine xm_X_of (M := xm_m504) rfl ⟨xm_EQ.eq (xb_504_0 ?_), ?_, rfl, Nat.le_of_ble_eq_true rfl, yy_hd rfl (by decide)⟩
  rotate_left
  · rcases hok with q | q <;> subst q <;> rfl
  rw [if_pos (by decide), e, xm_Oi_some]
set_option maxRecDepth 20000 in
theorem tp_l0 {sc : List Int} {t : xm_W} {u n : Nat} {T : Nat → Int} {N p c p1 c1 : Nat} {g g1 : Nat → Int × Int} {l k : Int} (hl : 0 ≤ l ∧ l ≤ 4) (w : tp_C sc t u n T N 504 [.inr (.inl (some 58)), .inl (l + 1), .inl k] p c g 0 p1 c1 g1) : tp_C sc t u n T (N + 1) 504 [.inr (.inl (some 58)), .inl l, .inl k] p c g 0 p1 c1 g1 := fun d m hs => by
  obtain ⟨m1, e, ho⟩ := w d m hs
  refine ⟨m1, ?_, ho⟩
  show xm_X (xm_old sc) xm_mt (d + N + 1) 504 [.inr (.inl (some 58)), .inl (l), .inl (k)] (yy_W (m) t) = _
  refine xm_X_of (M := xm_m504) rfl ⟨xm_EQ.eq (xb_504_0 ?_), rfl, rfl, Nat.le_of_ble_eq_true rfl, yy_hd rfl (by decide)⟩
  rw [if_neg (by omega), xm_w_id (z := l + 1) (by omega) (by omega), e, xm_Oi_some, if_pos rfl]
set_option maxRecDepth 20000 in
theorem tp_l1 {sc : List Int} {t : xm_W} {u n : Nat} {T : Nat → Int} {N p c p1 c1 p2 c2 : Nat} {g g1 g2 : Nat → Int × Int} {l k ok : Int} (hl : 0 ≤ l ∧ l ≤ 4) (hok : ok = 0 ∨ ok = 1) (w : tp_C sc t u n T N 504 [.inr (.inl (some 58)), .inl (l + 1), .inl k] p c g 1 p1 c1 g1) (w2 : tp_CE sc t u n T N l k p1 c1 g1 ok p2 c2 g2) : tp_C sc t u n T (N + 1) 504 [.inr (.inl (some 58)), .inl l, .inl k] p c g ok p2 c2 g2 := fun d m hs => by
  obtain ⟨m1, e, f1, f2, f3⟩ := w d m hs
  have key : ∀ {Q : Option xm_V × xm_W → Prop}, (∀ m', tp_co u n T ok p2 c2 g2 m m' → Q ((some (.inl (ok)), (yy_W (m') t)))) → xm_EQ (xm_old sc) xm_sta (xm_X (xm_old sc) xm_mt (d + N)) xm_m504.2.2.2.2.2.2.2 0 (xm_loc xm_m504.2.2.1 [.inr (.inl (some 58)), .inl l, .inl k]) [] (yy_W m t) Q := by
    intro Q hQ
    refine xb_504_0 ?_
    rw [if_neg (by omega), xm_w_id (z := l + 1) (by omega) (by omega), e, xm_Oi_some, if_neg (by decide)]
    exact w2 d m1 _ Q (f3 rfl) fun m' h => hQ m' (tp_co_tr f1 h)
  obtain ⟨q, h1, m', h2, h3⟩ := yx_of (y := 504) (M := xm_m504) (sc := sc) (d := d + N) (as := [.inr (.inl (some 58)), .inl l, .inl k]) (w := yy_W m t) (Q := fun q => ∃ m', q = ((some (.inl (ok)), (yy_W (m') t))) ∧ tp_co u n T ok p2 c2 g2 m m') rfl (key fun m' h => ⟨m', rfl, h⟩) (fun q ⟨m', h, _⟩ => by rw [h]; rcases hok with e | e <;> subst e <;> rfl) rfl (Nat.le_of_ble_eq_true rfl) (yy_hd rfl (by decide))
  exact ⟨m', by rw [show d + (N + 1) = d + N + 1 by omega, h1, h2], h3⟩
set_option maxRecDepth 20000 in
theorem tp_e_end {sc : List Int} {t : xm_W} {u n : Nat} {T : Nat → Int} {N p c : Nat} {g : Nat → Int × Int} {l k : Int} (hT : tp_T n T) (hp : p < n → tp_lv (T p) ≠ l) : tp_CE sc t u n T (N + 1) l k p c g 1 p c g := fun d m v Q hs hQ => by
  obtain ⟨a0, a1, a2, a3, a4, a5, a6⟩ := id hs
  have hn := hT.1
  have := hQ m (tp_co_1 (fun _ _ _ => rfl) hs)
  rw [show d + (N + 1) = d + N + 1 by omega]
  refine xb_504_16 ?_
  rw [zf_58_3, zf_58_1, a1, a3]
  by_cases h : p < n
  · have e1 : m 36 ((p : Int)).toNat = T p := by rw [Int.toNat_natCast]; exact a5 p (by omega)
    rw [if_pos (by omega), zx_58_0 a0, zf_58_3, a3, zi_36, zy_at (by omega) (by omega), e1, oc_511 (d := d + N), if_neg (hp h)]
    exact this
  · rw [if_neg (by omega)]; exact this
set_option maxRecDepth 20000 in
theorem tp_e_0 {sc : List Int} {t : xm_W} {u n : Nat} {T : Nat → Int} {N p c p1 c1 : Nat} {g g1 : Nat → Int × Int} {l k : Int} (hT : tp_T n T) (hp : p < n) (hl : tp_lv (T p) = l) (hl0 : 0 ≤ l ∧ l ≤ 4) (w : tp_C sc t u n T (N + 1) 504 [.inr (.inl (some 58)), .inl (l + 1), .inl k] (p + 1) c g 0 p1 c1 g1) : tp_CE sc t u n T (N + 1) l k p c g 0 p1 c1 g1 := fun d m v Q hs hQ => by
  obtain ⟨a0, a1, a2, a3, a4, a5, a6⟩ := id hs
  have hn := hT.1
  obtain ⟨m1, e, f1, f2, f3⟩ := w d _ (tp_cs_mv hs)
  rw [show d + (N + 1) = d + N + 1 by omega] at e
  have e1 : m 36 ((p : Int)).toNat = T p := by rw [Int.toNat_natCast]; exact a5 p (by omega)
  rw [show d + (N + 1) = d + N + 1 by omega]
  refine xb_504_16 ?_
  rw [zf_58_3, zf_58_1, a1, a3, if_pos (by omega), zx_58_0 a0, zf_58_3, a3, zi_36, zy_at (by omega) (by omega), e1, oc_511 (d := d + N), if_pos hl, zx_58_0 a0, zf_58_3, a3, zi_36, zy_at (by omega) (by omega), e1, zf_58_3, a3, zs_58_3, xm_w_id (z := (p : Int) + 1) (by omega) (by omega), xm_w_id (z := l + 1) (by omega) (by omega), e, xm_Oi_some, if_pos rfl]
  exact hQ m1 (tp_co_0 (tp_fc_tr tp_fc_mv f1) f2)
set_option maxRecDepth 20000 in
theorem tp_e_2 {sc : List Int} {t : xm_W} {u n : Nat} {T : Nat → Int} {N p c p1 c1 : Nat} {g g1 : Nat → Int × Int} {k : Int} (hT : tp_T n T) (hp : p < n) (hl : tp_lv (T p) = 2) (hc : c1 < 60) (w : tp_C sc t u n T (N + 1) 504 [.inr (.inl (some 58)), .inl 3, .inl k] (p + 1) c g 1 p1 c1 g1) : tp_CE sc t u n T (N + 1) 2 k p c g 1 p1 (c1 + 1) (tp_u g1 c1 (3, T p)) := fun d m v Q hs hQ => by
  obtain ⟨a0, a1, a2, a3, a4, a5, a6⟩ := id hs
  have hn := hT.1
  have hb := hT.2 p (by omega)
  obtain ⟨m1, e, f1, f2, f3⟩ := w d _ (tp_cs_mv hs)
  rw [show d + (N + 1) = d + N + 1 by omega] at e
  have hs1 := f3 rfl
  have e1 : m 36 ((p : Int)).toNat = T p := by rw [Int.toNat_natCast]; exact a5 p (by omega)
  rw [show d + (N + 1) = d + N + 1 by omega]
  refine xb_504_16 ?_
  rw [zf_58_3, zf_58_1, a1, a3, if_pos (by omega), zx_58_0 a0, zf_58_3, a3, zi_36, zy_at (by omega) (by omega), e1, oc_511 (d := d + N), if_pos hl, zx_58_0 a0, zf_58_3, a3, zi_36, zy_at (by omega) (by omega), e1, zf_58_3, a3, zs_58_3, xm_w_id (z := (p : Int) + 1) (by omega) (by omega), xm_w_id (z := 2 + 1) (by omega) (by omega)]
  erw [e]
  rw [xm_Oi_some, if_neg (by decide), xm_w_id (z := -10 - T p) (by omega) (by omega), oc_509 (d := d + N) (c := c1) hs1.2.2.2.2.1 hc, if_pos rfl]
  exact hQ _ (tp_co_1 (tp_fc_tr (tp_fc_tr tp_fc_mv f1) tp_fc_em) (tp_cs_em hs1 rfl))
set_option maxRecDepth 20000 in
theorem tp_e_1 {sc : List Int} {t : xm_W} {u n : Nat} {T : Nat → Int} {N p c p1 c1 p2 c2 : Nat} {g g1 g2 : Nat → Int × Int} {l k ok : Int} (hT : tp_T n T) (hp : p < n) (hl : tp_lv (T p) = l) (hl0 : 0 ≤ l ∧ l ≤ 4) (hl2 : l ≠ 2) (hc : c1 < 60) (w : tp_C sc t u n T (N + 1) 504 [.inr (.inl (some 58)), .inl (l + 1), .inl k] (p + 1) c g 1 p1 c1 g1) (w2 : tp_CE sc t u n T (N + 1) l k p1 (c1 + 1) (tp_u g1 c1 (3, T p)) ok p2 c2 g2) : tp_CE sc t u n T (N + 1) l k p c g ok p2 c2 g2 := fun d m v Q hs hQ => by
  obtain ⟨a0, a1, a2, a3, a4, a5, a6⟩ := id hs
  have hn := hT.1
  have hb := hT.2 p (by omega)
  obtain ⟨m1, e, f1, f2, f3⟩ := w d _ (tp_cs_mv hs)
  rw [show d + (N + 1) = d + N + 1 by omega] at e
  have hs1 := f3 rfl
  have e1 : m 36 ((p : Int)).toNat = T p := by rw [Int.toNat_natCast]; exact a5 p (by omega)
  rw [show d + (N + 1) = d + N + 1 by omega]
  refine xb_504_16 ?_
  rw [zf_58_3, zf_58_1, a1, a3, if_pos (by omega), zx_58_0 a0, zf_58_3, a3, zi_36, zy_at (by omega) (by omega), e1, oc_511 (d := d + N), if_pos hl, zx_58_0 a0, zf_58_3, a3, zi_36, zy_at (by omega) (by omega), e1, zf_58_3, a3, zs_58_3, xm_w_id (z := (p : Int) + 1) (by omega) (by omega), xm_w_id (z := l + 1) (by omega) (by omega), e, xm_Oi_some, if_neg (by decide), xm_w_id (z := -10 - T p) (by omega) (by omega), oc_509 (d := d + N) (c := c1) hs1.2.2.2.2.1 hc, if_neg hl2]
  exact w2 d _ _ Q (tp_cs_em hs1 rfl) fun m' h => hQ m' (tp_co_tr (tp_fc_tr (tp_fc_tr tp_fc_mv f1) tp_fc_em) h)
