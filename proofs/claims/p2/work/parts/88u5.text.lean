/-! TEXT: both sides -/
section
variable {o : xm_W} {t : xm_W} {m : Nat → Nat → Int}
set_option maxRecDepth 20000 in
theorem yy_W_ap {x : xm_C} : yy_W m t ++ [x] = yy_W m (t ++ [x]) := List.append_assoc _ _ _
set_option maxRecDepth 20000 in
theorem yy_W_st {x y : xm_C} : (yy_W m (t ++ [x])).set (87 + t.length) y = yy_W m (t ++ [y]) := by
  rw [← yy_W_ap, ← yy_W_ap]
  have h := List.set_append_right (s := (yy_W m t : List xm_C)) (t := [x]) (x := y) (87 + t.length) (by rw [yy_W_len]; exact Nat.le_refl _)
  rw [yy_W_len, Nat.sub_self] at h
  exact h
set_option maxRecDepth 20000 in
theorem yy_W_lt {x : xm_C} : (yy_W m (t ++ [x]))[87 + t.length]? = some x := by
  rw [yy_ge (by omega), Nat.add_sub_cancel_left, List.getElem?_append_right (Nat.le_refl _), Nat.sub_self]; rfl
set_option maxRecDepth 20000 in
theorem yy_cp_t {F : xm_W → Prop} {c : Nat} (hc : c ≤ 60) : xm_O (xm_copy (yy_W m (t ++ [.inl (List.replicate c 0)])) 60 0 (87 + t.length) 0 (c : Int)) F = F (yy_W m (t ++ [.inl (yy_R c (m 60))])) := by
  have e60 : (yy_W m (t ++ [.inl (List.replicate c 0)]))[60]? = some (.inl (yy_R 60 (m 60))) := (yy_get rfl).trans rfl
  have h : xm_copy (yy_W m (t ++ [.inl (List.replicate c 0)])) 60 0 (87 + t.length) 0 (c : Int) = some (yy_W m (t ++ [.inl (yy_R c (m 60))])) := by
    unfold xm_copy
    rw [e60, yy_W_lt]
    show (if (0 : Int) ≤ 0 ∧ (0 : Int) ≤ 0 ∧ 0 ≤ (c : Int) ∧ 0 + (c : Int) ≤ ((yy_R 60 (m 60)).length : Int) ∧ 0 + (c : Int) ≤ ((List.replicate c (0 : Int)).length : Int) then some ((yy_W m (t ++ [.inl (List.replicate c 0)])).set (87 + t.length) (Sum.inl (xm_cpy (yy_R 60 (m 60)) (List.replicate c 0) (0 : Int).toNat (0 : Int).toNat (c : Int).toNat))) else none) = _
    rw [yy_R_len, List.length_replicate, if_pos ⟨by decide, by decide, by omega, by omega, by omega⟩, yy_W_st]
    have e : xm_cpy (yy_R 60 (m 60)) (List.replicate c 0) (0 : Int).toNat (0 : Int).toNat (c : Int).toNat = yy_R c (m 60) := by
      unfold xm_cpy
      refine yy_R_ext ?_ fun k hk => ?_
      · simp [yy_R_len]; omega
      · rw [Int.toNat_natCast, List.getElem?_append_right (by simp), List.getElem?_append_left (by simp [yy_R_len]; omega)]
        simp [hk]
        exact yy_R_get (by omega)
    rw [e]
  rw [h]; rfl
set_option maxRecDepth 20000 in
theorem yy_st_t {F : xm_W → Prop} {r : Nat} {fs : List xm_V} (hf : 0 < fs.length) : xm_O (xm_setf (yy_W m (t ++ [.inr (.inr (7, fs))])) (87 + t.length) 7 0 2 (.inr (.inl (some r)))) F = F (yy_W m (t ++ [.inr (.inr (7, fs.set 0 (.inr (.inl (some r)))))])) := by
  rw [xw_setf yy_W_lt hf rfl, yy_W_st]; rfl
end
set_option maxRecDepth 20000 in
theorem q_503 {sc : List Int} {d : Nat} {t : xm_W} {m : Nat → Nat → Int} {c : Nat} (h : m 58 5 = c) (hc : c ≤ 60) : xm_X (xm_old sc) xm_mt (d + 2) 503 [.inr (.inl (some 58))] (yy_W m t) = some (some (.inr (.inl (some (87 + (t.length + 1))))), yy_W m (t ++ [.inl (yy_R c (m 60))] ++ [.inr (.inr (7, [.inr (.inl (some (87 + t.length)))]))])) := by
  have X9 : xm_X (xm_old sc) xm_mt (d + 1) 901 [.inr (.inl (some (87 + (t.length + 1)))), .inr (.inl (some (87 + t.length)))] (yy_W m (t ++ [.inl (yy_R c (m 60))] ++ [.inr (.inr (7, (xm_kd 7).map xm_dflt))])) = some (none, yy_W m (t ++ [.inl (yy_R c (m 60))] ++ [.inr (.inr (7, [.inr (.inl (some (87 + t.length)))]))])) := by
    have el : (t ++ [(.inl (yy_R c (m 60)) : xm_C)]).length = t.length + 1 := by simp
    have hd := yy_W_lt (m := m) (t := t ++ [.inl (yy_R c (m 60))]) (x := .inr (.inr (7, (xm_kd 7).map xm_dflt)))
    rw [el] at hd
    refine xm_X_of (M := xm_m901) rfl ⟨xm_EQ.eq (xb_901_0 ?_), rfl, rfl, Nat.le_of_ble_eq_true rfl, xw_hd hd⟩
    have := yy_st_t (m := m) (t := t ++ [.inl (yy_R c (m 60))]) (r := 87 + t.length) (fs := (xm_kd 7).map xm_dflt) (F := fun w1 => (some (none, yy_W m (t ++ [.inl (yy_R c (m 60))] ++ [.inr (.inr (7, [.inr (.inl (some (87 + t.length)))]))])) : xm_R) = some (none, w1)) (by decide)
    rw [el] at this
    rw [xw_setf hd (by decide) rfl]
    have e2 := yy_W_st (m := m) (t := t ++ [.inl (yy_R c (m 60))]) (x := .inr (.inr (7, (xm_kd 7).map xm_dflt))) (y := .inr (.inr (7, ((xm_kd 7).map xm_dflt).set 0 (.inr (.inl (some (87 + t.length)))))))
    rw [el] at e2
    rw [e2]; rfl
  refine xm_X_of (M := xm_m503) rfl ⟨xm_EQ.eq (xb_503_0 ?_), rfl, rfl, Nat.le_of_ble_eq_true rfl, yy_hd rfl (by decide)⟩
  rw [zf_58_5, h]
  refine ⟨by omega, ?_⟩
  rw [Int.toNat_natCast, yy_W_ap, zr_58_4, zf_58_5, h, yy_W_len, yy_cp_t hc]
  have el : (yy_W m (t ++ [(.inl (yy_R c (m 60)) : xm_C)])).length = 87 + (t.length + 1) := by rw [yy_W_len]; simp
  rw [el, yy_W_ap, X9]
  rfl
set_option maxRecDepth 20000 in
theorem c_502_0 {sc : List Int} {d : Nat} {t : xm_W} {m : Nat → Nat → Int} {n p c : Nat} {T : Nat → Int} {g : Nat → Int × Int} {ok : Int} (hn : n ≤ 60) (hT : ∀ j, j < 60 → m 36 j = T j) (hok : ok = 0 ∨ ok = 1) (w : tp_C sc t 0 n T 51 504 [.inr (.inl (some 58)), .inl 0, .inl 0] 0 0 (fun _ => (0, 0)) ok p c g) : ∃ m', xm_X (xm_old sc) xm_mt (d + 52) 502 [.inr (.inl (some 58)), .inr (.inl (some 36)), .inl ((n : Int)), .inr (.inl (some 1000003))] (yy_W (m) t) = some (some (.inl (if ok = 1 ∧ p = n then 1 else 0)), (yy_W (m') t)) ∧ tp_fc m m' ∧ m' 58 3 = p ∧ (ok = 1 → tp_cs 0 n T p c g m') := by
  obtain ⟨m1, e, f1, f2, f3⟩ := w d (yy_s (yy_s (yy_s (yy_s (yy_s m 58 0 (((36 : Nat) : Int) + 1)) 58 1 n) 58 2 (((1000003 : Nat) : Int) + 1)) 58 3 0) 58 5 0) ⟨by simp (disch := first | omega | (unfold xm_w; omega)) only [↓zy_at, xm_O_some, xm_Oi_some, xm_Ov_some, xm_Oq_some, ↓reduceIte, ↓zz_t, ↓zz_f, ↓zi_t, ↓zi_f, eq_self, yy_d_0, Int.reduceEq, Int.reduceLT, Int.reduceLE, Int.reduceNe, Int.reduceToNat, Int.reduceAdd, Int.reduceSub, Int.reduceMul, Int.reduceNeg, Nat.reduceAdd, Nat.reduceMul, Nat.reduceSub, Nat.reduceEqDiff, Nat.reduceLT, ne_eq, not_false_eq_true, not_true_eq_false, true_and, and_true, and_self, yy_s_eq, yy_s_ne, yy_c_eq, yy_c_ne, yy_u_eq, yy_u_ne, xm_w_id, yy_at, tdiv_pos, tmod_pos]; omega, by simp (disch := first | omega | (unfold xm_w; omega)) only [↓zy_at, xm_O_some, xm_Oi_some, xm_Ov_some, xm_Oq_some, ↓reduceIte, ↓zz_t, ↓zz_f, ↓zi_t, ↓zi_f, eq_self, yy_d_0, Int.reduceEq, Int.reduceLT, Int.reduceLE, Int.reduceNe, Int.reduceToNat, Int.reduceAdd, Int.reduceSub, Int.reduceMul, Int.reduceNeg, Nat.reduceAdd, Nat.reduceMul, Nat.reduceSub, Nat.reduceEqDiff, Nat.reduceLT, ne_eq, not_false_eq_true, not_true_eq_false, true_and, and_true, and_self, yy_s_eq, yy_s_ne, yy_c_eq, yy_c_ne, yy_u_eq, yy_u_ne, xm_w_id, yy_at, tdiv_pos, tmod_pos], by simp (disch := first | omega | (unfold xm_w; omega)) only [↓zy_at, xm_O_some, xm_Oi_some, xm_Ov_some, xm_Oq_some, ↓reduceIte, ↓zz_t, ↓zz_f, ↓zi_t, ↓zi_f, eq_self, yy_d_0, Int.reduceEq, Int.reduceLT, Int.reduceLE, Int.reduceNe, Int.reduceToNat, Int.reduceAdd, Int.reduceSub, Int.reduceMul, Int.reduceNeg, Nat.reduceAdd, Nat.reduceMul, Nat.reduceSub, Nat.reduceEqDiff, Nat.reduceLT, ne_eq, not_false_eq_true, not_true_eq_false, true_and, and_true, and_self, yy_s_eq, yy_s_ne, yy_c_eq, yy_c_ne, yy_u_eq, yy_u_ne, xm_w_id, yy_at, tdiv_pos, tmod_pos]; omega, by simp (disch := first | omega | (unfold xm_w; omega)) only [↓zy_at, xm_O_some, xm_Oi_some, xm_Ov_some, xm_Oq_some, ↓reduceIte, ↓zz_t, ↓zz_f, ↓zi_t, ↓zi_f, eq_self, yy_d_0, Int.reduceEq, Int.reduceLT, Int.reduceLE, Int.reduceNe, Int.reduceToNat, Int.reduceAdd, Int.reduceSub, Int.reduceMul, Int.reduceNeg, Nat.reduceAdd, Nat.reduceMul, Nat.reduceSub, Nat.reduceEqDiff, Nat.reduceLT, ne_eq, not_false_eq_true, not_true_eq_false, true_and, and_true, and_self, yy_s_eq, yy_s_ne, yy_c_eq, yy_c_ne, yy_u_eq, yy_u_ne, xm_w_id, yy_at, tdiv_pos, tmod_pos]; omega, by simp (disch := first | omega | (unfold xm_w; omega)) only [↓zy_at, xm_O_some, xm_Oi_some, xm_Ov_some, xm_Oq_some, ↓reduceIte, ↓zz_t, ↓zz_f, ↓zi_t, ↓zi_f, eq_self, yy_d_0, Int.reduceEq, Int.reduceLT, Int.reduceLE, Int.reduceNe, Int.reduceToNat, Int.reduceAdd, Int.reduceSub, Int.reduceMul, Int.reduceNeg, Nat.reduceAdd, Nat.reduceMul, Nat.reduceSub, Nat.reduceEqDiff, Nat.reduceLT, ne_eq, not_false_eq_true, not_true_eq_false, true_and, and_true, and_self, yy_s_eq, yy_s_ne, yy_c_eq, yy_c_ne, yy_u_eq, yy_u_ne, xm_w_id, yy_at, tdiv_pos, tmod_pos]; omega, fun j hj => by rw [yy_s_ne (by decide), yy_s_ne (by decide), yy_s_ne (by decide), yy_s_ne (by decide), yy_s_ne (by decide)]; exact hT j hj, fun j hj => absurd hj (Nat.not_lt_zero j)⟩
  refine ⟨m1, ?_, fun x a b => by rw [f1 x a b, yy_s_ne a, yy_s_ne a, yy_s_ne a, yy_s_ne a, yy_s_ne a], f2, f3⟩
  show xm_X (xm_old sc) xm_mt (d + 51 + 1) 502 [.inr (.inl (some 58)), .inr (.inl (some 36)), .inl ((n : Int)), .inr (.inl (some 1000003))] (yy_W (m) t) = _
  refine xm_X_of (M := xm_m502) rfl ⟨xm_EQ.eq (xb_502_0 ?_), ?_, rfl, Nat.le_of_ble_eq_true rfl, yy_hd rfl (by decide)⟩
  rotate_left
  · split <;> rfl
  rw [zd_58_0, zs_58_1, zd_58_2, zs_58_3, zs_58_5, e, xm_Oi_some]
  rcases hok with q | q <;> subst q
  · rw [if_pos rfl, if_neg (fun h => absurd h.1 (by decide))]
  · rw [if_neg (by decide), zf_58_3, zf_58_1, f2, (f3 rfl).2.1]
    by_cases h : p = n
    · rw [if_pos (by omega), if_pos ⟨rfl, h⟩]
    · rw [if_neg (by omega), if_neg (fun q => h q.2)]
set_option maxRecDepth 20000 in
theorem c_111f_0 {sc : List Int} {d : Nat} {t : xm_W} {m : Nat → Nat → Int} {n p c : Nat} {T : Nat → Int} {g : Nat → Int × Int} {ok : Int} (hn : n ≤ 60) (h1 : m 35 1 = n) (hT : ∀ j, j < 60 → m 36 j = T j) (hok : ok = 0 ∨ ok = 1) (hz : ¬ (ok = 1 ∧ p = n)) (w : tp_C sc t 0 n T 51 504 [.inr (.inl (some 58)), .inl 0, .inl 0] 0 0 (fun _ => (0, 0)) ok p c g) : ∃ m', xm_X (xm_old sc) xm_mt (d + 53) 111 [.inr (.inl (some 0)), .inl (0)] (yy_W (m) t) = some (some (.inl (xm_w (-10 - p))), (yy_W (m') t)) ∧ (∀ x, x ≠ 58 → x ≠ 60 → x ≠ 35 → m' x = m x) ∧ m' 35 = yy_u (m 35) 1 0 := by
  obtain ⟨m1, e, f1, f2, f3⟩ := c_502_0 (d := d) hn hT hok w
  rw [if_neg hz] at e
  refine ⟨yy_s m1 35 1 0, ?_, fun x a b c => by rw [yy_s_ne c, f1 x a b], by rw [yy_s_eq, f1 35 (by decide) (by decide)]⟩
  show xm_X (xm_old sc) xm_mt (d + 52 + 1) 111 [.inr (.inl (some 0)), .inl (0)] (yy_W (m) t) = _
  refine xm_X_of (M := xm_m111) rfl ⟨xm_EQ.eq (xb_111_0 ?_), rfl, rfl, Nat.le_of_ble_eq_true rfl, yy_hd rfl (by decide)⟩
  rw [oc_146 (d := d + 50), zz_t (by decide), zr_0_6, zr_0_2, zr_35_0, zr_0_2, zf_35_1, h1]
  simp only [↓reduceIte, Int.reduceEq]
  rw [e, xm_Oi_some, zr_0_2, zs_35_1, if_pos rfl, zr_0_6, zf_58_3, yy_s_ne (by decide), f2]
set_option maxRecDepth 20000 in
theorem c_111t_0 {sc : List Int} {d : Nat} {t : xm_W} {m : Nat → Nat → Int} {n p c : Nat} {T : Nat → Int} {g : Nat → Int × Int} (hn : n ≤ 60) (hc : c ≤ 60) (h1 : m 35 1 = n) (hT : ∀ j, j < 60 → m 36 j = T j) (hz : p = n) (w : tp_C sc t 0 n T 51 504 [.inr (.inl (some 58)), .inl 0, .inl 0] 0 0 (fun _ => (0, 0)) 1 p c g) : ∃ m', xm_X (xm_old sc) xm_mt (d + 53) 111 [.inr (.inl (some 0)), .inl 0] (yy_W m t) = some (some (.inl 1), yy_W m' (t ++ [.inl (yy_R c (m' 60))] ++ [.inr (.inr (7, [.inr (.inl (some (87 + t.length)))]))])) ∧ (∀ x, x ≠ 58 → x ≠ 60 → x ≠ 35 → x ≠ 5 → m' x = m x) ∧ m' 35 = yy_u (m 35) 1 0 ∧ m' 5 = yy_u (m 5) 0 (((87 + (t.length + 1) : Nat) : Int) + 1) ∧ ∀ j, j < c → m' 60 j = tp_sg 0 (g j) := by
  obtain ⟨m1, e, f1, f2, f3⟩ := c_502_0 (d := d) hn hT (Or.inr rfl) w
  rw [if_pos ⟨rfl, hz⟩] at e
  have hs := f3 rfl
  obtain ⟨b0, b1, b2, b3, b4, b5, b6⟩ := id hs
  refine ⟨yy_s (yy_s m1 35 1 0) 5 0 (((87 + (t.length + 1) : Nat) : Int) + 1), ?_, fun x a b c e => by rw [yy_s_ne e, yy_s_ne c, f1 x a b], by rw [yy_s_ne (by decide), yy_s_eq, f1 35 (by decide) (by decide)], by rw [yy_s_eq, yy_s_ne (by decide), f1 5 (by decide) (by decide)], fun j hj => by rw [yy_s_ne (by decide), yy_s_ne (by decide)]; exact b6 j hj⟩
  show xm_X (xm_old sc) xm_mt (d + 52 + 1) 111 [.inr (.inl (some 0)), .inl (0)] (yy_W (m) t) = _
  refine xm_X_of (M := xm_m111) rfl ⟨xm_EQ.eq (xb_111_0 ?_), rfl, rfl, Nat.le_of_ble_eq_true rfl, yy_hd rfl (by decide)⟩
  rw [oc_146 (d := d + 50), zz_t (by decide), zr_0_6, zr_0_2, zr_35_0, zr_0_2, zf_35_1, h1]
  simp only [↓reduceIte, Int.reduceEq]
  have e5 : (t ++ [(.inl (yy_R c (m1 60)) : xm_C)] ++ [.inr (.inr (7, [.inr (.inl (some (87 + t.length)))]))])[t.length + 1]? = some (.inr (.inr (7, [.inr (.inl (some (87 + t.length)))]))) := by
    rw [List.getElem?_append_right (by simp)]; simp
  have hx : yy_tx (t ++ [(.inl (yy_R c (m1 60)) : xm_C)] ++ [.inr (.inr (7, [.inr (.inl (some (87 + t.length)))]))]) (((87 + (t.length + 1) : Nat) : Int) + 1) := Or.inr ⟨t.length + 1, _, yy_d_s, e5⟩
  have st := yy_setq (m := yy_s m1 35 1 0) (c := 5) (i := 0) (l := [1, 1]) rfl rfl (by decide) hx
  rw [yy_d_s, show (((0 : Int)).toNat) = 0 from rfl] at st
  rw [e, xm_Oi_some, zr_0_2, zs_35_1, if_neg (by decide), zr_0_0, zr_1_7, zr_0_6, q_503 (d := d + 50) (c := c) (by rw [yy_s_ne (by decide)]; exact b4) hc, xm_Oq_some, show yy_s m1 35 1 0 60 = m1 60 from yy_s_ne (by decide)]
  rw [st, xm_O_some, show yy_s (yy_s m1 35 1 0) 5 0 (((87 + (t.length + 1) : Nat) : Int) + 1) 60 = m1 60 by rw [yy_s_ne (by decide), yy_s_ne (by decide)]]
set_option maxRecDepth 20000 in
theorem c_502_1 {sc : List Int} {d : Nat} {t : xm_W} {m : Nat → Nat → Int} {n p c : Nat} {T : Nat → Int} {g : Nat → Int × Int} {ok : Int} (hn : n ≤ 60) (hT : ∀ j, j < 60 → m 36 j = T j) (hok : ok = 0 ∨ ok = 1) (w : tp_C sc t 1 n T 51 504 [.inr (.inl (some 58)), .inl 0, .inl 0] 0 0 (fun _ => (0, 0)) ok p c g) : ∃ m', xm_X (xm_old sc) xm_mt (d + 52) 502 [.inr (.inl (some 58)), .inr (.inl (some 36)), .inl ((n : Int)), .inr (.inl (some 1000004))] (yy_W (m) t) = some (some (.inl (if ok = 1 ∧ p = n then 1 else 0)), (yy_W (m') t)) ∧ tp_fc m m' ∧ m' 58 3 = p ∧ (ok = 1 → tp_cs 1 n T p c g m') := by
  obtain ⟨m1, e, f1, f2, f3⟩ := w d (yy_s (yy_s (yy_s (yy_s (yy_s m 58 0 (((36 : Nat) : Int) + 1)) 58 1 n) 58 2 (((1000004 : Nat) : Int) + 1)) 58 3 0) 58 5 0) ⟨by simp (disch := first | omega | (unfold xm_w; omega)) only [↓zy_at, xm_O_some, xm_Oi_some, xm_Ov_some, xm_Oq_some, ↓reduceIte, ↓zz_t, ↓zz_f, ↓zi_t, ↓zi_f, eq_self, yy_d_0, Int.reduceEq, Int.reduceLT, Int.reduceLE, Int.reduceNe, Int.reduceToNat, Int.reduceAdd, Int.reduceSub, Int.reduceMul, Int.reduceNeg, Nat.reduceAdd, Nat.reduceMul, Nat.reduceSub, Nat.reduceEqDiff, Nat.reduceLT, ne_eq, not_false_eq_true, not_true_eq_false, true_and, and_true, and_self, yy_s_eq, yy_s_ne, yy_c_eq, yy_c_ne, yy_u_eq, yy_u_ne, xm_w_id, yy_at, tdiv_pos, tmod_pos]; omega, by simp (disch := first | omega | (unfold xm_w; omega)) only [↓zy_at, xm_O_some, xm_Oi_some, xm_Ov_some, xm_Oq_some, ↓reduceIte, ↓zz_t, ↓zz_f, ↓zi_t, ↓zi_f, eq_self, yy_d_0, Int.reduceEq, Int.reduceLT, Int.reduceLE, Int.reduceNe, Int.reduceToNat, Int.reduceAdd, Int.reduceSub, Int.reduceMul, Int.reduceNeg, Nat.reduceAdd, Nat.reduceMul, Nat.reduceSub, Nat.reduceEqDiff, Nat.reduceLT, ne_eq, not_false_eq_true, not_true_eq_false, true_and, and_true, and_self, yy_s_eq, yy_s_ne, yy_c_eq, yy_c_ne, yy_u_eq, yy_u_ne, xm_w_id, yy_at, tdiv_pos, tmod_pos], by simp (disch := first | omega | (unfold xm_w; omega)) only [↓zy_at, xm_O_some, xm_Oi_some, xm_Ov_some, xm_Oq_some, ↓reduceIte, ↓zz_t, ↓zz_f, ↓zi_t, ↓zi_f, eq_self, yy_d_0, Int.reduceEq, Int.reduceLT, Int.reduceLE, Int.reduceNe, Int.reduceToNat, Int.reduceAdd, Int.reduceSub, Int.reduceMul, Int.reduceNeg, Nat.reduceAdd, Nat.reduceMul, Nat.reduceSub, Nat.reduceEqDiff, Nat.reduceLT, ne_eq, not_false_eq_true, not_true_eq_false, true_and, and_true, and_self, yy_s_eq, yy_s_ne, yy_c_eq, yy_c_ne, yy_u_eq, yy_u_ne, xm_w_id, yy_at, tdiv_pos, tmod_pos]; omega, by simp (disch := first | omega | (unfold xm_w; omega)) only [↓zy_at, xm_O_some, xm_Oi_some, xm_Ov_some, xm_Oq_some, ↓reduceIte, ↓zz_t, ↓zz_f, ↓zi_t, ↓zi_f, eq_self, yy_d_0, Int.reduceEq, Int.reduceLT, Int.reduceLE, Int.reduceNe, Int.reduceToNat, Int.reduceAdd, Int.reduceSub, Int.reduceMul, Int.reduceNeg, Nat.reduceAdd, Nat.reduceMul, Nat.reduceSub, Nat.reduceEqDiff, Nat.reduceLT, ne_eq, not_false_eq_true, not_true_eq_false, true_and, and_true, and_self, yy_s_eq, yy_s_ne, yy_c_eq, yy_c_ne, yy_u_eq, yy_u_ne, xm_w_id, yy_at, tdiv_pos, tmod_pos]; omega, by simp (disch := first | omega | (unfold xm_w; omega)) only [↓zy_at, xm_O_some, xm_Oi_some, xm_Ov_some, xm_Oq_some, ↓reduceIte, ↓zz_t, ↓zz_f, ↓zi_t, ↓zi_f, eq_self, yy_d_0, Int.reduceEq, Int.reduceLT, Int.reduceLE, Int.reduceNe, Int.reduceToNat, Int.reduceAdd, Int.reduceSub, Int.reduceMul, Int.reduceNeg, Nat.reduceAdd, Nat.reduceMul, Nat.reduceSub, Nat.reduceEqDiff, Nat.reduceLT, ne_eq, not_false_eq_true, not_true_eq_false, true_and, and_true, and_self, yy_s_eq, yy_s_ne, yy_c_eq, yy_c_ne, yy_u_eq, yy_u_ne, xm_w_id, yy_at, tdiv_pos, tmod_pos]; omega, fun j hj => by rw [yy_s_ne (by decide), yy_s_ne (by decide), yy_s_ne (by decide), yy_s_ne (by decide), yy_s_ne (by decide)]; exact hT j hj, fun j hj => absurd hj (Nat.not_lt_zero j)⟩
  refine ⟨m1, ?_, fun x a b => by rw [f1 x a b, yy_s_ne a, yy_s_ne a, yy_s_ne a, yy_s_ne a, yy_s_ne a], f2, f3⟩
  show xm_X (xm_old sc) xm_mt (d + 51 + 1) 502 [.inr (.inl (some 58)), .inr (.inl (some 36)), .inl ((n : Int)), .inr (.inl (some 1000004))] (yy_W (m) t) = _
  refine xm_X_of (M := xm_m502) rfl ⟨xm_EQ.eq (xb_502_0 ?_), ?_, rfl, Nat.le_of_ble_eq_true rfl, yy_hd rfl (by decide)⟩
  rotate_left
  · split <;> rfl
  rw [zd_58_0, zs_58_1, zd_58_2, zs_58_3, zs_58_5, e, xm_Oi_some]
  rcases hok with q | q <;> subst q
  · rw [if_pos rfl, if_neg (fun h => absurd h.1 (by decide))]
  · rw [if_neg (by decide), zf_58_3, zf_58_1, f2, (f3 rfl).2.1]
    by_cases h : p = n
    · rw [if_pos (by omega), if_pos ⟨rfl, h⟩]
    · rw [if_neg (by omega), if_neg (fun q => h q.2)]
set_option maxRecDepth 20000 in
theorem c_111f_1 {sc : List Int} {d : Nat} {t : xm_W} {m : Nat → Nat → Int} {n p c : Nat} {T : Nat → Int} {g : Nat → Int × Int} {ok : Int} (hn : n ≤ 60) (h1 : m 35 1 = n) (hT : ∀ j, j < 60 → m 36 j = T j) (hok : ok = 0 ∨ ok = 1) (hz : ¬ (ok = 1 ∧ p = n)) (w : tp_C sc t 1 n T 51 504 [.inr (.inl (some 58)), .inl 0, .inl 0] 0 0 (fun _ => (0, 0)) ok p c g) : ∃ m', xm_X (xm_old sc) xm_mt (d + 53) 111 [.inr (.inl (some 0)), .inl (1)] (yy_W (m) t) = some (some (.inl (xm_w (-10 - p))), (yy_W (m') t)) ∧ (∀ x, x ≠ 58 → x ≠ 60 → x ≠ 35 → m' x = m x) ∧ m' 35 = yy_u (m 35) 1 0 := by
  obtain ⟨m1, e, f1, f2, f3⟩ := c_502_1 (d := d) hn hT hok w
  rw [if_neg hz] at e
  refine ⟨yy_s m1 35 1 0, ?_, fun x a b c => by rw [yy_s_ne c, f1 x a b], by rw [yy_s_eq, f1 35 (by decide) (by decide)]⟩
  show xm_X (xm_old sc) xm_mt (d + 52 + 1) 111 [.inr (.inl (some 0)), .inl (1)] (yy_W (m) t) = _
  refine xm_X_of (M := xm_m111) rfl ⟨xm_EQ.eq (xb_111_0 ?_), rfl, rfl, Nat.le_of_ble_eq_true rfl, yy_hd rfl (by decide)⟩
  rw [oc_146 (d := d + 50), zz_t (by decide), zr_0_6, zr_0_2, zr_35_0, zr_0_2, zf_35_1, h1]
  simp only [↓reduceIte, Int.reduceEq]
  rw [e, xm_Oi_some, zr_0_2, zs_35_1, if_pos rfl, zr_0_6, zf_58_3, yy_s_ne (by decide), f2]
set_option maxRecDepth 20000 in
theorem c_111t_1 {sc : List Int} {d : Nat} {t : xm_W} {m : Nat → Nat → Int} {n p c : Nat} {T : Nat → Int} {g : Nat → Int × Int} (hn : n ≤ 60) (hc : c ≤ 60) (h1 : m 35 1 = n) (hT : ∀ j, j < 60 → m 36 j = T j) (hz : p = n) (w : tp_C sc t 1 n T 51 504 [.inr (.inl (some 58)), .inl 0, .inl 0] 0 0 (fun _ => (0, 0)) 1 p c g) : ∃ m', xm_X (xm_old sc) xm_mt (d + 53) 111 [.inr (.inl (some 0)), .inl 1] (yy_W m t) = some (some (.inl 1), yy_W m' (t ++ [.inl (yy_R c (m' 60))] ++ [.inr (.inr (7, [.inr (.inl (some (87 + t.length)))]))])) ∧ (∀ x, x ≠ 58 → x ≠ 60 → x ≠ 35 → x ≠ 5 → m' x = m x) ∧ m' 35 = yy_u (m 35) 1 0 ∧ m' 5 = yy_u (m 5) 1 (((87 + (t.length + 1) : Nat) : Int) + 1) ∧ ∀ j, j < c → m' 60 j = tp_sg 1 (g j) := by
  obtain ⟨m1, e, f1, f2, f3⟩ := c_502_1 (d := d) hn hT (Or.inr rfl) w
  rw [if_pos ⟨rfl, hz⟩] at e
  have hs := f3 rfl
  obtain ⟨b0, b1, b2, b3, b4, b5, b6⟩ := id hs
  refine ⟨yy_s (yy_s m1 35 1 0) 5 1 (((87 + (t.length + 1) : Nat) : Int) + 1), ?_, fun x a b c e => by rw [yy_s_ne e, yy_s_ne c, f1 x a b], by rw [yy_s_ne (by decide), yy_s_eq, f1 35 (by decide) (by decide)], by rw [yy_s_eq, yy_s_ne (by decide), f1 5 (by decide) (by decide)], fun j hj => by rw [yy_s_ne (by decide), yy_s_ne (by decide)]; exact b6 j hj⟩
  show xm_X (xm_old sc) xm_mt (d + 52 + 1) 111 [.inr (.inl (some 0)), .inl (1)] (yy_W (m) t) = _
  refine xm_X_of (M := xm_m111) rfl ⟨xm_EQ.eq (xb_111_0 ?_), rfl, rfl, Nat.le_of_ble_eq_true rfl, yy_hd rfl (by decide)⟩
  rw [oc_146 (d := d + 50), zz_t (by decide), zr_0_6, zr_0_2, zr_35_0, zr_0_2, zf_35_1, h1]
  simp only [↓reduceIte, Int.reduceEq]
  have e5 : (t ++ [(.inl (yy_R c (m1 60)) : xm_C)] ++ [.inr (.inr (7, [.inr (.inl (some (87 + t.length)))]))])[t.length + 1]? = some (.inr (.inr (7, [.inr (.inl (some (87 + t.length)))]))) := by
    rw [List.getElem?_append_right (by simp)]; simp
  have hx : yy_tx (t ++ [(.inl (yy_R c (m1 60)) : xm_C)] ++ [.inr (.inr (7, [.inr (.inl (some (87 + t.length)))]))]) (((87 + (t.length + 1) : Nat) : Int) + 1) := Or.inr ⟨t.length + 1, _, yy_d_s, e5⟩
  have st := yy_setq (m := yy_s m1 35 1 0) (c := 5) (i := 1) (l := [1, 1]) rfl rfl (by decide) hx
  rw [yy_d_s, show (((1 : Int)).toNat) = 1 from rfl] at st
  rw [e, xm_Oi_some, zr_0_2, zs_35_1, if_neg (by decide), zr_0_0, zr_1_7, zr_0_6, q_503 (d := d + 50) (c := c) (by rw [yy_s_ne (by decide)]; exact b4) hc, xm_Oq_some, show yy_s m1 35 1 0 60 = m1 60 from yy_s_ne (by decide)]
  rw [st, xm_O_some, show yy_s (yy_s m1 35 1 0) 5 1 (((87 + (t.length + 1) : Nat) : Int) + 1) 60 = m1 60 by rw [yy_s_ne (by decide), yy_s_ne (by decide)]]
