/-! WHAT IS READ off the prints -/
def sg_cn (s : Nat → Int) (w : Nat) (v : Int) : Nat → Int
  | 0 => 0
  | n + 1 => sg_cn s w v n + (if sg_p s n w = v then 1 else 0)
def sg_la (s : Nat → Int) (c : Int) : Nat → Int
  | 0 => -1
  | n + 1 => if sg_p s n 0 = c then n else sg_la s c n
def sg_de (s : Nat → Int) (c : Int) : Nat → Int
  | 0 => 0
  | n + 1 => if sg_p s n 0 = c then (if sg_de s c n < sg_p s n 2 then sg_p s n 2 else sg_de s c n) else sg_de s c n
def sg_N (s : Nat → Int) : Nat := (s 3).toNat
set_option maxRecDepth 20000 in
theorem sg_cn_b {s : Nat → Int} {w : Nat} {v : Int} : ∀ n : Nat, 0 ≤ sg_cn s w v n ∧ sg_cn s w v n ≤ n
  | 0 => by unfold sg_cn; omega
  | n + 1 => by
    have := sg_cn_b (s := s) (w := w) (v := v) n
    unfold sg_cn; split <;> omega
set_option maxRecDepth 20000 in
theorem sg_la_b {s : Nat → Int} {c : Int} : ∀ n : Nat, sg_la s c n = -1 ∨ (0 ≤ sg_la s c n ∧ sg_la s c n < n ∧ sg_p s (sg_la s c n).toNat 0 = c)
  | 0 => Or.inl rfl
  | n + 1 => by
    unfold sg_la
    by_cases e : sg_p s n 0 = c
    · rw [if_pos e]; exact Or.inr ⟨by omega, by omega, by rw [Int.toNat_natCast]; exact e⟩
    · rw [if_neg e]
      rcases sg_la_b (s := s) (c := c) n with h | ⟨h1, h2, h3⟩
      · exact Or.inl h
      · exact Or.inr ⟨h1, by omega, h3⟩
set_option maxRecDepth 20000 in
theorem sg_de_b {s : Nat → Int} {c : Int} (h : ∀ i : Nat, (i : Int) < s 3 → sg_E s i) : ∀ n : Nat, (n : Int) ≤ s 3 → 0 ≤ sg_de s c n ∧ sg_de s c n ≤ 99
  | 0, _ => by unfold sg_de; omega
  | n + 1, hn => by
    have := sg_de_b (c := c) h n (by omega)
    have e := (h n (by omega)).2.2.1
    unfold sg_de; repeat' split
    all_goals omega
def sg_nmD (n dd a : Int) : Int → Int := fun v => if v = 110 then n else if v = 100 then dd else a
def sg_hd (v : Int) : Int := if v < 0 then 0 else if 99 < v then 99 else v
def sg_age (s : Nat → Int) (c : Int) : Int := if sg_la s c (sg_N s) = -1 then 99 else s 1 - sg_p s (sg_la s c (sg_N s)).toNat 3
def sg_db (s : Nat → Int) (c : Int) : Int := if 0 < sg_tn s 1 then sg_hd (sg_val s 1 (sg_nmD (sg_cn s 0 c (sg_N s)) (sg_de s c (sg_N s)) (sg_age s c))) else sg_age s c
def sg_cf (s : Nat → Int) (c y : Int) : Int := if y = 0 then s (8 + c).toNat else if y = 1 then sg_cn s 0 c (sg_N s) else if y = 2 then (if sg_la s c (sg_N s) = -1 then -1 else sg_p s (sg_la s c (sg_N s)).toNat 1) else if y = 3 then sg_de s c (sg_N s) else sg_db s c
def sg_rf (s : Nat → Int) (r : Nat) (y : Int) : Int := if y = 7 then sg_cn s 4 r (sg_N s) else if 7 < y then (if y - 8 < s (48 + 18 * r) then s (50 + 18 * r + (y - 8).toNat) else -1) else if y = 6 then sg_dp s r else s (44 + 18 * r + y.toNat)
def sg_tr (s : Nat → Int) (bl : Int) : Nat → Int → Int → Int × Int
  | 0, at1, st => (at1, st)
  | k + 1, at1, st => if sg_la s at1 (sg_N s) = -1 then (at1, st) else if sp_next at1 (if bl = 0 then sg_p s (sg_la s at1 (sg_N s)).toNat 1 else sp_back (sg_p s (sg_la s at1 (sg_N s)).toNat 1)) = -1 then (at1, st) else sg_tr s bl k (sp_next at1 (if bl = 0 then sg_p s (sg_la s at1 (sg_N s)).toNat 1 else sp_back (sg_p s (sg_la s at1 (sg_N s)).toNat 1))) (st + 1)
set_option maxRecDepth 20000 in
theorem sg_nmD_ok {nc : Nat → Int} {n dd a : Int} (h0 : nc 0 = n) (h1 : nc 1 = dd) (h2 : nc 2 = a) : ∀ v, sg_nm 1 v → (fun v => nc (sg_ix 1 v).toNat) v = sg_nmD n dd a v := by
  intro v hv
  unfold sg_nm at hv
  rw [if_neg (by decide)] at hv
  unfold sg_nmD
  show nc (sg_ix 1 v).toNat = _
  unfold sg_ix
  rw [if_neg (by decide)]
  rcases hv with h | h | h <;> subst h
  · rw [if_pos rfl, if_pos rfl]; exact h0
  · rw [if_neg (by decide), if_pos rfl, if_neg (by decide), if_pos rfl]; exact h1
  · rw [if_neg (by decide), if_neg (by decide), if_neg (by decide), if_neg (by decide)]; exact h2
set_option maxRecDepth 20000 in
theorem l_414_1 {sc : List Int} {d : Nat} {t : xm_W} {m : Nat → Nat → Int} {s : Nat → Int} {Q : Option xm_V × xm_W → Prop} {w : Nat} {v : Int} (hw : w < 5) (hM : yy_MR m 1 s) (h3 : 0 ≤ s 3 ∧ s 3 ≤ 40) (hQ : Q ((some (.inl (sg_cn s w v (sg_N s))), (yy_W (m) t)))) : ∀ (k i : Nat), ((i + k : Nat) : Int) = s 3 → xm_EQ (xm_old sc) xm_sta (xm_X (xm_old sc) xm_mt (d)) xm_c414 4 [some (.inr (.inl (some 1))), some (.inl ((w : Int))), some (.inl (v)), some (.inl ((sg_cn s w v i))), some (.inl ((i : Int)))] [] (yy_W (m) t) Q
  | 0, i, hk => by
    have e : i = sg_N s := by unfold sg_N; omega
    refine xb_414_4 ?_
    simp (disch := first | omega | (unfold xm_w; omega)) only [↓zy_at, xm_O_some, xm_Oi_some, xm_Ov_some, xm_Oq_some, ↓reduceIte, ↓zz_t, ↓zz_f, ↓zi_t, ↓zi_f, eq_self, yy_d_0, Int.reduceEq, Int.reduceLT, Int.reduceLE, Int.reduceNe, Int.reduceToNat, Int.reduceAdd, Int.reduceSub, Int.reduceMul, Int.reduceNeg, Nat.reduceAdd, Nat.reduceMul, Nat.reduceSub, Nat.reduceEqDiff, Nat.reduceLT, ne_eq, not_false_eq_true, not_true_eq_false, true_and, and_true, and_self, yy_s_eq, yy_s_ne, yy_c_eq, yy_c_ne, yy_u_eq, yy_u_ne, xm_w_id, yy_at, tdiv_pos, tmod_pos, ↓zr_1_0, ↓zf_1_1, ↓zs_1_1, ↓zf_1_2, ↓zs_1_2, ↓zr_1_3, ↓zf_1_4, ↓zs_1_4, ↓zr_1_5, ↓zf_1_6, ↓zs_1_6, ↓zr_1_7, ↓zr_1_8, ↓zr_1_9, hM.2.2.2.1]
    rw [e]; exact hQ
  | k + 1, i, hk => by
    have cb := sg_cn_b (s := s) (w := w) (v := v) i
    have i0 : ((i : Int) * 5 + (w : Int)).toNat = 5 * i + w := by omega
    have f : m 4 (5 * i + w) = sg_p s i w := by rw [hM.2.2.2.2.2.1 _ (by omega)]; unfold sg_p; first | rfl | (congr 1; omega)
    have := l_414_1 (sc := sc) (d := d) (t := t) (Q := Q) hw hM h3 hQ k (i + 1) (by omega)
    rw [show ((i + 1 : Nat) : Int) = (i : Int) + 1 by omega] at this
    unfold sg_cn at this
    refine xb_414_4 ?_
    simp (disch := first | omega | (unfold xm_w; omega)) only [↓zy_at, xm_O_some, xm_Oi_some, xm_Ov_some, xm_Oq_some, ↓reduceIte, ↓zz_t, ↓zz_f, ↓zi_t, ↓zi_f, eq_self, yy_d_0, Int.reduceEq, Int.reduceLT, Int.reduceLE, Int.reduceNe, Int.reduceToNat, Int.reduceAdd, Int.reduceSub, Int.reduceMul, Int.reduceNeg, Nat.reduceAdd, Nat.reduceMul, Nat.reduceSub, Nat.reduceEqDiff, Nat.reduceLT, ne_eq, not_false_eq_true, not_true_eq_false, true_and, and_true, and_self, yy_s_eq, yy_s_ne, yy_c_eq, yy_c_ne, yy_u_eq, yy_u_ne, xm_w_id, yy_at, tdiv_pos, tmod_pos, ↓zr_1_0, ↓zf_1_1, ↓zs_1_1, ↓zf_1_2, ↓zs_1_2, ↓zr_1_3, ↓zf_1_4, ↓zs_1_4, ↓zr_1_5, ↓zf_1_6, ↓zs_1_6, ↓zr_1_7, ↓zr_1_8, ↓zr_1_9, ↓zi_4, ↓zt_4, hM.2.2.2.1, i0, f]
    split
    · rename_i g; rw [if_pos g] at this; exact this
    · rename_i g; rw [if_neg g, Int.add_zero] at this; exact this
set_option maxRecDepth 20000 in
theorem c_414_1g {sc : List Int} {d : Nat} {t : xm_W} {m : Nat → Nat → Int} {s : Nat → Int} {w : Nat} {v : Int} (hw : w < 5) (hM : yy_MR m 1 s) (h3 : 0 ≤ s 3 ∧ s 3 ≤ 40) : xm_X (xm_old sc) xm_mt (d + 1) 414 [.inr (.inl (some 1)), .inl ((w : Int)), .inl (v)] (yy_W (m) t) = some (some (.inl (sg_cn s w v (sg_N s))), (yy_W (m) t)) := by
  refine xm_X_of (M := xm_m414) rfl ⟨xm_EQ.eq (xb_414_0 ?_), rfl, rfl, Nat.le_of_ble_eq_true rfl, yy_hd rfl (by decide)⟩
  exact l_414_1 (d := d) hw hM h3 rfl (sg_N s) 0 (by unfold sg_N; omega)
set_option maxRecDepth 20000 in
theorem oc_414_1g {F : Int → xm_W → Prop} {sc : List Int} {d : Nat} {t : xm_W} {m : Nat → Nat → Int} {s : Nat → Int} {w : Nat} {v : Int} (hw : w < 5) (hM : yy_MR m 1 s) (h3 : 0 ≤ s 3 ∧ s 3 ≤ 40) : xm_Oi (xm_X (xm_old sc) xm_mt (d + 1) 414 [.inr (.inl (some 1)), .inl ((w : Int)), .inl (v)] (yy_W (m) t)) F = F (sg_cn s w v (sg_N s)) (yy_W (m) t) := congrArg (fun x => xm_Oi x F) (c_414_1g hw hM h3)
set_option maxRecDepth 20000 in
theorem c_414_1_0 {sc : List Int} {d : Nat} {t : xm_W} {m : Nat → Nat → Int} {s : Nat → Int} {v : Int} (hM : yy_MR m 1 s) (h3 : 0 ≤ s 3 ∧ s 3 ≤ 40) : xm_X (xm_old sc) xm_mt (d + 1) 414 [.inr (.inl (some 1)), .inl (0), .inl (v)] (yy_W (m) t) = some (some (.inl (sg_cn s 0 v (sg_N s))), (yy_W (m) t)) := by
  exact c_414_1g (w := 0) (by decide) hM h3
set_option maxRecDepth 20000 in
theorem oc_414_1_0 {F : Int → xm_W → Prop} {sc : List Int} {d : Nat} {t : xm_W} {m : Nat → Nat → Int} {s : Nat → Int} {v : Int} (hM : yy_MR m 1 s) (h3 : 0 ≤ s 3 ∧ s 3 ≤ 40) : xm_Oi (xm_X (xm_old sc) xm_mt (d + 1) 414 [.inr (.inl (some 1)), .inl (0), .inl (v)] (yy_W (m) t)) F = F (sg_cn s 0 v (sg_N s)) (yy_W (m) t) := congrArg (fun x => xm_Oi x F) (c_414_1_0 hM h3)
set_option maxRecDepth 20000 in
theorem c_414_1_4 {sc : List Int} {d : Nat} {t : xm_W} {m : Nat → Nat → Int} {s : Nat → Int} {v : Int} (hM : yy_MR m 1 s) (h3 : 0 ≤ s 3 ∧ s 3 ≤ 40) : xm_X (xm_old sc) xm_mt (d + 1) 414 [.inr (.inl (some 1)), .inl (4), .inl (v)] (yy_W (m) t) = some (some (.inl (sg_cn s 4 v (sg_N s))), (yy_W (m) t)) := by
  exact c_414_1g (w := 4) (by decide) hM h3
set_option maxRecDepth 20000 in
theorem oc_414_1_4 {F : Int → xm_W → Prop} {sc : List Int} {d : Nat} {t : xm_W} {m : Nat → Nat → Int} {s : Nat → Int} {v : Int} (hM : yy_MR m 1 s) (h3 : 0 ≤ s 3 ∧ s 3 ≤ 40) : xm_Oi (xm_X (xm_old sc) xm_mt (d + 1) 414 [.inr (.inl (some 1)), .inl (4), .inl (v)] (yy_W (m) t)) F = F (sg_cn s 4 v (sg_N s)) (yy_W (m) t) := congrArg (fun x => xm_Oi x F) (c_414_1_4 hM h3)
set_option maxRecDepth 20000 in
theorem l_415_1 {sc : List Int} {d : Nat} {t : xm_W} {m : Nat → Nat → Int} {s : Nat → Int} {Q : Option xm_V × xm_W → Prop} {c : Int} (hM : yy_MR m 1 s) (h3 : 0 ≤ s 3 ∧ s 3 ≤ 40) (hQ : Q ((some (.inl (sg_la s c (sg_N s))), (yy_W (m) t)))) : ∀ (k i : Nat), ((i + k : Nat) : Int) = s 3 → xm_EQ (xm_old sc) xm_sta (xm_X (xm_old sc) xm_mt (d)) xm_c415 4 [some (.inr (.inl (some 1))), some (.inl (c)), some (.inl ((sg_la s c i))), some (.inl ((i : Int)))] [] (yy_W (m) t) Q
  | 0, i, hk => by
    have e : i = sg_N s := by unfold sg_N; omega
    refine xb_415_4 ?_
    simp (disch := first | omega | (unfold xm_w; omega)) only [↓zy_at, xm_O_some, xm_Oi_some, xm_Ov_some, xm_Oq_some, ↓reduceIte, ↓zz_t, ↓zz_f, ↓zi_t, ↓zi_f, eq_self, yy_d_0, Int.reduceEq, Int.reduceLT, Int.reduceLE, Int.reduceNe, Int.reduceToNat, Int.reduceAdd, Int.reduceSub, Int.reduceMul, Int.reduceNeg, Nat.reduceAdd, Nat.reduceMul, Nat.reduceSub, Nat.reduceEqDiff, Nat.reduceLT, ne_eq, not_false_eq_true, not_true_eq_false, true_and, and_true, and_self, yy_s_eq, yy_s_ne, yy_c_eq, yy_c_ne, yy_u_eq, yy_u_ne, xm_w_id, yy_at, tdiv_pos, tmod_pos, ↓zr_1_0, ↓zf_1_1, ↓zs_1_1, ↓zf_1_2, ↓zs_1_2, ↓zr_1_3, ↓zf_1_4, ↓zs_1_4, ↓zr_1_5, ↓zf_1_6, ↓zs_1_6, ↓zr_1_7, ↓zr_1_8, ↓zr_1_9, hM.2.2.2.1]
    rw [e]; exact hQ
  | k + 1, i, hk => by
    have i0 : ((i : Int) * 5 + 0).toNat = 5 * i := by omega
    have f : m 4 (5 * i) = sg_p s i 0 := by rw [hM.2.2.2.2.2.1 _ (by omega)]; unfold sg_p; first | rfl | (congr 1; omega)
    have := l_415_1 (sc := sc) (d := d) (t := t) (Q := Q) hM h3 hQ k (i + 1) (by omega)
    rw [show ((i + 1 : Nat) : Int) = (i : Int) + 1 by omega] at this
    unfold sg_la at this
    refine xb_415_4 ?_
    simp (disch := first | omega | (unfold xm_w; omega)) only [↓zy_at, xm_O_some, xm_Oi_some, xm_Ov_some, xm_Oq_some, ↓reduceIte, ↓zz_t, ↓zz_f, ↓zi_t, ↓zi_f, eq_self, yy_d_0, Int.reduceEq, Int.reduceLT, Int.reduceLE, Int.reduceNe, Int.reduceToNat, Int.reduceAdd, Int.reduceSub, Int.reduceMul, Int.reduceNeg, Nat.reduceAdd, Nat.reduceMul, Nat.reduceSub, Nat.reduceEqDiff, Nat.reduceLT, ne_eq, not_false_eq_true, not_true_eq_false, true_and, and_true, and_self, yy_s_eq, yy_s_ne, yy_c_eq, yy_c_ne, yy_u_eq, yy_u_ne, xm_w_id, yy_at, tdiv_pos, tmod_pos, ↓zr_1_0, ↓zf_1_1, ↓zs_1_1, ↓zf_1_2, ↓zs_1_2, ↓zr_1_3, ↓zf_1_4, ↓zs_1_4, ↓zr_1_5, ↓zf_1_6, ↓zs_1_6, ↓zr_1_7, ↓zr_1_8, ↓zr_1_9, ↓zi_4, ↓zt_4, hM.2.2.2.1, i0, f]
    split
    · rename_i g; rw [if_pos g] at this; exact this
    · rename_i g; rw [if_neg g] at this; exact this
set_option maxRecDepth 20000 in
theorem c_415_1g {sc : List Int} {d : Nat} {t : xm_W} {m : Nat → Nat → Int} {s : Nat → Int} {c : Int} (hM : yy_MR m 1 s) (h3 : 0 ≤ s 3 ∧ s 3 ≤ 40) : xm_X (xm_old sc) xm_mt (d + 1) 415 [.inr (.inl (some 1)), .inl (c)] (yy_W (m) t) = some (some (.inl (sg_la s c (sg_N s))), (yy_W (m) t)) := by
  refine xm_X_of (M := xm_m415) rfl ⟨xm_EQ.eq (xb_415_0 ?_), rfl, rfl, Nat.le_of_ble_eq_true rfl, yy_hd rfl (by decide)⟩
  exact l_415_1 (d := d) hM h3 rfl (sg_N s) 0 (by unfold sg_N; omega)
set_option maxRecDepth 20000 in
theorem oc_415_1g {F : Int → xm_W → Prop} {sc : List Int} {d : Nat} {t : xm_W} {m : Nat → Nat → Int} {s : Nat → Int} {c : Int} (hM : yy_MR m 1 s) (h3 : 0 ≤ s 3 ∧ s 3 ≤ 40) : xm_Oi (xm_X (xm_old sc) xm_mt (d + 1) 415 [.inr (.inl (some 1)), .inl (c)] (yy_W (m) t)) F = F (sg_la s c (sg_N s)) (yy_W (m) t) := congrArg (fun x => xm_Oi x F) (c_415_1g hM h3)
set_option maxRecDepth 20000 in
theorem l_416_1 {sc : List Int} {d : Nat} {t : xm_W} {m : Nat → Nat → Int} {s : Nat → Int} {Q : Option xm_V × xm_W → Prop} {c : Int} (hM : yy_MR m 1 s) (h3 : 0 ≤ s 3 ∧ s 3 ≤ 40) (hQ : Q ((some (.inl (sg_de s c (sg_N s))), (yy_W (m) t)))) : ∀ (k i : Nat), ((i + k : Nat) : Int) = s 3 → xm_EQ (xm_old sc) xm_sta (xm_X (xm_old sc) xm_mt (d)) xm_c416 4 [some (.inr (.inl (some 1))), some (.inl (c)), some (.inl ((sg_de s c i))), some (.inl ((i : Int)))] [] (yy_W (m) t) Q
  | 0, i, hk => by
    have e : i = sg_N s := by unfold sg_N; omega
    refine xb_416_4 ?_
    simp (disch := first | omega | (unfold xm_w; omega)) only [↓zy_at, xm_O_some, xm_Oi_some, xm_Ov_some, xm_Oq_some, ↓reduceIte, ↓zz_t, ↓zz_f, ↓zi_t, ↓zi_f, eq_self, yy_d_0, Int.reduceEq, Int.reduceLT, Int.reduceLE, Int.reduceNe, Int.reduceToNat, Int.reduceAdd, Int.reduceSub, Int.reduceMul, Int.reduceNeg, Nat.reduceAdd, Nat.reduceMul, Nat.reduceSub, Nat.reduceEqDiff, Nat.reduceLT, ne_eq, not_false_eq_true, not_true_eq_false, true_and, and_true, and_self, yy_s_eq, yy_s_ne, yy_c_eq, yy_c_ne, yy_u_eq, yy_u_ne, xm_w_id, yy_at, tdiv_pos, tmod_pos, ↓zr_1_0, ↓zf_1_1, ↓zs_1_1, ↓zf_1_2, ↓zs_1_2, ↓zr_1_3, ↓zf_1_4, ↓zs_1_4, ↓zr_1_5, ↓zf_1_6, ↓zs_1_6, ↓zr_1_7, ↓zr_1_8, ↓zr_1_9, hM.2.2.2.1]
    rw [e]; exact hQ
  | k + 1, i, hk => by
    have i0 : ((i : Int) * 5 + 0).toNat = 5 * i := by omega
    have i2 : ((i : Int) * 5 + 2).toNat = 5 * i + 2 := by omega
    have f : m 4 (5 * i) = sg_p s i 0 := by rw [hM.2.2.2.2.2.1 _ (by omega)]; unfold sg_p; first | rfl | (congr 1; omega)
    have f2 : m 4 (5 * i + 2) = sg_p s i 2 := by rw [hM.2.2.2.2.2.1 _ (by omega)]; unfold sg_p; first | rfl | (congr 1; omega)
    have := l_416_1 (sc := sc) (d := d) (t := t) (Q := Q) hM h3 hQ k (i + 1) (by omega)
    rw [show ((i + 1 : Nat) : Int) = (i : Int) + 1 by omega] at this
    unfold sg_de at this
    refine xb_416_4 ?_
    simp (disch := first | omega | (unfold xm_w; omega)) only [↓zy_at, xm_O_some, xm_Oi_some, xm_Ov_some, xm_Oq_some, ↓reduceIte, ↓zz_t, ↓zz_f, ↓zi_t, ↓zi_f, eq_self, yy_d_0, Int.reduceEq, Int.reduceLT, Int.reduceLE, Int.reduceNe, Int.reduceToNat, Int.reduceAdd, Int.reduceSub, Int.reduceMul, Int.reduceNeg, Nat.reduceAdd, Nat.reduceMul, Nat.reduceSub, Nat.reduceEqDiff, Nat.reduceLT, ne_eq, not_false_eq_true, not_true_eq_false, true_and, and_true, and_self, yy_s_eq, yy_s_ne, yy_c_eq, yy_c_ne, yy_u_eq, yy_u_ne, xm_w_id, yy_at, tdiv_pos, tmod_pos, ↓zr_1_0, ↓zf_1_1, ↓zs_1_1, ↓zf_1_2, ↓zs_1_2, ↓zr_1_3, ↓zf_1_4, ↓zs_1_4, ↓zr_1_5, ↓zf_1_6, ↓zs_1_6, ↓zr_1_7, ↓zr_1_8, ↓zr_1_9, ↓zi_4, ↓zt_4, hM.2.2.2.1, i0, i2, f, f2]
    split
    · rename_i g; rw [if_pos g] at this; exact this
    · rename_i g; rw [if_neg g] at this; exact this
set_option maxRecDepth 20000 in
theorem c_416_1g {sc : List Int} {d : Nat} {t : xm_W} {m : Nat → Nat → Int} {s : Nat → Int} {c : Int} (hM : yy_MR m 1 s) (h3 : 0 ≤ s 3 ∧ s 3 ≤ 40) : xm_X (xm_old sc) xm_mt (d + 1) 416 [.inr (.inl (some 1)), .inl (c)] (yy_W (m) t) = some (some (.inl (sg_de s c (sg_N s))), (yy_W (m) t)) := by
  refine xm_X_of (M := xm_m416) rfl ⟨xm_EQ.eq (xb_416_0 ?_), rfl, rfl, Nat.le_of_ble_eq_true rfl, yy_hd rfl (by decide)⟩
  exact l_416_1 (d := d) hM h3 rfl (sg_N s) 0 (by unfold sg_N; omega)
set_option maxRecDepth 20000 in
theorem oc_416_1g {F : Int → xm_W → Prop} {sc : List Int} {d : Nat} {t : xm_W} {m : Nat → Nat → Int} {s : Nat → Int} {c : Int} (hM : yy_MR m 1 s) (h3 : 0 ≤ s 3 ∧ s 3 ≤ 40) : xm_Oi (xm_X (xm_old sc) xm_mt (d + 1) 416 [.inr (.inl (some 1)), .inl (c)] (yy_W (m) t)) F = F (sg_de s c (sg_N s)) (yy_W (m) t) := congrArg (fun x => xm_Oi x F) (c_416_1g hM h3)
set_option maxRecDepth 20000 in
theorem c_417_1g {sc : List Int} {d : Nat} {t : xm_W} {m : Nat → Nat → Int} {s : Nat → Int} {c : Int} (hM : yy_MX t m 1 s) (hW : sg_W s 0) (hc : 0 ≤ c ∧ c ≤ 35) : ∃ m', xm_X (xm_old sc) xm_mt (d + 4) 417 [.inr (.inl (some 1)), .inl (c)] (yy_W m t) = some (some (.inl (sg_db s c)), yy_W m' t) ∧ ∀ c, c ≠ 6 → c ≠ 7 → m' c = m c := by
  have key : ∀ {Q : Option xm_V × xm_W → Prop}, (∀ m', (∀ c, c ≠ 6 → c ≠ 7 → m' c = m c) → Q (some (.inl (sg_db s c)), yy_W m' t)) → xm_EQ (xm_old sc) xm_sta (xm_X (xm_old sc) xm_mt (d + 3)) xm_m417.2.2.2.2.2.2.2 0 (xm_loc xm_m417.2.2.1 [.inr (.inl (some 1)), .inl (c)]) [] (yy_W m t) Q := by
    intro Q hQ
    obtain ⟨hR, hO, hS, hT, hT1⟩ := id hW
    obtain ⟨hMR, hX, hX1⟩ := id hM
    obtain ⟨e1, e2, e3, e4, e5, e6, e7⟩ := id hMR
    obtain ⟨b0, b1, b2, b3, hso, hrd⟩ := id hR
    have la := sg_la_b (s := s) (c := c) (sg_N s)
    have hN : ((sg_N s : Nat) : Int) = s 3 := by unfold sg_N; omega
    have ag : 0 ≤ sg_age s c ∧ sg_age s c ≤ 99 := by
      unfold sg_age
      rcases la with h | ⟨h, h', h2⟩
      · rw [if_pos h]; omega
      · rw [if_neg (by omega)]
        have x := hO.1 (sg_la s c (sg_N s)).toNat (by omega)
        have y := hS (sg_la s c (sg_N s)).toNat (by omega)
        have z := sg_k_r (c := sg_p s (sg_la s c (sg_N s)).toNat 0) b2
        omega
    have done : ∀ A, A = sg_age s c → ∀ (D : Prop), (yy_d (m 5 1) ≠ none → D) → (if (yy_d (m 5 1) : Option Nat) = none then Q (some (.inl (A)), (yy_W (m) t)) else D) := by
      intro A hr D hD
      subst hr
      rcases hX1 with ⟨h0, hz⟩ | ⟨h0, a, a', hz, hC⟩
      · rw [if_pos hz]
        have := hQ m fun c _ _ => rfl
        unfold sg_db at this
        rw [if_neg (by omega)] at this
        exact this
      · rw [if_neg (by rw [hz]; simp)]
        exact hD (by rw [hz]; simp)
    have text : ∀ m1 : Nat → Nat → Int, (∀ c, c ≠ 6 → m1 c = m c) → m1 6 0 = sg_cn s 0 c (sg_N s) → m1 6 1 = sg_de s c (sg_N s) → m1 6 2 = sg_age s c → yy_d (m 5 1) ≠ none → xm_Oi (xm_X (xm_old sc) xm_mt (d + 3) 902 [.inr (.inl (yy_d (m 5 1))), .inr (.inl (some 6)), .inr (.inl (some 7))] (yy_W m1 t)) (fun z23 w22 => Q (some (.inl (if 0 < (if z23 < 99 then z23 else 99) then (if z23 < 99 then z23 else 99) else 0)), w22)) := by
      intro m1 h1 n0 n1 n2 hne
      rcases hX1 with ⟨h0, hz⟩ | ⟨h0, a, a', hz, hC⟩
      · exact absurd hz hne
      · rw [hz]
        obtain ⟨m2, e, g1⟩ := c_902_1 (sc := sc) (d := d + 1) (t := t) (m := m1) hT1 h0 hC
        rw [sg_val_congr hT1 (sg_nmD_ok n0 n1 n2)] at e
        rw [e, xm_Oi_some]
        have := hQ m2 fun c c1 c2 => by rw [g1 c c2, h1 c c1]
        unfold sg_db at this
        rw [if_pos h0] at this
        unfold sg_hd at this
        generalize sg_val s 1 (sg_nmD (sg_cn s 0 c (sg_N s)) (sg_de s c (sg_N s)) (sg_age s c)) = z at this ⊢
        have ez : (if 0 < (if z < 99 then z else 99) then (if z < 99 then z else 99) else 0) = (if z < 0 then 0 else if 99 < z then 99 else z) := by
          repeat' split
          all_goals omega
        rw [ez]; exact this
    refine xb_417_0 ?_
    rw [oc_415_1g hMR b3]
    rcases la with h | ⟨h, h', h2⟩
    · have ea : sg_age s c = 99 := by unfold sg_age; rw [if_pos h]
      rw [if_pos (by omega)]
      simp (disch := first | omega | (unfold xm_w; omega)) only [↓zy_at, xm_O_some, xm_Oi_some, xm_Ov_some, xm_Oq_some, ↓reduceIte, ↓zz_t, ↓zz_f, ↓zi_t, ↓zi_f, eq_self, yy_d_0, Int.reduceEq, Int.reduceLT, Int.reduceLE, Int.reduceNe, Int.reduceToNat, Int.reduceAdd, Int.reduceSub, Int.reduceMul, Int.reduceNeg, Nat.reduceAdd, Nat.reduceMul, Nat.reduceSub, Nat.reduceEqDiff, Nat.reduceLT, ne_eq, not_false_eq_true, not_true_eq_false, true_and, and_true, and_self, yy_s_eq, yy_s_ne, yy_c_eq, yy_c_ne, yy_u_eq, yy_u_ne, xm_w_id, yy_at, tdiv_pos, tmod_pos, ↓zr_1_0, ↓zf_1_1, ↓zs_1_1, ↓zf_1_2, ↓zs_1_2, ↓zr_1_3, ↓zf_1_4, ↓zs_1_4, ↓zr_1_5, ↓zf_1_6, ↓zs_1_6, ↓zr_1_7, ↓zr_1_8, ↓zr_1_9, ↓zq_5, ↓zq_tx]
      refine done 99 ea.symm _ (fun hne => ?_)
      rw [oc_414_1_0 hMR b3]
      simp (disch := first | omega | (unfold xm_w; omega)) only [↓zy_at, xm_O_some, xm_Oi_some, xm_Ov_some, xm_Oq_some, ↓reduceIte, ↓zz_t, ↓zz_f, ↓zi_t, ↓zi_f, eq_self, yy_d_0, Int.reduceEq, Int.reduceLT, Int.reduceLE, Int.reduceNe, Int.reduceToNat, Int.reduceAdd, Int.reduceSub, Int.reduceMul, Int.reduceNeg, Nat.reduceAdd, Nat.reduceMul, Nat.reduceSub, Nat.reduceEqDiff, Nat.reduceLT, ne_eq, not_false_eq_true, not_true_eq_false, true_and, and_true, and_self, yy_s_eq, yy_s_ne, yy_c_eq, yy_c_ne, yy_u_eq, yy_u_ne, xm_w_id, yy_at, tdiv_pos, tmod_pos, ↓zr_1_0, ↓zf_1_1, ↓zs_1_1, ↓zf_1_2, ↓zs_1_2, ↓zr_1_3, ↓zf_1_4, ↓zs_1_4, ↓zr_1_5, ↓zf_1_6, ↓zs_1_6, ↓zr_1_7, ↓zr_1_8, ↓zr_1_9, ↓zi_6, ↓zt_6]
      rw [oc_416_1g (m := yy_s m 6 0 (sg_cn s 0 c (sg_N s))) (yy_MR_fr (fun c hc => by simp (disch := first | omega | (unfold xm_w; omega)) only [↓zy_at, xm_O_some, xm_Oi_some, xm_Ov_some, xm_Oq_some, ↓reduceIte, ↓zz_t, ↓zz_f, ↓zi_t, ↓zi_f, eq_self, yy_d_0, Int.reduceEq, Int.reduceLT, Int.reduceLE, Int.reduceNe, Int.reduceToNat, Int.reduceAdd, Int.reduceSub, Int.reduceMul, Int.reduceNeg, Nat.reduceAdd, Nat.reduceMul, Nat.reduceSub, Nat.reduceEqDiff, Nat.reduceLT, ne_eq, not_false_eq_true, not_true_eq_false, true_and, and_true, and_self, yy_s_eq, yy_s_ne, yy_c_eq, yy_c_ne, yy_u_eq, yy_u_ne, xm_w_id, yy_at, tdiv_pos, tmod_pos]) hMR) b3]
      simp (disch := first | omega | (unfold xm_w; omega)) only [↓zy_at, xm_O_some, xm_Oi_some, xm_Ov_some, xm_Oq_some, ↓reduceIte, ↓zz_t, ↓zz_f, ↓zi_t, ↓zi_f, eq_self, yy_d_0, Int.reduceEq, Int.reduceLT, Int.reduceLE, Int.reduceNe, Int.reduceToNat, Int.reduceAdd, Int.reduceSub, Int.reduceMul, Int.reduceNeg, Nat.reduceAdd, Nat.reduceMul, Nat.reduceSub, Nat.reduceEqDiff, Nat.reduceLT, ne_eq, not_false_eq_true, not_true_eq_false, true_and, and_true, and_self, yy_s_eq, yy_s_ne, yy_c_eq, yy_c_ne, yy_u_eq, yy_u_ne, xm_w_id, yy_at, tdiv_pos, tmod_pos, ↓zr_1_0, ↓zf_1_1, ↓zs_1_1, ↓zf_1_2, ↓zs_1_2, ↓zr_1_3, ↓zf_1_4, ↓zs_1_4, ↓zr_1_5, ↓zf_1_6, ↓zs_1_6, ↓zr_1_7, ↓zr_1_8, ↓zr_1_9, ↓zi_6, ↓zt_6]
      refine text _ (fun c hc => ?_) ?_ ?_ ?_ hne
      · simp (disch := first | omega | (unfold xm_w; omega)) only [↓zy_at, xm_O_some, xm_Oi_some, xm_Ov_some, xm_Oq_some, ↓reduceIte, ↓zz_t, ↓zz_f, ↓zi_t, ↓zi_f, eq_self, yy_d_0, Int.reduceEq, Int.reduceLT, Int.reduceLE, Int.reduceNe, Int.reduceToNat, Int.reduceAdd, Int.reduceSub, Int.reduceMul, Int.reduceNeg, Nat.reduceAdd, Nat.reduceMul, Nat.reduceSub, Nat.reduceEqDiff, Nat.reduceLT, ne_eq, not_false_eq_true, not_true_eq_false, true_and, and_true, and_self, yy_s_eq, yy_s_ne, yy_c_eq, yy_c_ne, yy_u_eq, yy_u_ne, xm_w_id, yy_at, tdiv_pos, tmod_pos]
      · simp (disch := first | omega | (unfold xm_w; omega)) only [↓zy_at, xm_O_some, xm_Oi_some, xm_Ov_some, xm_Oq_some, ↓reduceIte, ↓zz_t, ↓zz_f, ↓zi_t, ↓zi_f, eq_self, yy_d_0, Int.reduceEq, Int.reduceLT, Int.reduceLE, Int.reduceNe, Int.reduceToNat, Int.reduceAdd, Int.reduceSub, Int.reduceMul, Int.reduceNeg, Nat.reduceAdd, Nat.reduceMul, Nat.reduceSub, Nat.reduceEqDiff, Nat.reduceLT, ne_eq, not_false_eq_true, not_true_eq_false, true_and, and_true, and_self, yy_s_eq, yy_s_ne, yy_c_eq, yy_c_ne, yy_u_eq, yy_u_ne, xm_w_id, yy_at, tdiv_pos, tmod_pos]
      · simp (disch := first | omega | (unfold xm_w; omega)) only [↓zy_at, xm_O_some, xm_Oi_some, xm_Ov_some, xm_Oq_some, ↓reduceIte, ↓zz_t, ↓zz_f, ↓zi_t, ↓zi_f, eq_self, yy_d_0, Int.reduceEq, Int.reduceLT, Int.reduceLE, Int.reduceNe, Int.reduceToNat, Int.reduceAdd, Int.reduceSub, Int.reduceMul, Int.reduceNeg, Nat.reduceAdd, Nat.reduceMul, Nat.reduceSub, Nat.reduceEqDiff, Nat.reduceLT, ne_eq, not_false_eq_true, not_true_eq_false, true_and, and_true, and_self, yy_s_eq, yy_s_ne, yy_c_eq, yy_c_ne, yy_u_eq, yy_u_ne, xm_w_id, yy_at, tdiv_pos, tmod_pos]
      · simp (disch := first | omega | (unfold xm_w; omega)) only [↓zy_at, xm_O_some, xm_Oi_some, xm_Ov_some, xm_Oq_some, ↓reduceIte, ↓zz_t, ↓zz_f, ↓zi_t, ↓zi_f, eq_self, yy_d_0, Int.reduceEq, Int.reduceLT, Int.reduceLE, Int.reduceNe, Int.reduceToNat, Int.reduceAdd, Int.reduceSub, Int.reduceMul, Int.reduceNeg, Nat.reduceAdd, Nat.reduceMul, Nat.reduceSub, Nat.reduceEqDiff, Nat.reduceLT, ne_eq, not_false_eq_true, not_true_eq_false, true_and, and_true, and_self, yy_s_eq, yy_s_ne, yy_c_eq, yy_c_ne, yy_u_eq, yy_u_ne, xm_w_id, yy_at, tdiv_pos, tmod_pos]; exact ea.symm
    · have i3 : (sg_la s c (sg_N s) * 5 + 3).toNat = 5 * (sg_la s c (sg_N s)).toNat + 3 := by omega
      have f3 : m 4 (5 * (sg_la s c (sg_N s)).toNat + 3) = sg_p s (sg_la s c (sg_N s)).toNat 3 := by rw [e6 _ (by omega)]; unfold sg_p; first | rfl | (congr 1; omega)
      have ea : s 1 - sg_p s (sg_la s c (sg_N s)).toNat 3 = sg_age s c := by unfold sg_age; rw [if_neg (by omega)]
      rw [if_neg (by omega)]
      simp (disch := first | omega | (unfold xm_w; omega)) only [↓zy_at, xm_O_some, xm_Oi_some, xm_Ov_some, xm_Oq_some, ↓reduceIte, ↓zz_t, ↓zz_f, ↓zi_t, ↓zi_f, eq_self, yy_d_0, Int.reduceEq, Int.reduceLT, Int.reduceLE, Int.reduceNe, Int.reduceToNat, Int.reduceAdd, Int.reduceSub, Int.reduceMul, Int.reduceNeg, Nat.reduceAdd, Nat.reduceMul, Nat.reduceSub, Nat.reduceEqDiff, Nat.reduceLT, ne_eq, not_false_eq_true, not_true_eq_false, true_and, and_true, and_self, yy_s_eq, yy_s_ne, yy_c_eq, yy_c_ne, yy_u_eq, yy_u_ne, xm_w_id, yy_at, tdiv_pos, tmod_pos, ↓zr_1_0, ↓zf_1_1, ↓zs_1_1, ↓zf_1_2, ↓zs_1_2, ↓zr_1_3, ↓zf_1_4, ↓zs_1_4, ↓zr_1_5, ↓zf_1_6, ↓zs_1_6, ↓zr_1_7, ↓zr_1_8, ↓zr_1_9, ↓zi_4, ↓zt_4, ↓zq_5, ↓zq_tx, e2, i3, f3]
      refine done _ ea _ (fun hne => ?_)
      rw [oc_414_1_0 hMR b3]
      simp (disch := first | omega | (unfold xm_w; omega)) only [↓zy_at, xm_O_some, xm_Oi_some, xm_Ov_some, xm_Oq_some, ↓reduceIte, ↓zz_t, ↓zz_f, ↓zi_t, ↓zi_f, eq_self, yy_d_0, Int.reduceEq, Int.reduceLT, Int.reduceLE, Int.reduceNe, Int.reduceToNat, Int.reduceAdd, Int.reduceSub, Int.reduceMul, Int.reduceNeg, Nat.reduceAdd, Nat.reduceMul, Nat.reduceSub, Nat.reduceEqDiff, Nat.reduceLT, ne_eq, not_false_eq_true, not_true_eq_false, true_and, and_true, and_self, yy_s_eq, yy_s_ne, yy_c_eq, yy_c_ne, yy_u_eq, yy_u_ne, xm_w_id, yy_at, tdiv_pos, tmod_pos, ↓zr_1_0, ↓zf_1_1, ↓zs_1_1, ↓zf_1_2, ↓zs_1_2, ↓zr_1_3, ↓zf_1_4, ↓zs_1_4, ↓zr_1_5, ↓zf_1_6, ↓zs_1_6, ↓zr_1_7, ↓zr_1_8, ↓zr_1_9, ↓zi_6, ↓zt_6]
      rw [oc_416_1g (m := yy_s m 6 0 (sg_cn s 0 c (sg_N s))) (yy_MR_fr (fun c hc => by simp (disch := first | omega | (unfold xm_w; omega)) only [↓zy_at, xm_O_some, xm_Oi_some, xm_Ov_some, xm_Oq_some, ↓reduceIte, ↓zz_t, ↓zz_f, ↓zi_t, ↓zi_f, eq_self, yy_d_0, Int.reduceEq, Int.reduceLT, Int.reduceLE, Int.reduceNe, Int.reduceToNat, Int.reduceAdd, Int.reduceSub, Int.reduceMul, Int.reduceNeg, Nat.reduceAdd, Nat.reduceMul, Nat.reduceSub, Nat.reduceEqDiff, Nat.reduceLT, ne_eq, not_false_eq_true, not_true_eq_false, true_and, and_true, and_self, yy_s_eq, yy_s_ne, yy_c_eq, yy_c_ne, yy_u_eq, yy_u_ne, xm_w_id, yy_at, tdiv_pos, tmod_pos]) hMR) b3]
      simp (disch := first | omega | (unfold xm_w; omega)) only [↓zy_at, xm_O_some, xm_Oi_some, xm_Ov_some, xm_Oq_some, ↓reduceIte, ↓zz_t, ↓zz_f, ↓zi_t, ↓zi_f, eq_self, yy_d_0, Int.reduceEq, Int.reduceLT, Int.reduceLE, Int.reduceNe, Int.reduceToNat, Int.reduceAdd, Int.reduceSub, Int.reduceMul, Int.reduceNeg, Nat.reduceAdd, Nat.reduceMul, Nat.reduceSub, Nat.reduceEqDiff, Nat.reduceLT, ne_eq, not_false_eq_true, not_true_eq_false, true_and, and_true, and_self, yy_s_eq, yy_s_ne, yy_c_eq, yy_c_ne, yy_u_eq, yy_u_ne, xm_w_id, yy_at, tdiv_pos, tmod_pos, ↓zr_1_0, ↓zf_1_1, ↓zs_1_1, ↓zf_1_2, ↓zs_1_2, ↓zr_1_3, ↓zf_1_4, ↓zs_1_4, ↓zr_1_5, ↓zf_1_6, ↓zs_1_6, ↓zr_1_7, ↓zr_1_8, ↓zr_1_9, ↓zi_6, ↓zt_6]
      refine text _ (fun c hc => ?_) ?_ ?_ ?_ hne
      · simp (disch := first | omega | (unfold xm_w; omega)) only [↓zy_at, xm_O_some, xm_Oi_some, xm_Ov_some, xm_Oq_some, ↓reduceIte, ↓zz_t, ↓zz_f, ↓zi_t, ↓zi_f, eq_self, yy_d_0, Int.reduceEq, Int.reduceLT, Int.reduceLE, Int.reduceNe, Int.reduceToNat, Int.reduceAdd, Int.reduceSub, Int.reduceMul, Int.reduceNeg, Nat.reduceAdd, Nat.reduceMul, Nat.reduceSub, Nat.reduceEqDiff, Nat.reduceLT, ne_eq, not_false_eq_true, not_true_eq_false, true_and, and_true, and_self, yy_s_eq, yy_s_ne, yy_c_eq, yy_c_ne, yy_u_eq, yy_u_ne, xm_w_id, yy_at, tdiv_pos, tmod_pos]
      · simp (disch := first | omega | (unfold xm_w; omega)) only [↓zy_at, xm_O_some, xm_Oi_some, xm_Ov_some, xm_Oq_some, ↓reduceIte, ↓zz_t, ↓zz_f, ↓zi_t, ↓zi_f, eq_self, yy_d_0, Int.reduceEq, Int.reduceLT, Int.reduceLE, Int.reduceNe, Int.reduceToNat, Int.reduceAdd, Int.reduceSub, Int.reduceMul, Int.reduceNeg, Nat.reduceAdd, Nat.reduceMul, Nat.reduceSub, Nat.reduceEqDiff, Nat.reduceLT, ne_eq, not_false_eq_true, not_true_eq_false, true_and, and_true, and_self, yy_s_eq, yy_s_ne, yy_c_eq, yy_c_ne, yy_u_eq, yy_u_ne, xm_w_id, yy_at, tdiv_pos, tmod_pos]
      · simp (disch := first | omega | (unfold xm_w; omega)) only [↓zy_at, xm_O_some, xm_Oi_some, xm_Ov_some, xm_Oq_some, ↓reduceIte, ↓zz_t, ↓zz_f, ↓zi_t, ↓zi_f, eq_self, yy_d_0, Int.reduceEq, Int.reduceLT, Int.reduceLE, Int.reduceNe, Int.reduceToNat, Int.reduceAdd, Int.reduceSub, Int.reduceMul, Int.reduceNeg, Nat.reduceAdd, Nat.reduceMul, Nat.reduceSub, Nat.reduceEqDiff, Nat.reduceLT, ne_eq, not_false_eq_true, not_true_eq_false, true_and, and_true, and_self, yy_s_eq, yy_s_ne, yy_c_eq, yy_c_ne, yy_u_eq, yy_u_ne, xm_w_id, yy_at, tdiv_pos, tmod_pos]
      · simp (disch := first | omega | (unfold xm_w; omega)) only [↓zy_at, xm_O_some, xm_Oi_some, xm_Ov_some, xm_Oq_some, ↓reduceIte, ↓zz_t, ↓zz_f, ↓zi_t, ↓zi_f, eq_self, yy_d_0, Int.reduceEq, Int.reduceLT, Int.reduceLE, Int.reduceNe, Int.reduceToNat, Int.reduceAdd, Int.reduceSub, Int.reduceMul, Int.reduceNeg, Nat.reduceAdd, Nat.reduceMul, Nat.reduceSub, Nat.reduceEqDiff, Nat.reduceLT, ne_eq, not_false_eq_true, not_true_eq_false, true_and, and_true, and_self, yy_s_eq, yy_s_ne, yy_c_eq, yy_c_ne, yy_u_eq, yy_u_ne, xm_w_id, yy_at, tdiv_pos, tmod_pos]; exact ea
  obtain ⟨q, h1, m', h2, h3⟩ := yx_of (y := 417) (M := xm_m417) (sc := sc) (d := d + 3) (as := [.inr (.inl (some 1)), .inl (c)]) (w := yy_W m t) (Q := fun q => ∃ m', q = (some (.inl (sg_db s c)), yy_W m' t) ∧ (∀ c, c ≠ 6 → c ≠ 7 → m' c = m c)) rfl (key fun m' h => ⟨m', rfl, h⟩) (fun q ⟨m', h, _⟩ => by rw [h]; rfl) rfl (Nat.le_of_ble_eq_true rfl) (yy_hd rfl (by decide))
  exact ⟨m', by rw [h1, h2], h3⟩
set_option maxRecDepth 20000 in
theorem l_414_18 {sc : List Int} {d : Nat} {t : xm_W} {m : Nat → Nat → Int} {s : Nat → Int} {Q : Option xm_V × xm_W → Prop} {w : Nat} {v : Int} (hw : w < 5) (hM : yy_MR m 18 s) (h3 : 0 ≤ s 3 ∧ s 3 ≤ 40) (hQ : Q ((some (.inl (sg_cn s w v (sg_N s))), (yy_W (m) t)))) : ∀ (k i : Nat), ((i + k : Nat) : Int) = s 3 → xm_EQ (xm_old sc) xm_sta (xm_X (xm_old sc) xm_mt (d)) xm_c414 4 [some (.inr (.inl (some 18))), some (.inl ((w : Int))), some (.inl (v)), some (.inl ((sg_cn s w v i))), some (.inl ((i : Int)))] [] (yy_W (m) t) Q
  | 0, i, hk => by
    have e : i = sg_N s := by unfold sg_N; omega
    refine xb_414_4 ?_
    simp (disch := first | omega | (unfold xm_w; omega)) only [↓zy_at, xm_O_some, xm_Oi_some, xm_Ov_some, xm_Oq_some, ↓reduceIte, ↓zz_t, ↓zz_f, ↓zi_t, ↓zi_f, eq_self, yy_d_0, Int.reduceEq, Int.reduceLT, Int.reduceLE, Int.reduceNe, Int.reduceToNat, Int.reduceAdd, Int.reduceSub, Int.reduceMul, Int.reduceNeg, Nat.reduceAdd, Nat.reduceMul, Nat.reduceSub, Nat.reduceEqDiff, Nat.reduceLT, ne_eq, not_false_eq_true, not_true_eq_false, true_and, and_true, and_self, yy_s_eq, yy_s_ne, yy_c_eq, yy_c_ne, yy_u_eq, yy_u_ne, xm_w_id, yy_at, tdiv_pos, tmod_pos, ↓zr_18_0, ↓zf_18_1, ↓zs_18_1, ↓zf_18_2, ↓zs_18_2, ↓zr_18_3, ↓zf_18_4, ↓zs_18_4, ↓zr_18_5, ↓zf_18_6, ↓zs_18_6, ↓zr_18_7, ↓zr_18_8, ↓zr_18_9, hM.2.2.2.1]
    rw [e]; exact hQ
  | k + 1, i, hk => by
    have cb := sg_cn_b (s := s) (w := w) (v := v) i
    have i0 : ((i : Int) * 5 + (w : Int)).toNat = 5 * i + w := by omega
    have f : m 21 (5 * i + w) = sg_p s i w := by rw [hM.2.2.2.2.2.1 _ (by omega)]; unfold sg_p; first | rfl | (congr 1; omega)
    have := l_414_18 (sc := sc) (d := d) (t := t) (Q := Q) hw hM h3 hQ k (i + 1) (by omega)
    rw [show ((i + 1 : Nat) : Int) = (i : Int) + 1 by omega] at this
    unfold sg_cn at this
    refine xb_414_4 ?_
    simp (disch := first | omega | (unfold xm_w; omega)) only [↓zy_at, xm_O_some, xm_Oi_some, xm_Ov_some, xm_Oq_some, ↓reduceIte, ↓zz_t, ↓zz_f, ↓zi_t, ↓zi_f, eq_self, yy_d_0, Int.reduceEq, Int.reduceLT, Int.reduceLE, Int.reduceNe, Int.reduceToNat, Int.reduceAdd, Int.reduceSub, Int.reduceMul, Int.reduceNeg, Nat.reduceAdd, Nat.reduceMul, Nat.reduceSub, Nat.reduceEqDiff, Nat.reduceLT, ne_eq, not_false_eq_true, not_true_eq_false, true_and, and_true, and_self, yy_s_eq, yy_s_ne, yy_c_eq, yy_c_ne, yy_u_eq, yy_u_ne, xm_w_id, yy_at, tdiv_pos, tmod_pos, ↓zr_18_0, ↓zf_18_1, ↓zs_18_1, ↓zf_18_2, ↓zs_18_2, ↓zr_18_3, ↓zf_18_4, ↓zs_18_4, ↓zr_18_5, ↓zf_18_6, ↓zs_18_6, ↓zr_18_7, ↓zr_18_8, ↓zr_18_9, ↓zi_21, ↓zt_21, hM.2.2.2.1, i0, f]
    split
    · rename_i g; rw [if_pos g] at this; exact this
    · rename_i g; rw [if_neg g, Int.add_zero] at this; exact this
set_option maxRecDepth 20000 in
theorem c_414_18g {sc : List Int} {d : Nat} {t : xm_W} {m : Nat → Nat → Int} {s : Nat → Int} {w : Nat} {v : Int} (hw : w < 5) (hM : yy_MR m 18 s) (h3 : 0 ≤ s 3 ∧ s 3 ≤ 40) : xm_X (xm_old sc) xm_mt (d + 1) 414 [.inr (.inl (some 18)), .inl ((w : Int)), .inl (v)] (yy_W (m) t) = some (some (.inl (sg_cn s w v (sg_N s))), (yy_W (m) t)) := by
  refine xm_X_of (M := xm_m414) rfl ⟨xm_EQ.eq (xb_414_0 ?_), rfl, rfl, Nat.le_of_ble_eq_true rfl, yy_hd rfl (by decide)⟩
  exact l_414_18 (d := d) hw hM h3 rfl (sg_N s) 0 (by unfold sg_N; omega)
set_option maxRecDepth 20000 in
theorem oc_414_18g {F : Int → xm_W → Prop} {sc : List Int} {d : Nat} {t : xm_W} {m : Nat → Nat → Int} {s : Nat → Int} {w : Nat} {v : Int} (hw : w < 5) (hM : yy_MR m 18 s) (h3 : 0 ≤ s 3 ∧ s 3 ≤ 40) : xm_Oi (xm_X (xm_old sc) xm_mt (d + 1) 414 [.inr (.inl (some 18)), .inl ((w : Int)), .inl (v)] (yy_W (m) t)) F = F (sg_cn s w v (sg_N s)) (yy_W (m) t) := congrArg (fun x => xm_Oi x F) (c_414_18g hw hM h3)
set_option maxRecDepth 20000 in
theorem c_414_18_0 {sc : List Int} {d : Nat} {t : xm_W} {m : Nat → Nat → Int} {s : Nat → Int} {v : Int} (hM : yy_MR m 18 s) (h3 : 0 ≤ s 3 ∧ s 3 ≤ 40) : xm_X (xm_old sc) xm_mt (d + 1) 414 [.inr (.inl (some 18)), .inl (0), .inl (v)] (yy_W (m) t) = some (some (.inl (sg_cn s 0 v (sg_N s))), (yy_W (m) t)) := by
  exact c_414_18g (w := 0) (by decide) hM h3
set_option maxRecDepth 20000 in
theorem oc_414_18_0 {F : Int → xm_W → Prop} {sc : List Int} {d : Nat} {t : xm_W} {m : Nat → Nat → Int} {s : Nat → Int} {v : Int} (hM : yy_MR m 18 s) (h3 : 0 ≤ s 3 ∧ s 3 ≤ 40) : xm_Oi (xm_X (xm_old sc) xm_mt (d + 1) 414 [.inr (.inl (some 18)), .inl (0), .inl (v)] (yy_W (m) t)) F = F (sg_cn s 0 v (sg_N s)) (yy_W (m) t) := congrArg (fun x => xm_Oi x F) (c_414_18_0 hM h3)
set_option maxRecDepth 20000 in
theorem c_414_18_4 {sc : List Int} {d : Nat} {t : xm_W} {m : Nat → Nat → Int} {s : Nat → Int} {v : Int} (hM : yy_MR m 18 s) (h3 : 0 ≤ s 3 ∧ s 3 ≤ 40) : xm_X (xm_old sc) xm_mt (d + 1) 414 [.inr (.inl (some 18)), .inl (4), .inl (v)] (yy_W (m) t) = some (some (.inl (sg_cn s 4 v (sg_N s))), (yy_W (m) t)) := by
  exact c_414_18g (w := 4) (by decide) hM h3
set_option maxRecDepth 20000 in
theorem oc_414_18_4 {F : Int → xm_W → Prop} {sc : List Int} {d : Nat} {t : xm_W} {m : Nat → Nat → Int} {s : Nat → Int} {v : Int} (hM : yy_MR m 18 s) (h3 : 0 ≤ s 3 ∧ s 3 ≤ 40) : xm_Oi (xm_X (xm_old sc) xm_mt (d + 1) 414 [.inr (.inl (some 18)), .inl (4), .inl (v)] (yy_W (m) t)) F = F (sg_cn s 4 v (sg_N s)) (yy_W (m) t) := congrArg (fun x => xm_Oi x F) (c_414_18_4 hM h3)
set_option maxRecDepth 20000 in
theorem l_415_18 {sc : List Int} {d : Nat} {t : xm_W} {m : Nat → Nat → Int} {s : Nat → Int} {Q : Option xm_V × xm_W → Prop} {c : Int} (hM : yy_MR m 18 s) (h3 : 0 ≤ s 3 ∧ s 3 ≤ 40) (hQ : Q ((some (.inl (sg_la s c (sg_N s))), (yy_W (m) t)))) : ∀ (k i : Nat), ((i + k : Nat) : Int) = s 3 → xm_EQ (xm_old sc) xm_sta (xm_X (xm_old sc) xm_mt (d)) xm_c415 4 [some (.inr (.inl (some 18))), some (.inl (c)), some (.inl ((sg_la s c i))), some (.inl ((i : Int)))] [] (yy_W (m) t) Q
  | 0, i, hk => by
    have e : i = sg_N s := by unfold sg_N; omega
    refine xb_415_4 ?_
    simp (disch := first | omega | (unfold xm_w; omega)) only [↓zy_at, xm_O_some, xm_Oi_some, xm_Ov_some, xm_Oq_some, ↓reduceIte, ↓zz_t, ↓zz_f, ↓zi_t, ↓zi_f, eq_self, yy_d_0, Int.reduceEq, Int.reduceLT, Int.reduceLE, Int.reduceNe, Int.reduceToNat, Int.reduceAdd, Int.reduceSub, Int.reduceMul, Int.reduceNeg, Nat.reduceAdd, Nat.reduceMul, Nat.reduceSub, Nat.reduceEqDiff, Nat.reduceLT, ne_eq, not_false_eq_true, not_true_eq_false, true_and, and_true, and_self, yy_s_eq, yy_s_ne, yy_c_eq, yy_c_ne, yy_u_eq, yy_u_ne, xm_w_id, yy_at, tdiv_pos, tmod_pos, ↓zr_18_0, ↓zf_18_1, ↓zs_18_1, ↓zf_18_2, ↓zs_18_2, ↓zr_18_3, ↓zf_18_4, ↓zs_18_4, ↓zr_18_5, ↓zf_18_6, ↓zs_18_6, ↓zr_18_7, ↓zr_18_8, ↓zr_18_9, hM.2.2.2.1]
    rw [e]; exact hQ
  | k + 1, i, hk => by
    have i0 : ((i : Int) * 5 + 0).toNat = 5 * i := by omega
    have f : m 21 (5 * i) = sg_p s i 0 := by rw [hM.2.2.2.2.2.1 _ (by omega)]; unfold sg_p; first | rfl | (congr 1; omega)
    have := l_415_18 (sc := sc) (d := d) (t := t) (Q := Q) hM h3 hQ k (i + 1) (by omega)
    rw [show ((i + 1 : Nat) : Int) = (i : Int) + 1 by omega] at this
    unfold sg_la at this
    refine xb_415_4 ?_
    simp (disch := first | omega | (unfold xm_w; omega)) only [↓zy_at, xm_O_some, xm_Oi_some, xm_Ov_some, xm_Oq_some, ↓reduceIte, ↓zz_t, ↓zz_f, ↓zi_t, ↓zi_f, eq_self, yy_d_0, Int.reduceEq, Int.reduceLT, Int.reduceLE, Int.reduceNe, Int.reduceToNat, Int.reduceAdd, Int.reduceSub, Int.reduceMul, Int.reduceNeg, Nat.reduceAdd, Nat.reduceMul, Nat.reduceSub, Nat.reduceEqDiff, Nat.reduceLT, ne_eq, not_false_eq_true, not_true_eq_false, true_and, and_true, and_self, yy_s_eq, yy_s_ne, yy_c_eq, yy_c_ne, yy_u_eq, yy_u_ne, xm_w_id, yy_at, tdiv_pos, tmod_pos, ↓zr_18_0, ↓zf_18_1, ↓zs_18_1, ↓zf_18_2, ↓zs_18_2, ↓zr_18_3, ↓zf_18_4, ↓zs_18_4, ↓zr_18_5, ↓zf_18_6, ↓zs_18_6, ↓zr_18_7, ↓zr_18_8, ↓zr_18_9, ↓zi_21, ↓zt_21, hM.2.2.2.1, i0, f]
    split
    · rename_i g; rw [if_pos g] at this; exact this
    · rename_i g; rw [if_neg g] at this; exact this
set_option maxRecDepth 20000 in
theorem c_415_18g {sc : List Int} {d : Nat} {t : xm_W} {m : Nat → Nat → Int} {s : Nat → Int} {c : Int} (hM : yy_MR m 18 s) (h3 : 0 ≤ s 3 ∧ s 3 ≤ 40) : xm_X (xm_old sc) xm_mt (d + 1) 415 [.inr (.inl (some 18)), .inl (c)] (yy_W (m) t) = some (some (.inl (sg_la s c (sg_N s))), (yy_W (m) t)) := by
  refine xm_X_of (M := xm_m415) rfl ⟨xm_EQ.eq (xb_415_0 ?_), rfl, rfl, Nat.le_of_ble_eq_true rfl, yy_hd rfl (by decide)⟩
  exact l_415_18 (d := d) hM h3 rfl (sg_N s) 0 (by unfold sg_N; omega)
set_option maxRecDepth 20000 in
theorem oc_415_18g {F : Int → xm_W → Prop} {sc : List Int} {d : Nat} {t : xm_W} {m : Nat → Nat → Int} {s : Nat → Int} {c : Int} (hM : yy_MR m 18 s) (h3 : 0 ≤ s 3 ∧ s 3 ≤ 40) : xm_Oi (xm_X (xm_old sc) xm_mt (d + 1) 415 [.inr (.inl (some 18)), .inl (c)] (yy_W (m) t)) F = F (sg_la s c (sg_N s)) (yy_W (m) t) := congrArg (fun x => xm_Oi x F) (c_415_18g hM h3)
set_option maxRecDepth 20000 in
theorem l_416_18 {sc : List Int} {d : Nat} {t : xm_W} {m : Nat → Nat → Int} {s : Nat → Int} {Q : Option xm_V × xm_W → Prop} {c : Int} (hM : yy_MR m 18 s) (h3 : 0 ≤ s 3 ∧ s 3 ≤ 40) (hQ : Q ((some (.inl (sg_de s c (sg_N s))), (yy_W (m) t)))) : ∀ (k i : Nat), ((i + k : Nat) : Int) = s 3 → xm_EQ (xm_old sc) xm_sta (xm_X (xm_old sc) xm_mt (d)) xm_c416 4 [some (.inr (.inl (some 18))), some (.inl (c)), some (.inl ((sg_de s c i))), some (.inl ((i : Int)))] [] (yy_W (m) t) Q
  | 0, i, hk => by
    have e : i = sg_N s := by unfold sg_N; omega
    refine xb_416_4 ?_
    simp (disch := first | omega | (unfold xm_w; omega)) only [↓zy_at, xm_O_some, xm_Oi_some, xm_Ov_some, xm_Oq_some, ↓reduceIte, ↓zz_t, ↓zz_f, ↓zi_t, ↓zi_f, eq_self, yy_d_0, Int.reduceEq, Int.reduceLT, Int.reduceLE, Int.reduceNe, Int.reduceToNat, Int.reduceAdd, Int.reduceSub, Int.reduceMul, Int.reduceNeg, Nat.reduceAdd, Nat.reduceMul, Nat.reduceSub, Nat.reduceEqDiff, Nat.reduceLT, ne_eq, not_false_eq_true, not_true_eq_false, true_and, and_true, and_self, yy_s_eq, yy_s_ne, yy_c_eq, yy_c_ne, yy_u_eq, yy_u_ne, xm_w_id, yy_at, tdiv_pos, tmod_pos, ↓zr_18_0, ↓zf_18_1, ↓zs_18_1, ↓zf_18_2, ↓zs_18_2, ↓zr_18_3, ↓zf_18_4, ↓zs_18_4, ↓zr_18_5, ↓zf_18_6, ↓zs_18_6, ↓zr_18_7, ↓zr_18_8, ↓zr_18_9, hM.2.2.2.1]
    rw [e]; exact hQ
  | k + 1, i, hk => by
    have i0 : ((i : Int) * 5 + 0).toNat = 5 * i := by omega
    have i2 : ((i : Int) * 5 + 2).toNat = 5 * i + 2 := by omega
    have f : m 21 (5 * i) = sg_p s i 0 := by rw [hM.2.2.2.2.2.1 _ (by omega)]; unfold sg_p; first | rfl | (congr 1; omega)
    have f2 : m 21 (5 * i + 2) = sg_p s i 2 := by rw [hM.2.2.2.2.2.1 _ (by omega)]; unfold sg_p; first | rfl | (congr 1; omega)
    have := l_416_18 (sc := sc) (d := d) (t := t) (Q := Q) hM h3 hQ k (i + 1) (by omega)
    rw [show ((i + 1 : Nat) : Int) = (i : Int) + 1 by omega] at this
    unfold sg_de at this
    refine xb_416_4 ?_
    simp (disch := first | omega | (unfold xm_w; omega)) only [↓zy_at, xm_O_some, xm_Oi_some, xm_Ov_some, xm_Oq_some, ↓reduceIte, ↓zz_t, ↓zz_f, ↓zi_t, ↓zi_f, eq_self, yy_d_0, Int.reduceEq, Int.reduceLT, Int.reduceLE, Int.reduceNe, Int.reduceToNat, Int.reduceAdd, Int.reduceSub, Int.reduceMul, Int.reduceNeg, Nat.reduceAdd, Nat.reduceMul, Nat.reduceSub, Nat.reduceEqDiff, Nat.reduceLT, ne_eq, not_false_eq_true, not_true_eq_false, true_and, and_true, and_self, yy_s_eq, yy_s_ne, yy_c_eq, yy_c_ne, yy_u_eq, yy_u_ne, xm_w_id, yy_at, tdiv_pos, tmod_pos, ↓zr_18_0, ↓zf_18_1, ↓zs_18_1, ↓zf_18_2, ↓zs_18_2, ↓zr_18_3, ↓zf_18_4, ↓zs_18_4, ↓zr_18_5, ↓zf_18_6, ↓zs_18_6, ↓zr_18_7, ↓zr_18_8, ↓zr_18_9, ↓zi_21, ↓zt_21, hM.2.2.2.1, i0, i2, f, f2]
    split
    · rename_i g; rw [if_pos g] at this; exact this
    · rename_i g; rw [if_neg g] at this; exact this
set_option maxRecDepth 20000 in
theorem c_416_18g {sc : List Int} {d : Nat} {t : xm_W} {m : Nat → Nat → Int} {s : Nat → Int} {c : Int} (hM : yy_MR m 18 s) (h3 : 0 ≤ s 3 ∧ s 3 ≤ 40) : xm_X (xm_old sc) xm_mt (d + 1) 416 [.inr (.inl (some 18)), .inl (c)] (yy_W (m) t) = some (some (.inl (sg_de s c (sg_N s))), (yy_W (m) t)) := by
  refine xm_X_of (M := xm_m416) rfl ⟨xm_EQ.eq (xb_416_0 ?_), rfl, rfl, Nat.le_of_ble_eq_true rfl, yy_hd rfl (by decide)⟩
  exact l_416_18 (d := d) hM h3 rfl (sg_N s) 0 (by unfold sg_N; omega)
set_option maxRecDepth 20000 in
theorem oc_416_18g {F : Int → xm_W → Prop} {sc : List Int} {d : Nat} {t : xm_W} {m : Nat → Nat → Int} {s : Nat → Int} {c : Int} (hM : yy_MR m 18 s) (h3 : 0 ≤ s 3 ∧ s 3 ≤ 40) : xm_Oi (xm_X (xm_old sc) xm_mt (d + 1) 416 [.inr (.inl (some 18)), .inl (c)] (yy_W (m) t)) F = F (sg_de s c (sg_N s)) (yy_W (m) t) := congrArg (fun x => xm_Oi x F) (c_416_18g hM h3)
set_option maxRecDepth 20000 in
theorem c_417_18g {sc : List Int} {d : Nat} {t : xm_W} {m : Nat → Nat → Int} {s : Nat → Int} {c : Int} (hM : yy_MX t m 18 s) (hW : sg_W s 0) (hc : 0 ≤ c ∧ c ≤ 35) : ∃ m', xm_X (xm_old sc) xm_mt (d + 4) 417 [.inr (.inl (some 18)), .inl (c)] (yy_W m t) = some (some (.inl (sg_db s c)), yy_W m' t) ∧ ∀ c, c ≠ 23 → c ≠ 24 → m' c = m c := by
  have key : ∀ {Q : Option xm_V × xm_W → Prop}, (∀ m', (∀ c, c ≠ 23 → c ≠ 24 → m' c = m c) → Q (some (.inl (sg_db s c)), yy_W m' t)) → xm_EQ (xm_old sc) xm_sta (xm_X (xm_old sc) xm_mt (d + 3)) xm_m417.2.2.2.2.2.2.2 0 (xm_loc xm_m417.2.2.1 [.inr (.inl (some 18)), .inl (c)]) [] (yy_W m t) Q := by
    intro Q hQ
    obtain ⟨hR, hO, hS, hT, hT1⟩ := id hW
    obtain ⟨hMR, hX, hX1⟩ := id hM
    obtain ⟨e1, e2, e3, e4, e5, e6, e7⟩ := id hMR
    obtain ⟨b0, b1, b2, b3, hso, hrd⟩ := id hR
    have la := sg_la_b (s := s) (c := c) (sg_N s)
    have hN : ((sg_N s : Nat) : Int) = s 3 := by unfold sg_N; omega
    have ag : 0 ≤ sg_age s c ∧ sg_age s c ≤ 99 := by
      unfold sg_age
      rcases la with h | ⟨h, h', h2⟩
      · rw [if_pos h]; omega
      · rw [if_neg (by omega)]
        have x := hO.1 (sg_la s c (sg_N s)).toNat (by omega)
        have y := hS (sg_la s c (sg_N s)).toNat (by omega)
        have z := sg_k_r (c := sg_p s (sg_la s c (sg_N s)).toNat 0) b2
        omega
    have done : ∀ A, A = sg_age s c → ∀ (D : Prop), (yy_d (m 22 1) ≠ none → D) → (if (yy_d (m 22 1) : Option Nat) = none then Q (some (.inl (A)), (yy_W (m) t)) else D) := by
      intro A hr D hD
      subst hr
      rcases hX1 with ⟨h0, hz⟩ | ⟨h0, a, a', hz, hC⟩
      · rw [if_pos hz]
        have := hQ m fun c _ _ => rfl
        unfold sg_db at this
        rw [if_neg (by omega)] at this
        exact this
      · rw [if_neg (by rw [hz]; simp)]
        exact hD (by rw [hz]; simp)
    have text : ∀ m1 : Nat → Nat → Int, (∀ c, c ≠ 23 → m1 c = m c) → m1 23 0 = sg_cn s 0 c (sg_N s) → m1 23 1 = sg_de s c (sg_N s) → m1 23 2 = sg_age s c → yy_d (m 22 1) ≠ none → xm_Oi (xm_X (xm_old sc) xm_mt (d + 3) 902 [.inr (.inl (yy_d (m 22 1))), .inr (.inl (some 23)), .inr (.inl (some 24))] (yy_W m1 t)) (fun z23 w22 => Q (some (.inl (if 0 < (if z23 < 99 then z23 else 99) then (if z23 < 99 then z23 else 99) else 0)), w22)) := by
      intro m1 h1 n0 n1 n2 hne
      rcases hX1 with ⟨h0, hz⟩ | ⟨h0, a, a', hz, hC⟩
      · exact absurd hz hne
      · rw [hz]
        obtain ⟨m2, e, g1⟩ := c_902_18 (sc := sc) (d := d + 1) (t := t) (m := m1) hT1 h0 hC
        rw [sg_val_congr hT1 (sg_nmD_ok n0 n1 n2)] at e
        rw [e, xm_Oi_some]
        have := hQ m2 fun c c1 c2 => by rw [g1 c c2, h1 c c1]
        unfold sg_db at this
        rw [if_pos h0] at this
        unfold sg_hd at this
        generalize sg_val s 1 (sg_nmD (sg_cn s 0 c (sg_N s)) (sg_de s c (sg_N s)) (sg_age s c)) = z at this ⊢
        have ez : (if 0 < (if z < 99 then z else 99) then (if z < 99 then z else 99) else 0) = (if z < 0 then 0 else if 99 < z then 99 else z) := by
          repeat' split
          all_goals omega
        rw [ez]; exact this
    refine xb_417_0 ?_
    rw [oc_415_18g hMR b3]
    rcases la with h | ⟨h, h', h2⟩
    · have ea : sg_age s c = 99 := by unfold sg_age; rw [if_pos h]
      rw [if_pos (by omega)]
      simp (disch := first | omega | (unfold xm_w; omega)) only [↓zy_at, xm_O_some, xm_Oi_some, xm_Ov_some, xm_Oq_some, ↓reduceIte, ↓zz_t, ↓zz_f, ↓zi_t, ↓zi_f, eq_self, yy_d_0, Int.reduceEq, Int.reduceLT, Int.reduceLE, Int.reduceNe, Int.reduceToNat, Int.reduceAdd, Int.reduceSub, Int.reduceMul, Int.reduceNeg, Nat.reduceAdd, Nat.reduceMul, Nat.reduceSub, Nat.reduceEqDiff, Nat.reduceLT, ne_eq, not_false_eq_true, not_true_eq_false, true_and, and_true, and_self, yy_s_eq, yy_s_ne, yy_c_eq, yy_c_ne, yy_u_eq, yy_u_ne, xm_w_id, yy_at, tdiv_pos, tmod_pos, ↓zr_18_0, ↓zf_18_1, ↓zs_18_1, ↓zf_18_2, ↓zs_18_2, ↓zr_18_3, ↓zf_18_4, ↓zs_18_4, ↓zr_18_5, ↓zf_18_6, ↓zs_18_6, ↓zr_18_7, ↓zr_18_8, ↓zr_18_9, ↓zq_22, ↓zq_tx]
      refine done 99 ea.symm _ (fun hne => ?_)
      rw [oc_414_18_0 hMR b3]
      simp (disch := first | omega | (unfold xm_w; omega)) only [↓zy_at, xm_O_some, xm_Oi_some, xm_Ov_some, xm_Oq_some, ↓reduceIte, ↓zz_t, ↓zz_f, ↓zi_t, ↓zi_f, eq_self, yy_d_0, Int.reduceEq, Int.reduceLT, Int.reduceLE, Int.reduceNe, Int.reduceToNat, Int.reduceAdd, Int.reduceSub, Int.reduceMul, Int.reduceNeg, Nat.reduceAdd, Nat.reduceMul, Nat.reduceSub, Nat.reduceEqDiff, Nat.reduceLT, ne_eq, not_false_eq_true, not_true_eq_false, true_and, and_true, and_self, yy_s_eq, yy_s_ne, yy_c_eq, yy_c_ne, yy_u_eq, yy_u_ne, xm_w_id, yy_at, tdiv_pos, tmod_pos, ↓zr_18_0, ↓zf_18_1, ↓zs_18_1, ↓zf_18_2, ↓zs_18_2, ↓zr_18_3, ↓zf_18_4, ↓zs_18_4, ↓zr_18_5, ↓zf_18_6, ↓zs_18_6, ↓zr_18_7, ↓zr_18_8, ↓zr_18_9, ↓zi_23, ↓zt_23]
      rw [oc_416_18g (m := yy_s m 23 0 (sg_cn s 0 c (sg_N s))) (yy_MR_fr (fun c hc => by simp (disch := first | omega | (unfold xm_w; omega)) only [↓zy_at, xm_O_some, xm_Oi_some, xm_Ov_some, xm_Oq_some, ↓reduceIte, ↓zz_t, ↓zz_f, ↓zi_t, ↓zi_f, eq_self, yy_d_0, Int.reduceEq, Int.reduceLT, Int.reduceLE, Int.reduceNe, Int.reduceToNat, Int.reduceAdd, Int.reduceSub, Int.reduceMul, Int.reduceNeg, Nat.reduceAdd, Nat.reduceMul, Nat.reduceSub, Nat.reduceEqDiff, Nat.reduceLT, ne_eq, not_false_eq_true, not_true_eq_false, true_and, and_true, and_self, yy_s_eq, yy_s_ne, yy_c_eq, yy_c_ne, yy_u_eq, yy_u_ne, xm_w_id, yy_at, tdiv_pos, tmod_pos]) hMR) b3]
      simp (disch := first | omega | (unfold xm_w; omega)) only [↓zy_at, xm_O_some, xm_Oi_some, xm_Ov_some, xm_Oq_some, ↓reduceIte, ↓zz_t, ↓zz_f, ↓zi_t, ↓zi_f, eq_self, yy_d_0, Int.reduceEq, Int.reduceLT, Int.reduceLE, Int.reduceNe, Int.reduceToNat, Int.reduceAdd, Int.reduceSub, Int.reduceMul, Int.reduceNeg, Nat.reduceAdd, Nat.reduceMul, Nat.reduceSub, Nat.reduceEqDiff, Nat.reduceLT, ne_eq, not_false_eq_true, not_true_eq_false, true_and, and_true, and_self, yy_s_eq, yy_s_ne, yy_c_eq, yy_c_ne, yy_u_eq, yy_u_ne, xm_w_id, yy_at, tdiv_pos, tmod_pos, ↓zr_18_0, ↓zf_18_1, ↓zs_18_1, ↓zf_18_2, ↓zs_18_2, ↓zr_18_3, ↓zf_18_4, ↓zs_18_4, ↓zr_18_5, ↓zf_18_6, ↓zs_18_6, ↓zr_18_7, ↓zr_18_8, ↓zr_18_9, ↓zi_23, ↓zt_23]
      refine text _ (fun c hc => ?_) ?_ ?_ ?_ hne
      · simp (disch := first | omega | (unfold xm_w; omega)) only [↓zy_at, xm_O_some, xm_Oi_some, xm_Ov_some, xm_Oq_some, ↓reduceIte, ↓zz_t, ↓zz_f, ↓zi_t, ↓zi_f, eq_self, yy_d_0, Int.reduceEq, Int.reduceLT, Int.reduceLE, Int.reduceNe, Int.reduceToNat, Int.reduceAdd, Int.reduceSub, Int.reduceMul, Int.reduceNeg, Nat.reduceAdd, Nat.reduceMul, Nat.reduceSub, Nat.reduceEqDiff, Nat.reduceLT, ne_eq, not_false_eq_true, not_true_eq_false, true_and, and_true, and_self, yy_s_eq, yy_s_ne, yy_c_eq, yy_c_ne, yy_u_eq, yy_u_ne, xm_w_id, yy_at, tdiv_pos, tmod_pos]
      · simp (disch := first | omega | (unfold xm_w; omega)) only [↓zy_at, xm_O_some, xm_Oi_some, xm_Ov_some, xm_Oq_some, ↓reduceIte, ↓zz_t, ↓zz_f, ↓zi_t, ↓zi_f, eq_self, yy_d_0, Int.reduceEq, Int.reduceLT, Int.reduceLE, Int.reduceNe, Int.reduceToNat, Int.reduceAdd, Int.reduceSub, Int.reduceMul, Int.reduceNeg, Nat.reduceAdd, Nat.reduceMul, Nat.reduceSub, Nat.reduceEqDiff, Nat.reduceLT, ne_eq, not_false_eq_true, not_true_eq_false, true_and, and_true, and_self, yy_s_eq, yy_s_ne, yy_c_eq, yy_c_ne, yy_u_eq, yy_u_ne, xm_w_id, yy_at, tdiv_pos, tmod_pos]
      · simp (disch := first | omega | (unfold xm_w; omega)) only [↓zy_at, xm_O_some, xm_Oi_some, xm_Ov_some, xm_Oq_some, ↓reduceIte, ↓zz_t, ↓zz_f, ↓zi_t, ↓zi_f, eq_self, yy_d_0, Int.reduceEq, Int.reduceLT, Int.reduceLE, Int.reduceNe, Int.reduceToNat, Int.reduceAdd, Int.reduceSub, Int.reduceMul, Int.reduceNeg, Nat.reduceAdd, Nat.reduceMul, Nat.reduceSub, Nat.reduceEqDiff, Nat.reduceLT, ne_eq, not_false_eq_true, not_true_eq_false, true_and, and_true, and_self, yy_s_eq, yy_s_ne, yy_c_eq, yy_c_ne, yy_u_eq, yy_u_ne, xm_w_id, yy_at, tdiv_pos, tmod_pos]
      · simp (disch := first | omega | (unfold xm_w; omega)) only [↓zy_at, xm_O_some, xm_Oi_some, xm_Ov_some, xm_Oq_some, ↓reduceIte, ↓zz_t, ↓zz_f, ↓zi_t, ↓zi_f, eq_self, yy_d_0, Int.reduceEq, Int.reduceLT, Int.reduceLE, Int.reduceNe, Int.reduceToNat, Int.reduceAdd, Int.reduceSub, Int.reduceMul, Int.reduceNeg, Nat.reduceAdd, Nat.reduceMul, Nat.reduceSub, Nat.reduceEqDiff, Nat.reduceLT, ne_eq, not_false_eq_true, not_true_eq_false, true_and, and_true, and_self, yy_s_eq, yy_s_ne, yy_c_eq, yy_c_ne, yy_u_eq, yy_u_ne, xm_w_id, yy_at, tdiv_pos, tmod_pos]; exact ea.symm
    · have i3 : (sg_la s c (sg_N s) * 5 + 3).toNat = 5 * (sg_la s c (sg_N s)).toNat + 3 := by omega
      have f3 : m 21 (5 * (sg_la s c (sg_N s)).toNat + 3) = sg_p s (sg_la s c (sg_N s)).toNat 3 := by rw [e6 _ (by omega)]; unfold sg_p; first | rfl | (congr 1; omega)
      have ea : s 1 - sg_p s (sg_la s c (sg_N s)).toNat 3 = sg_age s c := by unfold sg_age; rw [if_neg (by omega)]
      rw [if_neg (by omega)]
      simp (disch := first | omega | (unfold xm_w; omega)) only [↓zy_at, xm_O_some, xm_Oi_some, xm_Ov_some, xm_Oq_some, ↓reduceIte, ↓zz_t, ↓zz_f, ↓zi_t, ↓zi_f, eq_self, yy_d_0, Int.reduceEq, Int.reduceLT, Int.reduceLE, Int.reduceNe, Int.reduceToNat, Int.reduceAdd, Int.reduceSub, Int.reduceMul, Int.reduceNeg, Nat.reduceAdd, Nat.reduceMul, Nat.reduceSub, Nat.reduceEqDiff, Nat.reduceLT, ne_eq, not_false_eq_true, not_true_eq_false, true_and, and_true, and_self, yy_s_eq, yy_s_ne, yy_c_eq, yy_c_ne, yy_u_eq, yy_u_ne, xm_w_id, yy_at, tdiv_pos, tmod_pos, ↓zr_18_0, ↓zf_18_1, ↓zs_18_1, ↓zf_18_2, ↓zs_18_2, ↓zr_18_3, ↓zf_18_4, ↓zs_18_4, ↓zr_18_5, ↓zf_18_6, ↓zs_18_6, ↓zr_18_7, ↓zr_18_8, ↓zr_18_9, ↓zi_21, ↓zt_21, ↓zq_22, ↓zq_tx, e2, i3, f3]
      refine done _ ea _ (fun hne => ?_)
      rw [oc_414_18_0 hMR b3]
      simp (disch := first | omega | (unfold xm_w; omega)) only [↓zy_at, xm_O_some, xm_Oi_some, xm_Ov_some, xm_Oq_some, ↓reduceIte, ↓zz_t, ↓zz_f, ↓zi_t, ↓zi_f, eq_self, yy_d_0, Int.reduceEq, Int.reduceLT, Int.reduceLE, Int.reduceNe, Int.reduceToNat, Int.reduceAdd, Int.reduceSub, Int.reduceMul, Int.reduceNeg, Nat.reduceAdd, Nat.reduceMul, Nat.reduceSub, Nat.reduceEqDiff, Nat.reduceLT, ne_eq, not_false_eq_true, not_true_eq_false, true_and, and_true, and_self, yy_s_eq, yy_s_ne, yy_c_eq, yy_c_ne, yy_u_eq, yy_u_ne, xm_w_id, yy_at, tdiv_pos, tmod_pos, ↓zr_18_0, ↓zf_18_1, ↓zs_18_1, ↓zf_18_2, ↓zs_18_2, ↓zr_18_3, ↓zf_18_4, ↓zs_18_4, ↓zr_18_5, ↓zf_18_6, ↓zs_18_6, ↓zr_18_7, ↓zr_18_8, ↓zr_18_9, ↓zi_23, ↓zt_23]
      rw [oc_416_18g (m := yy_s m 23 0 (sg_cn s 0 c (sg_N s))) (yy_MR_fr (fun c hc => by simp (disch := first | omega | (unfold xm_w; omega)) only [↓zy_at, xm_O_some, xm_Oi_some, xm_Ov_some, xm_Oq_some, ↓reduceIte, ↓zz_t, ↓zz_f, ↓zi_t, ↓zi_f, eq_self, yy_d_0, Int.reduceEq, Int.reduceLT, Int.reduceLE, Int.reduceNe, Int.reduceToNat, Int.reduceAdd, Int.reduceSub, Int.reduceMul, Int.reduceNeg, Nat.reduceAdd, Nat.reduceMul, Nat.reduceSub, Nat.reduceEqDiff, Nat.reduceLT, ne_eq, not_false_eq_true, not_true_eq_false, true_and, and_true, and_self, yy_s_eq, yy_s_ne, yy_c_eq, yy_c_ne, yy_u_eq, yy_u_ne, xm_w_id, yy_at, tdiv_pos, tmod_pos]) hMR) b3]
      simp (disch := first | omega | (unfold xm_w; omega)) only [↓zy_at, xm_O_some, xm_Oi_some, xm_Ov_some, xm_Oq_some, ↓reduceIte, ↓zz_t, ↓zz_f, ↓zi_t, ↓zi_f, eq_self, yy_d_0, Int.reduceEq, Int.reduceLT, Int.reduceLE, Int.reduceNe, Int.reduceToNat, Int.reduceAdd, Int.reduceSub, Int.reduceMul, Int.reduceNeg, Nat.reduceAdd, Nat.reduceMul, Nat.reduceSub, Nat.reduceEqDiff, Nat.reduceLT, ne_eq, not_false_eq_true, not_true_eq_false, true_and, and_true, and_self, yy_s_eq, yy_s_ne, yy_c_eq, yy_c_ne, yy_u_eq, yy_u_ne, xm_w_id, yy_at, tdiv_pos, tmod_pos, ↓zr_18_0, ↓zf_18_1, ↓zs_18_1, ↓zf_18_2, ↓zs_18_2, ↓zr_18_3, ↓zf_18_4, ↓zs_18_4, ↓zr_18_5, ↓zf_18_6, ↓zs_18_6, ↓zr_18_7, ↓zr_18_8, ↓zr_18_9, ↓zi_23, ↓zt_23]
      refine text _ (fun c hc => ?_) ?_ ?_ ?_ hne
      · simp (disch := first | omega | (unfold xm_w; omega)) only [↓zy_at, xm_O_some, xm_Oi_some, xm_Ov_some, xm_Oq_some, ↓reduceIte, ↓zz_t, ↓zz_f, ↓zi_t, ↓zi_f, eq_self, yy_d_0, Int.reduceEq, Int.reduceLT, Int.reduceLE, Int.reduceNe, Int.reduceToNat, Int.reduceAdd, Int.reduceSub, Int.reduceMul, Int.reduceNeg, Nat.reduceAdd, Nat.reduceMul, Nat.reduceSub, Nat.reduceEqDiff, Nat.reduceLT, ne_eq, not_false_eq_true, not_true_eq_false, true_and, and_true, and_self, yy_s_eq, yy_s_ne, yy_c_eq, yy_c_ne, yy_u_eq, yy_u_ne, xm_w_id, yy_at, tdiv_pos, tmod_pos]
      · simp (disch := first | omega | (unfold xm_w; omega)) only [↓zy_at, xm_O_some, xm_Oi_some, xm_Ov_some, xm_Oq_some, ↓reduceIte, ↓zz_t, ↓zz_f, ↓zi_t, ↓zi_f, eq_self, yy_d_0, Int.reduceEq, Int.reduceLT, Int.reduceLE, Int.reduceNe, Int.reduceToNat, Int.reduceAdd, Int.reduceSub, Int.reduceMul, Int.reduceNeg, Nat.reduceAdd, Nat.reduceMul, Nat.reduceSub, Nat.reduceEqDiff, Nat.reduceLT, ne_eq, not_false_eq_true, not_true_eq_false, true_and, and_true, and_self, yy_s_eq, yy_s_ne, yy_c_eq, yy_c_ne, yy_u_eq, yy_u_ne, xm_w_id, yy_at, tdiv_pos, tmod_pos]
      · simp (disch := first | omega | (unfold xm_w; omega)) only [↓zy_at, xm_O_some, xm_Oi_some, xm_Ov_some, xm_Oq_some, ↓reduceIte, ↓zz_t, ↓zz_f, ↓zi_t, ↓zi_f, eq_self, yy_d_0, Int.reduceEq, Int.reduceLT, Int.reduceLE, Int.reduceNe, Int.reduceToNat, Int.reduceAdd, Int.reduceSub, Int.reduceMul, Int.reduceNeg, Nat.reduceAdd, Nat.reduceMul, Nat.reduceSub, Nat.reduceEqDiff, Nat.reduceLT, ne_eq, not_false_eq_true, not_true_eq_false, true_and, and_true, and_self, yy_s_eq, yy_s_ne, yy_c_eq, yy_c_ne, yy_u_eq, yy_u_ne, xm_w_id, yy_at, tdiv_pos, tmod_pos]
      · simp (disch := first | omega | (unfold xm_w; omega)) only [↓zy_at, xm_O_some, xm_Oi_some, xm_Ov_some, xm_Oq_some, ↓reduceIte, ↓zz_t, ↓zz_f, ↓zi_t, ↓zi_f, eq_self, yy_d_0, Int.reduceEq, Int.reduceLT, Int.reduceLE, Int.reduceNe, Int.reduceToNat, Int.reduceAdd, Int.reduceSub, Int.reduceMul, Int.reduceNeg, Nat.reduceAdd, Nat.reduceMul, Nat.reduceSub, Nat.reduceEqDiff, Nat.reduceLT, ne_eq, not_false_eq_true, not_true_eq_false, true_and, and_true, and_self, yy_s_eq, yy_s_ne, yy_c_eq, yy_c_ne, yy_u_eq, yy_u_ne, xm_w_id, yy_at, tdiv_pos, tmod_pos]; exact ea
  obtain ⟨q, h1, m', h2, h3⟩ := yx_of (y := 417) (M := xm_m417) (sc := sc) (d := d + 3) (as := [.inr (.inl (some 18)), .inl (c)]) (w := yy_W m t) (Q := fun q => ∃ m', q = (some (.inl (sg_db s c)), yy_W m' t) ∧ (∀ c, c ≠ 23 → c ≠ 24 → m' c = m c)) rfl (key fun m' h => ⟨m', rfl, h⟩) (fun q ⟨m', h, _⟩ => by rw [h]; rfl) rfl (Nat.le_of_ble_eq_true rfl) (yy_hd rfl (by decide))
  exact ⟨m', by rw [h1, h2], h3⟩
