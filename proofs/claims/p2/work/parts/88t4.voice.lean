/-! VOICES: both sides -/
def sp_vo (v k K M x : Int) : Int := if v = 0 then sp_vr k K x else if v = 1 then sp_vs k K M K x else if v = 2 then sp_vk k K M K x else sp_vp k K M K x
set_option maxRecDepth 20000 in
theorem yy_sayv {sc : List Int} {t : xm_W} {K M k v x : Int} (ht : t.length < 900000) (hK : 0 ≤ K ∧ K ≤ 6) (hM : 0 ≤ M ∧ M ≤ 9) (hk : 0 ≤ k ∧ k ≤ 4) (hv : 0 ≤ v ∧ v ≤ 3) (hne : v = 3 → ¬ M = k) : yy_say sc t 16 30 K M k K v x (sp_vo v k K M x) := by
  unfold sp_vo
  rcases (show v = 0 ∨ v = 1 ∨ v = 2 ∨ v = 3 by omega) with q | q | q | q <;> subst q
  · rw [if_pos rfl]; exact yy_say_up (by decide) (by decide) (yy_rv ht hK)
  · rw [if_neg (by decide), if_pos rfl]; exact yy_say_up (by decide) (by decide) (yy_sv ht hK hK)
  · rw [if_neg (by decide), if_neg (by decide), if_pos rfl]; exact yy_say_up (by decide) (by decide) (yy_kv ht hK hK)
  · rw [if_neg (by decide), if_neg (by decide), if_neg (by decide)]; exact yy_say_up (by decide) (by decide) (yy_pv ht hK hK hM hk (hne rfl))
set_option maxRecDepth 20000 in
theorem c_802 {sc : List Int} {d : Nat} {t : xm_W} {m : Nat → Nat → Int} {r : Nat} {k v x z : Int} (hq : yy_rd r) (h61 : r ≠ 61) (h : yy_say sc t 16 30 (m r 0) (m r 1) k (m r 0) v x z) : ∃ m', xm_X (xm_old sc) xm_mt (d + 17) 802 [.inr (.inl (some 61)), .inr (.inl (some r)), .inl (k), .inl (v), .inl (x)] (yy_W m t) = some (some (.inl (z)), yy_W m' t) ∧ (∀ c, c ≠ 61 → c ≠ 62 → m' c = m c) ∧ (0 ≤ m' 61 1 ∧ m' 61 1 ≤ 30) := by
  have key : ∀ {Q : Option xm_V × xm_W → Prop}, (∀ m', ((∀ c, c ≠ 61 → c ≠ 62 → m' c = m c) ∧ (0 ≤ m' 61 1 ∧ m' 61 1 ≤ 30)) → Q (some (.inl (z)), yy_W m' t)) → xm_EQ (xm_old sc) xm_sta (xm_X (xm_old sc) xm_mt (d + 16)) xm_m802.2.2.2.2.2.2.2 0 (xm_loc xm_m802.2.2.1 [.inr (.inl (some 61)), .inr (.inl (some r)), .inl (k), .inl (v), .inl (x)]) [] (yy_W m t) Q := by
    intro Q hQ
    refine xb_802_0 ?_
    obtain ⟨m1, e, f1, f2, f3⟩ := h d (yy_s (yy_s (yy_s (yy_s m 61 2 (m r 0)) 61 3 (m r 1)) 61 4 k) 61 1 0) 0 (by simp (disch := first | omega | (unfold xm_w; omega)) only [↓zy_at, xm_O_some, xm_Oi_some, xm_Ov_some, xm_Oq_some, ↓reduceIte, ↓zz_t, ↓zz_f, ↓zi_t, ↓zi_f, eq_self, yy_d_0, Int.reduceEq, Int.reduceLT, Int.reduceLE, Int.reduceNe, Int.reduceToNat, Int.reduceAdd, Int.reduceSub, Int.reduceMul, Int.reduceNeg, Nat.reduceAdd, Nat.reduceMul, Nat.reduceSub, Nat.reduceEqDiff, Nat.reduceLT, ne_eq, not_false_eq_true, not_true_eq_false, true_and, and_true, and_self, yy_s_eq, yy_s_ne, yy_c_eq, yy_c_ne, yy_u_eq, yy_u_ne, xm_w_id, yy_at, tdiv_pos, tmod_pos]) (by simp (disch := first | omega | (unfold xm_w; omega)) only [↓zy_at, xm_O_some, xm_Oi_some, xm_Ov_some, xm_Oq_some, ↓reduceIte, ↓zz_t, ↓zz_f, ↓zi_t, ↓zi_f, eq_self, yy_d_0, Int.reduceEq, Int.reduceLT, Int.reduceLE, Int.reduceNe, Int.reduceToNat, Int.reduceAdd, Int.reduceSub, Int.reduceMul, Int.reduceNeg, Nat.reduceAdd, Nat.reduceMul, Nat.reduceSub, Nat.reduceEqDiff, Nat.reduceLT, ne_eq, not_false_eq_true, not_true_eq_false, true_and, and_true, and_self, yy_s_eq, yy_s_ne, yy_c_eq, yy_c_ne, yy_u_eq, yy_u_ne, xm_w_id, yy_at, tdiv_pos, tmod_pos]) (by simp (disch := first | omega | (unfold xm_w; omega)) only [↓zy_at, xm_O_some, xm_Oi_some, xm_Ov_some, xm_Oq_some, ↓reduceIte, ↓zz_t, ↓zz_f, ↓zi_t, ↓zi_f, eq_self, yy_d_0, Int.reduceEq, Int.reduceLT, Int.reduceLE, Int.reduceNe, Int.reduceToNat, Int.reduceAdd, Int.reduceSub, Int.reduceMul, Int.reduceNeg, Nat.reduceAdd, Nat.reduceMul, Nat.reduceSub, Nat.reduceEqDiff, Nat.reduceLT, ne_eq, not_false_eq_true, not_true_eq_false, true_and, and_true, and_self, yy_s_eq, yy_s_ne, yy_c_eq, yy_c_ne, yy_u_eq, yy_u_ne, xm_w_id, yy_at, tdiv_pos, tmod_pos]) (by decide) (by simp (disch := first | omega | (unfold xm_w; omega)) only [↓zy_at, xm_O_some, xm_Oi_some, xm_Ov_some, xm_Oq_some, ↓reduceIte, ↓zz_t, ↓zz_f, ↓zi_t, ↓zi_f, eq_self, yy_d_0, Int.reduceEq, Int.reduceLT, Int.reduceLE, Int.reduceNe, Int.reduceToNat, Int.reduceAdd, Int.reduceSub, Int.reduceMul, Int.reduceNeg, Nat.reduceAdd, Nat.reduceMul, Nat.reduceSub, Nat.reduceEqDiff, Nat.reduceLT, ne_eq, not_false_eq_true, not_true_eq_false, true_and, and_true, and_self, yy_s_eq, yy_s_ne, yy_c_eq, yy_c_ne, yy_u_eq, yy_u_ne, xm_w_id, yy_at, tdiv_pos, tmod_pos])
    rw [gf_0 hq, zs_61_2, gf_1 hq, yy_s_ne h61, zs_61_3, zs_61_4, zs_61_1, zf_61_2]
    rw [show yy_s (yy_s (yy_s (yy_s m 61 2 (m r 0)) 61 3 (m r 1)) 61 4 k) 61 1 0 61 2 = m r 0 by simp (disch := first | omega | (unfold xm_w; omega)) only [↓zy_at, xm_O_some, xm_Oi_some, xm_Ov_some, xm_Oq_some, ↓reduceIte, ↓zz_t, ↓zz_f, ↓zi_t, ↓zi_f, eq_self, yy_d_0, Int.reduceEq, Int.reduceLT, Int.reduceLE, Int.reduceNe, Int.reduceToNat, Int.reduceAdd, Int.reduceSub, Int.reduceMul, Int.reduceNeg, Nat.reduceAdd, Nat.reduceMul, Nat.reduceSub, Nat.reduceEqDiff, Nat.reduceLT, ne_eq, not_false_eq_true, not_true_eq_false, true_and, and_true, and_self, yy_s_eq, yy_s_ne, yy_c_eq, yy_c_ne, yy_u_eq, yy_u_ne, xm_w_id, yy_at, tdiv_pos, tmod_pos], e, xm_Oi_some]
    exact hQ m1 ⟨fun c a b => by rw [f1 c a b, yy_s_ne a, yy_s_ne a, yy_s_ne a, yy_s_ne a], f3⟩
  obtain ⟨q, h1, m', h2, h3⟩ := yx_of (y := 802) (M := xm_m802) (sc := sc) (d := d + 16) (as := [.inr (.inl (some 61)), .inr (.inl (some r)), .inl (k), .inl (v), .inl (x)]) (w := yy_W m t) (Q := fun q => ∃ m', q = (some (.inl (z)), yy_W m' t) ∧ ((∀ c, c ≠ 61 → c ≠ 62 → m' c = m c) ∧ (0 ≤ m' 61 1 ∧ m' 61 1 ≤ 30))) rfl (key fun m' h => ⟨m', rfl, h⟩) (fun q ⟨m', h, _⟩ => by rw [h]; rfl) rfl (Nat.le_of_ble_eq_true rfl) (yy_hd rfl (by decide))
  exact ⟨m', by rw [h1, h2], h3⟩
set_option maxRecDepth 20000 in
theorem c_1194 {sc : List Int} {d : Nat} {t : xm_W} {m : Nat → Nat → Int} {r : Nat} {v x : Int} (hr : r < 5) (h0 : 0 ≤ m 75 0) (h1 : m 75 0 ≤ 5) (h : (r : Int) ≤ m 75 0 - 1) (hv : 0 ≤ v ∧ v ≤ 3) (hK : 0 ≤ m 75 (44 + 18 * r) ∧ m 75 (44 + 18 * r) ≤ 6) (hM : 0 ≤ m 75 (45 + 18 * r) ∧ m 75 (45 + 18 * r) ≤ 9) (hne : v = 3 → ¬ m 75 (45 + 18 * r) = r) : ∃ m', xm_X (xm_old sc) xm_mt (d + 12) 1194 [.inr (.inl (some 74)), .inl ((r : Int)), .inl (v), .inl (x)] (yy_W m t) = some (some (.inl (sp_vo v r (m 75 (44 + 18 * r)) (m 75 (45 + 18 * r)) x)), yy_W m' t) ∧ (∀ c, c ≠ 74 → c ≠ 82 → m' c = m c) ∧ (∀ q, q ≠ 15 → q ≠ 16 → q ≠ 17 → m' 74 q = m 74 q) ∧ (0 ≤ m' 74 15 ∧ m' 74 15 ≤ 30) := by
  have key : ∀ {Q : Option xm_V × xm_W → Prop}, (∀ m', ((∀ c, c ≠ 74 → c ≠ 82 → m' c = m c) ∧ (∀ q, q ≠ 15 → q ≠ 16 → q ≠ 17 → m' 74 q = m 74 q) ∧ (0 ≤ m' 74 15 ∧ m' 74 15 ≤ 30)) → Q (some (.inl (sp_vo v r (m 75 (44 + 18 * r)) (m 75 (45 + 18 * r)) x)), yy_W m' t)) → xm_EQ (xm_old sc) xm_sta (xm_X (xm_old sc) xm_mt (d + 11)) xm_m1194.2.2.2.2.2.2.2 0 (xm_loc xm_m1194.2.2.1 [.inr (.inl (some 74)), .inl ((r : Int)), .inl (v), .inl (x)]) [] (yy_W m t) Q := by
    intro Q hQ
    refine xb_1194_0 ?_
    rw [oc_1109 (d := d + 9) h0 h1, zz_t ⟨by omega, by omega⟩, oc_1103 (d := d + 10), zz_t hv, zs_74_15, zs_74_16, zs_74_17 rfl]
    have e75 : yy_s (yy_s (yy_s m 74 15 0) 74 16 (r : Int)) 74 17 0 75 = m 75 := by simp (disch := first | omega | (unfold xm_w; omega)) only [↓zy_at, xm_O_some, xm_Oi_some, xm_Ov_some, xm_Oq_some, ↓reduceIte, ↓zz_t, ↓zz_f, ↓zi_t, ↓zi_f, eq_self, yy_d_0, Int.reduceEq, Int.reduceLT, Int.reduceLE, Int.reduceNe, Int.reduceToNat, Int.reduceAdd, Int.reduceSub, Int.reduceMul, Int.reduceNeg, Nat.reduceAdd, Nat.reduceMul, Nat.reduceSub, Nat.reduceEqDiff, Nat.reduceLT, ne_eq, not_false_eq_true, not_true_eq_false, true_and, and_true, and_self, yy_s_eq, yy_s_ne, yy_c_eq, yy_c_ne, yy_u_eq, yy_u_ne, xm_w_id, yy_at, tdiv_pos, tmod_pos]
    have hm : yy_vq (m 75 (44 + 18 * r)) (m 75 (45 + 18 * r)) r (yy_s (yy_s (yy_s m 74 15 0) 74 16 (r : Int)) 74 17 0) := ⟨by omega, by simp (disch := first | omega | (unfold xm_w; omega)) only [↓zy_at, xm_O_some, xm_Oi_some, xm_Ov_some, xm_Oq_some, ↓reduceIte, ↓zz_t, ↓zz_f, ↓zi_t, ↓zi_f, eq_self, yy_d_0, Int.reduceEq, Int.reduceLT, Int.reduceLE, Int.reduceNe, Int.reduceToNat, Int.reduceAdd, Int.reduceSub, Int.reduceMul, Int.reduceNeg, Nat.reduceAdd, Nat.reduceMul, Nat.reduceSub, Nat.reduceEqDiff, Nat.reduceLT, ne_eq, not_false_eq_true, not_true_eq_false, true_and, and_true, and_self, yy_s_eq, yy_s_ne, yy_c_eq, yy_c_ne, yy_u_eq, yy_u_ne, xm_w_id, yy_at, tdiv_pos, tmod_pos], by rw [e75, show (44 + 18 * (r : Int) + 0).toNat = 44 + 18 * r by omega], by rw [e75, show (44 + 18 * (r : Int) + 1).toNat = 45 + 18 * r by omega], by simp (disch := first | omega | (unfold xm_w; omega)) only [↓zy_at, xm_O_some, xm_Oi_some, xm_Ov_some, xm_Oq_some, ↓reduceIte, ↓zz_t, ↓zz_f, ↓zi_t, ↓zi_f, eq_self, yy_d_0, Int.reduceEq, Int.reduceLT, Int.reduceLE, Int.reduceNe, Int.reduceToNat, Int.reduceAdd, Int.reduceSub, Int.reduceMul, Int.reduceNeg, Nat.reduceAdd, Nat.reduceMul, Nat.reduceSub, Nat.reduceEqDiff, Nat.reduceLT, ne_eq, not_false_eq_true, not_true_eq_false, true_and, and_true, and_self, yy_s_eq, yy_s_ne, yy_c_eq, yy_c_ne, yy_u_eq, yy_u_ne, xm_w_id, yy_at, tdiv_pos, tmod_pos], by simp (disch := first | omega | (unfold xm_w; omega)) only [↓zy_at, xm_O_some, xm_Oi_some, xm_Ov_some, xm_Oq_some, ↓reduceIte, ↓zz_t, ↓zz_f, ↓zi_t, ↓zi_f, eq_self, yy_d_0, Int.reduceEq, Int.reduceLT, Int.reduceLE, Int.reduceNe, Int.reduceToNat, Int.reduceAdd, Int.reduceSub, Int.reduceMul, Int.reduceNeg, Nat.reduceAdd, Nat.reduceMul, Nat.reduceSub, Nat.reduceEqDiff, Nat.reduceLT, ne_eq, not_false_eq_true, not_true_eq_false, true_and, and_true, and_self, yy_s_eq, yy_s_ne, yy_c_eq, yy_c_ne, yy_u_eq, yy_u_ne, xm_w_id, yy_at, tdiv_pos, tmod_pos]⟩
    generalize e1 : yy_s (yy_s (yy_s m 74 15 0) 74 16 (r : Int)) 74 17 0 = m1 at hm e75
    have g1 : ∀ c, c ≠ 74 → m1 c = m c := fun c hc => by rw [← e1, yy_s_ne hc, yy_s_ne hc, yy_s_ne hc]
    have g2 : ∀ q, q ≠ 15 → q ≠ 16 → q ≠ 17 → m1 74 q = m 74 q := fun q a b c => by rw [← e1, yy_s_eq, yy_u_ne c, yy_s_eq, yy_u_ne b, yy_s_eq, yy_u_ne a]
    have fin : ∀ m', yy_VR m1 m' → ((∀ c, c ≠ 74 → c ≠ 82 → m' c = m c) ∧ (∀ q, q ≠ 15 → q ≠ 16 → q ≠ 17 → m' 74 q = m 74 q) ∧ (0 ≤ m' 74 15 ∧ m' 74 15 ≤ 30)) ∧ m' 74 17 = 0 := fun m' f => ⟨⟨fun c a b => by rw [f.1 c a b, g1 c a], fun q a b c => by rw [f.2.1 q a, g2 q a b c], f.2.2⟩, by rw [f.2.1 17 (by decide)]; exact hm.2.2.2.2.1⟩
    rw [oc_1188 (d := d + 9) hm]
    revert hQ
    unfold sp_vo
    intro hQ
    rcases (show v = 0 ∨ v = 1 ∨ v = 2 ∨ v = 3 by omega) with q | q | q | q <;> subst q
    · obtain ⟨m', e, f⟩ := (yy_rb_up (n' := 11) (by decide) (y90 (sc := sc) (t := t) (x := x) hK)) d m1 hm
      rw [if_pos rfl] at hQ
      rw [if_pos rfl]; erw [e]; rw [xm_Oi_some, zf_74_17, if_pos (fin m' f).2]
      exact hQ m' (fin m' f).1
    · obtain ⟨m', e, f⟩ := (yy_rb_up (n' := 11) (by decide) (y91 (sc := sc) (t := t) (x := x) hK hK)) d m1 hm
      rw [if_neg (by decide), if_pos rfl] at hQ
      rw [if_neg (by decide), if_pos rfl]; erw [e]; rw [xm_Oi_some, zf_74_17, if_pos (fin m' f).2]
      exact hQ m' (fin m' f).1
    · obtain ⟨m', e, f⟩ := (yy_rb_up (n' := 11) (by decide) (y92 (sc := sc) (t := t) (x := x) hK hK)) d m1 hm
      rw [if_neg (by decide), if_neg (by decide), if_pos rfl] at hQ
      rw [if_neg (by decide), if_neg (by decide), if_pos rfl]; erw [e]; rw [xm_Oi_some, zf_74_17, if_pos (fin m' f).2]
      exact hQ m' (fin m' f).1
    · obtain ⟨m', e, f⟩ := (yy_rb_up (n' := 11) (by decide) (y93 (sc := sc) (t := t) (x := x) hK hK hM (hne rfl))) d m1 hm
      rw [if_neg (by decide), if_neg (by decide), if_neg (by decide)] at hQ
      rw [if_neg (by decide), if_neg (by decide), if_neg (by decide)]; erw [e]; rw [xm_Oi_some, zf_74_17, if_pos (fin m' f).2]
      exact hQ m' (fin m' f).1
  obtain ⟨q, h1, m', h2, h3⟩ := yx_of (y := 1194) (M := xm_m1194) (sc := sc) (d := d + 11) (as := [.inr (.inl (some 74)), .inl ((r : Int)), .inl (v), .inl (x)]) (w := yy_W m t) (Q := fun q => ∃ m', q = (some (.inl (sp_vo v r (m 75 (44 + 18 * r)) (m 75 (45 + 18 * r)) x)), yy_W m' t) ∧ ((∀ c, c ≠ 74 → c ≠ 82 → m' c = m c) ∧ (∀ q, q ≠ 15 → q ≠ 16 → q ≠ 17 → m' 74 q = m 74 q) ∧ (0 ≤ m' 74 15 ∧ m' 74 15 ≤ 30))) rfl (key fun m' h => ⟨m', rfl, h⟩) (fun q ⟨m', h, _⟩ => by rw [h]; rfl) rfl (Nat.le_of_ble_eq_true rfl) (yy_hd rfl (by decide))
  exact ⟨m', by rw [h1, h2], h3⟩
set_option maxRecDepth 20000 in
theorem c_1194p {sc : List Int} {d : Nat} {t : xm_W} {m : Nat → Nat → Int} {r : Nat} {x : Int} (hr : r < 5) (h0 : 0 ≤ m 75 0) (h1 : m 75 0 ≤ 5) (h : (r : Int) ≤ m 75 0 - 1) (hK : 0 ≤ m 75 (44 + 18 * r) ∧ m 75 (44 + 18 * r) ≤ 6) (hM : 0 ≤ m 75 (45 + 18 * r) ∧ m 75 (45 + 18 * r) ≤ 9) (hne : m 75 (45 + 18 * r) = r) : ∃ m', xm_X (xm_old sc) xm_mt (d + 12) 1194 [.inr (.inl (some 74)), .inl ((r : Int)), .inl (3), .inl (x)] (yy_W m t) = some (some (.inl (-1000000006)), yy_W m' t) ∧ (∀ c, c ≠ 74 → c ≠ 82 → c ≠ 78 → m' c = m c) ∧ (∀ q, q ≠ 15 → q ≠ 16 → q ≠ 17 → m' 74 q = m 74 q) ∧ (0 ≤ m' 74 15 ∧ m' 74 15 ≤ 30) := by
  have key : ∀ {Q : Option xm_V × xm_W → Prop}, (∀ m', ((∀ c, c ≠ 74 → c ≠ 82 → c ≠ 78 → m' c = m c) ∧ (∀ q, q ≠ 15 → q ≠ 16 → q ≠ 17 → m' 74 q = m 74 q) ∧ (0 ≤ m' 74 15 ∧ m' 74 15 ≤ 30)) → Q (some (.inl (-1000000006)), yy_W m' t)) → xm_EQ (xm_old sc) xm_sta (xm_X (xm_old sc) xm_mt (d + 11)) xm_m1194.2.2.2.2.2.2.2 0 (xm_loc xm_m1194.2.2.1 [.inr (.inl (some 74)), .inl ((r : Int)), .inl (3), .inl (x)]) [] (yy_W m t) Q := by
    intro Q hQ
    refine xb_1194_0 ?_
    rw [oc_1109 (d := d + 9) h0 h1, zz_t ⟨by omega, by omega⟩, oc_1103 (d := d + 10), zz_t ⟨by decide, by decide⟩, zs_74_15, zs_74_16, zs_74_17 rfl]
    have e75 : yy_s (yy_s (yy_s m 74 15 0) 74 16 (r : Int)) 74 17 0 75 = m 75 := by simp (disch := first | omega | (unfold xm_w; omega)) only [↓zy_at, xm_O_some, xm_Oi_some, xm_Ov_some, xm_Oq_some, ↓reduceIte, ↓zz_t, ↓zz_f, ↓zi_t, ↓zi_f, eq_self, yy_d_0, Int.reduceEq, Int.reduceLT, Int.reduceLE, Int.reduceNe, Int.reduceToNat, Int.reduceAdd, Int.reduceSub, Int.reduceMul, Int.reduceNeg, Nat.reduceAdd, Nat.reduceMul, Nat.reduceSub, Nat.reduceEqDiff, Nat.reduceLT, ne_eq, not_false_eq_true, not_true_eq_false, true_and, and_true, and_self, yy_s_eq, yy_s_ne, yy_c_eq, yy_c_ne, yy_u_eq, yy_u_ne, xm_w_id, yy_at, tdiv_pos, tmod_pos]
    have hm : yy_vq (m 75 (44 + 18 * r)) (m 75 (45 + 18 * r)) r (yy_s (yy_s (yy_s m 74 15 0) 74 16 (r : Int)) 74 17 0) := ⟨by omega, by simp (disch := first | omega | (unfold xm_w; omega)) only [↓zy_at, xm_O_some, xm_Oi_some, xm_Ov_some, xm_Oq_some, ↓reduceIte, ↓zz_t, ↓zz_f, ↓zi_t, ↓zi_f, eq_self, yy_d_0, Int.reduceEq, Int.reduceLT, Int.reduceLE, Int.reduceNe, Int.reduceToNat, Int.reduceAdd, Int.reduceSub, Int.reduceMul, Int.reduceNeg, Nat.reduceAdd, Nat.reduceMul, Nat.reduceSub, Nat.reduceEqDiff, Nat.reduceLT, ne_eq, not_false_eq_true, not_true_eq_false, true_and, and_true, and_self, yy_s_eq, yy_s_ne, yy_c_eq, yy_c_ne, yy_u_eq, yy_u_ne, xm_w_id, yy_at, tdiv_pos, tmod_pos], by rw [e75, show (44 + 18 * (r : Int) + 0).toNat = 44 + 18 * r by omega], by rw [e75, show (44 + 18 * (r : Int) + 1).toNat = 45 + 18 * r by omega], by simp (disch := first | omega | (unfold xm_w; omega)) only [↓zy_at, xm_O_some, xm_Oi_some, xm_Ov_some, xm_Oq_some, ↓reduceIte, ↓zz_t, ↓zz_f, ↓zi_t, ↓zi_f, eq_self, yy_d_0, Int.reduceEq, Int.reduceLT, Int.reduceLE, Int.reduceNe, Int.reduceToNat, Int.reduceAdd, Int.reduceSub, Int.reduceMul, Int.reduceNeg, Nat.reduceAdd, Nat.reduceMul, Nat.reduceSub, Nat.reduceEqDiff, Nat.reduceLT, ne_eq, not_false_eq_true, not_true_eq_false, true_and, and_true, and_self, yy_s_eq, yy_s_ne, yy_c_eq, yy_c_ne, yy_u_eq, yy_u_ne, xm_w_id, yy_at, tdiv_pos, tmod_pos], by simp (disch := first | omega | (unfold xm_w; omega)) only [↓zy_at, xm_O_some, xm_Oi_some, xm_Ov_some, xm_Oq_some, ↓reduceIte, ↓zz_t, ↓zz_f, ↓zi_t, ↓zi_f, eq_self, yy_d_0, Int.reduceEq, Int.reduceLT, Int.reduceLE, Int.reduceNe, Int.reduceToNat, Int.reduceAdd, Int.reduceSub, Int.reduceMul, Int.reduceNeg, Nat.reduceAdd, Nat.reduceMul, Nat.reduceSub, Nat.reduceEqDiff, Nat.reduceLT, ne_eq, not_false_eq_true, not_true_eq_false, true_and, and_true, and_self, yy_s_eq, yy_s_ne, yy_c_eq, yy_c_ne, yy_u_eq, yy_u_ne, xm_w_id, yy_at, tdiv_pos, tmod_pos]⟩
    generalize e1 : yy_s (yy_s (yy_s m 74 15 0) 74 16 (r : Int)) 74 17 0 = m1 at hm e75
    have g1 : ∀ c, c ≠ 74 → m1 c = m c := fun c hc => by rw [← e1, yy_s_ne hc, yy_s_ne hc, yy_s_ne hc]
    have g2 : ∀ q, q ≠ 15 → q ≠ 16 → q ≠ 17 → m1 74 q = m 74 q := fun q a b c => by rw [← e1, yy_s_eq, yy_u_ne c, yy_s_eq, yy_u_ne b, yy_s_eq, yy_u_ne a]
    rw [oc_1188 (d := d + 9) hm]
    obtain ⟨m', e, f⟩ := (yy_pb_up (n' := 11) (by decide) (yp (sc := sc) (t := t) (x := x) hK hM hne)) d m1 hm
    rw [if_neg (by decide), if_neg (by decide), if_neg (by decide)]; erw [e]; rw [xm_Oi_some, zf_74_17, if_neg (by rw [f.2.2.2]; decide), oc_1102 (d := d + 10) (by decide) (by decide)]
    refine hQ (yy_f m' 6) ⟨fun c a b k => ?_, fun q a b c => ?_, ?_⟩
    · unfold yy_f; rw [yy_s_ne k, f.1 c a b, g1 c a]
    · unfold yy_f; rw [yy_s_ne (by decide), f.2.1 q a c, g2 q a b c]
    · unfold yy_f; rw [yy_s_ne (by decide)]; exact f.2.2.1
  obtain ⟨q, h1, m', h2, h3⟩ := yx_of (y := 1194) (M := xm_m1194) (sc := sc) (d := d + 11) (as := [.inr (.inl (some 74)), .inl ((r : Int)), .inl (3), .inl (x)]) (w := yy_W m t) (Q := fun q => ∃ m', q = (some (.inl (-1000000006)), yy_W m' t) ∧ ((∀ c, c ≠ 74 → c ≠ 82 → c ≠ 78 → m' c = m c) ∧ (∀ q, q ≠ 15 → q ≠ 16 → q ≠ 17 → m' 74 q = m 74 q) ∧ (0 ≤ m' 74 15 ∧ m' 74 15 ≤ 30))) rfl (key fun m' h => ⟨m', rfl, h⟩) (fun q ⟨m', h, _⟩ => by rw [h]; rfl) rfl (Nat.le_of_ble_eq_true rfl) (yy_hd rfl (by decide))
  exact ⟨m', by rw [h1, h2], h3⟩
set_option maxRecDepth 20000 in
theorem a_126 {sc : List Int} {t : xm_W} {m : Nat → Nat → Int} {x1 x2 x3 : Int} (ht : t.length < 900000) (hI : yy_I t m) : yy_A sc t m 126 1194 [.inl x1, .inl x2, .inl x3] true := by
  by_cases h : 0 ≤ x1 ∧ x1 ≤ m 1 4 - 1
  · by_cases hv : 0 ≤ x2 ∧ x2 ≤ 3
    · obtain ⟨⟨e0, e3, e1, e2⟩, hR⟩ := yy_I_0 hI
      obtain ⟨a0, a1, a2, a3, a4, a5⟩ := id hR
      obtain ⟨r, rfl⟩ : ∃ r : Nat, x1 = r := ⟨x1.toNat, by omega⟩
      have hr5 : r < 5 := by omega
      obtain ⟨b0, b1, b2, b3, b4, b5, b6⟩ := a5 r hr5
      have g7 := hI.2.1.1.2.2.2.2.2.2
      have hq := yy_rdn8 hr5
      have er : ((r : Int)).toNat = r := Int.toNat_natCast r
      have f0 : m (8 + 2 * r) 0 = m 75 (44 + 18 * r) := (g7 r hr5).1 0 (by decide)
      have f1 : m (8 + 2 * r) 1 = m 75 (45 + 18 * r) := by rw [(g7 r hr5).1 1 (by decide)]; congr 1; omega
      have s3 := hI.2.2.2.2.2
      by_cases hp : x2 = 3 ∧ m 75 (45 + 18 * r) = r
      · obtain ⟨rfl, hp⟩ := hp
        have X1 : xm_X (xm_old sc) xm_mt (99 + 1) 126 [.inr (.inl (some 0)), .inl (r : Int), .inl 3, .inl x3] (yy_W m t) = some (some (.inl (-1000000006)), yy_W (yy_e m 6) t) := by
          refine xm_X_of (M := xm_m126) rfl ⟨xm_EQ.eq (xb_126_0 ?_), rfl, rfl, Nat.le_of_ble_eq_true rfl, yy_hd rfl (by decide)⟩
          rw [oc_141 (d := 97) (by omega) (by omega), zz_t h, oc_142 (d := 98), zz_t hv, if_pos rfl, zr_0_0, zr_1_3, zq_3, zq_r1 (by omega) (by omega), er, xm_O_some, gf_1 hq, f1, if_pos hp, oc_139 (d := 98) (by decide) (by decide)]
          rfl
        have f : ∀ c, c ≠ 65 → yy_e m 6 c = m c := fun c hc => yy_e75 hc
        have e75 := f 75 (by decide)
        obtain ⟨m2, X2, k1, k2, k3⟩ := c_1194p (sc := sc) (d := 88) (t := t) (m := yy_e m 6) (r := r) (x := x3) hr5 (by rw [e75]; omega) (by rw [e75]; omega) (by rw [e75]; omega) (by rw [e75]; exact b0) (by rw [e75]; exact b1) (by rw [e75]; exact hp)
        refine yy_Ao X1 X2 (yy_I_no (fun c hc hn c1 c2 => ?_) ?_ ?_ ?_ k3 hI) ?_ rfl
        · unfold yy_no at hn; rw [k1 c c2 (by omega) (by omega), f c (by omega)]
        · rw [k1 61 (by decide) (by decide) (by decide), f 61 (by decide)]; exact s3.2.1
        · rw [k2 3 (by decide) (by decide) (by decide), f 74 (by decide)]
        · rw [k2 4 (by decide) (by decide) (by decide), f 74 (by decide)]
        · rw [k1 0 (by decide) (by decide) (by decide), f 0 (by decide)]
      · have hs := yy_sayv (sc := sc) (t := t) (K := m (8 + 2 * r) 0) (M := m (8 + 2 * r) 1) (k := r) (v := x2) (x := x3) ht (by rw [f0]; exact b0) (by rw [f1]; exact b1) (by omega) hv (by rw [f1]; omega)
        obtain ⟨m1, e, k1, k2⟩ := c_802 (sc := sc) (d := 82) (t := t) (m := m) hq (by omega) hs
        have X1 : xm_X (xm_old sc) xm_mt (99 + 1) 126 [.inr (.inl (some 0)), .inl (r : Int), .inl x2, .inl x3] (yy_W m t) = some (some (.inl (sp_vo x2 r (m (8 + 2 * r) 0) (m (8 + 2 * r) 1) x3)), yy_W m1 t) := by
          refine xm_X_of (M := xm_m126) rfl ⟨xm_EQ.eq (xb_126_0 ?_), rfl, rfl, Nat.le_of_ble_eq_true rfl, yy_hd rfl (by decide)⟩
          rw [oc_141 (d := 97) (by omega) (by omega), zz_t h, oc_142 (d := 98), zz_t hv]
          by_cases h3 : x2 = 3
          · rw [if_pos h3, zr_0_0, zr_1_3, zq_3, zq_r1 (by omega) (by omega), er, xm_O_some, gf_1 hq, f1, if_neg (by omega), zr_0_7, zr_0_0, zr_1_3, zq_3, zq_r1 (by omega) (by omega), er]
            erw [e]; rw [xm_Oi_some, f1]
          · rw [if_neg h3, zr_0_7, zr_0_0, zr_1_3, zq_3, zq_r1 (by omega) (by omega), er]
            erw [e]; rw [xm_Oi_some]
        have e75 : m1 75 = m 75 := k1 75 (by decide) (by decide)
        have e74 : m1 74 = m 74 := k1 74 (by decide) (by decide)
        obtain ⟨m2, X2, p1, p2, p3⟩ := c_1194 (sc := sc) (d := 88) (t := t) (m := m1) (r := r) (v := x2) (x := x3) hr5 (by rw [e75]; omega) (by rw [e75]; omega) (by rw [e75]; omega) hv (by rw [e75]; exact b0) (by rw [e75]; exact b1) (by rw [e75]; omega)
        refine yy_Ao X1 X2 (yy_I_no (fun c hc hn c1 c2 => ?_) ?_ ?_ ?_ p3 hI) ?_ (by rw [f0, f1, e75])
        · unfold yy_no at hn; rw [p1 c c2 (by omega), k1 c c1 (by omega)]
        · rw [p1 61 (by decide) (by decide)]; exact k2
        · rw [p2 3 (by decide) (by decide) (by decide), e74]
        · rw [p2 4 (by decide) (by decide) (by decide), e74]
        · rw [p1 0 (by decide) (by decide), k1 0 (by decide) (by decide)]
    · exact r_126 hI (fun g => hv g.2)
  · exact r_126 hI (fun g => h g.1)
