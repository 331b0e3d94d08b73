/-! TEXT: the act -/
set_option maxRecDepth 20000 in
theorem tp_sgd {s : Nat → Int} {u : Nat} {g : Nat → Int × Int} : ∀ k, (∀ j, j < k → sg_tw s u j = (g j).1) → sg_d s u k = tp_d g k
  | 0, _ => rfl
  | k + 1, h => by
    unfold sg_d tp_d
    rw [tp_sgd k (fun j hj => h j (by omega)), h k (by omega)]
set_option maxRecDepth 20000 in
theorem tp_sgT {s : Nat → Int} {u c : Nat} {g : Nat → Int × Int} (hc : 0 < c ∧ c ≤ 60) (hn : s (339 + 125 * u) = c) (hg : ∀ j, j < c → s (340 + 125 * u + 2 * j) = (g j).1 ∧ s (341 + 125 * u + 2 * j) = (g j).2) (hd : 1 ≤ tp_d g c) (ht : ∀ j, j < c → tp_tok u g j) : sg_T s u := by
  have tn : sg_tn s u = c := hn
  have e : ∀ k, k ≤ c → sg_d s u k = tp_d g k := fun k hk => tp_sgd k (fun j hj => (hg j (by omega)).1)
  refine ⟨by rw [tn]; omega, fun _ => by rw [tn, Int.toNat_natCast, e c (Nat.le_refl c)]; exact hd, fun k hk => ?_⟩
  rw [tn] at hk
  have h := ht k (by omega)
  have h1 : sg_tw s u k = (g k).1 := (hg k (by omega)).1
  have h2 : sg_tv s u k = (g k).2 := (hg k (by omega)).2
  unfold sg_tok
  unfold tp_tok at h
  rw [h1, h2, e k (by omega)]; exact h
/- the desk's tape is read: what both sides look like behind -/
set_option maxRecDepth 20000 in
theorem yy_I_74 {t : xm_W} {m m' : Nat → Nat → Int} (hI : yy_I t (yy_c m' 74 (m 74))) (h : ∀ q, q ≠ 6 → q ≠ 7 → q ≠ 8 → q ≠ 9 → m' 74 q = m 74 q) : yy_I t m' := by
  have hP := hI.2.2.2.2.2
  refine yy_I_no (fun c _ _ _ e => by rw [yy_c_ne e]) ?_ ?_ ?_ ?_ hI
  · have := hP.2.1; rw [yy_c_ne (by decide)] at this; exact this
  · rw [yy_c_eq, h 3 (by decide) (by decide) (by decide) (by decide)]
  · rw [yy_c_eq, h 4 (by decide) (by decide) (by decide) (by decide)]
  · have := hP.2.2; rw [yy_c_eq] at this; rw [h 15 (by decide) (by decide) (by decide) (by decide)]; exact this
set_option maxRecDepth 20000 in
theorem c_111F {sc : List Int} {d : Nat} {t : xm_W} {m : Nat → Nat → Int} {u n p c : Nat} {T : Nat → Int} {g : Nat → Int × Int} {ok : Int} (hu : u < 2) (hn : n ≤ 60) (h1 : m 35 1 = n) (hT : ∀ j, j < 60 → m 36 j = T j) (hok : ok = 0 ∨ ok = 1) (hz : ¬ (ok = 1 ∧ p = n)) (w : tp_C sc t u n T 51 504 [.inr (.inl (some 58)), .inl 0, .inl 0] 0 0 (fun _ => (0, 0)) ok p c g) : ∃ m', xm_X (xm_old sc) xm_mt (d + 53) 111 [.inr (.inl (some 0)), .inl ((u : Int))] (yy_W (m) t) = some (some (.inl (xm_w (-10 - p))), (yy_W (m') t)) ∧ (∀ x, x ≠ 58 → x ≠ 60 → x ≠ 35 → m' x = m x) ∧ m' 35 = yy_u (m 35) 1 0 := by
  rcases (show u = 0 ∨ u = 1 by omega) with e | e <;> subst e
  · exact c_111f_0 hn h1 hT hok hz w
  · exact c_111f_1 hn h1 hT hok hz w
set_option maxRecDepth 20000 in
theorem c_111T {sc : List Int} {d : Nat} {t : xm_W} {m : Nat → Nat → Int} {u n p c : Nat} {T : Nat → Int} {g : Nat → Int × Int} (hu : u < 2) (hn : n ≤ 60) (hc : c ≤ 60) (h1 : m 35 1 = n) (hT : ∀ j, j < 60 → m 36 j = T j) (hz : p = n) (w : tp_C sc t u n T 51 504 [.inr (.inl (some 58)), .inl 0, .inl 0] 0 0 (fun _ => (0, 0)) 1 p c g) : ∃ m', xm_X (xm_old sc) xm_mt (d + 53) 111 [.inr (.inl (some 0)), .inl (u : Int)] (yy_W m t) = some (some (.inl 1), yy_W m' (t ++ [.inl (yy_R c (m' 60))] ++ [.inr (.inr (7, [.inr (.inl (some (87 + t.length)))]))])) ∧ (∀ x, x ≠ 58 → x ≠ 60 → x ≠ 35 → x ≠ 5 → m' x = m x) ∧ m' 35 = yy_u (m 35) 1 0 ∧ m' 5 = yy_u (m 5) u (((87 + (t.length + 1) : Nat) : Int) + 1) ∧ ∀ j, j < c → m' 60 j = tp_sg u (g j) := by
  rcases (show u = 0 ∨ u = 1 by omega) with e | e <;> subst e
  · exact c_111t_0 hn hc h1 hT hz w
  · exact c_111t_1 hn hc h1 hT hz w
set_option maxRecDepth 20000 in
theorem yy_DR_t {m m' : Nat → Nat → Int} (h35 : m' 35 = yy_u (m 35) 1 0) (h36 : m' 36 = m 36) (h37 : m' 37 = m 37) (h4 : m' 75 4 = 0) (h : ∀ k, k ≠ 4 → (k < 8 ∨ 589 ≤ k) → m' 75 k = m 75 k) (hR : yy_DR m 35 (m 75)) : yy_DR m' 35 (m' 75) := by
  obtain ⟨r1, r2, r3, r4, r5⟩ := hR
  refine ⟨by rw [h35, yy_u_eq, h4], by rw [h35, yy_u_ne (by decide), h 5 (by decide) (by omega)]; exact r2, by rw [h35, yy_u_ne (by decide), h 6 (by decide) (by omega)]; exact r3, fun k hk => ?_, fun k hk => ?_⟩
  · rw [show m' (35 + 1) k = m 36 k by rw [show (35 + 1 : Nat) = 36 from rfl, h36], h _ (by omega) (by omega)]; exact r4 k hk
  · rw [show m' (35 + 2) k = m 37 k by rw [show (35 + 2 : Nat) = 37 from rfl, h37], h _ (by omega) (by omega)]; exact r5 k hk
set_option maxRecDepth 20000 in
theorem sg_D_t {s s' : Nat → Int} (h4 : s' 4 = 0) (h : ∀ k, k ≠ 4 → (k < 8 ∨ 589 ≤ k) → s' k = s k) (hD : sg_D s) : sg_D s' :=
  ⟨by rw [h4]; decide, by rw [h 5 (by decide) (by omega)]; exact hD.2.1, fun k hk => by rw [h _ (by omega) (by omega)]; exact hD.2.2 k hk⟩
set_option maxRecDepth 20000 in
theorem a_111 {sc : List Int} {t : xm_W} {m : Nat → Nat → Int} {x1 : Int} (ht : t.length < 900000) (hI : yy_I t m) : yy_A sc t m 111 1126 [.inl x1] true := by
  by_cases h : 0 ≤ x1 ∧ x1 ≤ 1
  · obtain ⟨u, rfl⟩ : ∃ u : Nat, x1 = u := ⟨x1.toNat, by omega⟩
    have hu : u < 2 := by omega
    obtain ⟨hG, hX, hR, hK, hS, hP⟩ := id hI
    have hD := hG.2.2
    obtain ⟨n, hn⟩ : ∃ n : Nat, m 75 4 = n := ⟨(m 75 4).toNat, by have := hD.1; omega⟩
    have hn60 : n ≤ 60 := by have := hD.1; omega
    have hT : tp_T n (fun j => m 75 (589 + j)) := ⟨hn60, fun j hj => hD.2.2 j hj⟩
    have h35 : m 35 1 = n := by rw [hR.1, hn]
    have h36 : ∀ j, j < 60 → m 36 j = (fun j => m 75 (589 + j)) j := fun j hj => hR.2.2.2.1 j hj
    have t0 : ∀ v, v < 2 → sg_T (m 75) v := fun v hv => by
      rcases (show v = 0 ∨ v = 1 by omega) with e | e <;> subst e
      · exact hG.1.2.2.2.1
      · exact hG.1.2.2.2.2
    obtain ⟨ok, p, c, g, hv, wc, wm⟩ := tp_top (sc := sc) (t := t) (u := u) ht hu hT 0 0 (fun _ => (0, 0)) (by omega) (by omega) (by decide)
    have hok := tp_V_ok hv
    by_cases hz : ok = 1 ∧ p = n
    · obtain ⟨hz1, hz2⟩ := hz
      subst hz1
      obtain ⟨v1, v2, v3⟩ := hv
      rcases v3 with q | ⟨-, a1, a2, a3, a4, a5, a6⟩
      · exact absurd q (by decide)
      have hc : c ≤ 60 := by omega
      have hd1 : tp_d g c = 1 := by rw [a5]; rfl
      obtain ⟨m1, X1, f1, f35, f5, f60⟩ := c_111T (sc := sc) (d := 47) (t := t) hu hn60 hc h35 h36 hz2 wc
      generalize ht1 : t ++ [(.inl (yy_R c (m1 60)) : xm_C)] ++ [.inr (.inr (7, [.inr (.inl (some (87 + t.length)))]))] = t1 at X1
      have e75 : m1 75 = m 75 := f1 75 (by decide) (by decide) (by decide) (by decide)
      have e74 : m1 74 = m 74 := f1 74 (by decide) (by decide) (by decide) (by decide)
      obtain ⟨m2, X2, k1, k2, k3, k4, k5, k6⟩ := c_1126t (sc := sc) (d := 48) (t := t1) (m := m1) hu hc hT (by rw [e75]; exact hn) (fun j _ => by rw [e75]) hz2 (wm t1)
      have g0 : t1[t.length + 1]? = some (.inr (.inr (7, [.inr (.inl (some (87 + t.length)))]))) := by
        rw [← ht1, List.getElem?_append_right (by simp)]; simp
      have g1 : t1[t.length]? = some (.inl (yy_R c (m1 60))) := by
        rw [← ht1, List.getElem?_append_left (by simp), List.getElem?_append_right (Nat.le_refl _), Nat.sub_self]; rfl
      have hI1 : yy_I t1 m := yy_I_t (fun a x hx => by
        have ha := (List.getElem?_eq_some_iff.mp hx).1
        rw [← ht1, List.getElem?_append_left (by simp; omega), List.getElem?_append_left ha]; exact hx) hI
      have x0 : ∀ v, v < 2 → yy_TX t1 (m 75) v (m 5 v) := fun v hv => by
        rcases (show v = 0 ∨ v = 1 by omega) with e | e <;> subst e
        · exact hI1.2.1.2.1
        · exact hI1.2.1.2.2
      rw [e75] at k3
      have tn : sg_tn (m2 75) u = c := k5
      have m5 : m2 5 = yy_u (m 5) u (((87 + (t.length + 1) : Nat) : Int) + 1) := by rw [k1 5 (by decide) (by decide) (by decide), f5]
      have hI2 : yy_I t1 (yy_c m2 74 (m 74)) := by
        have c75 : yy_c m2 74 (m 74) 75 = m2 75 := yy_c_ne (by decide)
        have c5 : yy_c m2 74 (m 74) 5 = m2 5 := yy_c_ne (by decide)
        refine yy_I_tx hI1 (fun v hv => ?_) (fun v hv => ?_) ?_ ?_ (fun k hk => ?_) (fun x hx a b e f => ?_)
        · rw [c75]
          by_cases e : v = u
          · subst e; exact tp_sgT ⟨by omega, hc⟩ k5 k6 (by omega) (fun j hj => a6 j (by omega) hj)
          · exact sg_T_x (fun k h1 h2 => k3 k (by omega) (by omega)) (t0 v hv)
        · rw [c75, c5, m5]
          by_cases e : v = u
          · subst e
            rw [yy_u_eq]
            refine Or.inr ⟨by rw [tn]; omega, t.length + 1, t.length, yy_d_s, g0, ?_⟩
            rw [g1, tn, Int.toNat_natCast]
            refine congrArg (fun l => some (Sum.inl l)) (yy_R_congr fun j hj => ?_)
            rw [f60 j hj]
            have q1 : sg_tw (m2 75) v j = (g j).1 := (k6 j hj).1
            have q2 : sg_tv (m2 75) v j = (g j).2 := (k6 j hj).2
            unfold tp_sg sg_sg
            rw [q1, q2]
          · rw [yy_u_ne e]; exact yy_TX_x (fun k h1 h2 => k3 k (by omega) (by omega)) (t0 v hv).1.2 (x0 v hv)
        · rw [c75]; exact sg_D_t k4 (fun k a b => k3 k a (by omega)) hD
        · have := yy_DR_t (m := m) (m' := m2) (by rw [k1 35 (by decide) (by decide) (by decide), f35]) (by rw [k1 36 (by decide) (by decide) (by decide), f1 36 (by decide) (by decide) (by decide) (by decide)]) (by rw [k1 37 (by decide) (by decide) (by decide), f1 37 (by decide) (by decide) (by decide) (by decide)]) k4 (fun k a b => k3 k a (by omega)) hR
          rw [c75]
          exact yy_DR_r (fun x hx => yy_c_ne (by omega)) this
        · rw [c75, k3 k (by omega) (by omega)]
        · unfold yy_no at a
          by_cases q : x = 74
          · subst q; exact yy_c_eq
          · rw [yy_c_ne q, k1 x q f (by omega), f1 x (by omega) (by omega) (by omega) e]
      refine ⟨1, m1, t1, 1, m2, X1, X2, yy_I_74 hI2 (fun q a b c e => by rw [k2 q a b c e, e74]), ?_, ?_, ?_, fun _ => rfl⟩
      · rw [← ht1]; simp
      · rw [← ht1]; unfold xm_sz; simp [xm_szC, yy_R_len]; omega
      · rw [k1 0 (by decide) (by decide) (by decide), f1 0 (by decide) (by decide) (by decide) (by decide)]; omega
    · obtain ⟨m1, X1, f1, f35⟩ := c_111F (sc := sc) (d := 47) (t := t) hu hn60 h35 h36 hok hz wc
      have e75 : m1 75 = m 75 := f1 75 (by decide) (by decide) (by decide)
      have e74 : m1 74 = m 74 := f1 74 (by decide) (by decide) (by decide)
      obtain ⟨m2, X2, k1, k2, k3⟩ := c_1126f (sc := sc) (d := 48) (t := t) (m := m1) hu hT (by rw [e75]; exact hn) (fun j _ => by rw [e75]) hok hz (wm t)
      rw [e75] at k3
      have o : ∀ k, k ≠ 4 → m2 75 k = m 75 k := fun k hk => by rw [k3, yy_u_ne hk]
      have o4 : m2 75 4 = 0 := by rw [k3, yy_u_eq]
      have hI2 : yy_I t (yy_c m2 74 (m 74)) := by
        have c75 : yy_c m2 74 (m 74) 75 = m2 75 := yy_c_ne (by decide)
        refine yy_I_dk hI (fun x hx a b e => ?_) (fun k hk => ?_) ?_ ?_
        · unfold yy_no at a
          by_cases q : x = 74
          · subst q; exact yy_c_eq
          · rw [yy_c_ne q, k1 x q e (by omega), f1 x (by omega) (by omega) (by omega)]
        · rw [c75, o k (by omega)]
        · rw [c75]; exact sg_D_t o4 (fun k a b => o k a) hD
        · have := yy_DR_t (m := m) (m' := m2) (by rw [k1 35 (by decide) (by decide) (by decide), f35]) (by rw [k1 36 (by decide) (by decide) (by decide), f1 36 (by decide) (by decide) (by decide)]) (by rw [k1 37 (by decide) (by decide) (by decide), f1 37 (by decide) (by decide) (by decide)]) o4 (fun k a b => o k a) hR
          rw [c75]
          exact yy_DR_r (fun x hx => yy_c_ne (by omega)) this
      exact yy_Ao X1 X2 (yy_I_74 hI2 (fun q a b c e => by rw [k2 q a b c e, e74])) (by rw [k1 0 (by decide) (by decide) (by decide), f1 0 (by decide) (by decide) (by decide)]) rfl
  · exact r_111 hI h
