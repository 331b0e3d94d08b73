/-! TEXTS read: both sides come to the same -/
set_option maxRecDepth 20000 in
theorem tp_lv_0 {z : Int} : tp_lv z = 0 ↔ z = 124 := by
  unfold tp_lv; repeat' split
  all_goals omega
set_option maxRecDepth 20000 in
theorem tp_lv_1 {z : Int} : tp_lv z = 1 ↔ z = 38 := by
  unfold tp_lv; repeat' split
  all_goals omega
set_option maxRecDepth 20000 in
theorem tp_lv_2 {z : Int} : tp_lv z = 2 ↔ (z = 60 ∨ z = 61 ∨ z = 62) := by
  unfold tp_lv; repeat' split
  all_goals omega
set_option maxRecDepth 20000 in
theorem tp_lv_3 {z : Int} : tp_lv z = 3 ↔ (z = 43 ∨ z = 45) := by
  unfold tp_lv; repeat' split
  all_goals omega
set_option maxRecDepth 20000 in
theorem tp_lv_4 {z : Int} : tp_lv z = 4 ↔ (z = 42 ∨ z = 47 ∨ z = 37) := by
  unfold tp_lv; repeat' split
  all_goals omega
set_option maxRecDepth 20000 in
theorem tp_lv_s {z l : Int} (h : tp_lv z = l) (hl : 0 ≤ l) : sp_sign z := by
  subst h
  unfold tp_lv at hl
  unfold sp_sign
  repeat' split at hl
  all_goals omega
set_option maxRecDepth 20000 in
theorem tp_tok_eq {u j : Nat} {g g' : Nat → Int × Int} (h : ∀ i, i ≤ j → g' i = g i) (ht : tp_tok u g j) : tp_tok u g' j := by
  unfold tp_tok at ht ⊢
  rw [h j (Nat.le_refl j), tp_d_eq j (fun i hi => h i (by omega))]; exact ht
def tp_V (u n p c : Nat) (g : Nat → Int × Int) (ok : Int) (p' c' : Nat) (g' : Nat → Int × Int) : Prop := p ≤ p' ∧ p' ≤ n ∧ (ok = 0 ∨ (ok = 1 ∧ p < p' ∧ c < c' ∧ c' + p ≤ p' + c ∧ (∀ j, j < c → g' j = g j) ∧ tp_d g' c' = tp_d g c + 1 ∧ ∀ j, c ≤ j → j < c' → tp_tok u g' j))
def tp_VE (u n p c : Nat) (g : Nat → Int × Int) (ok : Int) (p' c' : Nat) (g' : Nat → Int × Int) : Prop := p ≤ p' ∧ p' ≤ n ∧ (ok = 0 ∨ (ok = 1 ∧ c ≤ c' ∧ c' + p ≤ p' + c ∧ (∀ j, j < c → g' j = g j) ∧ tp_d g' c' = tp_d g c ∧ ∀ j, c ≤ j → j < c' → tp_tok u g' j))
set_option maxRecDepth 20000 in
theorem tp_V_ok {u n p c : Nat} {g : Nat → Int × Int} {ok : Int} {p' c' : Nat} {g' : Nat → Int × Int} (h : tp_V u n p c g ok p' c' g') : ok = 0 ∨ ok = 1 := by
  rcases h.2.2 with e | e
  · exact Or.inl e
  · exact Or.inr e.1
set_option maxRecDepth 20000 in
theorem tp_VE_ok {u n p c : Nat} {g : Nat → Int × Int} {ok : Int} {p' c' : Nat} {g' : Nat → Int × Int} (h : tp_VE u n p c g ok p' c' g') : ok = 0 ∨ ok = 1 := by
  rcases h.2.2 with e | e
  · exact Or.inl e
  · exact Or.inr e.1
/- one more step behind what stands -/
set_option maxRecDepth 20000 in
theorem tp_d_u {g : Nat → Int × Int} {c : Nat} {x : Int × Int} : tp_d (tp_u g c x) (c + 1) = tp_d g c + (if x.1 = 0 ∨ x.1 = 1 then 1 else if x.1 = 2 then 0 else -1) := by
  show tp_d (tp_u g c x) c + _ = _
  rw [tp_u_eq, tp_d_eq c (fun j hj => tp_u_ne (by omega))]
set_option maxRecDepth 20000 in
theorem tp_d_3 {g : Nat → Int × Int} {c : Nat} {z : Int} : tp_d (tp_u g c (3, z)) (c + 1) = tp_d g c - 1 := by
  rw [tp_d_u]
  show tp_d g c + (if (3 : Int) = 0 ∨ (3 : Int) = 1 then 1 else if (3 : Int) = 2 then 0 else -1) = _
  rw [if_neg (by decide), if_neg (by decide)]; omega
set_option maxRecDepth 20000 in
theorem tp_tk_u {u c : Nat} {g : Nat → Int × Int} {x : Int × Int} (h : (x.1 = 0 ∧ 0 ≤ x.2 ∧ x.2 ≤ 9999) ∨ (x.1 = 1 ∧ sg_nm u x.2) ∨ (x.1 = 2 ∧ 1 ≤ tp_d g c) ∨ (x.1 = 3 ∧ 2 ≤ tp_d g c ∧ sp_sign x.2)) : tp_tok u (tp_u g c x) c := by
  unfold tp_tok
  rw [tp_u_eq, tp_d_eq c (fun j hj => tp_u_ne (by omega))]; exact h
def tp_P (sc : List Int) (t : xm_W) (u n : Nat) (T : Nat → Int) (k : Int) (N : Nat) (mc : Nat) (as : List xm_V) (mm : Nat) : Prop := ∀ (p c : Nat) (g : Nat → Int × Int), p ≤ n → c ≤ p → 0 ≤ tp_d g c → ∃ ok p' c' g', tp_V u n p c g ok p' c' g' ∧ tp_C sc t u n T N mc as p c g ok p' c' g' ∧ ∀ t2 : xm_W, tp_M sc t2 u n T k N mm p c g ok p' c' g'
set_option maxRecDepth 20000 in
theorem tp_P_up {sc : List Int} {t : xm_W} {u n : Nat} {T : Nat → Int} {k : Int} {N N' : Nat} {mc : Nat} {as : List xm_V} {mm : Nat} (hn : N ≤ N') (h : tp_P sc t u n T k N mc as mm) : tp_P sc t u n T k N' mc as mm := fun p c g a b e => by
  obtain ⟨ok, p', c', g', v, x, y⟩ := h p c g a b e
  exact ⟨ok, p', c', g', v, tp_C_up hn x, fun t2 => tp_M_up hn (y t2)⟩
set_option maxRecDepth 20000 in
theorem tp_lev {sc : List Int} {t : xm_W} {u n : Nat} {T : Nat → Int} {k l : Int} {N me me' : Nat} {cd : List xm_I} {L : Option xm_V → List (Option xm_V)} (hT : tp_T n T) (hl : 0 ≤ l ∧ l ≤ 4) (hl2 : l ≠ 2)
  (Rend : ∀ (t2 : xm_W) p c g, (p < n → tp_lv (T p) ≠ l) → tp_ME sc t2 u n T k (N + 1) cd L p c g 1 p c g)
  (R0 : ∀ (t2 : xm_W) p c g p1 c1 g1, p < n → tp_lv (T p) = l → tp_M sc t2 u n T k (N + 1) me' (p + 1) c g 0 p1 c1 g1 → tp_ME sc t2 u n T k (N + 1) cd L p c g 0 p1 c1 g1)
  (R1 : ∀ (t2 : xm_W) p c g p1 c1 g1 ok p2 c2 g2, p < n → tp_lv (T p) = l → c1 < 60 → tp_M sc t2 u n T k (N + 1) me' (p + 1) c g 1 p1 c1 g1 → tp_ME sc t2 u n T k (N + 1) cd L p1 (c1 + 1) (tp_u g1 c1 (3, T p)) ok p2 c2 g2 → tp_ME sc t2 u n T k (N + 1) cd L p c g ok p2 c2 g2)
  (S0 : ∀ (t2 : xm_W) p c g p1 c1 g1, tp_M sc t2 u n T k (N + 1) me' p c g 0 p1 c1 g1 → tp_M sc t2 u n T k (N + 2) me p c g 0 p1 c1 g1)
  (S1 : ∀ (t2 : xm_W) p c g p1 c1 g1 ok p2 c2 g2, (ok = 0 ∨ ok = 1) → tp_M sc t2 u n T k (N + 1) me' p c g 1 p1 c1 g1 → tp_ME sc t2 u n T k (N + 1) cd L p1 c1 g1 ok p2 c2 g2 → tp_M sc t2 u n T k (N + 2) me p c g ok p2 c2 g2)
  (w : tp_P sc t u n T k (N + 1) 504 [.inr (.inl (some 58)), .inl (l + 1), .inl k] me') : tp_P sc t u n T k (N + 2) 504 [.inr (.inl (some 58)), .inl l, .inl k] me := by
  have hn := hT.1
  have loop : ∀ (f p c : Nat) (g : Nat → Int × Int), n - p ≤ f → p ≤ n → c ≤ p → 1 ≤ tp_d g c → ∃ ok p' c' g', tp_VE u n p c g ok p' c' g' ∧ tp_CE sc t u n T (N + 1) l k p c g ok p' c' g' ∧ ∀ t2 : xm_W, tp_ME sc t2 u n T k (N + 1) cd L p c g ok p' c' g' := by
    intro f
    induction f with
    | zero =>
      intro p c g hf hp hc hd
      exact ⟨1, p, c, g, ⟨Nat.le_refl p, hp, Or.inr ⟨rfl, Nat.le_refl c, by omega, fun _ _ => rfl, rfl, fun j a b => by omega⟩⟩, tp_e_end hT (fun h => by omega), fun t2 => Rend t2 p c g (fun h => by omega)⟩
    | succ f ih =>
      intro p c g hf hp hc hd
      by_cases h : p < n ∧ tp_lv (T p) = l
      · obtain ⟨ok, p1, c1, g1, ⟨v1, v2, v3⟩, x, y⟩ := w (p + 1) c g (by omega) (by omega) (by omega)
        rcases v3 with e | ⟨e, a1, a2, a3, a4, a5, a6⟩
        · subst e
          exact ⟨0, p1, c1, g1, ⟨by omega, v2, Or.inl rfl⟩, tp_e_0 hT h.1 h.2 hl x, fun t2 => R0 t2 _ _ _ _ _ _ h.1 h.2 (y t2)⟩
        · subst e
          have hd2 := tp_d_3 (g := g1) (c := c1) (z := T p)
          obtain ⟨ok2, p2, c2, g2, ⟨b1, b2, b3⟩, x2, y2⟩ := ih p1 (c1 + 1) (tp_u g1 c1 (3, T p)) (by omega) v2 (by omega) (by omega)
          refine ⟨ok2, p2, c2, g2, ⟨by omega, b2, ?_⟩, tp_e_1 hT h.1 h.2 hl hl2 (by omega) x x2, fun t2 => R1 t2 _ _ _ _ _ _ _ _ _ _ h.1 h.2 (by omega) (y t2) (y2 t2)⟩
          rcases b3 with e | ⟨e, k1, k2, k3, k4, k5⟩
          · exact Or.inl e
          · have q1 : ∀ j, j < c1 → g2 j = g1 j := fun j hj => by rw [k3 j (by omega), tp_u_ne (by omega)]
            refine Or.inr ⟨e, by omega, by omega, fun j hj => by rw [q1 j (by omega), a4 j hj], by omega, fun j j1 j2 => ?_⟩
            rcases Nat.lt_trichotomy j c1 with z | z | z
            · exact tp_tok_eq (fun i hi => q1 i (by omega)) (a6 j j1 z)
            · subst z
              exact tp_tok_eq (fun i hi => k3 i (by omega)) (tp_tk_u (Or.inr (Or.inr (Or.inr ⟨rfl, by omega, tp_lv_s h.2 hl.1⟩))))
            · exact k5 j (by omega) j2
      · exact ⟨1, p, c, g, ⟨Nat.le_refl p, hp, Or.inr ⟨rfl, Nat.le_refl c, by omega, fun _ _ => rfl, rfl, fun j a b => by omega⟩⟩, tp_e_end hT (fun h1 e => h ⟨h1, e⟩), fun t2 => Rend t2 p c g (fun h1 e => h ⟨h1, e⟩)⟩
  intro p c g hp hc hd
  obtain ⟨ok, p1, c1, g1, ⟨v1, v2, v3⟩, x, y⟩ := w p c g hp hc hd
  rcases v3 with e | ⟨e, a1, a2, a3, a4, a5, a6⟩
  · subst e
    exact ⟨0, p1, c1, g1, ⟨v1, v2, Or.inl rfl⟩, tp_l0 hl x, fun t2 => S0 t2 _ _ _ _ _ _ (y t2)⟩
  · subst e
    obtain ⟨ok2, p2, c2, g2, hv, x2, y2⟩ := loop (n - p1) p1 c1 g1 (Nat.le_refl _) v2 (by omega) (by omega)
    have hok := tp_VE_ok hv
    obtain ⟨b1, b2, b3⟩ := hv
    refine ⟨ok2, p2, c2, g2, ⟨by omega, b2, ?_⟩, tp_l1 hl hok x x2, fun t2 => S1 t2 _ _ _ _ _ _ _ _ _ _ hok (y t2) (y2 t2)⟩
    rcases b3 with e | ⟨e, k1, k2, k3, k4, k5⟩
    · exact Or.inl e
    · refine Or.inr ⟨e, by omega, by omega, by omega, fun j hj => by rw [k3 j (by omega), a4 j hj], by omega, fun j j1 j2 => ?_⟩
      by_cases z : j < c1
      · exact tp_tok_eq (fun i hi => k3 i (by omega)) (a6 j j1 z)
      · exact k5 j (by omega) j2
set_option maxRecDepth 20000 in
theorem tp_lev2 {sc : List Int} {t : xm_W} {u n : Nat} {T : Nat → Int} {k : Int} {N : Nat} (hT : tp_T n T) (w : tp_P sc t u n T k (N + 1) 504 [.inr (.inl (some 58)), .inl 3, .inl k] 1121) : tp_P sc t u n T k (N + 2) 504 [.inr (.inl (some 58)), .inl 2, .inl k] 1120 := by
  have hn := hT.1
  intro p c g hp hc hd
  obtain ⟨ok, p1, c1, g1, ⟨v1, v2, v3⟩, x, y⟩ := w p c g hp hc hd
  rcases v3 with e | ⟨e, a1, a2, a3, a4, a5, a6⟩
  · subst e
    exact ⟨0, p1, c1, g1, ⟨v1, v2, Or.inl rfl⟩, tp_l0 (by decide) x, fun t2 => tm_1120_0 (y t2)⟩
  · subst e
    by_cases h : p1 < n ∧ tp_lv (T p1) = 2
    · have hz := tp_lv_2.mp h.2
      obtain ⟨ok2, p2, c2, g2, ⟨b1, b2, b3⟩, x2, y2⟩ := w (p1 + 1) c1 g1 (by omega) (by omega) (by omega)
      rcases b3 with e | ⟨e, k1, k2, k3, k4, k5, k6⟩
      · subst e
        exact ⟨0, p2, c2, g2, ⟨by omega, b2, Or.inl rfl⟩, tp_l1 (by decide) (Or.inl rfl) x (tp_e_0 hT h.1 h.2 (by decide) x2), fun t2 => tm_1120_e0 hT (y t2) h.1 hz (y2 t2)⟩
      · subst e
        have hd2 := tp_d_3 (g := g2) (c := c2) (z := T p1)
        refine ⟨1, p2, c2 + 1, tp_u g2 c2 (3, T p1), ⟨by omega, b2, Or.inr ⟨rfl, by omega, by omega, by omega, fun j hj => by rw [tp_u_ne (by omega), k4 j (by omega), a4 j hj], by omega, fun j j1 j2 => ?_⟩⟩, tp_l1 (by decide) (Or.inr rfl) x (tp_e_2 hT h.1 h.2 (by omega) x2), fun t2 => tm_1120_e1 hT (y t2) h.1 hz (by omega) (y2 t2)⟩
        rcases Nat.lt_trichotomy j c2 with z | z | z
        · refine tp_tok_eq (fun i hi => tp_u_ne (by omega)) ?_
          by_cases z1 : j < c1
          · exact tp_tok_eq (fun i hi => k4 i (by omega)) (a6 j j1 z1)
          · exact k6 j (by omega) z
        · subst z
          exact tp_tk_u (Or.inr (Or.inr (Or.inr ⟨rfl, by omega, tp_lv_s h.2 (by decide)⟩)))
        · omega
    · have el : ¬ (60 ≤ tp_lk n T p1 ∧ tp_lk n T p1 ≤ 62) := by
        unfold tp_lk
        by_cases h1 : p1 < n
        · rw [if_pos h1]; exact fun q => h ⟨h1, tp_lv_2.mpr (by omega)⟩
        · rw [if_neg h1]; decide
      exact ⟨1, p1, c1, g1, ⟨v1, v2, Or.inr ⟨rfl, a1, a2, a3, a4, a5, a6⟩⟩, tp_l1 (by decide) (Or.inr rfl) x (tp_e_end hT (fun h1 e => h ⟨h1, e⟩)), fun t2 => tm_1120_end hT (y t2) el⟩
set_option maxRecDepth 20000 in
theorem tp_lk_ne {n p : Nat} {T : Nat → Int} {z l : Int} (hz : tp_lv z = l) (h0 : z ≠ -1) (h : p < n → tp_lv (T p) ≠ l) : ¬ tp_lk n T p = z := by
  unfold tp_lk
  by_cases h1 : p < n
  · rw [if_pos h1]; exact fun e => h h1 (by rw [e]; exact hz)
  · rw [if_neg h1]; exact fun e => h0 e.symm
set_option maxRecDepth 20000 in
theorem tp_zero {sc : List Int} {t : xm_W} {u n : Nat} {T : Nat → Int} {k : Int} {N : Nat} (hT : tp_T n T) (w : tp_P sc t u n T k N 505 [.inr (.inl (some 58)), .inl k] 1124) : tp_P sc t u n T k (N + 6) 504 [.inr (.inl (some 58)), .inl 0, .inl k] 1118 := by
  have w5 : tp_P sc t u n T k (N + 1) 504 [.inr (.inl (some 58)), .inl 5, .inl k] 1124 := fun p c g a b e => by
    obtain ⟨ok, p', c', g', v, x, y⟩ := w p c g a b e
    exact ⟨ok, p', c', g', v, tp_5 (tp_V_ok v) x, fun t2 => tp_M_up (by omega) (y t2)⟩
  have w4 := tp_lev (me := 1122) (me' := 1124) (l := 4) (cd := xm_c1122) (L := tp_L2) hT (by decide) (by decide)
    (fun t2 p c g h => tm_1122_end hT (fun e => by
      rcases e with e | e | e
      · exact tp_lk_ne (l := 4) (by rfl) (by decide) h e
      · exact tp_lk_ne (l := 4) (by rfl) (by decide) h e
      · exact tp_lk_ne (l := 4) (by rfl) (by decide) h e))
    (fun t2 p c g p1 c1 g1 h1 h2 y => tm_1122_e0 hT h1 (tp_lv_4.mp h2) y)
    (fun t2 p c g p1 c1 g1 ok p2 c2 g2 h1 h2 h3 y y2 => tm_1122_e1 hT h1 (tp_lv_4.mp h2) h3 y y2)
    (fun t2 p c g p1 c1 g1 y => tm_1122_0 y)
    (fun t2 p c g p1 c1 g1 ok p2 c2 g2 ho y y2 => tm_1122_1 ho y y2) w5
  have w3 := tp_lev (me := 1121) (me' := 1122) (l := 3) (cd := xm_c1121) (L := tp_L2) hT (by decide) (by decide)
    (fun t2 p c g h => tm_1121_end hT (fun e => by
      rcases e with e | e
      · exact tp_lk_ne (l := 3) (by rfl) (by decide) h e
      · exact tp_lk_ne (l := 3) (by rfl) (by decide) h e))
    (fun t2 p c g p1 c1 g1 h1 h2 y => tm_1121_e0 hT h1 (tp_lv_3.mp h2) y)
    (fun t2 p c g p1 c1 g1 ok p2 c2 g2 h1 h2 h3 y y2 => tm_1121_e1 hT h1 (tp_lv_3.mp h2) h3 y y2)
    (fun t2 p c g p1 c1 g1 y => tm_1121_0 y)
    (fun t2 p c g p1 c1 g1 ok p2 c2 g2 ho y y2 => tm_1121_1 ho y y2) w4
  have w2 := tp_lev2 hT w3
  have w1 := tp_lev (me := 1119) (me' := 1120) (l := 1) (cd := xm_c1119) (L := tp_L1) hT (by decide) (by decide)
    (fun t2 p c g h => tm_1119_end hT (tp_lk_ne (l := 1) (by rfl) (by decide) h))
    (fun t2 p c g p1 c1 g1 h1 h2 y => tm_1119_e0 hT h1 (tp_lv_1.mp h2) y)
    (fun t2 p c g p1 c1 g1 ok p2 c2 g2 h1 h2 h3 y y2 => tm_1119_e1 hT h1 (tp_lv_1.mp h2) h3 y y2)
    (fun t2 p c g p1 c1 g1 y => tm_1119_0 y)
    (fun t2 p c g p1 c1 g1 ok p2 c2 g2 ho y y2 => tm_1119_1 ho y y2) w2
  exact tp_lev (me := 1118) (me' := 1119) (l := 0) (cd := xm_c1118) (L := tp_L1) hT (by decide) (by decide)
    (fun t2 p c g h => tm_1118_end hT (tp_lk_ne (l := 0) (by rfl) (by decide) h))
    (fun t2 p c g p1 c1 g1 h1 h2 y => tm_1118_e0 hT h1 (tp_lv_0.mp h2) y)
    (fun t2 p c g p1 c1 g1 ok p2 c2 g2 h1 h2 h3 y y2 => tm_1118_e1 hT h1 (tp_lv_0.mp h2) h3 y y2)
    (fun t2 p c g p1 c1 g1 y => tm_1118_0 y)
    (fun t2 p c g p1 c1 g1 ok p2 c2 g2 ho y y2 => tm_1118_1 ho y y2) w1
set_option maxRecDepth 20000 in
theorem tp_five {sc : List Int} {t : xm_W} {u n : Nat} {T : Nat → Int} {k : Int} {N : Nat} (ht : t.length < 900000) (hu : u < 2) (hT : tp_T n T) (hk : 0 ≤ k ∧ k ≤ 5) (h5 : k < 5 → tp_P sc t u n T (k + 1) (N + 3) 505 [.inr (.inl (some 58)), .inl (k + 1)] 1124) (h0 : k < 5 → tp_P sc t u n T (k + 1) (N + 3) 504 [.inr (.inl (some 58)), .inl 0, .inl (k + 1)] 1118) : tp_P sc t u n T k (N + 5) 505 [.inr (.inl (some 58)), .inl k] 1124 := by
  have hn := hT.1
  intro p c g hp hc hd
  by_cases h1 : p < n
  · by_cases hz : sg_nm u (T p)
    · have e := tp_d_u (g := g) (c := c) (x := (1, T p))
      rw [if_pos (Or.inr rfl)] at e
      refine ⟨1, p + 1, c + 1, tp_u g c (1, T p), ⟨by omega, by omega, Or.inr ⟨rfl, by omega, by omega, by omega, fun j hj => tp_u_ne (by omega), e, fun j j1 j2 => ?_⟩⟩, tp_C_up (by omega) (tp_nam ht hu hT h1 hc hz), fun t2 => tp_M_up (by omega) (tm_nam hT h1 hc hz)⟩
      have ej : j = c := by omega
      subst ej
      exact tp_tk_u (Or.inr (Or.inl ⟨rfl, hz⟩))
    · by_cases hg : 48 ≤ T p ∧ T p ≤ 57
      · have e := tp_d_u (g := g) (c := c) (x := (0, (tp_nu n T 4 p 0).1))
        rw [if_pos (Or.inl rfl)] at e
        have b := tp_nu_b (n := n) (T := T) 4 p 0 (by omega) hp (by decide)
        have b2 : p + 1 ≤ (tp_nu n T 4 p 0).2 := by
          have e4 : tp_nu n T 4 p 0 = tp_nu n T 3 (p + 1) (10 * 0 + T p - 48) := by
            show (if p < n ∧ 48 ≤ T p ∧ T p ≤ 57 then _ else _) = _
            rw [if_pos ⟨h1, hg⟩]
          rw [e4]
          exact (tp_nu_b (n := n) (T := T) 3 (p + 1) (10 * 0 + T p - 48) (by omega) (by omega) (by unfold tp_B; simp; omega)).2.1
        refine ⟨1, _, c + 1, _, ⟨by omega, by omega, Or.inr ⟨rfl, by omega, by omega, by omega, fun j hj => tp_u_ne (by omega), e, fun j j1 j2 => ?_⟩⟩, tp_C_up (by omega) (tp_num hT h1 hc hg), fun t2 => tp_M_up (by omega) (tm_num hT h1 hc hg)⟩
        have ej : j = c := by omega
        subst ej
        exact tp_tk_u (Or.inl ⟨rfl, b.1.1, b.1.2⟩)
      · by_cases h3 : T p = 33 ∧ k < 5
        · obtain ⟨ok, p1, c1, g1, hv, x, y⟩ := h5 h3.2 (p + 1) c g (by omega) (by omega) hd
          have hok := tp_V_ok hv
          obtain ⟨v1, v2, v3⟩ := hv
          have hc1 : ok = 1 → c1 < 60 := fun e => by rcases v3 with q | q <;> omega
          refine ⟨ok, p1, c1 + 1, tp_u g1 c1 (2, 0), ⟨by omega, v2, ?_⟩, tp_not ht hu hT h1 h3.1 ⟨hk.1, h3.2⟩ hc1 hok x, fun t2 => tp_M_up (by omega) (tm_not (N := N + 2) hT h1 h3.1 ⟨hk.1, h3.2⟩ hc1 hok (y t2))⟩
          rcases v3 with q | ⟨q, a1, a2, a3, a4, a5, a6⟩
          · exact Or.inl q
          · have e := tp_d_u (g := g1) (c := c1) (x := (2, 0))
            rw [if_neg (show ¬ ((2 : Int) = 0 ∨ (2 : Int) = 1) by decide), if_pos rfl] at e
            refine Or.inr ⟨q, by omega, by omega, by omega, fun j hj => by rw [tp_u_ne (by omega), a4 j hj], by omega, fun j j1 j2 => ?_⟩
            by_cases z : j < c1
            · exact tp_tok_eq (fun i hi => tp_u_ne (by omega)) (a6 j j1 z)
            · have ej : j = c1 := by omega
              subst ej
              exact tp_tk_u (Or.inr (Or.inr (Or.inl ⟨rfl, by omega⟩)))
        · by_cases h4 : T p = 40 ∧ k < 5
          · obtain ⟨ok, p1, c1, g1, hv, x, y⟩ := h0 h4.2 (p + 1) c g (by omega) (by omega) hd
            have hok := tp_V_ok hv
            obtain ⟨v1, v2, v3⟩ := hv
            refine ⟨_, _, c1, g1, ?_, tp_opn ht hu hT h1 h4.1 ⟨hk.1, h4.2⟩ v2 hok x, fun t2 => tp_M_up (by omega) (tm_opn (N := N + 2) hT h1 h4.1 ⟨hk.1, h4.2⟩ v2 hok (y t2))⟩
            by_cases z : ok = 1 ∧ p1 < n ∧ T p1 = 41
            · rw [if_pos z, if_pos z]
              rcases v3 with q | ⟨q, a1, a2, a3, a4, a5, a6⟩
              · omega
              · exact ⟨by omega, by omega, Or.inr ⟨rfl, by omega, a2, by omega, a4, a5, a6⟩⟩
            · rw [if_neg z, if_neg z]
              exact ⟨by omega, v2, Or.inl rfl⟩
          · exact ⟨0, p, c, g, ⟨Nat.le_refl p, hp, Or.inl rfl⟩, tp_C_up (by omega) (tp_bad ht hu hT h1 hz hg (by omega)), fun t2 => tp_M_up (by omega) (tm_bad hT h1 hz hg (by omega))⟩
  · exact ⟨0, p, c, g, ⟨Nat.le_refl p, hp, Or.inl rfl⟩, tp_C_up (by omega) (tp_end (by omega)), fun t2 => tp_M_up (by omega) (tm_end hT (by omega))⟩
set_option maxRecDepth 20000 in
theorem tp_all {sc : List Int} {t : xm_W} {u n : Nat} {T : Nat → Int} (ht : t.length < 900000) (hu : u < 2) (hT : tp_T n T) : ∀ (f : Nat) (k : Int), k + f = 5 → 0 ≤ k → tp_P sc t u n T k (5 + 8 * f) 505 [.inr (.inl (some 58)), .inl k] 1124
  | 0, k, hk, h0 => tp_five (N := 0) ht hu hT (by omega) (fun h => by omega) (fun h => by omega)
  | f + 1, k, hk, h0 => by
    have h := tp_all (sc := sc) (t := t) ht hu hT f (k + 1) (by omega) (by omega)
    have := tp_five (sc := sc) (t := t) (N := 8 * f + 8) ht hu hT (k := k) (by omega) (fun _ => tp_P_up (by omega) h) (fun _ => tp_P_up (by omega) (tp_zero hT h))
    rw [show 5 + 8 * (f + 1) = 8 * f + 8 + 5 by omega]
    exact this
set_option maxRecDepth 20000 in
theorem tp_top {sc : List Int} {t : xm_W} {u n : Nat} {T : Nat → Int} (ht : t.length < 900000) (hu : u < 2) (hT : tp_T n T) : tp_P sc t u n T 0 51 504 [.inr (.inl (some 58)), .inl 0, .inl 0] 1118 := tp_zero (N := 45) hT (tp_all ht hu hT 5 0 (by decide) (by decide))
