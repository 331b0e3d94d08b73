/-! KINDS: the reference -/
def sg_kc (s : Nat → Int) (r : Nat) (kd a : Int) : Nat → Int := yy_u (yy_u s (44 + 18 * r) kd) (46 + 18 * r) a
set_option maxRecDepth 20000 in
theorem sg_kc_o {s : Nat → Int} {r k : Nat} {kd a : Int} (h1 : k ≠ 44 + 18 * r) (h2 : k ≠ 46 + 18 * r) : sg_kc s r kd a k = s k := by unfold sg_kc; rw [yy_u_ne h2, yy_u_ne h1]
set_option maxRecDepth 20000 in
theorem sg_kc_0 {s : Nat → Int} {r : Nat} {kd a : Int} : sg_kc s r kd a (44 + 18 * r) = kd := by unfold sg_kc; rw [yy_u_ne (by omega), yy_u_eq]
set_option maxRecDepth 20000 in
theorem sg_kc_2 {s : Nat → Int} {r : Nat} {kd a : Int} : sg_kc s r kd a (46 + 18 * r) = a := yy_u_eq
set_option maxRecDepth 20000 in
theorem sg_kc_u {s : Nat → Int} {r : Nat} {kd a v : Int} : yy_u (sg_kc s r kd a) (46 + 18 * r) v = sg_kc s r kd v := by
  funext k
  unfold sg_kc
  by_cases e : k = 46 + 18 * r
  · subst e; rw [yy_u_eq, yy_u_eq]
  · rw [yy_u_ne e, yy_u_ne e, yy_u_ne e]
set_option maxRecDepth 20000 in
theorem sg_kc_b {s : Nat → Int} {r : Nat} {kd a : Int} : yy_u (yy_u (sg_kc s r kd a) (44 + 18 * r) (s (44 + 18 * r))) (46 + 18 * r) (s (46 + 18 * r)) = s := by
  funext k
  by_cases e : k = 46 + 18 * r
  · subst e; rw [yy_u_eq]
  · rw [yy_u_ne e]
    by_cases e2 : k = 44 + 18 * r
    · subst e2; rw [yy_u_eq]
    · rw [yy_u_ne e2, sg_kc_o e2 e]
set_option maxRecDepth 20000 in
theorem sg_kc_R {s : Nat → Int} {r : Nat} {kd a : Int} (hr : r < 5) (hk : 0 ≤ kd ∧ kd ≤ 6) (ha : 0 ≤ a ∧ a ≤ 35) (hR : sg_R s) : sg_R (sg_kc s r kd a) := by
  obtain ⟨b0, b1, b2, b3, b4, b5, b6⟩ := hR.2.2.2.2.2 r hr
  refine sg_R_r hr hR (fun k hk => sg_kc_o (by omega) (by omega)) ?_ ?_ ?_ ?_ ?_ ?_ (fun k hk => ?_)
  · rw [sg_kc_0]; exact hk
  · rw [sg_kc_o (by omega) (by omega)]; exact b1
  · rw [sg_kc_2]; exact ha
  · rw [sg_kc_o (by omega) (by omega)]; exact b3
  · rw [sg_kc_o (by omega) (by omega)]; exact b4
  · rw [sg_kc_o (by omega) (by omega), sg_kc_o (by omega) (by omega)]; exact b5
  · rw [sg_kc_o (by omega) (by omega)]; exact b6 k hk
set_option maxRecDepth 20000 in
theorem l_1175a {sc : List Int} {d : Nat} {t : xm_W} {m : Nat → Nat → Int} {s : Nat → Int} {Q : Option xm_V × xm_W → Prop} {r st : Nat} {kd c0 h own at0 w a nx sh x8 dp : Int} (hP : ∀ i w, sg_p (m 75) i w = sg_p s i w) (e3 : m 75 3 = s 3) (h3 : 0 ≤ s 3 ∧ s 3 ≤ 40) (hr : r < 5) (hd : sg_dp (m 75) r = dp) (d1 : 0 ≤ m 75 (45 + 18 * r) ∧ m 75 (45 + 18 * r) ≤ 9) (d3 : 0 ≤ m 75 (47 + 18 * r) ∧ m 75 (47 + 18 * r) ≤ 99) (hst : 0 ≤ h + st ∧ h + st ≤ 30000) (h8 : x8 = 0 ∨ x8 = 1) : ∀ (n i : Nat), n = sg_N s - i → i ≤ 60 → (∀ t0 : Int, t0 = (if x8 = 1 ∧ sg_pn s r n i < sg_N s ∧ sg_mt s (sg_pn s r n i) a sh dp (h + st) = true then 1 else 0) → xm_EQ (xm_old sc) xm_sta (xm_X (xm_old sc) xm_mt (d + 2)) xm_c1175 132 [some (.inr (.inl (some 74))), some (.inl ((r : Int))), some (.inl (kd)), some (.inl (c0)), some (.inl (h)), some (.inl (own)), some (.inl (at0)), some (.inl ((sg_pn s r n i : Int))), some (.inl (x8)), some (.inl ((st : Int))), some (.inl (w)), some (.inl (a)), some (.inl (nx)), some (.inl (sh))] [.inl (t0)] (yy_W (m) t) Q) → xm_EQ (xm_old sc) xm_sta (xm_X (xm_old sc) xm_mt (d + 2)) xm_c1175 79 [some (.inr (.inl (some 74))), some (.inl ((r : Int))), some (.inl (kd)), some (.inl (c0)), some (.inl (h)), some (.inl (own)), some (.inl (at0)), some (.inl ((i : Int))), some (.inl (x8)), some (.inl ((st : Int))), some (.inl (w)), some (.inl (a)), some (.inl (nx)), some (.inl (sh))] [] (yy_W (m) t) Q
  | 0, i, hn, hi, hQ => by
    have eN : ((sg_N s : Nat) : Int) = s 3 := sg_N_i h3.1
    have e : sg_pn s r 0 i = i := rfl
    have := hQ 0 (by rw [e, if_neg (by omega)])
    rw [e] at this
    refine xb_1175_79 ?_
    rw [zr_74_0, zi_75, zy_at (by decide) (by decide), show (3 : Int).toNat = 3 from rfl, e3, if_neg (by omega)]
    by_cases g : x8 = 0
    · rw [if_pos g]; exact this
    · rw [if_neg g, zr_74_0, zi_75, zy_at (by decide) (by decide), show (3 : Int).toNat = 3 from rfl, e3, if_neg (by omega)]; exact this
  | n + 1, i, hn, hi, hQ => by
    have eN : ((sg_N s : Nat) : Int) = s 3 := sg_N_i h3.1
    rw [sg_pn_s] at hQ
    refine xb_1175_79 ?_
    rw [zr_74_0, zi_75, zy_at (by decide) (by decide), show (3 : Int).toNat = 3 from rfl, e3, if_pos (by omega), oc_1112_4 (d := d + 1) (by omega), hP]
    by_cases g4 : sg_p s i 4 = r
    · rw [if_pos g4] at hQ
      rw [if_pos g4]
      by_cases g : x8 = 0
      · rw [if_pos g]
        exact hQ 0 (by rw [if_neg (by omega)])
      · have g1 : x8 = 1 := h8.resolve_left g
        have bad : sg_mt s i a sh dp (h + st) ≠ true → _ := fun x => hQ 0 (by rw [if_neg (fun y => x y.2.2)])
        rw [if_neg g, zr_74_0, zi_75, zy_at (by decide) (by decide), show (3 : Int).toNat = 3 from rfl, e3, if_pos (by omega), oc_1112_0 (d := d + 1) (by omega), hP]
        by_cases p0 : sg_p s i 0 = a
        · rw [if_pos p0, oc_1112_1 (d := d + 1) (by omega), hP]
          by_cases p1 : sg_p s i 1 = sh
          · rw [if_pos p1, oc_1112_2 (d := d + 1) (by omega), hP, oc_1138 (d := d) hr d1 d3]
            show (if sg_p s i 2 = sg_dp (m 75) r then _ else _)
            rw [hd]
            by_cases p2 : sg_p s i 2 = dp
            · rw [if_pos p2, oc_1112_3 (d := d + 1) (by omega), hP, xm_w_id (by omega) (by omega)]
              by_cases p3 : sg_p s i 3 = h + st
              · rw [if_pos p3]
                exact hQ 1 (by rw [if_pos ⟨g1, by omega, decide_eq_true ⟨p0, p1, p2, p3⟩⟩])
              · rw [if_neg p3]
                exact bad (fun x => p3 (of_decide_eq_true x).2.2.2)
            · rw [if_neg p2]
              exact bad (fun x => p2 (of_decide_eq_true x).2.2.1)
          · rw [if_neg p1]
            exact bad (fun x => p1 (of_decide_eq_true x).2.1)
        · rw [if_neg p0]
          exact bad (fun x => p0 (of_decide_eq_true x).1)
    · rw [if_neg g4] at hQ
      rw [if_neg g4, xm_w_id (by omega) (by omega), show (i : Int) + 1 = ((i + 1 : Nat) : Int) from rfl]
      exact l_1175a hP e3 h3 hr hd d1 d3 hst h8 n (i + 1) (by omega) (by omega) hQ
set_option maxRecDepth 20000 in
theorem l_1175b {sc : List Int} {d : Nat} {t : xm_W} {m : Nat → Nat → Int} {s : Nat → Int} {Q : Option xm_V × xm_W → Prop} {r : Nat} {kd c0 h a x8 x9 : Int} {u10 u11 u12 u13 : Option xm_V} (hr : r < 5) (h75 : m 75 = sg_kc s r kd a) (h3 : 0 ≤ s 3 ∧ s 3 ≤ 40) (h8 : x8 = 0 ∨ x8 = 1) : ∀ (n i : Nat), n = sg_N s - i → i ≤ 60 → Q ((some (.inl (if x8 = 1 ∧ sg_N s ≤ sg_pn s r n i then 1 else 0)), (yy_W (yy_c m 75 s) t))) → xm_EQ (xm_old sc) xm_sta (xm_X (xm_old sc) xm_mt (d + 2)) xm_c1175 146 [some (.inr (.inl (some 74))), some (.inl ((r : Int))), some (.inl (kd)), some (.inl (c0)), some (.inl (h)), some (.inl (s (44 + 18 * r))), some (.inl (s (46 + 18 * r))), some (.inl ((i : Int))), some (.inl (x8)), some (.inl (x9)), u10, u11, u12, u13] [] (yy_W (m) t) Q
  | 0, i, hn, hi, hQ => by
    have eN : ((sg_N s : Nat) : Int) = s 3 := sg_N_i h3.1
    have e : sg_pn s r 0 i = i := rfl
    have e3 : m 75 3 = s 3 := by rw [h75, sg_kc_o (by omega) (by omega)]
    rw [e] at hQ
    refine xb_1175_146 ?_
    rw [zr_74_0, zi_75, zy_at (by decide) (by decide), show (3 : Int).toNat = 3 from rfl, e3, if_neg (by omega), oc_1111_0 (d := d + 1) hr, oc_1111_2 (d := d + 1) hr, yy_c_eq, yy_c_c, h75, sg_kc_b]
    by_cases g : x8 = 0
    · rw [if_neg (by omega)] at hQ
      rw [if_pos g]; exact hQ
    · rw [if_pos ⟨h8.resolve_left g, by omega⟩] at hQ
      rw [if_neg g, zr_74_0, zi_75, zy_at (by decide) (by decide), show (3 : Int).toNat = 3 from rfl, yy_c_eq, if_neg (by omega)]; exact hQ
  | n + 1, i, hn, hi, hQ => by
    have eN : ((sg_N s : Nat) : Int) = s 3 := sg_N_i h3.1
    have e3 : m 75 3 = s 3 := by rw [h75, sg_kc_o (by omega) (by omega)]
    have ep : sg_p (m 75) i 4 = sg_p s i 4 := by rw [h75]; exact sg_kc_o (by omega) (by omega)
    rw [sg_pn_s] at hQ
    refine xb_1175_146 ?_
    rw [zr_74_0, zi_75, zy_at (by decide) (by decide), show (3 : Int).toNat = 3 from rfl, e3, if_pos (by omega), oc_1112_4 (d := d + 1) (by omega), ep]
    by_cases g4 : sg_p s i 4 = r
    · rw [if_pos g4, if_neg (by omega)] at hQ
      rw [if_pos g4, oc_1111_0 (d := d + 1) hr, oc_1111_2 (d := d + 1) hr, yy_c_eq, yy_c_c, h75, sg_kc_b]
      by_cases g : x8 = 0
      · rw [if_pos g]; exact hQ
      · rw [if_neg g, zr_74_0, zi_75, zy_at (by decide) (by decide), show (3 : Int).toNat = 3 from rfl, yy_c_eq, if_pos (by omega)]; exact hQ
    · rw [if_neg g4] at hQ
      rw [if_neg g4, xm_w_id (by omega) (by omega), show (i : Int) + 1 = ((i + 1 : Nat) : Int) from rfl]
      exact l_1175b hr h75 h3 h8 n (i + 1) (by omega) (by omega) hQ
set_option maxRecDepth 20000 in
theorem sg_ifd {x8 : Int} {s : Nat → Int} {r i : Nat} : (if x8 = 1 ∧ sg_N s ≤ sg_pn s r (sg_N s - i) i then (1 : Int) else 0) = if x8 = 1 ∧ decide (sg_N s ≤ sg_pj s r i) = true then 1 else 0 := by
  have e : sg_pj s r i = sg_pn s r (sg_N s - i) i := rfl
  rw [e]
  by_cases g : x8 = 1 ∧ sg_N s ≤ sg_pn s r (sg_N s - i) i
  · rw [if_pos g, if_pos ⟨g.1, decide_eq_true g.2⟩]
  · rw [if_neg g, if_neg (fun x => g ⟨x.1, of_decide_eq_true x.2⟩)]
set_option maxRecDepth 20000 in
theorem l_1175 {sc : List Int} {d : Nat} {t : xm_W} {s : Nat → Int} {Q : Option xm_V × xm_W → Prop} {r : Nat} {kd dp h c0 z : Int} {m0 : Nat → Nat → Int} (hW : sg_W s 0) (h9 : s 1 ≤ 9999) (hr : r < 5) (hk : 0 ≤ kd ∧ kd ≤ 5) (hh : 0 ≤ h ∧ h ≤ s 1) (hdp : sp_deep kd (s (45 + 18 * r)) (s (47 + 18 * r)) = dp) (hQ : ∀ m', (∀ c, c ≠ 75 → c ≠ 80 → c ≠ 81 → m' c = m0 c) → m' 75 = s → Q ((some (.inl (z)), (yy_W (m') t)))) : ∀ (k st : Nat) (a x8 : Int) (i : Nat) (m : Nat → Nat → Int) (u10 u11 u12 u13 : Option xm_V), ((st + k : Nat) : Int) = s (48 + 18 * r) → 0 ≤ a ∧ a ≤ 35 → i ≤ sg_N s + st → (x8 = 0 ∨ x8 = 1) → (∀ c, c ≠ 75 → c ≠ 80 → c ≠ 81 → m c = m0 c) → m 75 = sg_kc s r kd a → (if x8 = 1 ∧ sg_fk s r kd dp h k st a i = true then (1 : Int) else 0) = z → xm_EQ (xm_old sc) xm_sta (xm_X (xm_old sc) xm_mt (d + 5)) xm_c1175 26 [some (.inr (.inl (some 74))), some (.inl ((r : Int))), some (.inl (kd)), some (.inl (c0)), some (.inl (h)), some (.inl (s (44 + 18 * r))), some (.inl (s (46 + 18 * r))), some (.inl ((i : Int))), some (.inl (x8)), some (.inl ((st : Int))), u10, u11, u12, u13] [] (yy_W (m) t) Q
  | 0, st, a, x8, i, m, u10, u11, u12, u13, hl, ha, hi, h8, hF, h75, hz => by
    have n3 := hW.1.2.2.2.1
    have eN : ((sg_N s : Nat) : Int) = s 3 := sg_N_i n3.1
    obtain ⟨b0, b1, b2, b3, b4, b5, b6⟩ := hW.1.2.2.2.2.2 r hr
    have e4 : m 75 (48 + 18 * r) = s (48 + 18 * r) := by rw [h75, sg_kc_o (by omega) (by omega)]
    refine xb_1175_26 ?_
    rw [oc_1110_4 (d := d + 4) hr, e4, if_neg (by omega)]
    refine l_1175b (d := d + 3) hr h75 n3 h8 (sg_N s - i) i rfl (by omega) ?_
    have e : (if x8 = 1 ∧ sg_N s ≤ sg_pn s r (sg_N s - i) i then (1 : Int) else 0) = z := by
      rw [← hz]
      exact sg_ifd
    rw [e]
    exact hQ _ (fun c c1 c2 c3 => by rw [yy_c_ne c1]; exact hF c c1 c2 c3) yy_c_eq
  | k + 1, st, a, x8, i, m, u10, u11, u12, u13, hl, ha, hi, h8, hF, h75, hz => by
    have n3 := hW.1.2.2.2.1
    have eN : ((sg_N s : Nat) : Int) = s 3 := sg_N_i n3.1
    obtain ⟨b0, b1, b2, b3, b4, b5, b6⟩ := hW.1.2.2.2.2.2 r hr
    have o : ∀ q, q ≠ 44 + 18 * r → q ≠ 46 + 18 * r → m 75 q = s q := fun q q1 q2 => by rw [h75, sg_kc_o q1 q2]
    have e4 := o (48 + 18 * r) (by omega) (by omega)
    have e1 := o 1 (by omega) (by omega)
    have hw := b6 st (by omega)
    have kr := sg_k_r (c := a) hW.1.2.2.1
    have nr := sg_next_r (w := s (50 + 18 * r + st)) ha
    rw [sg_fk_s] at hz
    refine xb_1175_26 ?_
    rw [oc_1110_4 (d := d + 4) hr, e4, if_pos (by omega), zr_74_0, zi_75, zy_at (by decide) (by decide), show (1 : Int).toNat = 1 from rfl, e1, xm_w_id (z := h + st) (by omega) (by omega)]
    by_cases g1 : h + st < s 1
    · rw [if_pos g1] at hz
      obtain ⟨m2, x2, f2⟩ := c_1136 (sc := sc) (d := d) (t := t) (m := m) (r := r) (w := s (50 + 18 * r + st)) (step := (st : Int)) hr (by rw [h75]; exact sg_kc_R hr (by omega) ha hW.1) (sg_T_eq (by decide) (fun q q1 q2 => o q (by omega) (by omega)) hW.2.2.2.1) hw (by omega)
      have sh : sg_sh (m 75) r (s (50 + 18 * r + st)) st = sp_shown kd (s (50 + 18 * r + st)) st := by
        unfold sg_sh
        rw [h75, sg_kc_0, if_neg (by omega)]
      rw [sh] at x2
      have m75 : m2 75 = sg_kc s r kd a := by rw [f2 75 (by decide) (by decide)]; exact h75
      have o2 : ∀ q, q ≠ 44 + 18 * r → q ≠ 46 + 18 * r → m2 75 q = s q := fun q q1 q2 => by rw [m75, sg_kc_o q1 q2]
      have hF2 : ∀ v c, c ≠ 75 → c ≠ 80 → c ≠ 81 → yy_c m2 75 (sg_kc s r kd v) c = m0 c := fun v c c1 c2 c3 => by rw [yy_c_ne c1, f2 c c2 c3]; exact hF c c1 c2 c3
      have next : ∀ a' x8' i' u1 u2 u3 u4, 0 ≤ a' ∧ a' ≤ 35 → i' ≤ sg_N s + (st + 1) → (x8' = 0 ∨ x8' = 1) → (if x8' = 1 ∧ sg_fk s r kd dp h k (st + 1) a' i' = true then (1 : Int) else 0) = z → xm_EQ (xm_old sc) xm_sta (xm_X (xm_old sc) xm_mt (d + 5)) xm_c1175 26 [some (.inr (.inl (some 74))), some (.inl ((r : Int))), some (.inl (kd)), some (.inl (c0)), some (.inl (h)), some (.inl (s (44 + 18 * r))), some (.inl (s (46 + 18 * r))), some (.inl ((i' : Int))), some (.inl (x8')), some (.inl (((st + 1 : Nat) : Int))), u1, u2, u3, u4] [] (yy_W (yy_c m2 75 (sg_kc s r kd a')) t) Q := fun a' x8' i' u1 u2 u3 u4 y1 y2 y3 y4 => l_1175 hW h9 hr hk hh hdp hQ k (st + 1) a' x8' i' _ u1 u2 u3 u4 (by omega) y1 y2 y3 (hF2 a') yy_c_eq y4
      have ew : m 75 (50 + 18 * r + ((st : Int)).toNat) = s (50 + 18 * r + st) := by rw [Int.toNat_natCast]; exact o _ (by omega) (by omega)
      have e2 : m 75 (46 + 18 * r) = a := by rw [h75, sg_kc_2]
      rw [if_pos g1, oc_1110_6 (d := d + 4) hr (by omega), ew, oc_1110_2 (d := d + 4) hr, e2, oc_1139 (d := d + 4) ha.1 (by omega), x2, xm_Oi_some, xm_w_id (z := (st : Int) + 1) (by omega) (by omega), show (st : Int) + 1 = ((st + 1 : Nat) : Int) from rfl]
      by_cases g2 : sp_next a (s (50 + 18 * r + st)) = -1
      · rw [if_pos g2] at hz
        rw [if_pos g2, if_pos g2, oc_1111_2 (d := d + 4) hr, m75, sg_kc_u]
        exact next _ _ _ _ _ _ _ ha (by omega) h8 hz
      · rw [if_neg g2] at hz
        have ha' := nr.resolve_left g2
        rw [if_neg g2]
        by_cases g3 : sp_shown kd (s (50 + 18 * r + st)) st = -1
        · rw [if_pos (Or.inl g3)] at hz
          rw [if_pos g3, if_neg g2, oc_1111_2 (d := d + 4) hr, m75, sg_kc_u]
          exact next _ _ _ _ _ _ _ ha' (by omega) h8 hz
        · have k2 : sg_k (m2 75) a = sg_k s a := sg_k_eq (o2 2 (by omega) (by omega)) (o2 _ (by omega) (by omega))
          have hf2 : 0 ≤ m2 75 2 ∧ m2 75 2 ≤ 9 := by rw [o2 2 (by omega) (by omega)]; exact hW.1.2.2.1
          rw [if_neg g3, oc_1130 (d := d + 4) ha hf2, k2]
          by_cases g4 : s 1 ≤ h + st + sg_k s a
          · rw [if_neg (show ¬ (sp_shown kd (s (50 + 18 * r + st)) st = -1 ∨ ¬ (s 1 ≤ h + st + sg_k s a)) by omega)] at hz
            rw [if_pos (by omega), oc_1131 (d := d + 3) ha (by omega) hf2, k2, o2 1 (by omega) (by omega), zz_t g4]
            refine l_1175a (d := d + 3) (dp := dp) (s := s) (fun i w => ?_) (o2 3 (by omega) (by omega)) n3 hr ?_ ?_ ?_ (by omega) h8 (sg_N s - i) i rfl (by omega) (fun t0 ht => ?_)
            · exact o2 _ (by omega) (by omega)
            · unfold sg_dp
              rw [m75, sg_kc_0, sg_kc_o (by omega) (by omega), sg_kc_o (by omega) (by omega)]
              exact hdp
            · rw [o2 _ (by omega) (by omega)]; exact b1
            · rw [o2 _ (by omega) (by omega)]; exact b3
            · have jb := sg_pn_b (s := s) (r := r) (sg_N s - i) i
              refine xb_1175_132 ?_
              rw [if_neg g2, oc_1111_2 (d := d + 4) hr, m75, sg_kc_u, xm_w_id (z := (st : Int) + 1) (by omega) (by omega), show (st : Int) + 1 = ((st + 1 : Nat) : Int) from rfl, xm_w_id (by omega) (by omega), show (sg_pn s r (sg_N s - i) i : Int) + 1 = ((sg_pn s r (sg_N s - i) i + 1 : Nat) : Int) from rfl]
              refine next _ _ _ _ _ _ _ ha' (by omega) (by rw [ht]; split <;> omega) ?_
              rw [← hz]
              by_cases g8 : x8 = 1
              · by_cases g5 : sg_pj s r i < sg_N s ∧ sg_mt s (sg_pj s r i) a (sp_shown kd (s (50 + 18 * r + st)) st) dp (h + st) = true
                · have T : t0 = 1 := by rw [ht]; exact if_pos ⟨g8, g5⟩
                  rw [if_pos g5, T, g8]
                  first | done | rfl
                · have T : t0 = 0 := by rw [ht]; exact if_neg (fun x => g5 x.2)
                  rw [if_neg g5, T, if_neg (show ¬ ((0 : Int) = 1 ∧ _) from fun x => absurd x.1 (by decide)), if_neg (show ¬ (x8 = 1 ∧ false = true) from fun x => absurd x.2 (by decide))]
              · have T : t0 = 0 := by rw [ht]; exact if_neg (fun x => g8 x.1)
                rw [T, if_neg (show ¬ ((0 : Int) = 1 ∧ _) from fun x => absurd x.1 (by decide))]
                exact (if_neg (fun x => g8 x.1)).symm
          · rw [if_pos (Or.inr g4)] at hz
            by_cases g6 : 0 < sg_k s a
            · rw [if_pos g6, oc_1131 (d := d + 3) ha (by omega) hf2, k2, o2 1 (by omega) (by omega), zz_f g4, if_neg g2, oc_1111_2 (d := d + 4) hr, m75, sg_kc_u]
              exact next _ _ _ _ _ _ _ ha' (by omega) h8 hz
            · rw [if_neg g6, if_neg g2, oc_1111_2 (d := d + 4) hr, m75, sg_kc_u]
              exact next _ _ _ _ _ _ _ ha' (by omega) h8 hz
    · rw [if_neg g1] at hz
      rw [if_neg g1]
      refine l_1175b (d := d + 3) hr h75 n3 h8 (sg_N s - i) i rfl (by omega) ?_
      have e : (if x8 = 1 ∧ sg_N s ≤ sg_pn s r (sg_N s - i) i then (1 : Int) else 0) = z := by
        rw [← hz]
        exact sg_ifd
      rw [e]
      exact hQ _ (fun c c1 c2 c3 => by rw [yy_c_ne c1]; exact hF c c1 c2 c3) yy_c_eq
set_option maxRecDepth 20000 in
theorem c_1175 {sc : List Int} {d : Nat} {t : xm_W} {m : Nat → Nat → Int} {s : Nat → Int} {r : Nat} {kd c0 h : Int} (h75 : m 75 = s) (hW : sg_W s 0) (h9 : s 1 ≤ 9999) (hr : r < 5) (hk : 0 ≤ kd ∧ kd ≤ 5) (hc : 0 ≤ c0 ∧ c0 ≤ 35) (hh : 0 ≤ h ∧ h ≤ s 1) : ∃ m', xm_X (xm_old sc) xm_mt (d + 6) 1175 [.inr (.inl (some 74)), .inl ((r : Int)), .inl (kd), .inl (c0), .inl (h)] (yy_W m t) = some (some (.inl (if sg_ft s r kd c0 h = true then 1 else 0)), yy_W m' t) ∧ (∀ c, c ≠ 75 → c ≠ 80 → c ≠ 81 → m' c = m c) ∧ m' 75 = s := by
  have key : ∀ {Q : Option xm_V × xm_W → Prop}, (∀ m', ((∀ c, c ≠ 75 → c ≠ 80 → c ≠ 81 → m' c = m c) ∧ m' 75 = s) → Q (some (.inl (if sg_ft s r kd c0 h = true then 1 else 0)), yy_W m' t)) → xm_EQ (xm_old sc) xm_sta (xm_X (xm_old sc) xm_mt (d + 5)) xm_m1175.2.2.2.2.2.2.2 0 (xm_loc xm_m1175.2.2.1 [.inr (.inl (some 74)), .inl ((r : Int)), .inl (kd), .inl (c0), .inl (h)]) [] (yy_W m t) Q := by
    intro Q hQ
    have b4 := (hW.1.2.2.2.2.2 r hr).2.2.2.2.1
    refine xb_1175_0 ?_
    rw [oc_1110_0 (d := d + 4) hr, oc_1110_2 (d := d + 4) hr, oc_1111_0 (d := d + 4) hr, oc_1111_2 (d := d + 4) hr, yy_c_eq, yy_c_c, h75]
    exact l_1175 (d := d) (s := s) (m0 := m) (z := if sg_ft s r kd c0 h = true then 1 else 0) hW h9 hr hk hh rfl (fun m' a b => hQ m' ⟨a, b⟩) (s (48 + 18 * r)).toNat 0 c0 1 0 (yy_c m 75 (sg_kc s r kd c0)) none none none none (by omega) hc (by omega) (Or.inr rfl) (fun c c1 _ _ => yy_c_ne c1) yy_c_eq (by
      unfold sg_ft
      by_cases g : sg_fk s r kd (sp_deep kd (s (45 + 18 * r)) (s (47 + 18 * r))) h (s (48 + 18 * r)).toNat 0 c0 0 = true
      · rw [if_pos ⟨rfl, g⟩, if_pos g]
      · rw [if_neg (fun x => g x.2), if_neg g])
  obtain ⟨q, h1, m', h2, h3⟩ := yx_of (y := 1175) (M := xm_m1175) (sc := sc) (d := d + 5) (as := [.inr (.inl (some 74)), .inl ((r : Int)), .inl (kd), .inl (c0), .inl (h)]) (w := yy_W m t) (Q := fun q => ∃ m', q = (some (.inl (if sg_ft s r kd c0 h = true then 1 else 0)), yy_W m' t) ∧ ((∀ c, c ≠ 75 → c ≠ 80 → c ≠ 81 → m' c = m c) ∧ m' 75 = s)) rfl (key fun m' h => ⟨m', rfl, h⟩) (fun q ⟨m', h, _⟩ => by rw [h]; show (_ == _ || _ == _) = true; split <;> rfl) rfl (Nat.le_of_ble_eq_true rfl) (yy_hd rfl (by decide))
  exact ⟨m', by rw [h1, h2], h3⟩
