/-! KINDS: what both sides look for, and the class -/
def sg_pn (s : Nat → Int) (r : Nat) : Nat → Nat → Nat
  | 0, i => i
  | n + 1, i => if sg_p s i 4 = r then i else sg_pn s r n (i + 1)
set_option maxRecDepth 20000 in
theorem sg_pn_s {s : Nat → Int} {r n i : Nat} : sg_pn s r (n + 1) i = if sg_p s i 4 = r then i else sg_pn s r n (i + 1) := rfl
set_option maxRecDepth 20000 in
theorem sg_pn_b {s : Nat → Int} {r : Nat} : ∀ n i, i ≤ sg_pn s r n i ∧ sg_pn s r n i ≤ i + n
  | 0, i => ⟨Nat.le_refl _, Nat.le_refl _⟩
  | n + 1, i => by
    have := sg_pn_b (s := s) (r := r) n (i + 1)
    rw [sg_pn_s]
    split <;> omega
def sg_pj (s : Nat → Int) (r i : Nat) : Nat := sg_pn s r (sg_N s - i) i
def sg_fo (s : Nat → Int) (r i : Nat) : Int := if sg_pj s r i < sg_N s then (sg_pj s r i : Int) else -1
def sg_mt (s : Nat → Int) (j : Nat) (a sh dp hh : Int) : Bool := decide (sg_p s j 0 = a ∧ sg_p s j 1 = sh ∧ sg_p s j 2 = dp ∧ sg_p s j 3 = hh)
/-! does a rider of a kind fit, from a step on -/
def sg_fk (s : Nat → Int) (r : Nat) (kd dp h : Int) : Nat → Nat → Int → Nat → Bool
  | 0, _, _, i => decide (sg_N s ≤ sg_pj s r i)
  | k + 1, st, a, i =>
    if h + st < s 1 then
      (if sp_next a (s (50 + 18 * r + st)) = -1 then sg_fk s r kd dp h k (st + 1) a i
      else if sp_shown kd (s (50 + 18 * r + st)) st = -1 ∨ ¬ (s 1 ≤ h + st + sg_k s a) then sg_fk s r kd dp h k (st + 1) (sp_next a (s (50 + 18 * r + st))) i
      else if sg_pj s r i < sg_N s ∧ sg_mt s (sg_pj s r i) a (sp_shown kd (s (50 + 18 * r + st)) st) dp (h + st) = true then sg_fk s r kd dp h k (st + 1) (sp_next a (s (50 + 18 * r + st))) (sg_pj s r i + 1)
      else false)
    else decide (sg_N s ≤ sg_pj s r i)
set_option maxRecDepth 20000 in
theorem sg_fk_s {s : Nat → Int} {r k st i : Nat} {kd dp h a : Int} : sg_fk s r kd dp h (k + 1) st a i = if h + st < s 1 then
      (if sp_next a (s (50 + 18 * r + st)) = -1 then sg_fk s r kd dp h k (st + 1) a i
      else if sp_shown kd (s (50 + 18 * r + st)) st = -1 ∨ ¬ (s 1 ≤ h + st + sg_k s a) then sg_fk s r kd dp h k (st + 1) (sp_next a (s (50 + 18 * r + st))) i
      else if sg_pj s r i < sg_N s ∧ sg_mt s (sg_pj s r i) a (sp_shown kd (s (50 + 18 * r + st)) st) dp (h + st) = true then sg_fk s r kd dp h k (st + 1) (sp_next a (s (50 + 18 * r + st))) (sg_pj s r i + 1)
      else false)
    else decide (sg_N s ≤ sg_pj s r i) := rfl
set_option maxRecDepth 20000 in
theorem l_420 {sc : List Int} {d : Nat} {t : xm_W} {m : Nat → Nat → Int} {s : Nat → Int} {Q : Option xm_V × xm_W → Prop} {r : Nat} {x2 : Int} (hM : yy_MR m 1 s) (h3 : 0 ≤ s 3 ∧ s 3 ≤ 40) : ∀ (n i : Nat), i + n = sg_N s → Q ((some (.inl (if sg_pn s r n i < sg_N s then (sg_pn s r n i : Int) else -1)), (yy_W (m) t))) → xm_EQ (xm_old sc) xm_sta (xm_X (xm_old sc) xm_mt (d)) xm_c420 2 [some (.inr (.inl (some 1))), some (.inl ((r : Int))), some (.inl (x2)), some (.inl ((i : Int)))] [] (yy_W (m) t) Q
  | 0, i, hk, hQ => by
    have eN : ((sg_N s : Nat) : Int) = s 3 := sg_N_i h3.1
    have e : sg_pn s r 0 i = i := rfl
    rw [e, if_neg (by omega)] at hQ
    refine xb_420_2 ?_
    rw [zf_1_6, hM.2.2.2.1, if_neg (by omega)]
    exact hQ
  | n + 1, i, hk, hQ => by
    have eN : ((sg_N s : Nat) : Int) = s 3 := sg_N_i h3.1
    have i1 : ((i : Int) * 5 + 4).toNat = 5 * i + 4 := by omega
    have f : m 4 (5 * i + 4) = sg_p s i 4 := by rw [hM.2.2.2.2.2.1 _ (by omega)]; unfold sg_p; first | rfl | (congr 1; omega)
    refine xb_420_2 ?_
    rw [zf_1_6, hM.2.2.2.1, if_pos (by omega), zr_1_5, zi_4, xm_w2 (by omega) (by omega) (by omega) (by omega), zy_at (by omega) (by omega), i1, f]
    rw [sg_pn_s] at hQ
    by_cases g : sg_p s i 4 = r
    · rw [if_pos g, if_pos (by omega)] at hQ
      rw [if_pos g]
      exact hQ
    · rw [if_neg g] at hQ
      rw [if_neg g, xm_w_id (by omega) (by omega), show (i : Int) + 1 = ((i + 1 : Nat) : Int) from rfl]
      exact l_420 hM h3 n (i + 1) (by omega) hQ
set_option maxRecDepth 20000 in
theorem c_420 {sc : List Int} {d : Nat} {t : xm_W} {m : Nat → Nat → Int} {s : Nat → Int} {r i : Nat} (hM : yy_MR m 1 s) (h3 : 0 ≤ s 3 ∧ s 3 ≤ 40) (hi : i ≤ sg_N s) : xm_X (xm_old sc) xm_mt (d + 1) 420 [.inr (.inl (some 1)), .inl ((r : Int)), .inl ((i : Int))] (yy_W (m) t) = some (some (.inl (sg_fo s r i)), (yy_W (m) t)) := by
  refine xm_X_of (M := xm_m420) rfl ⟨xm_EQ.eq (xb_420_0 ?_), rfl, rfl, Nat.le_of_ble_eq_true rfl, yy_hd rfl (by decide)⟩
  exact l_420 (d := d) hM h3 (sg_N s - i) i (by omega) rfl
set_option maxRecDepth 20000 in
theorem oc_420 {F : Int → xm_W → Prop} {sc : List Int} {d : Nat} {t : xm_W} {m : Nat → Nat → Int} {s : Nat → Int} {r i : Nat} (hM : yy_MR m 1 s) (h3 : 0 ≤ s 3 ∧ s 3 ≤ 40) (hi : i ≤ sg_N s) : xm_Oi (xm_X (xm_old sc) xm_mt (d + 1) 420 [.inr (.inl (some 1)), .inl ((r : Int)), .inl ((i : Int))] (yy_W (m) t)) F = F (sg_fo s r i) (yy_W (m) t) := congrArg (fun x => xm_Oi x F) (c_420 hM h3 hi)
set_option maxRecDepth 20000 in
theorem c_420_0 {sc : List Int} {d : Nat} {t : xm_W} {m : Nat → Nat → Int} {s : Nat → Int} {r : Nat} (hM : yy_MR m 1 s) (h3 : 0 ≤ s 3 ∧ s 3 ≤ 40) : xm_X (xm_old sc) xm_mt (d + 1) 420 [.inr (.inl (some 1)), .inl ((r : Int)), .inl (0)] (yy_W (m) t) = some (some (.inl (sg_fo s r 0)), (yy_W (m) t)) := by
  exact c_420 (i := 0) hM h3 (by omega)
set_option maxRecDepth 20000 in
theorem oc_420_0 {F : Int → xm_W → Prop} {sc : List Int} {d : Nat} {t : xm_W} {m : Nat → Nat → Int} {s : Nat → Int} {r : Nat} (hM : yy_MR m 1 s) (h3 : 0 ≤ s 3 ∧ s 3 ≤ 40) : xm_Oi (xm_X (xm_old sc) xm_mt (d + 1) 420 [.inr (.inl (some 1)), .inl ((r : Int)), .inl (0)] (yy_W (m) t)) F = F (sg_fo s r 0) (yy_W (m) t) := congrArg (fun x => xm_Oi x F) (c_420_0 hM h3)
set_option maxRecDepth 20000 in
theorem c_421 {sc : List Int} {d : Nat} {t : xm_W} {m : Nat → Nat → Int} {s : Nat → Int} {i : Nat} {a sh dp hh : Int} (hM : yy_MR m 1 s) (hi : i < 40) : xm_X (xm_old sc) xm_mt (d + 1) 421 [.inr (.inl (some 1)), .inl ((i : Int)), .inl (a), .inl (sh), .inl (dp), .inl (hh)] (yy_W (m) t) = some (some (.inl (if sg_mt s i a sh dp hh = true then 1 else 0)), (yy_W (m) t)) := by
  have f0 : m 4 ((i : Int) * 5 + 0).toNat = sg_p s i 0 := by rw [hM.2.2.2.2.2.1 _ (by omega)]; unfold sg_p; first | rfl | (congr 1; omega)
  have f1 : m 4 ((i : Int) * 5 + 1).toNat = sg_p s i 1 := by rw [hM.2.2.2.2.2.1 _ (by omega)]; unfold sg_p; first | rfl | (congr 1; omega)
  have f2 : m 4 ((i : Int) * 5 + 2).toNat = sg_p s i 2 := by rw [hM.2.2.2.2.2.1 _ (by omega)]; unfold sg_p; first | rfl | (congr 1; omega)
  have f3 : m 4 ((i : Int) * 5 + 3).toNat = sg_p s i 3 := by rw [hM.2.2.2.2.2.1 _ (by omega)]; unfold sg_p; first | rfl | (congr 1; omega)
  refine xm_X_of (M := xm_m421) rfl ⟨xm_EQ.eq (xb_421_0 ?_), ?_, rfl, Nat.le_of_ble_eq_true rfl, yy_hd rfl (by decide)⟩
  · unfold sg_mt
    rw [zr_1_5, zi_4, xm_w2 (by omega) (by omega) (by omega) (by omega), zy_at (by omega) (by omega), f0]
    by_cases g0 : sg_p s i 0 = a
    · rw [if_pos g0, zr_1_5, zi_4, xm_w2 (by omega) (by omega) (by omega) (by omega), zy_at (by omega) (by omega), f1]
      by_cases g1 : sg_p s i 1 = sh
      · rw [if_pos g1, zr_1_5, zi_4, xm_w2 (by omega) (by omega) (by omega) (by omega), zy_at (by omega) (by omega), f2]
        by_cases g2 : sg_p s i 2 = dp
        · rw [if_pos g2, zr_1_5, zi_4, xm_w2 (by omega) (by omega) (by omega) (by omega), zy_at (by omega) (by omega), f3]
          by_cases g3 : sg_p s i 3 = hh
          · rw [if_pos g3, if_pos (decide_eq_true ⟨g0, g1, g2, g3⟩)]
          · rw [if_neg g3, if_neg (fun x => g3 (of_decide_eq_true x).2.2.2)]
        · rw [if_neg g2, if_neg (fun x => g2 (of_decide_eq_true x).2.2.1)]
      · rw [if_neg g1, if_neg (fun x => g1 (of_decide_eq_true x).2.1)]
    · rw [if_neg g0, if_neg (fun x => g0 (of_decide_eq_true x).1)]
  · show (_ == _ || _ == _) = true
    split <;> rfl
set_option maxRecDepth 20000 in
theorem oc_421 {F : Int → xm_W → Prop} {sc : List Int} {d : Nat} {t : xm_W} {m : Nat → Nat → Int} {s : Nat → Int} {i : Nat} {a sh dp hh : Int} (hM : yy_MR m 1 s) (hi : i < 40) : xm_Oi (xm_X (xm_old sc) xm_mt (d + 1) 421 [.inr (.inl (some 1)), .inl ((i : Int)), .inl (a), .inl (sh), .inl (dp), .inl (hh)] (yy_W (m) t)) F = F (if sg_mt s i a sh dp hh = true then 1 else 0) (yy_W (m) t) := congrArg (fun x => xm_Oi x F) (c_421 hM hi)
set_option maxRecDepth 20000 in
theorem sg_fo_0 {s : Nat → Int} {r i : Nat} : (sg_fo s r i < 0) = ¬ sg_pj s r i < sg_N s := by
  unfold sg_fo
  apply propext
  split
  · rename_i g; exact ⟨fun h => absurd h (by omega), fun h => absurd g h⟩
  · rename_i g; exact ⟨fun _ => g, fun _ => by decide⟩
set_option maxRecDepth 20000 in
theorem l_419 {sc : List Int} {d : Nat} {t : xm_W} {m : Nat → Nat → Int} {s : Nat → Int} {Q : Option xm_V × xm_W → Prop} {r : Nat} {kd dp h c0 : Int} (hM : yy_MR m 1 s) (hW : sg_W s 0) (h9 : s 1 ≤ 9999) (hr : r < 5) (hk : 0 ≤ kd ∧ kd ≤ 5) (hh : 0 ≤ h ∧ h ≤ s 1) : ∀ (k st : Nat) (a : Int) (i : Nat) (u10 u11 u12 : Option xm_V), ((st + k : Nat) : Int) = s (48 + 18 * r) → 0 ≤ a ∧ a ≤ 35 → i ≤ sg_N s → Q ((some (.inl (if sg_fk s r kd dp h k st a i = true then 1 else 0)), (yy_W (m) t))) → xm_EQ (xm_old sc) xm_sta (xm_X (xm_old sc) xm_mt (d + 2)) xm_c419 21 [some (.inr (.inl (some 1))), some (.inl ((r : Int))), some (.inl (kd)), some (.inl (c0)), some (.inl (h)), some (.inr (.inl (some (8 + 2 * r)))), some (.inl (dp)), some (.inl (a)), some (.inl (sg_fo s r i)), some (.inl ((st : Int))), u10, u11, u12] [] (yy_W (m) t) Q
  | 0, st, a, i, u10, u11, u12, hl, ha, hi, hQ => by
    have hq := yy_rdn8 hr
    have f4 : m (8 + 2 * r) 4 = s (48 + 18 * r) := by rw [(hM.2.2.2.2.2.2 r hr).1 4 (by decide)]; congr 1; omega
    have e : sg_fk s r kd dp h 0 st a i = decide (sg_N s ≤ sg_pj s r i) := rfl
    rw [e] at hQ
    refine xb_419_21 ?_
    rw [xm_O_some, gf_4 hq, f4, if_neg (by omega)]
    by_cases g : sg_pj s r i < sg_N s
    · rw [if_neg (by rw [sg_fo_0]; exact fun x => x g)]
      rw [if_neg (fun x => by have := of_decide_eq_true x; omega)] at hQ
      exact hQ
    · rw [if_pos (by rw [sg_fo_0]; exact g)]
      rw [if_pos (decide_eq_true (by omega))] at hQ
      exact hQ
  | k + 1, st, a, i, u10, u11, u12, hl, ha, hi, hQ => by
    have hq := yy_rdn8 hr
    obtain ⟨b0, b1, b2, b3, b4, b5, b6⟩ := hW.1.2.2.2.2.2 r hr
    have n3 := hW.1.2.2.2.1
    have eN : ((sg_N s : Nat) : Int) = s 3 := sg_N_i n3.1
    have f4 : m (8 + 2 * r) 4 = s (48 + 18 * r) := by rw [(hM.2.2.2.2.2.2 r hr).1 4 (by decide)]; congr 1; omega
    have fw : m (8 + 2 * r + 1) st = s (50 + 18 * r + st) := by
      have := (hM.2.2.2.2.2.2 r hr).2 st (by omega)
      rw [show 1 + 8 + 2 * r = 8 + 2 * r + 1 by omega] at this
      exact this
    have hw := b6 st (by omega)
    have kr := sg_k_r (c := a) hW.1.2.2.1
    have nr := sg_next_r (w := s (50 + 18 * r + st)) ha
    have next : ∀ a' i' u1 u2 u3, 0 ≤ a' ∧ a' ≤ 35 → i' ≤ sg_N s → Q ((some (.inl (if sg_fk s r kd dp h k (st + 1) a' i' = true then 1 else 0)), (yy_W (m) t))) → xm_EQ (xm_old sc) xm_sta (xm_X (xm_old sc) xm_mt (d + 2)) xm_c419 21 [some (.inr (.inl (some 1))), some (.inl ((r : Int))), some (.inl (kd)), some (.inl (c0)), some (.inl (h)), some (.inr (.inl (some (8 + 2 * r)))), some (.inl (dp)), some (.inl (a')), some (.inl (sg_fo s r i')), some (.inl (((st + 1 : Nat) : Int))), u1, u2, u3] [] (yy_W (m) t) Q := fun a' i' u1 u2 u3 x1 x2 x3 => l_419 hM hW h9 hr hk hh k (st + 1) a' i' u1 u2 u3 (by omega) x1 x2 x3
    rw [sg_fk_s] at hQ
    refine xb_419_21 ?_
    rw [xm_O_some, gf_4 hq, f4, if_pos (by omega), zf_1_2, hM.2.1, xm_w_id (by omega) (by omega)]
    by_cases g1 : h + st < s 1
    · rw [if_pos g1] at hQ
      rw [if_pos g1, gr_6 hq, gi_1 hq, zy_at (by omega) (by omega), Int.toNat_natCast, fw, oc_150 (d := d + 1) ha.1 (by omega), xm_w_id (z := (st : Int) + 1) (by omega) (by omega), show (st : Int) + 1 = ((st + 1 : Nat) : Int) from rfl]
      by_cases g2 : sp_next a (s (50 + 18 * r + st)) = -1
      · rw [if_pos g2] at hQ
        rw [if_pos (by omega)]
        exact next _ _ _ _ _ ha hi hQ
      · rw [if_neg g2] at hQ
        have ha' := nr.resolve_left g2
        rw [if_neg (by omega), oc_152 (d := d) hw.1 (by omega) (by omega)]
        have sr : -1 ≤ sp_shown kd (s (50 + 18 * r + st)) st ∧ sp_shown kd (s (50 + 18 * r + st)) st ≤ 3 := by
          have := sg_sh_r (s := yy_u s (44 + 18 * r) kd) (r := r) (step := (st : Int)) hw
          unfold sg_sh at this
          rw [yy_u_eq, if_neg (by omega)] at this
          exact this
        by_cases g3 : sp_shown kd (s (50 + 18 * r + st)) st = -1
        · rw [if_pos (Or.inl g3)] at hQ
          rw [if_pos (by omega)]
          exact next _ _ _ _ _ ha' hi hQ
        · rw [if_neg (by omega), zf_1_2, hM.2.1, oc_403_1 (d := d + 1) hM ha hW.1.2.2.1, xm_w_id (by omega) (by omega)]
          by_cases g4 : s 1 ≤ h + st + sg_k s a
          · rw [if_neg (show ¬ (sp_shown kd (s (50 + 18 * r + st)) st = -1 ∨ ¬ (s 1 ≤ h + st + sg_k s a)) by omega)] at hQ
            rw [if_neg (by omega)]
            by_cases g5 : sg_pj s r i < sg_N s
            · have fo : sg_fo s r i = (sg_pj s r i : Int) := by unfold sg_fo; rw [if_pos g5]
              rw [fo, if_neg (by omega), oc_421 (d := d + 1) hM (by omega)]
              by_cases g6 : sg_mt s (sg_pj s r i) a (sp_shown kd (s (50 + 18 * r + st)) st) dp (h + st) = true
              · have g56 : sg_pj s r i < sg_N s ∧ sg_mt s (sg_pj s r i) a (sp_shown kd (s (50 + 18 * r + st)) st) dp (h + st) = true := ⟨g5, g6⟩
                rw [if_pos g56] at hQ
                rw [zz_t g6, xm_w_id (by omega) (by omega), show (sg_pj s r i : Int) + 1 = ((sg_pj s r i + 1 : Nat) : Int) from rfl, oc_420 (d := d + 1) hM n3 (by omega)]
                exact next _ _ _ _ _ ha' (by omega) hQ
              · have g56 : ¬ (sg_pj s r i < sg_N s ∧ sg_mt s (sg_pj s r i) a (sp_shown kd (s (50 + 18 * r + st)) st) dp (h + st) = true) := fun x => g6 x.2
                rw [if_neg g56, if_neg (show ¬ (false = true) by decide)] at hQ
                rw [zz_f g6]
                exact hQ
            · have g56 : ¬ (sg_pj s r i < sg_N s ∧ sg_mt s (sg_pj s r i) a (sp_shown kd (s (50 + 18 * r + st)) st) dp (h + st) = true) := fun x => g5 x.1
              rw [if_neg g56, if_neg (show ¬ (false = true) by decide)] at hQ
              rw [if_pos (by rw [sg_fo_0]; exact g5)]
              exact hQ
          · rw [if_pos (Or.inr g4)] at hQ
            rw [if_pos (by omega)]
            exact next _ _ _ _ _ ha' hi hQ
    · rw [if_neg g1] at hQ
      rw [if_neg g1]
      by_cases g : sg_pj s r i < sg_N s
      · rw [if_neg (by rw [sg_fo_0]; exact fun x => x g)]
        rw [if_neg (fun x => by have := of_decide_eq_true x; omega)] at hQ
        exact hQ
      · rw [if_pos (by rw [sg_fo_0]; exact g)]
        rw [if_pos (decide_eq_true (by omega))] at hQ
        exact hQ
def sg_ft (s : Nat → Int) (r : Nat) (kd c0 h : Int) : Bool := sg_fk s r kd (sp_deep kd (s (45 + 18 * r)) (s (47 + 18 * r))) h (s (48 + 18 * r)).toNat 0 c0 0
set_option maxRecDepth 20000 in
theorem c_419 {sc : List Int} {d : Nat} {t : xm_W} {m : Nat → Nat → Int} {s : Nat → Int} {r : Nat} {kd c0 h : Int} (hM : yy_MR m 1 s) (hW : sg_W s 0) (h9 : s 1 ≤ 9999) (hr : r < 5) (hk : 0 ≤ kd ∧ kd ≤ 5) (hc : 0 ≤ c0 ∧ c0 ≤ 35) (hh : 0 ≤ h ∧ h ≤ s 1) : xm_X (xm_old sc) xm_mt (d + 3) 419 [.inr (.inl (some 1)), .inl ((r : Int)), .inl (kd), .inl (c0), .inl (h)] (yy_W (m) t) = some (some (.inl (if sg_ft s r kd c0 h = true then 1 else 0)), (yy_W (m) t)) := by
  have hq := yy_rdn8 hr
  have er : ((r : Int)).toNat = r := Int.toNat_natCast r
  obtain ⟨b0, b1, b2, b3, b4, b5, b6⟩ := hW.1.2.2.2.2.2 r hr
  have f1 : m (8 + 2 * r) 1 = s (45 + 18 * r) := by rw [(hM.2.2.2.2.2.2 r hr).1 1 (by decide)]; congr 1; omega
  have f3 : m (8 + 2 * r) 3 = s (47 + 18 * r) := by rw [(hM.2.2.2.2.2.2 r hr).1 3 (by decide)]; congr 1; omega
  refine xm_X_of (M := xm_m419) rfl ⟨xm_EQ.eq (xb_419_0 ?_), ?_, rfl, Nat.le_of_ble_eq_true rfl, yy_hd rfl (by decide)⟩
  · rw [zr_1_3, zq_3, zq_r1 (by omega) (by omega), er, xm_O_some, gf_1 hq, gf_3 hq, f1, f3, oc_153 (d := d + 1) b3.1 (by omega) b1.1 (by omega), oc_420_0 (d := d + 1) hM hW.1.2.2.2.1]
    exact l_419 (d := d) hM hW h9 hr hk hh (s (48 + 18 * r)).toNat 0 c0 0 none none none (by omega) hc (by omega) rfl
  · show (_ == _ || _ == _) = true
    split <;> rfl
set_option maxRecDepth 20000 in
theorem oc_419 {F : Int → xm_W → Prop} {sc : List Int} {d : Nat} {t : xm_W} {m : Nat → Nat → Int} {s : Nat → Int} {r : Nat} {kd c0 h : Int} (hM : yy_MR m 1 s) (hW : sg_W s 0) (h9 : s 1 ≤ 9999) (hr : r < 5) (hk : 0 ≤ kd ∧ kd ≤ 5) (hc : 0 ≤ c0 ∧ c0 ≤ 35) (hh : 0 ≤ h ∧ h ≤ s 1) : xm_Oi (xm_X (xm_old sc) xm_mt (d + 3) 419 [.inr (.inl (some 1)), .inl ((r : Int)), .inl (kd), .inl (c0), .inl (h)] (yy_W (m) t)) F = F (if sg_ft s r kd c0 h = true then 1 else 0) (yy_W (m) t) := congrArg (fun x => xm_Oi x F) (c_419 hM hW h9 hr hk hc hh)
