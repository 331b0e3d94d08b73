/-! KINDS: the act -/
set_option maxRecDepth 20000 in
theorem sp_or0 {x y : Int} : xm_or (xm_or x y) 0 = xm_or x y := by
  unfold xm_or
  rw [Int32.ofInt_toInt, show Int32.ofInt 0 = 0 from rfl, Int32.or_zero]
def sg_ks (s : Nat → Int) (r : Nat) (c0 h : Int) : Nat → Nat → Int → Int
  | 0, _, b => b
  | k + 1, i, b => sg_ks s r c0 h k (i + 1) (if sg_ft s r i c0 h = true then xm_or b (xm_shl 1 i) else b)
set_option maxRecDepth 20000 in
theorem sg_ks_s {s : Nat → Int} {r k i : Nat} {c0 h b : Int} : sg_ks s r c0 h (k + 1) i b = sg_ks s r c0 h k (i + 1) (if sg_ft s r i c0 h = true then xm_or b (xm_shl 1 i) else b) := rfl
set_option maxRecDepth 20000 in
theorem l_122 {sc : List Int} {d : Nat} {t : xm_W} {m : Nat → Nat → Int} {s : Nat → Int} {Q : Option xm_V × xm_W → Prop} {r : Nat} {h c0 z : Int} (hM : yy_MR m 1 s) (hW : sg_W s 0) (h9 : s 1 ≤ 9999) (hr : r < 5) (hc : 0 ≤ c0 ∧ c0 ≤ 35) (hh : 0 ≤ h ∧ h ≤ s 1) (hQ : Q ((some (.inl (z)), (yy_W (m) t)))) : ∀ (k i : Nat) (b : Int), i + k = 6 → sg_ks s r c0 h k i b = z → xm_EQ (xm_old sc) xm_sta (xm_X (xm_old sc) xm_mt (d + 3)) xm_c122 22 [some (.inr (.inl (some 0))), some (.inl ((r : Int))), some (.inl (c0)), some (.inl (h)), some (.inl (b)), some (.inl ((i : Int)))] [] (yy_W (m) t) Q
  | 0, i, b, hk, hz => by
    have hz' : b = z := hz
    refine xb_122_22 ?_
    rw [if_neg (by omega), hz']
    exact hQ
  | k + 1, i, b, hk, hz => by
    rw [sg_ks_s] at hz
    refine xb_122_22 ?_
    rw [if_pos (by omega), zr_0_0, oc_419 (d := d) hM hW h9 hr (by omega) hc hh, xm_w_id (by omega) (by omega), show (i : Int) + 1 = ((i + 1 : Nat) : Int) from rfl]
    by_cases g : sg_ft s r i c0 h = true
    · rw [if_pos g] at hz
      rw [zz_t g]
      exact l_122 hM hW h9 hr hc hh hQ k (i + 1) _ (by omega) hz
    · rw [if_neg g] at hz
      rw [zz_f g]
      exact l_122 hM hW h9 hr hc hh hQ k (i + 1) _ (by omega) hz
set_option maxRecDepth 20000 in
theorem c_122g {sc : List Int} {d : Nat} {t : xm_W} {m : Nat → Nat → Int} {r : Nat} {h c0 : Int} (hr5 : r < 5) (hc : 0 ≤ c0 ∧ c0 ≤ 35) (hh : 0 ≤ h ∧ h ≤ m 75 1) (hI : yy_I t m) (hr : (r : Int) ≤ m 75 0 - 1) : xm_X (xm_old sc) xm_mt (d + 4) 122 [.inr (.inl (some 0)), .inl ((r : Int)), .inl (c0), .inl (h)] (yy_W (m) t) = some (some (.inl (sg_ks (m 75) r c0 h 6 0 0)), (yy_W (m) t)) := by
  obtain ⟨⟨e0, e3, e1, e2⟩, hR⟩ := yy_I_0 hI
  have b0 := hR.1
  refine xm_X_of (M := xm_m122) rfl ⟨xm_EQ.eq (xb_122_0 ?_), rfl, rfl, Nat.le_of_ble_eq_true rfl, yy_hd rfl (by decide)⟩
  rw [oc_141 (d := d + 1) (by omega) (by omega), zz_t (by omega), oc_143 (d := d + 1), zz_t hc, zr_0_0, zf_1_2, e1, oc_142 (d := d + 2), zz_t hh]
  exact l_122 (d := d) (s := m 75) hI.2.1.1 hI.1.1 hI.1.2.1 hr5 hc hh rfl 6 0 0 rfl rfl
set_option maxRecDepth 20000 in
theorem oc_122g {F : Int → xm_W → Prop} {sc : List Int} {d : Nat} {t : xm_W} {m : Nat → Nat → Int} {r : Nat} {h c0 : Int} (hr5 : r < 5) (hc : 0 ≤ c0 ∧ c0 ≤ 35) (hh : 0 ≤ h ∧ h ≤ m 75 1) (hI : yy_I t m) (hr : (r : Int) ≤ m 75 0 - 1) : xm_Oi (xm_X (xm_old sc) xm_mt (d + 4) 122 [.inr (.inl (some 0)), .inl ((r : Int)), .inl (c0), .inl (h)] (yy_W (m) t)) F = F (sg_ks (m 75) r c0 h 6 0 0) (yy_W (m) t) := congrArg (fun x => xm_Oi x F) (c_122g hr5 hc hh hI hr)
set_option maxRecDepth 20000 in
theorem l_1176 {sc : List Int} {d : Nat} {t : xm_W} {s : Nat → Int} {Q : Option xm_V × xm_W → Prop} {r : Nat} {h c0 z : Int} {m0 : Nat → Nat → Int} (hW : sg_W s 0) (h9 : s 1 ≤ 9999) (hr : r < 5) (hc : 0 ≤ c0 ∧ c0 ≤ 35) (hh : 0 ≤ h ∧ h ≤ s 1) (hQ : ∀ m', (∀ c, c ≠ 75 → c ≠ 80 → c ≠ 81 → m' c = m0 c) → m' 75 = s → Q ((some (.inl (z)), (yy_W (m') t)))) : ∀ (k i : Nat) (b : Int) (m : Nat → Nat → Int), i + k = 6 → (∀ c, c ≠ 75 → c ≠ 80 → c ≠ 81 → m c = m0 c) → m 75 = s → xm_or b 0 = b → sg_ks s r c0 h k i b = z → xm_EQ (xm_old sc) xm_sta (xm_X (xm_old sc) xm_mt (d + 6)) xm_c1176 23 [some (.inr (.inl (some 74))), some (.inl ((r : Int))), some (.inl (c0)), some (.inl (h)), some (.inl (b)), some (.inl ((i : Int)))] [] (yy_W (m) t) Q
  | 0, i, b, m, hk, hF, h75, hb, hz => by
    have hz' : b = z := hz
    refine xb_1176_23 ?_
    rw [if_neg (by omega), hz']
    exact hQ m hF h75
  | k + 1, i, b, m, hk, hF, h75, hb, hz => by
    rw [sg_ks_s] at hz
    obtain ⟨m2, x2, f2, q2⟩ := c_1175 (sc := sc) (d := d) (t := t) (m := m) (s := s) (r := r) (kd := (i : Int)) (c0 := c0) (h := h) h75 hW h9 hr (by omega) hc hh
    have hF2 : ∀ c, c ≠ 75 → c ≠ 80 → c ≠ 81 → m2 c = m0 c := fun c c1 c2 c3 => by rw [f2 c c1 c2 c3]; exact hF c c1 c2 c3
    refine xb_1176_23 ?_
    rw [if_pos (by omega), x2, xm_Oi_some, xm_w_id (by omega) (by omega), show (i : Int) + 1 = ((i + 1 : Nat) : Int) from rfl]
    by_cases g : sg_ft s r i c0 h = true
    · rw [if_pos g] at hz
      rw [zz_t g]
      exact l_1176 hW h9 hr hc hh hQ k (i + 1) _ m2 (by omega) hF2 q2 sp_or0 hz
    · rw [if_neg g] at hz
      rw [zz_f g, hb]
      exact l_1176 hW h9 hr hc hh hQ k (i + 1) _ m2 (by omega) hF2 q2 hb hz
set_option maxRecDepth 20000 in
theorem c_1176g {sc : List Int} {d : Nat} {t : xm_W} {m : Nat → Nat → Int} {r : Nat} {h c0 : Int} (hr5 : r < 5) (hc : 0 ≤ c0 ∧ c0 ≤ 35) (hh : 0 ≤ h ∧ h ≤ m 75 1) (hW : sg_W (m 75) 0) (h9 : m 75 1 ≤ 9999) (hr : (r : Int) ≤ m 75 0 - 1) : ∃ m', xm_X (xm_old sc) xm_mt (d + 7) 1176 [.inr (.inl (some 74)), .inl ((r : Int)), .inl (c0), .inl (h)] (yy_W m t) = some (some (.inl (sg_ks (m 75) r c0 h 6 0 0)), yy_W m' t) ∧ (∀ c, c ≠ 75 → c ≠ 80 → c ≠ 81 → m' c = m c) ∧ m' 75 = m 75 := by
  have key : ∀ {Q : Option xm_V × xm_W → Prop}, (∀ m', ((∀ c, c ≠ 75 → c ≠ 80 → c ≠ 81 → m' c = m c) ∧ m' 75 = m 75) → Q (some (.inl (sg_ks (m 75) r c0 h 6 0 0)), yy_W m' t)) → xm_EQ (xm_old sc) xm_sta (xm_X (xm_old sc) xm_mt (d + 6)) xm_m1176.2.2.2.2.2.2.2 0 (xm_loc xm_m1176.2.2.1 [.inr (.inl (some 74)), .inl ((r : Int)), .inl (c0), .inl (h)]) [] (yy_W m t) Q := by
    intro Q hQ
    have b0 := hW.1.1
    refine xb_1176_0 ?_
    rw [oc_1109 (d := d + 4) (by omega) (by omega), zz_t (by omega), oc_1108 (d := d + 4), zz_t hc, zr_74_0, zi_75, zy_at (by decide) (by decide), show (1 : Int).toNat = 1 from rfl, oc_1103 (d := d + 5), zz_t hh]
    exact l_1176 (d := d) (s := m 75) (m0 := m) hW h9 hr5 hc hh (fun m' a b => hQ m' ⟨a, b⟩) 6 0 0 m rfl (fun _ _ _ _ => rfl) rfl rfl rfl
  obtain ⟨q, h1, m', h2, h3⟩ := yx_of (y := 1176) (M := xm_m1176) (sc := sc) (d := d + 6) (as := [.inr (.inl (some 74)), .inl ((r : Int)), .inl (c0), .inl (h)]) (w := yy_W m t) (Q := fun q => ∃ m', q = (some (.inl (sg_ks (m 75) r c0 h 6 0 0)), yy_W m' t) ∧ ((∀ c, c ≠ 75 → c ≠ 80 → c ≠ 81 → m' c = m c) ∧ m' 75 = m 75)) rfl (key fun m' h => ⟨m', rfl, h⟩) (fun q ⟨m', h, _⟩ => by rw [h]; rfl) rfl (Nat.le_of_ble_eq_true rfl) (yy_hd rfl (by decide))
  exact ⟨m', by rw [h1, h2], h3⟩
set_option maxRecDepth 20000 in
theorem a_122 {sc : List Int} {t : xm_W} {m : Nat → Nat → Int} {x1 x2 x3 : Int} (hI : yy_I t m) : yy_A sc t m 122 1176 [.inl x1, .inl x2, .inl x3] true := by
  by_cases h : (0 ≤ x1 ∧ x1 ≤ m 1 4 - 1) ∧ (0 ≤ x2 ∧ x2 ≤ 35) ∧ (0 ≤ x3 ∧ x3 ≤ m 1 2)
  · obtain ⟨⟨e0, e3, e1, e2⟩, hR⟩ := yy_I_0 hI
    have b0 := hR.1
    obtain ⟨r, rfl⟩ : ∃ r : Nat, x1 = r := ⟨x1.toNat, by omega⟩
    have hr5 : r < 5 := by omega
    have hh : 0 ≤ x3 ∧ x3 ≤ m 75 1 := by omega
    have X1 := c_122g (sc := sc) (d := 96) (t := t) (m := m) (r := r) (h := x3) hr5 h.2.1 hh hI (by omega)
    obtain ⟨m2, X2, f2, q2⟩ := c_1176g (sc := sc) (d := 93) (t := t) (m := m) (r := r) (h := x3) hr5 h.2.1 hh hI.1.1 hI.1.2.1 (by omega)
    refine yy_Ao X1 X2 (yy_I_n (fun c hc => ?_) hI) ?_ rfl
    · by_cases e : c = 75
      · subst e; exact q2
      · unfold yy_no at hc
        exact f2 c e (by omega) (by omega)
    · exact f2 0 (by decide) (by decide) (by decide)
  · exact r_122 hI h
