/-! VOICES: tables and bodies of the class -/
set_option maxRecDepth 20000 in
theorem zz_sb {sc : List Int} {t : xm_W} {m : Nat → Nat → Int} {F : List Int → Prop} (ht : t.length < 900000) : xm_O (xm_ints (xm_old sc) (yy_W m t) 1000001) F = F xm_st1 := by
  rw [xo_bodies (by rw [yy_W_len]; omega)]; rfl
set_option maxRecDepth 20000 in
theorem l_805h {sc : List Int} {d : Nat} {t : xm_W} {m : Nat → Nat → Int} {Q : Option xm_V × xm_W → Prop} {x0 v a b i : Int} (ht : t.length < 900000) (ha : 0 ≤ a ∧ a ≤ 6) (hv : 0 ≤ v ∧ v ≤ 3) (hi : i < 7) (hb : xm_at xm_st1 (a * 4 + v) = some b) (h0 : b ≠ 0) (hQ : Q ((some (.inl (a)), (yy_W (m) t)))) : xm_EQ (xm_old sc) xm_sta (xm_X (xm_old sc) xm_mt (d)) xm_c805 4 [some (.inl (x0)), some (.inl (v)), some (.inl (a)), some (.inl (i))] [] (yy_W (m) t) Q := by
  refine xb_805_4 ?_
  rw [if_pos hi, if_neg (by omega), zz_sb ht, xm_w2 (by omega) (by omega) (by omega) (by omega), hb, xm_O_some, if_neg h0]
  exact hQ
set_option maxRecDepth 20000 in
theorem l_805u {sc : List Int} {d : Nat} {t : xm_W} {m : Nat → Nat → Int} {Q : Option xm_V × xm_W → Prop} {x0 v a p i : Int} (ht : t.length < 900000) (ha : 0 ≤ a ∧ a ≤ 6) (hv : 0 ≤ v ∧ v ≤ 3) (hi : 0 ≤ i ∧ i < 7) (hb : xm_at xm_st1 (a * 4 + v) = some 0) (hp : xm_at xm_st0 a = some p) (hQ : xm_EQ (xm_old sc) xm_sta (xm_X (xm_old sc) xm_mt (d)) xm_c805 4 [some (.inl (x0)), some (.inl (v)), some (.inl (p)), some (.inl (i + 1))] [] (yy_W (m) t) Q) : xm_EQ (xm_old sc) xm_sta (xm_X (xm_old sc) xm_mt (d)) xm_c805 4 [some (.inl (x0)), some (.inl (v)), some (.inl (a)), some (.inl (i))] [] (yy_W (m) t) Q := by
  refine xb_805_4 ?_
  rw [if_pos hi.2, if_neg (by omega), zz_sb ht, xm_w2 (by omega) (by omega) (by omega) (by omega), hb, xm_O_some, if_pos rfl, zz_st ht, hp, xm_O_some, xm_w_id (by omega) (by omega)]
  exact hQ
def sp_ho (a v : Int) : Int := if v = 0 then (if a = 1 ∨ a = 4 ∨ a = 6 then a else 0) else if v = 1 then (if a = 2 ∨ a = 5 ∨ a = 6 then a else 0) else if v = 2 then (if a = 3 ∨ a = 4 then a else 0) else (if a = 1 ∨ a = 4 then 1 else 0)
set_option maxRecDepth 20000 in
theorem c_805 {sc : List Int} {d : Nat} {t : xm_W} {m : Nat → Nat → Int} {a v : Int} (ht : t.length < 900000) (ha : 0 ≤ a ∧ a ≤ 6) (hv : 0 ≤ v ∧ v ≤ 3) : xm_X (xm_old sc) xm_mt (d + 1) 805 [.inl (a), .inl (v)] (yy_W (m) t) = some (some (.inl (sp_ho a v)), (yy_W (m) t)) := by
  refine xm_X_of (M := xm_m805) rfl ⟨xm_EQ.eq (xb_805_0 ?_), rfl, rfl, Nat.le_of_ble_eq_true rfl, xw_hd0⟩
  rcases (show a = 0 ∨ a = 1 ∨ a = 2 ∨ a = 3 ∨ a = 4 ∨ a = 5 ∨ a = 6 by omega) with z | z | z | z | z | z | z <;> subst z
  · rcases (show v = 0 ∨ v = 1 ∨ v = 2 ∨ v = 3 by omega) with z | z | z | z <;> subst z
    · exact l_805h (a := 0) (v := 0) (i := 0) (b := 10) ht (by decide) (by decide) (by decide) rfl (by decide) rfl
    · exact l_805h (a := 0) (v := 1) (i := 0) (b := 11) ht (by decide) (by decide) (by decide) rfl (by decide) rfl
    · exact l_805h (a := 0) (v := 2) (i := 0) (b := 12) ht (by decide) (by decide) (by decide) rfl (by decide) rfl
    · exact l_805h (a := 0) (v := 3) (i := 0) (b := 13) ht (by decide) (by decide) (by decide) rfl (by decide) rfl
  · rcases (show v = 0 ∨ v = 1 ∨ v = 2 ∨ v = 3 by omega) with z | z | z | z <;> subst z
    · exact l_805h (a := 1) (v := 0) (i := 0) (b := 20) ht (by decide) (by decide) (by decide) rfl (by decide) rfl
    · refine l_805u (a := 1) (v := 1) (i := 0) ht (by decide) (by decide) (by decide) rfl rfl ?_
      exact l_805h (a := 0) (v := 1) (i := 1) (b := 11) ht (by decide) (by decide) (by decide) rfl (by decide) rfl
    · refine l_805u (a := 1) (v := 2) (i := 0) ht (by decide) (by decide) (by decide) rfl rfl ?_
      exact l_805h (a := 0) (v := 2) (i := 1) (b := 12) ht (by decide) (by decide) (by decide) rfl (by decide) rfl
    · exact l_805h (a := 1) (v := 3) (i := 0) (b := 21) ht (by decide) (by decide) (by decide) rfl (by decide) rfl
  · rcases (show v = 0 ∨ v = 1 ∨ v = 2 ∨ v = 3 by omega) with z | z | z | z <;> subst z
    · refine l_805u (a := 2) (v := 0) (i := 0) ht (by decide) (by decide) (by decide) rfl rfl ?_
      exact l_805h (a := 0) (v := 0) (i := 1) (b := 10) ht (by decide) (by decide) (by decide) rfl (by decide) rfl
    · exact l_805h (a := 2) (v := 1) (i := 0) (b := 30) ht (by decide) (by decide) (by decide) rfl (by decide) rfl
    · refine l_805u (a := 2) (v := 2) (i := 0) ht (by decide) (by decide) (by decide) rfl rfl ?_
      exact l_805h (a := 0) (v := 2) (i := 1) (b := 12) ht (by decide) (by decide) (by decide) rfl (by decide) rfl
    · refine l_805u (a := 2) (v := 3) (i := 0) ht (by decide) (by decide) (by decide) rfl rfl ?_
      exact l_805h (a := 0) (v := 3) (i := 1) (b := 13) ht (by decide) (by decide) (by decide) rfl (by decide) rfl
  · rcases (show v = 0 ∨ v = 1 ∨ v = 2 ∨ v = 3 by omega) with z | z | z | z <;> subst z
    · refine l_805u (a := 3) (v := 0) (i := 0) ht (by decide) (by decide) (by decide) rfl rfl ?_
      exact l_805h (a := 0) (v := 0) (i := 1) (b := 10) ht (by decide) (by decide) (by decide) rfl (by decide) rfl
    · refine l_805u (a := 3) (v := 1) (i := 0) ht (by decide) (by decide) (by decide) rfl rfl ?_
      exact l_805h (a := 0) (v := 1) (i := 1) (b := 11) ht (by decide) (by decide) (by decide) rfl (by decide) rfl
    · exact l_805h (a := 3) (v := 2) (i := 0) (b := 40) ht (by decide) (by decide) (by decide) rfl (by decide) rfl
    · refine l_805u (a := 3) (v := 3) (i := 0) ht (by decide) (by decide) (by decide) rfl rfl ?_
      exact l_805h (a := 0) (v := 3) (i := 1) (b := 13) ht (by decide) (by decide) (by decide) rfl (by decide) rfl
  · rcases (show v = 0 ∨ v = 1 ∨ v = 2 ∨ v = 3 by omega) with z | z | z | z <;> subst z
    · exact l_805h (a := 4) (v := 0) (i := 0) (b := 50) ht (by decide) (by decide) (by decide) rfl (by decide) rfl
    · refine l_805u (a := 4) (v := 1) (i := 0) ht (by decide) (by decide) (by decide) rfl rfl ?_
      refine l_805u (a := 1) (v := 1) (i := 1) ht (by decide) (by decide) (by decide) rfl rfl ?_
      exact l_805h (a := 0) (v := 1) (i := 2) (b := 11) ht (by decide) (by decide) (by decide) rfl (by decide) rfl
    · exact l_805h (a := 4) (v := 2) (i := 0) (b := 51) ht (by decide) (by decide) (by decide) rfl (by decide) rfl
    · refine l_805u (a := 4) (v := 3) (i := 0) ht (by decide) (by decide) (by decide) rfl rfl ?_
      exact l_805h (a := 1) (v := 3) (i := 1) (b := 21) ht (by decide) (by decide) (by decide) rfl (by decide) rfl
  · rcases (show v = 0 ∨ v = 1 ∨ v = 2 ∨ v = 3 by omega) with z | z | z | z <;> subst z
    · refine l_805u (a := 5) (v := 0) (i := 0) ht (by decide) (by decide) (by decide) rfl rfl ?_
      refine l_805u (a := 2) (v := 0) (i := 1) ht (by decide) (by decide) (by decide) rfl rfl ?_
      exact l_805h (a := 0) (v := 0) (i := 2) (b := 10) ht (by decide) (by decide) (by decide) rfl (by decide) rfl
    · exact l_805h (a := 5) (v := 1) (i := 0) (b := 60) ht (by decide) (by decide) (by decide) rfl (by decide) rfl
    · refine l_805u (a := 5) (v := 2) (i := 0) ht (by decide) (by decide) (by decide) rfl rfl ?_
      refine l_805u (a := 2) (v := 2) (i := 1) ht (by decide) (by decide) (by decide) rfl rfl ?_
      exact l_805h (a := 0) (v := 2) (i := 2) (b := 12) ht (by decide) (by decide) (by decide) rfl (by decide) rfl
    · refine l_805u (a := 5) (v := 3) (i := 0) ht (by decide) (by decide) (by decide) rfl rfl ?_
      refine l_805u (a := 2) (v := 3) (i := 1) ht (by decide) (by decide) (by decide) rfl rfl ?_
      exact l_805h (a := 0) (v := 3) (i := 2) (b := 13) ht (by decide) (by decide) (by decide) rfl (by decide) rfl
  · rcases (show v = 0 ∨ v = 1 ∨ v = 2 ∨ v = 3 by omega) with z | z | z | z <;> subst z
    · exact l_805h (a := 6) (v := 0) (i := 0) (b := 70) ht (by decide) (by decide) (by decide) rfl (by decide) rfl
    · exact l_805h (a := 6) (v := 1) (i := 0) (b := 71) ht (by decide) (by decide) (by decide) rfl (by decide) rfl
    · refine l_805u (a := 6) (v := 2) (i := 0) ht (by decide) (by decide) (by decide) rfl rfl ?_
      exact l_805h (a := 0) (v := 2) (i := 1) (b := 12) ht (by decide) (by decide) (by decide) rfl (by decide) rfl
    · refine l_805u (a := 6) (v := 3) (i := 0) ht (by decide) (by decide) (by decide) rfl rfl ?_
      exact l_805h (a := 0) (v := 3) (i := 1) (b := 13) ht (by decide) (by decide) (by decide) rfl (by decide) rfl
set_option maxRecDepth 20000 in
theorem oc_805 {F : Int → xm_W → Prop} {sc : List Int} {d : Nat} {t : xm_W} {m : Nat → Nat → Int} {a v : Int} (ht : t.length < 900000) (ha : 0 ≤ a ∧ a ≤ 6) (hv : 0 ≤ v ∧ v ≤ 3) : xm_Oi (xm_X (xm_old sc) xm_mt (d + 1) 805 [.inl (a), .inl (v)] (yy_W (m) t)) F = F (sp_ho a v) (yy_W (m) t) := congrArg (fun x => xm_Oi x F) (c_805 ht ha hv)
def yy_VF (m m' : Nat → Nat → Int) : Prop := (∀ c, c ≠ 61 → c ≠ 62 → m' c = m c) ∧ (∀ q, q ≠ 1 → m' 61 q = m 61 q) ∧ (0 ≤ m' 61 1 ∧ m' 61 1 ≤ 30)
set_option maxRecDepth 20000 in
theorem yy_VF_tr {m m' m'' : Nat → Nat → Int} (h : yy_VF m m') (h' : yy_VF m' m'') : yy_VF m m'' := ⟨fun c a b => by rw [h'.1 c a b, h.1 c a b], fun q a => by rw [h'.2.1 q a, h.2.1 q a], h'.2.2⟩
set_option maxRecDepth 20000 in
theorem c_806 {sc : List Int} {d : Nat} {t : xm_W} {m : Nat → Nat → Int} {b : Int} (h : 0 ≤ m 61 1 ∧ m 61 1 ≤ 30) : ∃ m', xm_X (xm_old sc) xm_mt (d + 1) 806 [.inr (.inl (some 61)), .inl (b)] (yy_W m t) = some (none, yy_W m' t) ∧ yy_VF m m' := by
  have key : ∀ {Q : Option xm_V × xm_W → Prop}, (∀ m', (yy_VF m m') → Q (none, yy_W m' t)) → xm_EQ (xm_old sc) xm_sta (xm_X (xm_old sc) xm_mt (d)) xm_m806.2.2.2.2.2.2.2 0 (xm_loc xm_m806.2.2.1 [.inr (.inl (some 61)), .inl (b)]) [] (yy_W m t) Q := by
    intro Q hQ
    refine xb_806_0 ?_
    rw [zf_61_1]
    by_cases g : m 61 1 < 30
    · rw [if_pos g, zr_61_0, zf_61_1, zt_62 (by omega) (by omega), zf_61_1, yy_s_ne (by decide), zs_61_1, xm_w_id (by omega) (by omega)]
      exact hQ _ ⟨fun c a b => by rw [yy_s_ne a, yy_s_ne b], fun q a => by rw [yy_s_eq, yy_u_ne a, yy_s_ne (by decide)], by rw [yy_s_eq, yy_u_eq]; omega⟩
    · rw [if_neg g]
      exact hQ m ⟨fun _ _ _ => rfl, fun _ _ => rfl, h⟩
  obtain ⟨q, h1, m', h2, h3⟩ := yx_of (y := 806) (M := xm_m806) (sc := sc) (d := d) (as := [.inr (.inl (some 61)), .inl (b)]) (w := yy_W m t) (Q := fun q => ∃ m', q = (none, yy_W m' t) ∧ (yy_VF m m')) rfl (key fun m' h => ⟨m', rfl, h⟩) (fun q ⟨m', h, _⟩ => by rw [h]; rfl) rfl (Nat.le_of_ble_eq_true rfl) (yy_hd rfl (by decide))
  exact ⟨m', by rw [h1, h2], h3⟩
set_option maxRecDepth 20000 in
theorem c_803 {sc : List Int} {d : Nat} {t : xm_W} {m : Nat → Nat → Int} {fr v x dp h b p z : Int} (ht : t.length < 900000) (hf : 0 ≤ fr ∧ fr ≤ 6) (hv : 0 ≤ v ∧ v ≤ 3) (hd : 0 ≤ dp ∧ dp ≤ 40) (ho : sp_ho fr v = h) (h0 : 0 ≤ h ∧ h ≤ 6) (hb : xm_at xm_st1 (h * 4 + v) = some b) (hp : xm_at xm_st0 h = some p) (h61 : 0 ≤ m 61 1 ∧ m 61 1 ≤ 30) (hw : ∀ m1, yy_VF m m1 → ∃ m2, xm_X (xm_old sc) xm_mt (d + 1) 804 [.inr (.inl (some 61)), .inl (b), .inl (p), .inl (x), .inl (dp + 1)] (yy_W (m1) t) = some (some (.inl (z)), (yy_W (m2) t)) ∧ yy_VF m1 m2) : ∃ m', xm_X (xm_old sc) xm_mt (d + 2) 803 [.inr (.inl (some 61)), .inl (fr), .inl (v), .inl (x), .inl (dp)] (yy_W m t) = some (some (.inl (z)), yy_W m' t) ∧ yy_VF m m' := by
  have key : ∀ {Q : Option xm_V × xm_W → Prop}, (∀ m', (yy_VF m m') → Q (some (.inl (z)), yy_W m' t)) → xm_EQ (xm_old sc) xm_sta (xm_X (xm_old sc) xm_mt (d + 1)) xm_m803.2.2.2.2.2.2.2 0 (xm_loc xm_m803.2.2.1 [.inr (.inl (some 61)), .inl (fr), .inl (v), .inl (x), .inl (dp)]) [] (yy_W m t) Q := by
    intro Q hQ
    refine xb_803_0 ?_
    rw [oc_805 (d := d) ht hf hv, ho, if_neg (by omega), if_neg (by omega), zz_sb ht, xm_w2 (by omega) (by omega) (by omega) (by omega), hb, xm_O_some]
    obtain ⟨m1, e, f1⟩ := c_806 (sc := sc) (d := d) (t := t) (m := m) (b := b) h61
    obtain ⟨m2, e2, f2⟩ := hw m1 f1
    rw [e, xm_Ov_some, zz_st ht, hp, xm_O_some, xm_w_id (by omega) (by omega), e2, xm_Oi_some]
    exact hQ m2 (yy_VF_tr f1 f2)
  obtain ⟨q, h1, m', h2, h3⟩ := yx_of (y := 803) (M := xm_m803) (sc := sc) (d := d + 1) (as := [.inr (.inl (some 61)), .inl (fr), .inl (v), .inl (x), .inl (dp)]) (w := yy_W m t) (Q := fun q => ∃ m', q = (some (.inl (z)), yy_W m' t) ∧ (yy_VF m m')) rfl (key fun m' h => ⟨m', rfl, h⟩) (fun q ⟨m', h, _⟩ => by rw [h]; rfl) rfl (Nat.le_of_ble_eq_true rfl) (yy_hd rfl (by decide))
  exact ⟨m', by rw [h1, h2], h3⟩
