/-! VOICES: the reference -/
def yy_VR (m m' : Nat → Nat → Int) : Prop := (∀ c, c ≠ 74 → c ≠ 82 → m' c = m c) ∧ (∀ q, q ≠ 15 → m' 74 q = m 74 q) ∧ (0 ≤ m' 74 15 ∧ m' 74 15 ≤ 30)
set_option maxRecDepth 20000 in
theorem yy_VR_tr {m m' m'' : Nat → Nat → Int} (h : yy_VR m m') (h' : yy_VR m' m'') : yy_VR m m'' := ⟨fun c a b => by rw [h'.1 c a b, h.1 c a b], fun q a => by rw [h'.2.1 q a, h.2.1 q a], h'.2.2⟩
def yy_vq (K M k : Int) (m : Nat → Nat → Int) : Prop := (0 ≤ k ∧ k < 5) ∧ m 74 16 = k ∧ m 75 (44 + 18 * k + 0).toNat = K ∧ m 75 (44 + 18 * k + 1).toNat = M ∧ m 74 17 = 0 ∧ (0 ≤ m 74 15 ∧ m 74 15 ≤ 30)
set_option maxRecDepth 20000 in
theorem yy_vq_r {K M k : Int} {m m' : Nat → Nat → Int} (h : yy_vq K M k m) (f : yy_VR m m') : yy_vq K M k m' := ⟨h.1, by rw [f.2.1 16 (by decide)]; exact h.2.1, by rw [f.1 75 (by decide) (by decide)]; exact h.2.2.1, by rw [f.1 75 (by decide) (by decide)]; exact h.2.2.2.1, by rw [f.2.1 17 (by decide)]; exact h.2.2.2.2.1, f.2.2⟩
set_option maxRecDepth 20000 in
theorem c_1186 {sc : List Int} {d : Nat} {t : xm_W} {m : Nat → Nat → Int} {b : Int} (h : 0 ≤ m 74 15 ∧ m 74 15 ≤ 30) : ∃ m', xm_X (xm_old sc) xm_mt (d + 1) 1186 [.inr (.inl (some 74)), .inl (b)] (yy_W m t) = some (none, yy_W m' t) ∧ yy_VR m m' := by
  have key : ∀ {Q : Option xm_V × xm_W → Prop}, (∀ m', (yy_VR m m') → Q (none, yy_W m' t)) → xm_EQ (xm_old sc) xm_sta (xm_X (xm_old sc) xm_mt (d)) xm_m1186.2.2.2.2.2.2.2 0 (xm_loc xm_m1186.2.2.1 [.inr (.inl (some 74)), .inl (b)]) [] (yy_W m t) Q := by
    intro Q hQ
    refine xb_1186_0 ?_
    rw [zf_74_15]
    by_cases g : m 74 15 < 30
    · rw [if_pos g, zr_74_14, zf_74_15, zt_82 (by omega) (by omega), zf_74_15, yy_s_ne (by decide), zs_74_15, xm_w_id (by omega) (by omega)]
      exact hQ _ ⟨fun c a b => by rw [yy_s_ne a, yy_s_ne b], fun q a => by rw [yy_s_eq, yy_u_ne a, yy_s_ne (by decide)], by rw [yy_s_eq, yy_u_eq]; omega⟩
    · rw [if_neg g]
      exact hQ m ⟨fun _ _ _ => rfl, fun _ _ => rfl, h⟩
  obtain ⟨q, h1, m', h2, h3⟩ := yx_of (y := 1186) (M := xm_m1186) (sc := sc) (d := d) (as := [.inr (.inl (some 74)), .inl (b)]) (w := yy_W m t) (Q := fun q => ∃ m', q = (none, yy_W m' t) ∧ (yy_VR m m')) rfl (key fun m' h => ⟨m', rfl, h⟩) (fun q ⟨m', h, _⟩ => by rw [h]; rfl) rfl (Nat.le_of_ble_eq_true rfl) (yy_hd rfl (by decide))
  exact ⟨m', by rw [h1, h2], h3⟩
def sp_ab (a : Int) : Int := if a = 4 then 1 else if a = 5 then 2 else 0
set_option maxRecDepth 20000 in
theorem c_1187 {sc : List Int} {d : Nat} {t : xm_W} {m : Nat → Nat → Int} {a b : Int} (h : sp_ab a = b) : xm_X (xm_old sc) xm_mt (d + 1) 1187 [.inl (a)] (yy_W (m) t) = some (some (.inl (b)), (yy_W (m) t)) := by
  refine xm_X_of (M := xm_m1187) rfl ⟨xm_EQ.eq (xb_1187_0 ?_), rfl, rfl, Nat.le_of_ble_eq_true rfl, xw_hd0⟩
  unfold sp_ab at h
  by_cases h4 : a = 4
  · rw [if_pos h4] at h; rw [if_pos h4, h]
  · rw [if_neg h4] at h; rw [if_neg h4]
    by_cases h5 : a = 5
    · rw [if_pos h5] at h; rw [if_pos h5, h]
    · rw [if_neg h5] at h; rw [if_neg h5, h]
set_option maxRecDepth 20000 in
theorem oc_1187 {F : Int → xm_W → Prop} {sc : List Int} {d : Nat} {t : xm_W} {m : Nat → Nat → Int} {a b : Int} (h : sp_ab a = b) : xm_Oi (xm_X (xm_old sc) xm_mt (d + 1) 1187 [.inl (a)] (yy_W (m) t)) F = F (b) (yy_W (m) t) := congrArg (fun x => xm_Oi x F) (c_1187 h)
set_option maxRecDepth 20000 in
theorem c_1188 {sc : List Int} {d : Nat} {t : xm_W} {m : Nat → Nat → Int} {K M k : Int} (h : yy_vq K M k m) : xm_X (xm_old sc) xm_mt (d + 2) 1188 [.inr (.inl (some 74))] (yy_W (m) t) = some (some (.inl (K)), (yy_W (m) t)) := by
  refine xm_X_of (M := xm_m1188) rfl ⟨xm_EQ.eq (xb_1188_0 ?_), rfl, rfl, Nat.le_of_ble_eq_true rfl, yy_hd rfl (by decide)⟩
  obtain ⟨h1, h2, h3, -⟩ := h
  rw [zf_74_16, h2, oc_1110 (d := d) h1.1 h1.2 (by decide) (by decide), h3]
set_option maxRecDepth 20000 in
theorem oc_1188 {F : Int → xm_W → Prop} {sc : List Int} {d : Nat} {t : xm_W} {m : Nat → Nat → Int} {K M k : Int} (h : yy_vq K M k m) : xm_Oi (xm_X (xm_old sc) xm_mt (d + 2) 1188 [.inr (.inl (some 74))] (yy_W (m) t)) F = F (K) (yy_W (m) t) := congrArg (fun x => xm_Oi x F) (c_1188 h)
set_option maxRecDepth 20000 in
theorem c_1189 {sc : List Int} {d : Nat} {t : xm_W} {m : Nat → Nat → Int} {K M k : Int} (h : yy_vq K M k m) : xm_X (xm_old sc) xm_mt (d + 2) 1189 [.inr (.inl (some 74))] (yy_W (m) t) = some (some (.inl (M)), (yy_W (m) t)) := by
  refine xm_X_of (M := xm_m1189) rfl ⟨xm_EQ.eq (xb_1189_0 ?_), rfl, rfl, Nat.le_of_ble_eq_true rfl, yy_hd rfl (by decide)⟩
  obtain ⟨h1, h2, -, h3, -⟩ := h
  rw [zf_74_16, h2, oc_1110 (d := d) h1.1 h1.2 (by decide) (by decide), h3]
set_option maxRecDepth 20000 in
theorem oc_1189 {F : Int → xm_W → Prop} {sc : List Int} {d : Nat} {t : xm_W} {m : Nat → Nat → Int} {K M k : Int} (h : yy_vq K M k m) : xm_Oi (xm_X (xm_old sc) xm_mt (d + 2) 1189 [.inr (.inl (some 74))] (yy_W (m) t)) F = F (M) (yy_W (m) t) := congrArg (fun x => xm_Oi x F) (c_1189 h)
def yy_rb (sc : List Int) (t : xm_W) (n : Nat) (me : Nat) (K M k fr x z : Int) : Prop := ∀ (d : Nat) (m : Nat → Nat → Int), yy_vq K M k m → ∃ m', xm_X (xm_old sc) xm_mt (d + n) me [.inr (.inl (some 74)), .inl fr, .inl x] (yy_W m t) = some (some (.inl (z)), (yy_W (m') t)) ∧ yy_VR m m'
set_option maxRecDepth 20000 in
theorem yy_rb_up {sc : List Int} {t : xm_W} {n n' me : Nat} {K M k fr x z : Int} (hn : n ≤ n') (h : yy_rb sc t n me K M k fr x z) : yy_rb sc t n' me K M k fr x z := fun d m a => by
  obtain ⟨j, rfl⟩ : ∃ j, n' = n + j := ⟨n' - n, by omega⟩
  have := h (d + j) m a
  rw [show d + (n + j) = d + j + n by omega]
  exact this
set_option maxRecDepth 20000 in
theorem y90_0 {sc : List Int} {t : xm_W} {K M k x : Int} : yy_rb sc t 2 1190 K M k 0 x (xm_w (x + k)) := fun d m h => by
  obtain ⟨m1, e1, f1⟩ := c_1186 (sc := sc) (d := d) (t := t) (m := m) (b := 10) h.2.2.2.2.2
  refine ⟨m1, ?_, f1⟩
  show xm_X (xm_old sc) xm_mt (d + 1 + 1) 1190 [.inr (.inl (some 74)), .inl (0), .inl (x)] (yy_W (m) t) = _
  refine xm_X_of (M := xm_m1190) rfl ⟨xm_EQ.eq (xb_1190_0 ?_), rfl, rfl, Nat.le_of_ble_eq_true rfl, yy_hd rfl (by decide)⟩
  rw [if_pos rfl, e1, xm_Ov_some, zf_74_16, f1.2.1 16 (by decide), h.2.1]
set_option maxRecDepth 20000 in
theorem y90_p {sc : List Int} {t : xm_W} {n : Nat} {K M k fr b x z : Int} (hf : fr = 2 ∨ fr = 3 ∨ fr = 5) (hb : sp_ab fr = b) (h : yy_rb sc t (n + 1) 1190 K M k b x z) : yy_rb sc t (n + 2) 1190 K M k fr x z := fun d m a => by
  obtain ⟨m1, e1, f1⟩ := h d m a
  refine ⟨m1, ?_, f1⟩
  show xm_X (xm_old sc) xm_mt (d + n + 1 + 1) 1190 [.inr (.inl (some 74)), .inl (fr), .inl (x)] (yy_W (m) t) = _
  refine xm_X_of (M := xm_m1190) rfl ⟨xm_EQ.eq (xb_1190_0 ?_), rfl, rfl, Nat.le_of_ble_eq_true rfl, yy_hd rfl (by decide)⟩
  rcases hf with q | q | q <;> subst q
  · rw [if_neg (by decide), if_neg (by decide), if_pos rfl, oc_1187 (d := d + n) hb]; erw [e1]; rw [xm_Oi_some]
  · rw [if_neg (by decide), if_neg (by decide), if_neg (by decide), if_pos rfl, oc_1187 (d := d + n) hb]; erw [e1]; rw [xm_Oi_some]
  · rw [if_neg (by decide), if_neg (by decide), if_neg (by decide), if_neg (by decide), if_neg (by decide), if_pos rfl, oc_1187 (d := d + n) hb]; erw [e1]; rw [xm_Oi_some]
set_option maxRecDepth 20000 in
theorem y90_1 {sc : List Int} {t : xm_W} {K M k x : Int} : yy_rb sc t 3 1190 K M k 1 x (xm_w (xm_w (x + k) - 7)) := fun d m h => by
  obtain ⟨m1, e1, f1⟩ := c_1186 (sc := sc) (d := d + 1) (t := t) (m := m) (b := 20) h.2.2.2.2.2
  obtain ⟨m2, e2, f2⟩ := y90_0 (sc := sc) (t := t) (x := x) d m1 (yy_vq_r h f1)
  refine ⟨m2, ?_, yy_VR_tr f1 f2⟩
  show xm_X (xm_old sc) xm_mt (d + 2 + 1) 1190 [.inr (.inl (some 74)), .inl (1), .inl (x)] (yy_W (m) t) = _
  refine xm_X_of (M := xm_m1190) rfl ⟨xm_EQ.eq (xb_1190_0 ?_), rfl, rfl, Nat.le_of_ble_eq_true rfl, yy_hd rfl (by decide)⟩
  rw [if_neg (by decide), if_pos rfl, e1, xm_Ov_some, oc_1187 (d := d + 1) (a := 1) (b := 0) rfl]; erw [e2]; rw [xm_Oi_some]
set_option maxRecDepth 20000 in
theorem y90_4 {sc : List Int} {t : xm_W} {K M k x : Int} : yy_rb sc t 4 1190 K M k 4 x (xm_w (xm_w (xm_w (x + k) - 7) * 3)) := fun d m h => by
  obtain ⟨m1, e1, f1⟩ := c_1186 (sc := sc) (d := d + 2) (t := t) (m := m) (b := 50) h.2.2.2.2.2
  obtain ⟨m2, e2, f2⟩ := y90_1 (sc := sc) (t := t) (x := x) d m1 (yy_vq_r h f1)
  refine ⟨m2, ?_, yy_VR_tr f1 f2⟩
  show xm_X (xm_old sc) xm_mt (d + 3 + 1) 1190 [.inr (.inl (some 74)), .inl (4), .inl (x)] (yy_W (m) t) = _
  refine xm_X_of (M := xm_m1190) rfl ⟨xm_EQ.eq (xb_1190_0 ?_), rfl, rfl, Nat.le_of_ble_eq_true rfl, yy_hd rfl (by decide)⟩
  rw [if_neg (by decide), if_neg (by decide), if_neg (by decide), if_neg (by decide), if_pos rfl, e1, xm_Ov_some, oc_1187 (d := d + 2) (a := 4) (b := 1) rfl]; erw [e2]; rw [xm_Oi_some]
set_option maxRecDepth 20000 in
theorem y90_6 {sc : List Int} {t : xm_W} {K M k x : Int} : yy_rb sc t 2 1190 K M k 6 x 5 := fun d m h => by
  obtain ⟨m1, e1, f1⟩ := c_1186 (sc := sc) (d := d) (t := t) (m := m) (b := 70) h.2.2.2.2.2
  refine ⟨m1, ?_, f1⟩
  show xm_X (xm_old sc) xm_mt (d + 1 + 1) 1190 [.inr (.inl (some 74)), .inl (6), .inl (x)] (yy_W (m) t) = _
  refine xm_X_of (M := xm_m1190) rfl ⟨xm_EQ.eq (xb_1190_0 ?_), rfl, rfl, Nat.le_of_ble_eq_true rfl, yy_hd rfl (by decide)⟩
  rw [if_neg (by decide), if_neg (by decide), if_neg (by decide), if_neg (by decide), if_neg (by decide), if_neg (by decide), if_pos rfl, e1, xm_Ov_some]
set_option maxRecDepth 20000 in
theorem y90 {sc : List Int} {t : xm_W} {K M k fr x : Int} (hf : 0 ≤ fr ∧ fr ≤ 6) : yy_rb sc t 4 1190 K M k fr x (sp_vr k fr x) := by
  unfold sp_vr
  rcases (show fr = 0 ∨ fr = 1 ∨ fr = 2 ∨ fr = 3 ∨ fr = 4 ∨ fr = 5 ∨ fr = 6 by omega) with q | q | q | q | q | q | q <;> subst q
  · rw [if_neg (by decide), if_neg (by decide), if_neg (by decide)]; exact yy_rb_up (by decide) y90_0
  · rw [if_pos rfl]; exact yy_rb_up (by decide) y90_1
  · rw [if_neg (by decide), if_neg (by decide), if_neg (by decide)]; exact yy_rb_up (by decide) (y90_p (n := 1) (b := 0) (by omega) rfl y90_0)
  · rw [if_neg (by decide), if_neg (by decide), if_neg (by decide)]; exact yy_rb_up (by decide) (y90_p (n := 1) (b := 0) (by omega) rfl y90_0)
  · rw [if_neg (by decide), if_pos rfl]; exact y90_4
  · rw [if_neg (by decide), if_neg (by decide), if_neg (by decide)]; exact y90_p (n := 2) (b := 2) (by omega) rfl (y90_p (n := 1) (b := 0) (by omega) rfl y90_0)
  · rw [if_neg (by decide), if_neg (by decide), if_pos rfl]; exact yy_rb_up (by decide) y90_6
set_option maxRecDepth 20000 in
theorem y91_0 {sc : List Int} {t : xm_W} {K M k x : Int} (hK : 0 ≤ K ∧ K ≤ 6) : yy_rb sc t 5 1191 K M k 0 x (xm_w (sp_vr k K x * 2)) := fun d m h => by
  obtain ⟨m1, e1, f1⟩ := c_1186 (sc := sc) (d := d + 3) (t := t) (m := m) (b := 11) h.2.2.2.2.2
  obtain ⟨m2, e2, f2⟩ := y90 (sc := sc) (t := t) (x := x) hK d m1 (yy_vq_r h f1)
  refine ⟨m2, ?_, yy_VR_tr f1 f2⟩
  show xm_X (xm_old sc) xm_mt (d + 4 + 1) 1191 [.inr (.inl (some 74)), .inl (0), .inl (x)] (yy_W (m) t) = _
  refine xm_X_of (M := xm_m1191) rfl ⟨xm_EQ.eq (xb_1191_0 ?_), rfl, rfl, Nat.le_of_ble_eq_true rfl, yy_hd rfl (by decide)⟩
  rw [if_pos rfl, e1, xm_Ov_some, oc_1188 (d := d + 2) (yy_vq_r h f1)]; erw [e2]; rw [xm_Oi_some]
set_option maxRecDepth 20000 in
theorem y91_p {sc : List Int} {t : xm_W} {n : Nat} {K M k fr b x z : Int} (hf : fr = 1 ∨ fr = 3 ∨ fr = 4) (hb : sp_ab fr = b) (h : yy_rb sc t (n + 1) 1191 K M k b x z) : yy_rb sc t (n + 2) 1191 K M k fr x z := fun d m a => by
  obtain ⟨m1, e1, f1⟩ := h d m a
  refine ⟨m1, ?_, f1⟩
  show xm_X (xm_old sc) xm_mt (d + n + 1 + 1) 1191 [.inr (.inl (some 74)), .inl (fr), .inl (x)] (yy_W (m) t) = _
  refine xm_X_of (M := xm_m1191) rfl ⟨xm_EQ.eq (xb_1191_0 ?_), rfl, rfl, Nat.le_of_ble_eq_true rfl, yy_hd rfl (by decide)⟩
  rcases hf with q | q | q <;> subst q
  · rw [if_neg (by decide), if_pos rfl, oc_1187 (d := d + n) hb]; erw [e1]; rw [xm_Oi_some]
  · rw [if_neg (by decide), if_neg (by decide), if_neg (by decide), if_pos rfl, oc_1187 (d := d + n) hb]; erw [e1]; rw [xm_Oi_some]
  · rw [if_neg (by decide), if_neg (by decide), if_neg (by decide), if_neg (by decide), if_pos rfl, oc_1187 (d := d + n) hb]; erw [e1]; rw [xm_Oi_some]
set_option maxRecDepth 20000 in
theorem y91_2 {sc : List Int} {t : xm_W} {K M k x : Int} (hK : 0 ≤ K ∧ K ≤ 6) : yy_rb sc t 6 1191 K M k 2 x (xm_w (0 - xm_w (sp_vr k K x * 2))) := fun d m h => by
  obtain ⟨m1, e1, f1⟩ := c_1186 (sc := sc) (d := d + 4) (t := t) (m := m) (b := 30) h.2.2.2.2.2
  obtain ⟨m2, e2, f2⟩ := y91_0 (sc := sc) (t := t) (x := x) hK d m1 (yy_vq_r h f1)
  refine ⟨m2, ?_, yy_VR_tr f1 f2⟩
  show xm_X (xm_old sc) xm_mt (d + 5 + 1) 1191 [.inr (.inl (some 74)), .inl (2), .inl (x)] (yy_W (m) t) = _
  refine xm_X_of (M := xm_m1191) rfl ⟨xm_EQ.eq (xb_1191_0 ?_), rfl, rfl, Nat.le_of_ble_eq_true rfl, yy_hd rfl (by decide)⟩
  rw [if_neg (by decide), if_neg (by decide), if_pos rfl, e1, xm_Ov_some, oc_1187 (d := d + 4) (a := 2) (b := 0) rfl]; erw [e2]; rw [xm_Oi_some]
set_option maxRecDepth 20000 in
theorem y91_5 {sc : List Int} {t : xm_W} {K M k x : Int} (hK : 0 ≤ K ∧ K ≤ 6) : yy_rb sc t 7 1191 K M k 5 x (xm_w (0 - xm_w (sp_vr k K (xm_w (x + 1)) * 2))) := fun d m h => by
  obtain ⟨m1, e1, f1⟩ := c_1186 (sc := sc) (d := d + 5) (t := t) (m := m) (b := 60) h.2.2.2.2.2
  obtain ⟨m2, e2, f2⟩ := y91_2 (sc := sc) (t := t) (x := xm_w (x + 1)) hK d m1 (yy_vq_r h f1)
  refine ⟨m2, ?_, yy_VR_tr f1 f2⟩
  show xm_X (xm_old sc) xm_mt (d + 6 + 1) 1191 [.inr (.inl (some 74)), .inl (5), .inl (x)] (yy_W (m) t) = _
  refine xm_X_of (M := xm_m1191) rfl ⟨xm_EQ.eq (xb_1191_0 ?_), rfl, rfl, Nat.le_of_ble_eq_true rfl, yy_hd rfl (by decide)⟩
  rw [if_neg (by decide), if_neg (by decide), if_neg (by decide), if_neg (by decide), if_neg (by decide), if_pos rfl, e1, xm_Ov_some, oc_1187 (d := d + 5) (a := 5) (b := 2) rfl]; erw [e2]; rw [xm_Oi_some]
set_option maxRecDepth 20000 in
theorem y91_6 {sc : List Int} {t : xm_W} {K M k x : Int} (hK : 0 ≤ K ∧ K ≤ 6) : yy_rb sc t 6 1191 K M k 6 x (xm_w (xm_w (sp_vr k K x * 2) + M)) := fun d m h => by
  obtain ⟨m1, e1, f1⟩ := c_1186 (sc := sc) (d := d + 4) (t := t) (m := m) (b := 71) h.2.2.2.2.2
  obtain ⟨m2, e2, f2⟩ := y91_0 (sc := sc) (t := t) (x := x) hK d m1 (yy_vq_r h f1)
  refine ⟨m2, ?_, yy_VR_tr f1 f2⟩
  show xm_X (xm_old sc) xm_mt (d + 5 + 1) 1191 [.inr (.inl (some 74)), .inl (6), .inl (x)] (yy_W (m) t) = _
  refine xm_X_of (M := xm_m1191) rfl ⟨xm_EQ.eq (xb_1191_0 ?_), rfl, rfl, Nat.le_of_ble_eq_true rfl, yy_hd rfl (by decide)⟩
  rw [if_neg (by decide), if_neg (by decide), if_neg (by decide), if_neg (by decide), if_neg (by decide), if_neg (by decide), if_pos rfl, e1, xm_Ov_some, oc_1187 (d := d + 4) (a := 6) (b := 0) rfl]; erw [e2]; rw [xm_Oi_some, oc_1189 (d := d + 3) (yy_vq_r (yy_vq_r h f1) f2)]
set_option maxRecDepth 20000 in
theorem y91 {sc : List Int} {t : xm_W} {K M k fr x : Int} (hK : 0 ≤ K ∧ K ≤ 6) (hf : 0 ≤ fr ∧ fr ≤ 6) : yy_rb sc t 7 1191 K M k fr x (sp_vs k K M fr x) := by
  unfold sp_vs
  rcases (show fr = 0 ∨ fr = 1 ∨ fr = 2 ∨ fr = 3 ∨ fr = 4 ∨ fr = 5 ∨ fr = 6 by omega) with q | q | q | q | q | q | q <;> subst q
  · rw [if_neg (by decide), if_neg (by decide), if_neg (by decide)]; exact yy_rb_up (by decide) (y91_0 hK)
  · rw [if_neg (by decide), if_neg (by decide), if_neg (by decide)]; exact yy_rb_up (by decide) (y91_p (n := 4) (b := 0) (by omega) rfl (y91_0 hK))
  · rw [if_pos rfl]; exact yy_rb_up (by decide) (y91_2 hK)
  · rw [if_neg (by decide), if_neg (by decide), if_neg (by decide)]; exact yy_rb_up (by decide) (y91_p (n := 4) (b := 0) (by omega) rfl (y91_0 hK))
  · rw [if_neg (by decide), if_neg (by decide), if_neg (by decide)]; exact y91_p (n := 5) (b := 1) (by omega) rfl (y91_p (n := 4) (b := 0) (by omega) rfl (y91_0 hK))
  · rw [if_neg (by decide), if_pos rfl]; exact y91_5 hK
  · rw [if_neg (by decide), if_neg (by decide), if_pos rfl]; exact yy_rb_up (by decide) (y91_6 hK)
set_option maxRecDepth 20000 in
theorem y92_0 {sc : List Int} {t : xm_W} {K M k x : Int} (hK : 0 ≤ K ∧ K ≤ 6) : yy_rb sc t 8 1192 K M k 0 x (xm_w (sp_vs k K M K x - M)) := fun d m h => by
  obtain ⟨m1, e1, f1⟩ := c_1186 (sc := sc) (d := d + 6) (t := t) (m := m) (b := 12) h.2.2.2.2.2
  obtain ⟨m2, e2, f2⟩ := y91 (sc := sc) (t := t) (x := x) hK hK d m1 (yy_vq_r h f1)
  refine ⟨m2, ?_, yy_VR_tr f1 f2⟩
  show xm_X (xm_old sc) xm_mt (d + 7 + 1) 1192 [.inr (.inl (some 74)), .inl (0), .inl (x)] (yy_W (m) t) = _
  refine xm_X_of (M := xm_m1192) rfl ⟨xm_EQ.eq (xb_1192_0 ?_), rfl, rfl, Nat.le_of_ble_eq_true rfl, yy_hd rfl (by decide)⟩
  rw [if_pos rfl, e1, xm_Ov_some, oc_1188 (d := d + 5) (yy_vq_r h f1)]; erw [e2]; rw [xm_Oi_some, oc_1189 (d := d + 5) (yy_vq_r (yy_vq_r h f1) f2)]
set_option maxRecDepth 20000 in
theorem y92_p {sc : List Int} {t : xm_W} {n : Nat} {K M k fr b x z : Int} (hf : fr = 1 ∨ fr = 2 ∨ fr = 5 ∨ fr = 6) (hb : sp_ab fr = b) (h : yy_rb sc t (n + 1) 1192 K M k b x z) : yy_rb sc t (n + 2) 1192 K M k fr x z := fun d m a => by
  obtain ⟨m1, e1, f1⟩ := h d m a
  refine ⟨m1, ?_, f1⟩
  show xm_X (xm_old sc) xm_mt (d + n + 1 + 1) 1192 [.inr (.inl (some 74)), .inl (fr), .inl (x)] (yy_W (m) t) = _
  refine xm_X_of (M := xm_m1192) rfl ⟨xm_EQ.eq (xb_1192_0 ?_), rfl, rfl, Nat.le_of_ble_eq_true rfl, yy_hd rfl (by decide)⟩
  rcases hf with q | q | q | q <;> subst q
  · rw [if_neg (by decide), if_pos rfl, oc_1187 (d := d + n) hb]; erw [e1]; rw [xm_Oi_some]
  · rw [if_neg (by decide), if_neg (by decide), if_pos rfl, oc_1187 (d := d + n) hb]; erw [e1]; rw [xm_Oi_some]
  · rw [if_neg (by decide), if_neg (by decide), if_neg (by decide), if_neg (by decide), if_neg (by decide), oc_1187 (d := d + n) hb]; erw [e1]; rw [xm_Oi_some]
  · rw [if_neg (by decide), if_neg (by decide), if_neg (by decide), if_neg (by decide), if_neg (by decide), oc_1187 (d := d + n) hb]; erw [e1]; rw [xm_Oi_some]
set_option maxRecDepth 20000 in
theorem y92_3 {sc : List Int} {t : xm_W} {K M k x : Int} (hK : 0 ≤ K ∧ K ≤ 6) : yy_rb sc t 9 1192 K M k 3 x (xm_w (sp_vs k K M K (xm_w (x.tdiv 2)) - M)) := fun d m h => by
  obtain ⟨m1, e1, f1⟩ := c_1186 (sc := sc) (d := d + 7) (t := t) (m := m) (b := 40) h.2.2.2.2.2
  obtain ⟨m2, e2, f2⟩ := y92_0 (sc := sc) (t := t) (x := xm_w (x.tdiv 2)) hK d m1 (yy_vq_r h f1)
  refine ⟨m2, ?_, yy_VR_tr f1 f2⟩
  show xm_X (xm_old sc) xm_mt (d + 8 + 1) 1192 [.inr (.inl (some 74)), .inl (3), .inl (x)] (yy_W (m) t) = _
  refine xm_X_of (M := xm_m1192) rfl ⟨xm_EQ.eq (xb_1192_0 ?_), rfl, rfl, Nat.le_of_ble_eq_true rfl, yy_hd rfl (by decide)⟩
  rw [if_neg (by decide), if_neg (by decide), if_neg (by decide), if_pos rfl, e1, xm_Ov_some, oc_1187 (d := d + 7) (a := 3) (b := 0) rfl]
  refine ⟨by decide, ?_⟩
  erw [e2]; rw [xm_Oi_some]
set_option maxRecDepth 20000 in
theorem y92_4 {sc : List Int} {t : xm_W} {K M k x : Int} (hK : 0 ≤ K ∧ K ≤ 6) : yy_rb sc t 10 1192 K M k 4 x (xm_xor (xm_w (sp_vs k K M K x - M)) k) := fun d m h => by
  obtain ⟨m1, e1, f1⟩ := c_1186 (sc := sc) (d := d + 8) (t := t) (m := m) (b := 51) h.2.2.2.2.2
  obtain ⟨m2, e2, f2⟩ := (y92_p (sc := sc) (t := t) (K := K) (M := M) (k := k) (n := 7) (fr := 1) (b := 0) (x := x) (by omega) rfl (y92_0 hK)) d m1 (yy_vq_r h f1)
  refine ⟨m2, ?_, yy_VR_tr f1 f2⟩
  show xm_X (xm_old sc) xm_mt (d + 9 + 1) 1192 [.inr (.inl (some 74)), .inl (4), .inl (x)] (yy_W (m) t) = _
  refine xm_X_of (M := xm_m1192) rfl ⟨xm_EQ.eq (xb_1192_0 ?_), rfl, rfl, Nat.le_of_ble_eq_true rfl, yy_hd rfl (by decide)⟩
  rw [if_neg (by decide), if_neg (by decide), if_neg (by decide), if_neg (by decide), if_pos rfl, e1, xm_Ov_some, oc_1187 (d := d + 8) (a := 4) (b := 1) rfl]; erw [e2]; rw [xm_Oi_some, zf_74_16, f2.2.1 16 (by decide), f1.2.1 16 (by decide), h.2.1]
set_option maxRecDepth 20000 in
theorem y92 {sc : List Int} {t : xm_W} {K M k fr x : Int} (hK : 0 ≤ K ∧ K ≤ 6) (hf : 0 ≤ fr ∧ fr ≤ 6) : yy_rb sc t 10 1192 K M k fr x (sp_vk k K M fr x) := by
  unfold sp_vk
  rcases (show fr = 0 ∨ fr = 1 ∨ fr = 2 ∨ fr = 3 ∨ fr = 4 ∨ fr = 5 ∨ fr = 6 by omega) with q | q | q | q | q | q | q <;> subst q
  · rw [if_neg (by decide), if_neg (by decide)]; exact yy_rb_up (by decide) (y92_0 hK)
  · rw [if_neg (by decide), if_neg (by decide)]; exact yy_rb_up (by decide) (y92_p (n := 7) (b := 0) (by omega) rfl (y92_0 hK))
  · rw [if_neg (by decide), if_neg (by decide)]; exact yy_rb_up (by decide) (y92_p (n := 7) (b := 0) (by omega) rfl (y92_0 hK))
  · rw [if_pos rfl]; exact yy_rb_up (by decide) (y92_3 hK)
  · rw [if_neg (by decide), if_pos rfl]; exact y92_4 hK
  · rw [if_neg (by decide), if_neg (by decide)]; exact y92_p (n := 8) (b := 2) (by omega) rfl (y92_p (n := 7) (b := 0) (by omega) rfl (y92_0 hK))
  · rw [if_neg (by decide), if_neg (by decide)]; exact yy_rb_up (by decide) (y92_p (n := 7) (b := 0) (by omega) rfl (y92_0 hK))
set_option maxRecDepth 20000 in
theorem y93_0 {sc : List Int} {t : xm_W} {K M k x : Int} (hM : 0 ≤ M ∧ M ≤ 9) (hne : ¬ M = k) : yy_rb sc t 3 1193 K M k 0 x (xm_w (x.tdiv (M - k))) := fun d m h => by
  obtain ⟨m1, e1, f1⟩ := c_1186 (sc := sc) (d := d + 1) (t := t) (m := m) (b := 13) h.2.2.2.2.2
  have h1 := yy_vq_r h f1
  obtain ⟨hk, a1, a2, a3, a4, a5⟩ := id h1
  have f2 : yy_VR m1 (yy_s m1 74 17 0) := ⟨fun c a b => by rw [yy_s_ne a], fun q a => by
    by_cases e : q = 17
    · subst e; rw [yy_s_eq, yy_u_eq]; exact a4.symm
    · rw [yy_s_eq, yy_u_ne e], by rw [yy_s_eq, yy_u_ne (by decide)]; exact a5⟩
  refine ⟨_, ?_, yy_VR_tr f1 f2⟩
  show xm_X (xm_old sc) xm_mt (d + 2 + 1) 1193 [.inr (.inl (some 74)), .inl (0), .inl (x)] (yy_W (m) t) = _
  refine xm_X_of (M := xm_m1193) rfl ⟨xm_EQ.eq (xb_1193_0 ?_), rfl, rfl, Nat.le_of_ble_eq_true rfl, yy_hd rfl (by decide)⟩
  rw [if_pos rfl, e1, xm_Ov_some, oc_1189 (d := d) h1, zf_74_16, a1, xm_w_id (z := M - k) (by omega) (by omega), if_neg (by omega), zs_74_17 rfl, if_neg (by omega)]
  by_cases g : M - k = -1
  · rw [if_pos g, g, Int.tdiv_neg, Int.tdiv_one]
  · rw [if_neg g]; exact ⟨by omega, rfl⟩
set_option maxRecDepth 20000 in
theorem y93_p {sc : List Int} {t : xm_W} {n : Nat} {K M k fr b x z : Int} (hf : 2 ≤ fr) (hb : sp_ab fr = b) (h : yy_rb sc t (n + 1) 1193 K M k b x z) : yy_rb sc t (n + 2) 1193 K M k fr x z := fun d m a => by
  obtain ⟨m1, e1, f1⟩ := h d m a
  refine ⟨m1, ?_, f1⟩
  show xm_X (xm_old sc) xm_mt (d + n + 1 + 1) 1193 [.inr (.inl (some 74)), .inl (fr), .inl (x)] (yy_W (m) t) = _
  refine xm_X_of (M := xm_m1193) rfl ⟨xm_EQ.eq (xb_1193_0 ?_), rfl, rfl, Nat.le_of_ble_eq_true rfl, yy_hd rfl (by decide)⟩
  rw [if_neg (by omega), if_neg (by omega), oc_1187 (d := d + n) hb]; erw [e1]; rw [xm_Oi_some]
set_option maxRecDepth 20000 in
theorem y93_1 {sc : List Int} {t : xm_W} {K M k x : Int} (hK : 0 ≤ K ∧ K ≤ 6) (hM : 0 ≤ M ∧ M ≤ 9) (hne : ¬ M = k) : yy_rb sc t 8 1193 K M k 1 x (xm_w (xm_w (x.tdiv (M - k)) + sp_vs k K M K 1)) := fun d m h => by
  obtain ⟨m1, e1, f1⟩ := c_1186 (sc := sc) (d := d + 6) (t := t) (m := m) (b := 21) h.2.2.2.2.2
  obtain ⟨m2, e2, f2⟩ := (yy_rb_up (n' := 7) (by decide) (y93_0 (sc := sc) (t := t) (K := K) (x := x) hM hne)) d m1 (yy_vq_r h f1)
  have h2 := yy_vq_r (yy_vq_r h f1) f2
  obtain ⟨m3, e3, f3⟩ := y91 (sc := sc) (t := t) (x := 1) hK hK d m2 h2
  refine ⟨m3, ?_, yy_VR_tr f1 (yy_VR_tr f2 f3)⟩
  show xm_X (xm_old sc) xm_mt (d + 7 + 1) 1193 [.inr (.inl (some 74)), .inl (1), .inl (x)] (yy_W (m) t) = _
  refine xm_X_of (M := xm_m1193) rfl ⟨xm_EQ.eq (xb_1193_0 ?_), rfl, rfl, Nat.le_of_ble_eq_true rfl, yy_hd rfl (by decide)⟩
  rw [if_neg (by decide), if_pos rfl, e1, xm_Ov_some, oc_1187 (d := d + 6) (a := 1) (b := 0) rfl]; erw [e2]; rw [xm_Oi_some, zf_74_17, if_pos h2.2.2.2.2.1, oc_1188 (d := d + 5) h2]; erw [e3]; rw [xm_Oi_some]
set_option maxRecDepth 20000 in
theorem y93 {sc : List Int} {t : xm_W} {K M k fr x : Int} (hK : 0 ≤ K ∧ K ≤ 6) (hf : 0 ≤ fr ∧ fr ≤ 6) (hM : 0 ≤ M ∧ M ≤ 9) (hne : ¬ M = k) : yy_rb sc t 9 1193 K M k fr x (sp_vp k K M fr x) := by
  unfold sp_vp
  rcases (show fr = 0 ∨ fr = 1 ∨ fr = 2 ∨ fr = 3 ∨ fr = 4 ∨ fr = 5 ∨ fr = 6 by omega) with q | q | q | q | q | q | q <;> subst q
  · rw [if_neg (by decide)]; exact yy_rb_up (by decide) (y93_0 hM hne)
  · rw [if_pos (by decide)]; exact yy_rb_up (by decide) (y93_1 hK hM hne)
  · rw [if_neg (by decide)]; exact yy_rb_up (by decide) (y93_p (n := 2) (b := 0) (by decide) rfl (y93_0 hM hne))
  · rw [if_neg (by decide)]; exact yy_rb_up (by decide) (y93_p (n := 2) (b := 0) (by decide) rfl (y93_0 hM hne))
  · rw [if_pos (by decide)]; exact y93_p (n := 7) (b := 1) (by decide) rfl (y93_1 hK hM hne)
  · rw [if_neg (by decide)]; exact yy_rb_up (by decide) (y93_p (n := 3) (b := 2) (by decide) rfl (y93_p (n := 2) (b := 0) (by decide) rfl (y93_0 hM hne)))
  · rw [if_neg (by decide)]; exact yy_rb_up (by decide) (y93_p (n := 2) (b := 0) (by decide) rfl (y93_0 hM hne))
/- parted -/
def yy_VP (m m' : Nat → Nat → Int) : Prop := (∀ c, c ≠ 74 → c ≠ 82 → m' c = m c) ∧ (∀ q, q ≠ 15 → q ≠ 17 → m' 74 q = m 74 q) ∧ (0 ≤ m' 74 15 ∧ m' 74 15 ≤ 30) ∧ m' 74 17 = 1
def yy_pb (sc : List Int) (t : xm_W) (n : Nat) (K M k fr x : Int) : Prop := ∀ (d : Nat) (m : Nat → Nat → Int), yy_vq K M k m → ∃ m', xm_X (xm_old sc) xm_mt (d + n) 1193 [.inr (.inl (some 74)), .inl (fr), .inl (x)] (yy_W (m) t) = some (some (.inl (0)), (yy_W (m') t)) ∧ yy_VP m m'
set_option maxRecDepth 20000 in
theorem yy_pb_up {sc : List Int} {t : xm_W} {n n' : Nat} {K M k fr x : Int} (hn : n ≤ n') (h : yy_pb sc t n K M k fr x) : yy_pb sc t n' K M k fr x := fun d m a => by
  obtain ⟨j, rfl⟩ : ∃ j, n' = n + j := ⟨n' - n, by omega⟩
  have := h (d + j) m a
  rw [show d + (n + j) = d + j + n by omega]
  exact this
set_option maxRecDepth 20000 in
theorem yy_VRP {m m' m'' : Nat → Nat → Int} (h : yy_VR m m') (h' : yy_VP m' m'') : yy_VP m m'' := ⟨fun c a b => by rw [h'.1 c a b, h.1 c a b], fun q a b => by rw [h'.2.1 q a b, h.2.1 q a], h'.2.2⟩
set_option maxRecDepth 20000 in
theorem yp_0 {sc : List Int} {t : xm_W} {K M k x : Int} (hM : 0 ≤ M ∧ M ≤ 9) (hne : M = k) : yy_pb sc t 3 K M k 0 x := fun d m h => by
  obtain ⟨m1, e1, f1⟩ := c_1186 (sc := sc) (d := d + 1) (t := t) (m := m) (b := 13) h.2.2.2.2.2
  have h1 := yy_vq_r h f1
  obtain ⟨hk, a1, a2, a3, a4, a5⟩ := id h1
  have f2 : yy_VP m1 (yy_s m1 74 17 1) := ⟨fun c a b => by rw [yy_s_ne a], fun q a e => by rw [yy_s_eq, yy_u_ne e], by rw [yy_s_eq, yy_u_ne (by decide)]; exact a5, by rw [yy_s_eq, yy_u_eq]⟩
  refine ⟨_, ?_, yy_VRP f1 f2⟩
  show xm_X (xm_old sc) xm_mt (d + 2 + 1) 1193 [.inr (.inl (some 74)), .inl (0), .inl (x)] (yy_W (m) t) = _
  refine xm_X_of (M := xm_m1193) rfl ⟨xm_EQ.eq (xb_1193_0 ?_), rfl, rfl, Nat.le_of_ble_eq_true rfl, yy_hd rfl (by decide)⟩
  rw [if_pos rfl, e1, xm_Ov_some, oc_1189 (d := d) h1, zf_74_16, a1, xm_w_id (z := M - k) (by omega) (by omega), if_pos (by omega), zs_74_17 rfl, if_pos (by omega)]
set_option maxRecDepth 20000 in
theorem yp_p {sc : List Int} {t : xm_W} {n : Nat} {K M k fr b x : Int} (hf : 2 ≤ fr) (hb : sp_ab fr = b) (h : yy_pb sc t (n + 1) K M k b x) : yy_pb sc t (n + 2) K M k fr x := fun d m a => by
  obtain ⟨m1, e1, f1⟩ := h d m a
  refine ⟨m1, ?_, f1⟩
  show xm_X (xm_old sc) xm_mt (d + n + 1 + 1) 1193 [.inr (.inl (some 74)), .inl (fr), .inl (x)] (yy_W (m) t) = _
  refine xm_X_of (M := xm_m1193) rfl ⟨xm_EQ.eq (xb_1193_0 ?_), rfl, rfl, Nat.le_of_ble_eq_true rfl, yy_hd rfl (by decide)⟩
  rw [if_neg (by omega), if_neg (by omega), oc_1187 (d := d + n) hb]; erw [e1]; rw [xm_Oi_some]
set_option maxRecDepth 20000 in
theorem yp_1 {sc : List Int} {t : xm_W} {K M k x : Int} (hM : 0 ≤ M ∧ M ≤ 9) (hne : M = k) : yy_pb sc t 4 K M k 1 x := fun d m h => by
  obtain ⟨m1, e1, f1⟩ := c_1186 (sc := sc) (d := d + 2) (t := t) (m := m) (b := 21) h.2.2.2.2.2
  obtain ⟨m2, e2, f2⟩ := (yp_0 (sc := sc) (t := t) (K := K) (x := x) hM hne) d m1 (yy_vq_r h f1)
  refine ⟨m2, ?_, yy_VRP f1 f2⟩
  show xm_X (xm_old sc) xm_mt (d + 3 + 1) 1193 [.inr (.inl (some 74)), .inl (1), .inl (x)] (yy_W (m) t) = _
  refine xm_X_of (M := xm_m1193) rfl ⟨xm_EQ.eq (xb_1193_0 ?_), rfl, rfl, Nat.le_of_ble_eq_true rfl, yy_hd rfl (by decide)⟩
  rw [if_neg (by decide), if_pos rfl, e1, xm_Ov_some, oc_1187 (d := d + 2) (a := 1) (b := 0) rfl]; erw [e2]; rw [xm_Oi_some, zf_74_17, if_neg (by rw [f2.2.2.2]; decide)]
set_option maxRecDepth 20000 in
theorem yp {sc : List Int} {t : xm_W} {K M k fr x : Int} (hf : 0 ≤ fr ∧ fr ≤ 6) (hM : 0 ≤ M ∧ M ≤ 9) (hne : M = k) : yy_pb sc t 5 K M k fr x := by
  rcases (show fr = 0 ∨ fr = 1 ∨ fr = 2 ∨ fr = 3 ∨ fr = 4 ∨ fr = 5 ∨ fr = 6 by omega) with q | q | q | q | q | q | q <;> subst q
  · exact yy_pb_up (by decide) (yp_0 hM hne)
  · exact yy_pb_up (by decide) (yp_1 hM hne)
  · exact yy_pb_up (by decide) (yp_p (n := 2) (b := 0) (by decide) rfl (yp_0 hM hne))
  · exact yy_pb_up (by decide) (yp_p (n := 2) (b := 0) (by decide) rfl (yp_0 hM hne))
  · exact yp_p (n := 3) (b := 1) (by decide) rfl (yp_1 hM hne)
  · exact yp_p (n := 3) (b := 2) (by decide) rfl (yp_p (n := 2) (b := 0) (by decide) rfl (yp_0 hM hne))
  · exact yy_pb_up (by decide) (yp_p (n := 2) (b := 0) (by decide) rfl (yp_0 hM hne))
