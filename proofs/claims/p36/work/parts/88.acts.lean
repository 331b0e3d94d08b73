section
/-! THE RELATION OF BOTH SIDES between two acts -/
def sg_D (s : Nat → Int) : Prop := (0 ≤ s 4 ∧ s 4 ≤ 60) ∧ (0 ≤ s 5 ∧ s 5 ≤ 24) ∧ ∀ k, k < 60 → 0 ≤ s (589 + k) ∧ s (589 + k) ≤ 255
def yy_DR (m : Nat → Nat → Int) (a : Nat) (s : Nat → Int) : Prop := m a 1 = s 4 ∧ m a 3 = s 5 ∧ m a 4 = s 6 ∧ (∀ k, k < 60 → m (a + 1) k = s (589 + k)) ∧ ∀ k, k < 24 → m (a + 2) k = s (649 + k)
/-! a row that may stand between acts -/
def sg_G (s : Nat → Int) : Prop := sg_W s 0 ∧ s 1 ≤ 9999 ∧ sg_D s
def yy_SH (m : Nat → Nat → Int) : Prop := ∀ k, k < 4 → m (66 + 2 * k) 0 = m 83 k ∧ (m 83 k = 0 ∨ m 83 k = 8 ∨ m 83 k = 16 ∨ m 83 k = 32) ∧ m (66 + 2 * k) 1 = m 84 k ∧ (0 ≤ m 84 k ∧ m 84 k ≤ 24) ∧ ∀ j, j < 24 → m (67 + 2 * k) j = m 85 (24 * k + j) ∧ -2147483648 ≤ m 85 (24 * k + j) ∧ m 85 (24 * k + j) < 2147483648
def yy_KE (t : xm_W) (m : Nat → Nat → Int) : Prop := m 0 5 = m 74 4 ∧ 0 ≤ m 0 5 ∧ (0 < m 0 5 → sg_G (m 76) ∧ yy_MX t m 38 (m 76) ∧ yy_DR m 55 (m 76))
def yy_SP (m : Nat → Nat → Int) : Prop := m 74 3 = -1 ∧ (0 ≤ m 61 1 ∧ m 61 1 ≤ 30) ∧ (0 ≤ m 74 15 ∧ m 74 15 ≤ 30)
def yy_I (t : xm_W) (m : Nat → Nat → Int) : Prop := sg_G (m 75) ∧ yy_MX t m 1 (m 75) ∧ yy_DR m 35 (m 75) ∧ yy_KE t m ∧ yy_SH m ∧ yy_SP m
set_option maxRecDepth 20000 in
theorem yy_TX_tx {t : xm_W} {s : Nat → Int} {u : Nat} {z : Int} (h : yy_TX t s u z) : yy_tx t z := by
  rcases h with ⟨_, h⟩ | ⟨_, a, a', h, hC⟩
  · exact Or.inl h
  · exact Or.inr ⟨a, _, h, hC.1⟩
set_option maxRecDepth 20000 in
theorem yy_MX_r {t : xm_W} {m m' : Nat → Nat → Int} {b : Nat} {s : Nat → Int} (h : ∀ c, (c = b ∨ c = b + 1 ∨ c = b + 3 ∨ c = b + 4 ∨ (b + 7 ≤ c ∧ c < b + 17)) → m' c = m c) (hM : yy_MX t m b s) : yy_MX t m' b s :=
  ⟨yy_MR_fr (fun c hc => h c (by omega)) hM.1, by rw [h (b + 4) (by omega)]; exact hM.2.1, by rw [h (b + 4) (by omega)]; exact hM.2.2⟩
set_option maxRecDepth 20000 in
theorem yy_DR_r {m m' : Nat → Nat → Int} {a : Nat} {s : Nat → Int} (h : ∀ c, (c = a ∨ c = a + 1 ∨ c = a + 2) → m' c = m c) (hD : yy_DR m a s) : yy_DR m' a s := by
  obtain ⟨h1, h2, h3, h4, h5⟩ := hD
  rw [← h a (Or.inl rfl)] at h1 h2 h3
  exact ⟨h1, h2, h3, fun k hk => by rw [h _ (by omega)]; exact h4 k hk, fun k hk => by rw [h _ (by omega)]; exact h5 k hk⟩
set_option maxRecDepth 20000 in
theorem yy_SH_r {m m' : Nat → Nat → Int} (h : ∀ c, ((66 ≤ c ∧ c < 74) ∨ (83 ≤ c ∧ c < 86)) → m' c = m c) (hS : yy_SH m) : yy_SH m' := by
  intro k hk
  obtain ⟨a, b, c, d, e⟩ := hS k hk
  rw [h (66 + 2 * k) (by omega), h 83 (by omega), h 84 (by omega)]
  exact ⟨a, b, c, d, fun j hj => by rw [h (67 + 2 * k) (by omega), h 85 (by omega)]; exact e j hj⟩
set_option maxRecDepth 20000 in
theorem yy_KE_r {t : xm_W} {m m' : Nat → Nat → Int} (h : ∀ c, ((38 ≤ c ∧ c < 58) ∨ c = 76) → m' c = m c) (h0 : m' 0 5 = m 0 5) (h4 : m' 74 4 = m 74 4) (hK : yy_KE t m) : yy_KE t m' := by
  obtain ⟨a, b, c⟩ := hK
  refine ⟨by rw [h0, h4]; exact a, by rw [h0]; exact b, fun hp => ?_⟩
  rw [h0] at hp
  obtain ⟨x, y, z⟩ := c hp
  have e : m' 76 = m 76 := h _ (Or.inr rfl)
  rw [e]
  exact ⟨x, yy_MX_r (fun c hc => h c (by omega)) y, yy_DR_r (fun c hc => h c (by omega)) z⟩
/-! cells that the relation doesn't speak of -/
def yy_no (c : Nat) : Prop := c = 6 ∨ c = 7 ∨ (18 ≤ c ∧ c < 35) ∨ (58 ≤ c ∧ c < 61) ∨ (62 ≤ c ∧ c < 66) ∨ (77 ≤ c ∧ c < 83) ∨ c = 86
set_option maxRecDepth 20000 in
theorem yy_I_no {t : xm_W} {m m' : Nat → Nat → Int} (h : ∀ c, c < 87 → ¬ yy_no c → c ≠ 61 → c ≠ 74 → m' c = m c) (h61 : 0 ≤ m' 61 1 ∧ m' 61 1 ≤ 30) (h3 : m' 74 3 = m 74 3) (h4 : m' 74 4 = m 74 4) (h15 : 0 ≤ m' 74 15 ∧ m' 74 15 ≤ 30) (hI : yy_I t m) : yy_I t m' := by
  obtain ⟨a, b, c, d, e, f⟩ := hI
  have e75 : m' 75 = m 75 := h 75 (by decide) (by unfold yy_no; omega) (by decide) (by decide)
  refine ⟨by rw [e75]; exact a, by rw [e75]; exact yy_MX_r (fun c hc => h c (by omega) (by unfold yy_no; omega) (by omega) (by omega)) b, by rw [e75]; exact yy_DR_r (fun c hc => h c (by omega) (by unfold yy_no; omega) (by omega) (by omega)) c, yy_KE_r (fun c hc => h c (by omega) (by unfold yy_no; omega) (by omega) (by omega)) (by rw [h 0 (by decide) (by unfold yy_no; omega) (by decide) (by decide)]) h4 d, yy_SH_r (fun c hc => h c (by omega) (by unfold yy_no; omega) (by omega) (by omega)) e, by rw [h3]; exact f.1, h61, h15⟩
set_option maxRecDepth 20000 in
theorem yy_I_n {t : xm_W} {m m' : Nat → Nat → Int} (h : ∀ c, ¬ yy_no c → m' c = m c) (hI : yy_I t m) : yy_I t m' := by
  have e61 : m' 61 = m 61 := h 61 (by unfold yy_no; omega)
  have e74 : m' 74 = m 74 := h 74 (by unfold yy_no; omega)
  exact yy_I_no (fun c _ hc _ _ => h c hc) (by rw [e61]; exact hI.2.2.2.2.2.2.1) (by rw [e74]) (by rw [e74]) (by rw [e74]; exact hI.2.2.2.2.2.2.2) hI
set_option maxRecDepth 20000 in
theorem yy_I_ef {t : xm_W} {m : Nat → Nat → Int} {k k' : Nat} (hI : yy_I t m) : yy_I t (yy_f (yy_e m k) k') :=
  yy_I_n (fun c hc => by unfold yy_f yy_e; unfold yy_no at hc; rw [yy_s_ne (by omega), yy_s_ne (by omega)]) hI
/-! an act of both sides, answers alike -/
def yy_A (sc : List Int) (t : xm_W) (m : Nat → Nat → Int) (a b : Nat) (as : List xm_V) (same : Bool) : Prop := ∃ z m1 t1 z' m2, xm_X (xm_old sc) xm_mt 100 a (.inr (.inl (some 0)) :: as) (yy_W m t) = some (some (.inl z), yy_W m1 t1) ∧ xm_X (xm_old sc) xm_mt 100 b (.inr (.inl (some 74)) :: as) (yy_W m1 t1) = some (some (.inl z'), yy_W m2 t1) ∧ yy_I t1 m2 ∧ t1.length ≤ t.length + 2 ∧ xm_sz t1 ≤ xm_sz t + 62 ∧ m2 0 5 ≤ m 0 5 + 1 ∧ (same = true → z = z')
set_option maxRecDepth 20000 in
theorem yy_Ao {sc : List Int} {t : xm_W} {m m1 m2 : Nat → Nat → Int} {a b : Nat} {as : List xm_V} {z z' : Int} (h1 : xm_X (xm_old sc) xm_mt 100 a (.inr (.inl (some 0)) :: as) (yy_W m t) = some (some (.inl z), yy_W m1 t)) (h2 : xm_X (xm_old sc) xm_mt 100 b (.inr (.inl (some 74)) :: as) (yy_W m1 t) = some (some (.inl z'), yy_W m2 t)) (hI : yy_I t m2) (h0 : m2 0 = m 0) (h : z = z') : yy_A sc t m a b as true :=
  ⟨z, m1, t, z', m2, h1, h2, hI, by omega, by omega, by rw [h0]; omega, fun _ => h⟩
set_option maxRecDepth 20000 in
theorem yy_ef0 {m : Nat → Nat → Int} {k k' : Nat} : yy_f (yy_e m k) k' 0 = m 0 := by unfold yy_f yy_e; rw [yy_s_ne (by decide), yy_s_ne (by decide)]
set_option maxRecDepth 20000 in
theorem yy_I_0 {t : xm_W} {m : Nat → Nat → Int} (h : yy_I t m) : (m 1 4 = m 75 0 ∧ m 1 6 = m 75 3 ∧ m 1 2 = m 75 1 ∧ m 1 1 = m 75 2) ∧ sg_R (m 75) := ⟨⟨h.2.1.1.2.2.1, h.2.1.1.2.2.2.1, h.2.1.1.2.1, h.2.1.1.1⟩, h.1.1.1⟩
/-! the reference's own cells behind a refusal of the class -/
set_option maxRecDepth 20000 in
theorem yy_e75 {m : Nat → Nat → Int} {k c : Nat} (h : c ≠ 65) : yy_e m k c = m c := yy_s_ne h
end
section
set_option maxRecDepth 20000 in
theorem r_102 {sc : List Int} {t : xm_W} {m : Nat → Nat → Int} {x1 x2 : Int} (hI : yy_I t m) (h : ¬ ((0 ≤ x1 ∧ x1 ≤ 35) ∧ (0 ≤ x2 ∧ x2 ≤ 3))) : yy_A sc t m 102 1140 [.inl x1, .inl x2] true := by
  obtain ⟨⟨e0, e3, e1, e2⟩, hR⟩ := yy_I_0 hI
  obtain ⟨b0, b1, b2, b3, -⟩ := hR
  exact yy_Ao (f_102 (d := 96) h) (f_1140 (d := 96) (by exact h)) (yy_I_ef hI) yy_ef0 rfl
set_option maxRecDepth 20000 in
theorem r_103 {sc : List Int} {t : xm_W} {m : Nat → Nat → Int} {x1 : Int} (hI : yy_I t m) (h : ¬ ((0 ≤ x1 ∧ x1 ≤ 9))) : yy_A sc t m 103 1141 [.inl x1] true := by
  obtain ⟨⟨e0, e3, e1, e2⟩, hR⟩ := yy_I_0 hI
  obtain ⟨b0, b1, b2, b3, -⟩ := hR
  exact yy_Ao (f_103 (d := 96) h) (f_1141 (d := 96) (by exact h)) (yy_I_ef hI) yy_ef0 rfl
set_option maxRecDepth 20000 in
theorem r_104 {sc : List Int} {t : xm_W} {m : Nat → Nat → Int} {x1 x2 : Int} (hI : yy_I t m) (h : ¬ ((0 ≤ x1 ∧ x1 ≤ 69) ∧ (0 ≤ x2 ∧ x2 ≤ 35))) : yy_A sc t m 104 1142 [.inl x1, .inl x2] true := by
  obtain ⟨⟨e0, e3, e1, e2⟩, hR⟩ := yy_I_0 hI
  obtain ⟨b0, b1, b2, b3, -⟩ := hR
  exact yy_Ao (f_104 (d := 96) h) (f_1142 (d := 96) (by exact h)) (yy_I_ef hI) yy_ef0 rfl
set_option maxRecDepth 20000 in
theorem r_105 {sc : List Int} {t : xm_W} {m : Nat → Nat → Int} {x1 x2 : Int} (hI : yy_I t m) (h : ¬ ((0 ≤ x1 ∧ x1 ≤ m 1 4 - 1) ∧ (0 ≤ x2 ∧ x2 ≤ 19))) : yy_A sc t m 105 1145 [.inl x1, .inl x2] true := by
  obtain ⟨⟨e0, e3, e1, e2⟩, hR⟩ := yy_I_0 hI
  obtain ⟨b0, b1, b2, b3, -⟩ := hR
  exact yy_Ao (f_105 (d := 96) (by rw [e0]; exact b0.1) (by rw [e0]; exact b0.2) h) (f_1145 (d := 96) (by rw [yy_e75 (by decide)]; exact b0.1) (by rw [yy_e75 (by decide)]; exact b0.2) (by rw [yy_e75 (by decide)]; rw [e0] at h; exact h)) (yy_I_ef hI) yy_ef0 rfl
set_option maxRecDepth 20000 in
theorem r_106 {sc : List Int} {t : xm_W} {m : Nat → Nat → Int} {x1 x2 : Int} (hI : yy_I t m) (h : ¬ ((0 ≤ x1 ∧ x1 ≤ m 1 4 - 1) ∧ (0 ≤ x2 ∧ x2 ≤ 6))) : yy_A sc t m 106 1147 [.inl x1, .inl x2] true := by
  obtain ⟨⟨e0, e3, e1, e2⟩, hR⟩ := yy_I_0 hI
  obtain ⟨b0, b1, b2, b3, -⟩ := hR
  exact yy_Ao (f_106 (d := 96) (by rw [e0]; exact b0.1) (by rw [e0]; exact b0.2) h) (f_1147 (d := 96) (by rw [yy_e75 (by decide)]; exact b0.1) (by rw [yy_e75 (by decide)]; exact b0.2) (by rw [yy_e75 (by decide)]; rw [e0] at h; exact h)) (yy_I_ef hI) yy_ef0 rfl
set_option maxRecDepth 20000 in
theorem r_107 {sc : List Int} {t : xm_W} {m : Nat → Nat → Int} {x1 x2 x3 : Int} (hI : yy_I t m) (h : ¬ ((0 ≤ x1 ∧ x1 ≤ m 1 4 - 1))) : yy_A sc t m 107 1149 [.inl x1, .inl x2, .inl x3] true := by
  obtain ⟨⟨e0, e3, e1, e2⟩, hR⟩ := yy_I_0 hI
  obtain ⟨b0, b1, b2, b3, -⟩ := hR
  exact yy_Ao (f_107 (d := 96) (by rw [e0]; exact b0.1) (by rw [e0]; exact b0.2) h) (f_1149 (d := 96) (by rw [yy_e75 (by decide)]; exact b0.1) (by rw [yy_e75 (by decide)]; exact b0.2) (by rw [yy_e75 (by decide)]; rw [e0] at h; exact h)) (yy_I_ef hI) yy_ef0 rfl
set_option maxRecDepth 20000 in
theorem r_108 {sc : List Int} {t : xm_W} {m : Nat → Nat → Int} {x1 x2 : Int} (hI : yy_I t m) (h : ¬ ((0 ≤ x1 ∧ x1 ≤ m 1 4 - 1) ∧ (0 ≤ x2 ∧ x2 ≤ 3))) : yy_A sc t m 108 1152 [.inl x1, .inl x2] true := by
  obtain ⟨⟨e0, e3, e1, e2⟩, hR⟩ := yy_I_0 hI
  obtain ⟨b0, b1, b2, b3, -⟩ := hR
  exact yy_Ao (f_108 (d := 96) (by rw [e0]; exact b0.1) (by rw [e0]; exact b0.2) h) (f_1152 (d := 96) (by rw [yy_e75 (by decide)]; exact b0.1) (by rw [yy_e75 (by decide)]; exact b0.2) (by rw [yy_e75 (by decide)]; rw [e0] at h; exact h)) (yy_I_ef hI) yy_ef0 rfl
set_option maxRecDepth 20000 in
theorem r_109 {sc : List Int} {t : xm_W} {m : Nat → Nat → Int} {x1 : Int} (hI : yy_I t m) (h : ¬ ((0 ≤ x1 ∧ x1 ≤ m 1 4 - 1))) : yy_A sc t m 109 1153 [.inl x1] true := by
  obtain ⟨⟨e0, e3, e1, e2⟩, hR⟩ := yy_I_0 hI
  obtain ⟨b0, b1, b2, b3, -⟩ := hR
  exact yy_Ao (f_109 (d := 96) (by rw [e0]; exact b0.1) (by rw [e0]; exact b0.2) h) (f_1153 (d := 96) (by rw [yy_e75 (by decide)]; exact b0.1) (by rw [yy_e75 (by decide)]; exact b0.2) (by rw [yy_e75 (by decide)]; rw [e0] at h; exact h)) (yy_I_ef hI) yy_ef0 rfl
set_option maxRecDepth 20000 in
theorem r_112 {sc : List Int} {t : xm_W} {m : Nat → Nat → Int} {x1 : Int} (hI : yy_I t m) (h : ¬ ((0 ≤ x1 ∧ x1 ≤ 1))) : yy_A sc t m 112 1127 [.inl x1] true := by
  obtain ⟨⟨e0, e3, e1, e2⟩, hR⟩ := yy_I_0 hI
  obtain ⟨b0, b1, b2, b3, -⟩ := hR
  exact yy_Ao (f_112 (d := 96) h) (f_1127 (d := 96) (by exact h)) (yy_I_ef hI) yy_ef0 rfl
set_option maxRecDepth 20000 in
theorem r_111 {sc : List Int} {t : xm_W} {m : Nat → Nat → Int} {x1 : Int} (hI : yy_I t m) (h : ¬ ((0 ≤ x1 ∧ x1 ≤ 1))) : yy_A sc t m 111 1126 [.inl x1] true := by
  obtain ⟨⟨e0, e3, e1, e2⟩, hR⟩ := yy_I_0 hI
  obtain ⟨b0, b1, b2, b3, -⟩ := hR
  exact yy_Ao (f_111 (d := 96) h) (f_1126 (d := 96) (by exact h)) (yy_I_ef hI) yy_ef0 rfl
set_option maxRecDepth 20000 in
theorem r_113 {sc : List Int} {t : xm_W} {m : Nat → Nat → Int} {x1 : Int} (hI : yy_I t m) (h : ¬ ((1 ≤ x1 ∧ x1 ≤ 24))) : yy_A sc t m 113 1158 [.inl x1] true := by
  obtain ⟨⟨e0, e3, e1, e2⟩, hR⟩ := yy_I_0 hI
  obtain ⟨b0, b1, b2, b3, -⟩ := hR
  exact yy_Ao (f_113 (d := 96) h) (f_1158 (d := 96) (by exact h)) (yy_I_ef hI) yy_ef0 rfl
set_option maxRecDepth 20000 in
theorem r_114 {sc : List Int} {t : xm_W} {m : Nat → Nat → Int} {x1 : Int} (hI : yy_I t m) (h : ¬ ((1 ≤ x1 ∧ x1 ≤ 24))) : yy_A sc t m 114 1160 [.inl x1] true := by
  obtain ⟨⟨e0, e3, e1, e2⟩, hR⟩ := yy_I_0 hI
  obtain ⟨b0, b1, b2, b3, -⟩ := hR
  exact yy_Ao (f_114 (d := 96) h) (f_1160 (d := 96) (by exact h)) (yy_I_ef hI) yy_ef0 rfl
set_option maxRecDepth 20000 in
theorem r_116 {sc : List Int} {t : xm_W} {m : Nat → Nat → Int} {x1 x2 : Int} (hI : yy_I t m) (h : ¬ ((0 ≤ x1 ∧ x1 ≤ m 1 6 - 1) ∧ (0 ≤ x2 ∧ x2 ≤ 4))) : yy_A sc t m 116 1162 [.inl x1, .inl x2] true := by
  obtain ⟨⟨e0, e3, e1, e2⟩, hR⟩ := yy_I_0 hI
  obtain ⟨b0, b1, b2, b3, -⟩ := hR
  exact yy_Ao (f_116 (d := 96) (by rw [e3]; exact b3.1) (by rw [e3]; exact b3.2) h) (f_1162 (d := 96) (by rw [yy_e75 (by decide)]; exact b3.1) (by rw [yy_e75 (by decide)]; exact b3.2) (by rw [yy_e75 (by decide)]; rw [e3] at h; exact h)) (yy_I_ef hI) yy_ef0 rfl
set_option maxRecDepth 20000 in
theorem r_117 {sc : List Int} {t : xm_W} {m : Nat → Nat → Int} {x1 x2 : Int} (hI : yy_I t m) (h : ¬ ((0 ≤ x1 ∧ x1 ≤ 35) ∧ (0 ≤ x2 ∧ x2 ≤ 4))) : yy_A sc t m 117 1168 [.inl x1, .inl x2] true := by
  obtain ⟨⟨e0, e3, e1, e2⟩, hR⟩ := yy_I_0 hI
  obtain ⟨b0, b1, b2, b3, -⟩ := hR
  exact yy_Ao (f_117 (d := 96) h) (f_1168 (d := 96) (by exact h)) (yy_I_ef hI) yy_ef0 rfl
set_option maxRecDepth 20000 in
theorem r_118 {sc : List Int} {t : xm_W} {m : Nat → Nat → Int} {x1 x2 x3 x4 : Int} (hI : yy_I t m) (h : ¬ ((0 ≤ x1 ∧ x1 ≤ 35) ∧ (0 ≤ x2 ∧ x2 ≤ 1) ∧ (0 ≤ x3 ∧ x3 ≤ 40) ∧ (0 ≤ x4 ∧ x4 ≤ 1))) : yy_A sc t m 118 1170 [.inl x1, .inl x2, .inl x3, .inl x4] true := by
  obtain ⟨⟨e0, e3, e1, e2⟩, hR⟩ := yy_I_0 hI
  obtain ⟨b0, b1, b2, b3, -⟩ := hR
  exact yy_Ao (f_118 (d := 96) h) (f_1170 (d := 96) (by exact h)) (yy_I_ef hI) yy_ef0 rfl
set_option maxRecDepth 20000 in
theorem r_119 {sc : List Int} {t : xm_W} {m : Nat → Nat → Int} {x1 x2 x3 : Int} (hI : yy_I t m) (h : ¬ ((0 ≤ x1 ∧ x1 ≤ 24) ∧ (0 ≤ x2 ∧ x2 ≤ m 1 4 - 1) ∧ (0 ≤ x3 ∧ x3 ≤ 19))) : yy_A sc t m 119 1172 [.inl x1, .inl x2, .inl x3] true := by
  obtain ⟨⟨e0, e3, e1, e2⟩, hR⟩ := yy_I_0 hI
  obtain ⟨b0, b1, b2, b3, -⟩ := hR
  exact yy_Ao (f_119 (d := 96) (by rw [e0]; exact b0.1) (by rw [e0]; exact b0.2) h) (f_1172 (d := 96) (by rw [yy_e75 (by decide)]; exact b0.1) (by rw [yy_e75 (by decide)]; exact b0.2) (by rw [yy_e75 (by decide)]; rw [e0] at h; exact h)) (yy_I_ef hI) yy_ef0 rfl
set_option maxRecDepth 20000 in
theorem r_120 {sc : List Int} {t : xm_W} {m : Nat → Nat → Int} {x1 x2 x3 : Int} (hI : yy_I t m) (h : ¬ ((0 ≤ x1 ∧ x1 ≤ 24) ∧ (0 ≤ x2 ∧ x2 ≤ 35) ∧ (0 ≤ x3 ∧ x3 ≤ 4))) : yy_A sc t m 120 1173 [.inl x1, .inl x2, .inl x3] true := by
  obtain ⟨⟨e0, e3, e1, e2⟩, hR⟩ := yy_I_0 hI
  obtain ⟨b0, b1, b2, b3, -⟩ := hR
  exact yy_Ao (f_120 (d := 96) h) (f_1173 (d := 96) (by exact h)) (yy_I_ef hI) yy_ef0 rfl
set_option maxRecDepth 20000 in
theorem r_121 {sc : List Int} {t : xm_W} {m : Nat → Nat → Int} {x1 x2 x3 : Int} (hI : yy_I t m) (h : ¬ ((0 ≤ x1 ∧ x1 ≤ 99) ∧ (0 ≤ x2 ∧ x2 ≤ 59) ∧ (0 ≤ x3 ∧ x3 ≤ 1))) : yy_A sc t m 121 1174 [.inl x1, .inl x2, .inl x3] true := by
  obtain ⟨⟨e0, e3, e1, e2⟩, hR⟩ := yy_I_0 hI
  obtain ⟨b0, b1, b2, b3, -⟩ := hR
  exact yy_Ao (f_121 (d := 96) h) (f_1174 (d := 96) (by exact h)) (yy_I_ef hI) yy_ef0 rfl
set_option maxRecDepth 20000 in
theorem r_122 {sc : List Int} {t : xm_W} {m : Nat → Nat → Int} {x1 x2 x3 : Int} (hI : yy_I t m) (h : ¬ ((0 ≤ x1 ∧ x1 ≤ m 1 4 - 1) ∧ (0 ≤ x2 ∧ x2 ≤ 35) ∧ (0 ≤ x3 ∧ x3 ≤ m 1 2))) : yy_A sc t m 122 1176 [.inl x1, .inl x2, .inl x3] true := by
  obtain ⟨⟨e0, e3, e1, e2⟩, hR⟩ := yy_I_0 hI
  obtain ⟨b0, b1, b2, b3, -⟩ := hR
  exact yy_Ao (f_122 (d := 96) (by rw [e0]; exact b0.1) (by rw [e0]; exact b0.2) h) (f_1176 (d := 96) (by rw [yy_e75 (by decide)]; exact b0.1) (by rw [yy_e75 (by decide)]; exact b0.2) (by rw [yy_e75 (by decide)]; rw [e0] at h; rw [e1] at h; exact h)) (yy_I_ef hI) yy_ef0 rfl
set_option maxRecDepth 20000 in
theorem r_123 {sc : List Int} {t : xm_W} {m : Nat → Nat → Int} {x1 x2 : Int} (hI : yy_I t m) (h : ¬ ((0 ≤ x1 ∧ x1 ≤ m 1 4 - 1) ∧ (1 ≤ x2 ∧ x2 ≤ 12))) : yy_A sc t m 123 1178 [.inl x1, .inl x2] true := by
  obtain ⟨⟨e0, e3, e1, e2⟩, hR⟩ := yy_I_0 hI
  obtain ⟨b0, b1, b2, b3, -⟩ := hR
  exact yy_Ao (f_123 (d := 96) (by rw [e0]; exact b0.1) (by rw [e0]; exact b0.2) h) (f_1178 (d := 96) (by rw [yy_e75 (by decide)]; exact b0.1) (by rw [yy_e75 (by decide)]; exact b0.2) (by rw [yy_e75 (by decide)]; rw [e0] at h; exact h)) (yy_I_ef hI) yy_ef0 rfl
set_option maxRecDepth 20000 in
theorem r_124 {sc : List Int} {t : xm_W} {m : Nat → Nat → Int} {x1 x2 x3 : Int} (hI : yy_I t m) (h : ¬ ((0 ≤ x1 ∧ x1 ≤ m 1 4 - 1) ∧ (1 ≤ x2 ∧ x2 ≤ 12) ∧ (0 ≤ x3 ∧ x3 ≤ 35))) : yy_A sc t m 124 1180 [.inl x1, .inl x2, .inl x3] true := by
  obtain ⟨⟨e0, e3, e1, e2⟩, hR⟩ := yy_I_0 hI
  obtain ⟨b0, b1, b2, b3, -⟩ := hR
  exact yy_Ao (f_124 (d := 96) (by rw [e0]; exact b0.1) (by rw [e0]; exact b0.2) h) (f_1180 (d := 96) (by rw [yy_e75 (by decide)]; exact b0.1) (by rw [yy_e75 (by decide)]; exact b0.2) (by rw [yy_e75 (by decide)]; rw [e0] at h; exact h)) (yy_I_ef hI) yy_ef0 rfl
set_option maxRecDepth 20000 in
theorem r_125 {sc : List Int} {t : xm_W} {m : Nat → Nat → Int} {x1 x2 : Int} (hI : yy_I t m) (h : ¬ ((0 ≤ x1 ∧ x1 ≤ 3) ∧ (0 ≤ x2 ∧ x2 ≤ 4))) : yy_A sc t m 125 1185 [.inl x1, .inl x2] true := by
  obtain ⟨⟨e0, e3, e1, e2⟩, hR⟩ := yy_I_0 hI
  obtain ⟨b0, b1, b2, b3, -⟩ := hR
  exact yy_Ao (f_125 (d := 96) h) (f_1185 (d := 96) (by exact h)) (yy_I_ef hI) yy_ef0 rfl
set_option maxRecDepth 20000 in
theorem r_126 {sc : List Int} {t : xm_W} {m : Nat → Nat → Int} {x1 x2 x3 : Int} (hI : yy_I t m) (h : ¬ ((0 ≤ x1 ∧ x1 ≤ m 1 4 - 1) ∧ (0 ≤ x2 ∧ x2 ≤ 3))) : yy_A sc t m 126 1194 [.inl x1, .inl x2, .inl x3] true := by
  obtain ⟨⟨e0, e3, e1, e2⟩, hR⟩ := yy_I_0 hI
  obtain ⟨b0, b1, b2, b3, -⟩ := hR
  exact yy_Ao (f_126 (d := 96) (by rw [e0]; exact b0.1) (by rw [e0]; exact b0.2) h) (f_1194 (d := 96) (by rw [yy_e75 (by decide)]; exact b0.1) (by rw [yy_e75 (by decide)]; exact b0.2) (by rw [yy_e75 (by decide)]; rw [e0] at h; exact h)) (yy_I_ef hI) yy_ef0 rfl
set_option maxRecDepth 20000 in
theorem r_129 {sc : List Int} {t : xm_W} {m : Nat → Nat → Int} {x1 x2 x3 : Int} (hI : yy_I t m) (h : ¬ ((0 ≤ x1 ∧ x1 ≤ 3))) : yy_A sc t m 129 1198 [.inl x1, .inl x2, .inl x3] true := by
  obtain ⟨⟨e0, e3, e1, e2⟩, hR⟩ := yy_I_0 hI
  obtain ⟨b0, b1, b2, b3, -⟩ := hR
  exact yy_Ao (f_129 (d := 96) h) (f_1198 (d := 96) (by exact h)) (yy_I_ef hI) yy_ef0 rfl
set_option maxRecDepth 20000 in
theorem r_130 {sc : List Int} {t : xm_W} {m : Nat → Nat → Int} {x1 x2 x3 x4 x5 : Int} (hI : yy_I t m) (h : ¬ ((0 ≤ x1 ∧ x1 ≤ 3) ∧ (0 ≤ x3 ∧ x3 ≤ 3))) : yy_A sc t m 130 1199 [.inl x1, .inl x2, .inl x3, .inl x4, .inl x5] true := by
  obtain ⟨⟨e0, e3, e1, e2⟩, hR⟩ := yy_I_0 hI
  obtain ⟨b0, b1, b2, b3, -⟩ := hR
  exact yy_Ao (f_130 (d := 96) h) (f_1199 (d := 96) (by exact h)) (yy_I_ef hI) yy_ef0 rfl
set_option maxRecDepth 20000 in
theorem r_131 {sc : List Int} {t : xm_W} {m : Nat → Nat → Int} {x1 x2 : Int} (hI : yy_I t m) (h : ¬ ((0 ≤ x1 ∧ x1 ≤ 3) ∧ (0 ≤ x2 ∧ x2 ≤ m 1 4 - 1))) : yy_A sc t m 131 1201 [.inl x1, .inl x2] true := by
  obtain ⟨⟨e0, e3, e1, e2⟩, hR⟩ := yy_I_0 hI
  obtain ⟨b0, b1, b2, b3, -⟩ := hR
  exact yy_Ao (f_131 (d := 96) (by rw [e0]; exact b0.1) (by rw [e0]; exact b0.2) h) (f_1201 (d := 96) (by rw [yy_e75 (by decide)]; exact b0.1) (by rw [yy_e75 (by decide)]; exact b0.2) (by rw [yy_e75 (by decide)]; rw [e0] at h; exact h)) (yy_I_ef hI) yy_ef0 rfl
set_option maxRecDepth 20000 in
theorem r_132 {sc : List Int} {t : xm_W} {m : Nat → Nat → Int} {x1 x2 : Int} (hI : yy_I t m) (h : ¬ ((0 ≤ x1 ∧ x1 ≤ 3) ∧ (0 ≤ x2 ∧ x2 ≤ m 1 4 - 1))) : yy_A sc t m 132 1202 [.inl x1, .inl x2] true := by
  obtain ⟨⟨e0, e3, e1, e2⟩, hR⟩ := yy_I_0 hI
  obtain ⟨b0, b1, b2, b3, -⟩ := hR
  exact yy_Ao (f_132 (d := 96) (by rw [e0]; exact b0.1) (by rw [e0]; exact b0.2) h) (f_1202 (d := 96) (by rw [yy_e75 (by decide)]; exact b0.1) (by rw [yy_e75 (by decide)]; exact b0.2) (by rw [yy_e75 (by decide)]; rw [e0] at h; exact h)) (yy_I_ef hI) yy_ef0 rfl
set_option maxRecDepth 20000 in
theorem r_138 {sc : List Int} {t : xm_W} {m : Nat → Nat → Int} {x1 : Int} (hI : yy_I t m) (h : ¬ ((1 ≤ x1 ∧ x1 ≤ 6))) : yy_A sc t m 138 1208 [.inl x1] true := by
  obtain ⟨⟨e0, e3, e1, e2⟩, hR⟩ := yy_I_0 hI
  obtain ⟨b0, b1, b2, b3, -⟩ := hR
  exact yy_Ao (f_138 (d := 96) h) (f_1208 (d := 96) (by exact h)) (yy_I_ef hI) yy_ef0 rfl
end
section
set_option maxRecDepth 20000 in
theorem yy_I_75 {t : xm_W} {m m' : Nat → Nat → Int} (hI : yy_I t m) (hG : sg_G (m' 75)) (hX : yy_MX t m' 1 (m' 75)) (hD : yy_DR m' 35 (m' 75)) (h : ∀ c, c < 87 → ¬ yy_no c → ¬ (1 ≤ c ∧ c < 18) → ¬ (35 ≤ c ∧ c < 38) → c ≠ 75 → m' c = m c) : yy_I t m' := by
  obtain ⟨a, b, c, d, e, f⟩ := hI
  have h0 : m' 0 = m 0 := h 0 (by decide) (by unfold yy_no; omega) (by omega) (by omega) (by decide)
  have h74 : m' 74 = m 74 := h 74 (by decide) (by unfold yy_no; omega) (by omega) (by omega) (by decide)
  have h61 : m' 61 = m 61 := h 61 (by decide) (by unfold yy_no; omega) (by omega) (by omega) (by decide)
  refine ⟨hG, hX, hD, yy_KE_r (fun c hc => h c (by omega) (by unfold yy_no; omega) (by omega) (by omega) (by omega)) (by rw [h0]) (by rw [h74]) d, yy_SH_r (fun c hc => h c (by omega) (by unfold yy_no; omega) (by omega) (by omega) (by omega)) e, ?_⟩
  unfold yy_SP
  rw [h74, h61]; exact f
/-! the desk stays in the row where the moor alone changes -/
set_option maxRecDepth 20000 in
theorem sg_D_eq {s s' : Nat → Int} (h4 : s' 4 = s 4) (h5 : s' 5 = s 5) (h : ∀ k, 589 ≤ k → s' k = s k) (hD : sg_D s) : sg_D s' :=
  ⟨by rw [h4]; exact hD.1, by rw [h5]; exact hD.2.1, fun k hk => by rw [h _ (by omega)]; exact hD.2.2 k hk⟩
set_option maxRecDepth 20000 in
theorem yy_DR_eq {m m' : Nat → Nat → Int} {a : Nat} {s s' : Nat → Int} (hm : ∀ c, (c = a ∨ c = a + 1 ∨ c = a + 2) → m' c = m c) (h4 : s' 4 = s 4) (h5 : s' 5 = s 5) (h6 : s' 6 = s 6) (h : ∀ k, 589 ≤ k → s' k = s k) (hD : yy_DR m a s) : yy_DR m' a s' := by
  obtain ⟨a1, a2, a3, a4, a5⟩ := yy_DR_r hm hD
  exact ⟨by rw [h4]; exact a1, by rw [h5]; exact a2, by rw [h6]; exact a3, fun k hk => by rw [h _ (by omega)]; exact a4 k hk, fun k hk => by rw [h _ (by omega)]; exact a5 k hk⟩
set_option maxRecDepth 20000 in
theorem sg_R_q {s s' : Nat → Int} (h : ∀ k, (k < 4 ∨ (8 ≤ k ∧ k < 589)) → s' k = s k) (hR : sg_R s) : sg_R s' := by
  obtain ⟨a0, a1, a2, a3, a4, a5⟩ := hR
  refine ⟨by rw [h 0 (by omega)]; exact a0, by rw [h 1 (by omega)]; exact a1, by rw [h 2 (by omega)]; exact a2, by rw [h 3 (by omega)]; exact a3, fun k hk => by rw [h _ (by omega)]; exact a4 k hk, fun i hi => ?_⟩
  obtain ⟨b0, b1, b2, b3, b4, b5, b6⟩ := a5 i hi
  rw [h _ (by omega), h _ (by omega), h _ (by omega), h _ (by omega), h _ (by omega), h _ (by omega)]
  exact ⟨b0, b1, b2, b3, b4, b5, fun k hk => by rw [h _ (by omega)]; exact b6 k hk⟩
set_option maxRecDepth 20000 in
theorem sg_W_q {s s' : Nat → Int} {r : Int} (h : ∀ k, (k < 4 ∨ (8 ≤ k ∧ k < 589)) → s' k = s k) (hW : sg_W s r) : sg_W s' r := by
  obtain ⟨hR, hO, hS, hT, hT1⟩ := hW
  have h3 := hR.2.2.2.1
  have e3 : s' 3 = s 3 := h _ (by omega)
  have e1 : s' 1 = s 1 := h _ (by omega)
  have ep : ∀ i w : Nat, (i : Int) < s 3 → w < 5 → sg_p s' i w = sg_p s i w := fun i w hi hw => h _ (by omega)
  refine ⟨sg_R_q h hR, ⟨fun i hi => ?_, fun i j hij hj => ?_⟩, fun i hi => ?_, sg_T_eq (by decide) (fun k h1 h2 => h k (by omega)) hT, sg_T_eq (by decide) (fun k h1 h2 => h k (by omega)) hT1⟩
  · rw [e3] at hi
    have := hO.1 i hi
    unfold sg_E at this ⊢
    rw [ep i 0 hi (by decide), ep i 1 hi (by decide), ep i 2 hi (by decide), ep i 3 hi (by decide), ep i 4 hi (by decide), e1]; exact this
  · rw [e3] at hj
    have := hO.2 i j hij hj
    unfold sg_lt at this ⊢
    rw [ep i 3 (by omega) (by decide), ep i 4 (by omega) (by decide), ep j 3 hj (by decide), ep j 4 hj (by decide)]; exact this
  · rw [e3] at hi
    have := hS i hi
    have c := (hO.1 i hi).1.1
    rw [ep i 3 hi (by decide), ep i 0 hi (by decide), e1, sg_k_eq (h 2 (by omega)) (h _ (by omega))]
    exact this
set_option maxRecDepth 20000 in
theorem yy_MX_q {t : xm_W} {m m' : Nat → Nat → Int} {b : Nat} {s s' : Nat → Int} (hT : sg_tn s 0 ≤ 60 ∧ sg_tn s 1 ≤ 60) (h : ∀ k, (k < 4 ∨ (8 ≤ k ∧ k < 589)) → s' k = s k) (hm : ∀ c, (b ≤ c ∧ c < b + 17) → m' c = m c) (hM : yy_MX t m b s) : yy_MX t m' b s' := by
  obtain ⟨e1, e2, e3, e4, e5, e6, e7⟩ := hM.1
  have hb := hm b (by omega)
  refine ⟨⟨by rw [hb, h 2 (by omega)]; exact e1, by rw [hb, h 1 (by omega)]; exact e2, by rw [hb, h 0 (by omega)]; exact e3, by rw [hb, h 3 (by omega)]; exact e4, fun k hk => by rw [hm _ (by omega), h _ (by omega)]; exact e5 k hk, fun k hk => by rw [hm _ (by omega), h _ (by omega)]; exact e6 k hk, fun i hi => ⟨fun k hk => by rw [hm _ (by omega), h _ (by omega)]; exact (e7 i hi).1 k hk, fun k hk => by rw [hm _ (by omega), h _ (by omega)]; exact (e7 i hi).2 k hk⟩⟩, ?_, ?_⟩
  · rw [hm _ (by omega)]; exact yy_TX_eq (by decide) hT.1 (fun k h1 h2 => h k (by omega)) hM.2.1
  · rw [hm _ (by omega)]; exact yy_TX_eq (by decide) hT.2 (fun k h1 h2 => h k (by omega)) hM.2.2
/-! an act on the desk alone -/
set_option maxRecDepth 20000 in
theorem yy_I_dk {t : xm_W} {m m' : Nat → Nat → Int} (hI : yy_I t m) (h : ∀ c, c < 87 → ¬ yy_no c → ¬ (35 ≤ c ∧ c < 38) → c ≠ 75 → m' c = m c) (h75 : ∀ k, (k < 4 ∨ (8 ≤ k ∧ k < 589)) → m' 75 k = m 75 k) (hD : sg_D (m' 75)) (hR : yy_DR m' 35 (m' 75)) : yy_I t m' := by
  obtain ⟨⟨hW, h1, -⟩, hX, -⟩ := id hI
  exact yy_I_75 hI ⟨sg_W_q h75 hW, by rw [h75 1 (by omega)]; exact h1, hD⟩ (by
    obtain ⟨⟨e1, e2, e3, e4, e5, e6, e7⟩, t0, t1⟩ := hX
    have hb : m' 1 = m 1 := h 1 (by decide) (by unfold yy_no; omega) (by omega) (by decide)
    have hm : ∀ c, c = 2 ∨ c = 4 ∨ c = 5 ∨ (8 ≤ c ∧ c < 18) → m' c = m c := fun c hc => h c (by omega) (by unfold yy_no; omega) (by omega) (by omega)
    refine ⟨⟨by rw [hb, h75 2 (by omega)]; exact e1, by rw [hb, h75 1 (by omega)]; exact e2, by rw [hb, h75 0 (by omega)]; exact e3, by rw [hb, h75 3 (by omega)]; exact e4, fun k hk => by rw [hm _ (by omega), h75 _ (by omega)]; exact e5 k hk, fun k hk => by rw [hm _ (by omega), h75 _ (by omega)]; exact e6 k hk, fun i hi => ⟨fun k hk => by rw [hm _ (by omega), h75 _ (by omega)]; exact (e7 i hi).1 k hk, fun k hk => by rw [hm _ (by omega), h75 _ (by omega)]; exact (e7 i hi).2 k hk⟩⟩, ?_, ?_⟩
    · rw [show (1 + 4 : Nat) = 5 from rfl, hm 5 (by omega)]; exact yy_TX_eq (by decide) (sg_W_T hW).1 (fun k h1 h2 => h75 k (by omega)) t0
    · rw [show (1 + 4 : Nat) = 5 from rfl, hm 5 (by omega)]; exact yy_TX_eq (by decide) (sg_W_T hW).2 (fun k h1 h2 => h75 k (by omega)) t1) hR (fun c hc h1 h2 h3 h4 => h c hc h1 h3 h4)
set_option maxRecDepth 20000 in
theorem a_115 {sc : List Int} {t : xm_W} {m : Nat → Nat → Int} {x1 : Int} (hI : yy_I t m) : yy_A sc t m 115 1161 [.inl x1] true := by
  obtain ⟨⟨hW, h1, hD⟩, hX, hR, -⟩ := id hI
  obtain ⟨d1, d2, d3, d4, d5⟩ := id hR
  have e75 : yy_s (yy_s m 35 4 x1) 75 6 x1 75 = yy_u (m 75) 6 x1 := by rw [yy_s_eq, yy_s_ne (by decide)]
  have o : ∀ k, k ≠ 6 → yy_u (m 75) 6 x1 k = m 75 k := fun k hk => yy_u_ne hk
  refine yy_Ao (c_115 (d := 99)) (c_1161 (d := 98)) (yy_I_dk hI (fun c hc h1 h2 h3 => by rw [yy_s_ne h3, yy_s_ne (by omega)]) (fun k hk => by rw [e75]; exact o k (by omega)) (by rw [e75]; exact sg_D_eq (o _ (by decide)) (o _ (by decide)) (fun k hk => o k (by omega)) hD) ?_) ?_ ?_
  · rw [e75]
    refine ⟨?_, ?_, ?_, fun k hk => ?_, fun k hk => ?_⟩
    · rw [o _ (by decide)]; simp (disch := first | omega | (unfold xm_w; omega)) only [↓zy_at, xm_O_some, xm_Oi_some, xm_Ov_some, xm_Oq_some, ↓reduceIte, ↓zz_t, ↓zz_f, ↓zi_t, ↓zi_f, eq_self, yy_d_0, Int.reduceEq, Int.reduceLT, Int.reduceLE, Int.reduceNe, Int.reduceToNat, Int.reduceAdd, Int.reduceSub, Int.reduceMul, Int.reduceNeg, Nat.reduceAdd, Nat.reduceMul, Nat.reduceSub, Nat.reduceEqDiff, Nat.reduceLT, ne_eq, not_false_eq_true, not_true_eq_false, true_and, and_true, and_self, yy_s_eq, yy_s_ne, yy_c_eq, yy_c_ne, yy_u_eq, yy_u_ne, xm_w_id, yy_at, tdiv_pos, tmod_pos]; exact d1
    · rw [o _ (by decide)]; simp (disch := first | omega | (unfold xm_w; omega)) only [↓zy_at, xm_O_some, xm_Oi_some, xm_Ov_some, xm_Oq_some, ↓reduceIte, ↓zz_t, ↓zz_f, ↓zi_t, ↓zi_f, eq_self, yy_d_0, Int.reduceEq, Int.reduceLT, Int.reduceLE, Int.reduceNe, Int.reduceToNat, Int.reduceAdd, Int.reduceSub, Int.reduceMul, Int.reduceNeg, Nat.reduceAdd, Nat.reduceMul, Nat.reduceSub, Nat.reduceEqDiff, Nat.reduceLT, ne_eq, not_false_eq_true, not_true_eq_false, true_and, and_true, and_self, yy_s_eq, yy_s_ne, yy_c_eq, yy_c_ne, yy_u_eq, yy_u_ne, xm_w_id, yy_at, tdiv_pos, tmod_pos]; exact d2
    · rw [yy_u_eq]; simp (disch := first | omega | (unfold xm_w; omega)) only [↓zy_at, xm_O_some, xm_Oi_some, xm_Ov_some, xm_Oq_some, ↓reduceIte, ↓zz_t, ↓zz_f, ↓zi_t, ↓zi_f, eq_self, yy_d_0, Int.reduceEq, Int.reduceLT, Int.reduceLE, Int.reduceNe, Int.reduceToNat, Int.reduceAdd, Int.reduceSub, Int.reduceMul, Int.reduceNeg, Nat.reduceAdd, Nat.reduceMul, Nat.reduceSub, Nat.reduceEqDiff, Nat.reduceLT, ne_eq, not_false_eq_true, not_true_eq_false, true_and, and_true, and_self, yy_s_eq, yy_s_ne, yy_c_eq, yy_c_ne, yy_u_eq, yy_u_ne, xm_w_id, yy_at, tdiv_pos, tmod_pos]
    · rw [o _ (by omega)]; simp (disch := first | omega | (unfold xm_w; omega)) only [↓zy_at, xm_O_some, xm_Oi_some, xm_Ov_some, xm_Oq_some, ↓reduceIte, ↓zz_t, ↓zz_f, ↓zi_t, ↓zi_f, eq_self, yy_d_0, Int.reduceEq, Int.reduceLT, Int.reduceLE, Int.reduceNe, Int.reduceToNat, Int.reduceAdd, Int.reduceSub, Int.reduceMul, Int.reduceNeg, Nat.reduceAdd, Nat.reduceMul, Nat.reduceSub, Nat.reduceEqDiff, Nat.reduceLT, ne_eq, not_false_eq_true, not_true_eq_false, true_and, and_true, and_self, yy_s_eq, yy_s_ne, yy_c_eq, yy_c_ne, yy_u_eq, yy_u_ne, xm_w_id, yy_at, tdiv_pos, tmod_pos]; exact d4 k hk
    · rw [o _ (by omega)]; simp (disch := first | omega | (unfold xm_w; omega)) only [↓zy_at, xm_O_some, xm_Oi_some, xm_Ov_some, xm_Oq_some, ↓reduceIte, ↓zz_t, ↓zz_f, ↓zi_t, ↓zi_f, eq_self, yy_d_0, Int.reduceEq, Int.reduceLT, Int.reduceLE, Int.reduceNe, Int.reduceToNat, Int.reduceAdd, Int.reduceSub, Int.reduceMul, Int.reduceNeg, Nat.reduceAdd, Nat.reduceMul, Nat.reduceSub, Nat.reduceEqDiff, Nat.reduceLT, ne_eq, not_false_eq_true, not_true_eq_false, true_and, and_true, and_self, yy_s_eq, yy_s_ne, yy_c_eq, yy_c_ne, yy_u_eq, yy_u_ne, xm_w_id, yy_at, tdiv_pos, tmod_pos]; exact d5 k hk
  · rw [yy_s_ne (by decide), yy_s_ne (by decide)]
  · rw [d3]; rw [yy_s_ne (by decide)]
set_option maxRecDepth 20000 in
theorem a_135 {sc : List Int} {t : xm_W} {m : Nat → Nat → Int} {x1 : Int} (hI : yy_I t m) : yy_A sc t m 135 1205 [.inl x1] true := by
  obtain ⟨⟨hW, h1, hD⟩, hX, hR, -⟩ := id hI
  obtain ⟨d1, d2, d3, d4, d5⟩ := id hR
  obtain ⟨g1, g2, g3⟩ := id hD
  by_cases h : m 75 5 = 24
  · exact yy_Ao (f_135 (d := 96) (by omega)) (f_1205 (d := 96) (by rw [yy_e75 (by decide)]; exact h)) (yy_I_ef hI) yy_ef0 rfl
  · have f5 : yy_s (yy_s m 37 (m 35 3).toNat x1) 35 3 (m 35 3 + 1) 75 = m 75 := by rw [yy_s_ne (by decide), yy_s_ne (by decide)]
    refine yy_Ao (c_135 (d := 96) (by omega) (by omega)) (c_1205 (d := 96) (by rw [f5]; omega) (by rw [f5]; omega)) ?_ ?_ ?_
    · rw [f5, d2]
      have e75 : yy_s (yy_s (yy_s (yy_s m 37 (m 75 5).toNat x1) 35 3 (m 75 5 + 1)) 75 (649 + m 75 5).toNat x1) 75 5 (m 75 5 + 1) 75 = yy_u (yy_u (m 75) (649 + m 75 5).toNat x1) 5 (m 75 5 + 1) := by
        rw [yy_s_eq, yy_s_eq, yy_s_ne (by decide), yy_s_ne (by decide)]
      have o : ∀ k, k ≠ 5 → k ≠ (649 + m 75 5).toNat → yy_u (yy_u (m 75) (649 + m 75 5).toNat x1) 5 (m 75 5 + 1) k = m 75 k := fun k h1 h2 => by rw [yy_u_ne h1, yy_u_ne h2]
      refine yy_I_dk hI (fun c hc h1 h2 h3 => by rw [yy_s_ne h3, yy_s_ne h3, yy_s_ne (by omega), yy_s_ne (by omega)]) (fun k hk => by rw [e75]; exact o k (by omega) (by omega)) (by rw [e75]; exact ⟨by rw [o _ (by decide) (by omega)]; exact g1, by rw [yy_u_eq]; omega, fun k hk => by rw [o _ (by omega) (by omega)]; exact g3 k hk⟩) ?_
      rw [e75]
      refine ⟨?_, ?_, ?_, fun k hk => ?_, fun k hk => ?_⟩
      · rw [o _ (by decide) (by omega)]; simp (disch := first | omega | (unfold xm_w; omega)) only [↓zy_at, xm_O_some, xm_Oi_some, xm_Ov_some, xm_Oq_some, ↓reduceIte, ↓zz_t, ↓zz_f, ↓zi_t, ↓zi_f, eq_self, yy_d_0, Int.reduceEq, Int.reduceLT, Int.reduceLE, Int.reduceNe, Int.reduceToNat, Int.reduceAdd, Int.reduceSub, Int.reduceMul, Int.reduceNeg, Nat.reduceAdd, Nat.reduceMul, Nat.reduceSub, Nat.reduceEqDiff, Nat.reduceLT, ne_eq, not_false_eq_true, not_true_eq_false, true_and, and_true, and_self, yy_s_eq, yy_s_ne, yy_c_eq, yy_c_ne, yy_u_eq, yy_u_ne, xm_w_id, yy_at, tdiv_pos, tmod_pos]; exact d1
      · rw [yy_u_eq]; simp (disch := first | omega | (unfold xm_w; omega)) only [↓zy_at, xm_O_some, xm_Oi_some, xm_Ov_some, xm_Oq_some, ↓reduceIte, ↓zz_t, ↓zz_f, ↓zi_t, ↓zi_f, eq_self, yy_d_0, Int.reduceEq, Int.reduceLT, Int.reduceLE, Int.reduceNe, Int.reduceToNat, Int.reduceAdd, Int.reduceSub, Int.reduceMul, Int.reduceNeg, Nat.reduceAdd, Nat.reduceMul, Nat.reduceSub, Nat.reduceEqDiff, Nat.reduceLT, ne_eq, not_false_eq_true, not_true_eq_false, true_and, and_true, and_self, yy_s_eq, yy_s_ne, yy_c_eq, yy_c_ne, yy_u_eq, yy_u_ne, xm_w_id, yy_at, tdiv_pos, tmod_pos]
      · rw [o _ (by decide) (by omega)]; simp (disch := first | omega | (unfold xm_w; omega)) only [↓zy_at, xm_O_some, xm_Oi_some, xm_Ov_some, xm_Oq_some, ↓reduceIte, ↓zz_t, ↓zz_f, ↓zi_t, ↓zi_f, eq_self, yy_d_0, Int.reduceEq, Int.reduceLT, Int.reduceLE, Int.reduceNe, Int.reduceToNat, Int.reduceAdd, Int.reduceSub, Int.reduceMul, Int.reduceNeg, Nat.reduceAdd, Nat.reduceMul, Nat.reduceSub, Nat.reduceEqDiff, Nat.reduceLT, ne_eq, not_false_eq_true, not_true_eq_false, true_and, and_true, and_self, yy_s_eq, yy_s_ne, yy_c_eq, yy_c_ne, yy_u_eq, yy_u_ne, xm_w_id, yy_at, tdiv_pos, tmod_pos]; exact d3
      · rw [o _ (by omega) (by omega)]; simp (disch := first | omega | (unfold xm_w; omega)) only [↓zy_at, xm_O_some, xm_Oi_some, xm_Ov_some, xm_Oq_some, ↓reduceIte, ↓zz_t, ↓zz_f, ↓zi_t, ↓zi_f, eq_self, yy_d_0, Int.reduceEq, Int.reduceLT, Int.reduceLE, Int.reduceNe, Int.reduceToNat, Int.reduceAdd, Int.reduceSub, Int.reduceMul, Int.reduceNeg, Nat.reduceAdd, Nat.reduceMul, Nat.reduceSub, Nat.reduceEqDiff, Nat.reduceLT, ne_eq, not_false_eq_true, not_true_eq_false, true_and, and_true, and_self, yy_s_eq, yy_s_ne, yy_c_eq, yy_c_ne, yy_u_eq, yy_u_ne, xm_w_id, yy_at, tdiv_pos, tmod_pos]; exact d4 k hk
      · simp (disch := first | omega | (unfold xm_w; omega)) only [↓zy_at, xm_O_some, xm_Oi_some, xm_Ov_some, xm_Oq_some, ↓reduceIte, ↓zz_t, ↓zz_f, ↓zi_t, ↓zi_f, eq_self, yy_d_0, Int.reduceEq, Int.reduceLT, Int.reduceLE, Int.reduceNe, Int.reduceToNat, Int.reduceAdd, Int.reduceSub, Int.reduceMul, Int.reduceNeg, Nat.reduceAdd, Nat.reduceMul, Nat.reduceSub, Nat.reduceEqDiff, Nat.reduceLT, ne_eq, not_false_eq_true, not_true_eq_false, true_and, and_true, and_self, yy_s_eq, yy_s_ne, yy_c_eq, yy_c_ne, yy_u_eq, yy_u_ne, xm_w_id, yy_at, tdiv_pos, tmod_pos]
        by_cases e : k = (m 75 5).toNat
        · subst e
          rw [yy_u_eq, show 649 + (m 75 5).toNat = (649 + m 75 5).toNat by omega, yy_u_eq]
        · rw [yy_u_ne e, yy_u_ne (by omega)]; exact d5 k hk
    · rw [yy_s_ne (by decide), yy_s_ne (by decide), yy_s_ne (by decide), yy_s_ne (by decide)]
    · rw [f5, d2]
set_option maxRecDepth 20000 in
theorem a_137 {sc : List Int} {t : xm_W} {m : Nat → Nat → Int} {x1 : Int} (hI : yy_I t m) : yy_A sc t m 137 1207 [.inl x1] false := by
  by_cases h : 0 ≤ x1 ∧ x1 ≤ 7
  · exact ⟨_, _, _, _, _, c_137 (d := 96) h, c_1207 (d := 96) h, hI, by omega, by omega, by omega, fun h => by cases h⟩
  · exact ⟨_, _, _, _, _, f_137 (d := 96) h, f_1207 (d := 96) h, yy_I_ef hI, by omega, by omega, by rw [yy_ef0]; omega, fun h => by cases h⟩
set_option maxRecDepth 20000 in
theorem a_138 {sc : List Int} {t : xm_W} {m : Nat → Nat → Int} {x1 : Int} (hI : yy_I t m) : yy_A sc t m 138 1208 [.inl x1] false := by
  by_cases h : 1 ≤ x1 ∧ x1 ≤ 6
  · exact ⟨_, _, _, _, _, c_138 (d := 96) h, c_1208 (d := 96) h, hI, by omega, by omega, by omega, fun h => by cases h⟩
  · exact ⟨_, _, _, _, _, f_138 (d := 96) h, f_1208 (d := 96) h, yy_I_ef hI, by omega, by omega, by rw [yy_ef0]; omega, fun h => by cases h⟩
/-! a walk over the prints of both sides -/
set_option maxRecDepth 20000 in
theorem sg_clr_W {s : Nat → Int} (hW : sg_W s 0) (K : Nat → Bool) (hS : ∀ i : Nat, (i : Int) < s 3 → K i = true → s 1 ≤ sg_p s i 3 + sg_k s (sg_p s i 0)) : sg_W (sg_clr K s) 0 := by
  have h3 := hW.1.2.2.2.1
  have h3' : 0 ≤ s 3 ∧ s 3 ≤ 41 := by omega
  obtain ⟨g, c1, c2, c3⟩ := sg_clr_p (K := K) h3'
  exact ⟨sg_R_eq (fun k h h' => sg_clr_o h3' h' (Or.inl h)) (by omega) hW.1, sg_clr_O h3' hW.2.1, sg_clr_S h3' hW.2.1 hS, sg_T_eq (by decide) (fun k h h' => sg_clr_o h3' (by omega) (Or.inr h)) hW.2.2.2.1, sg_T_eq (by decide) (fun k h h' => sg_clr_o h3' (by omega) (Or.inr h)) hW.2.2.2.2⟩
set_option maxRecDepth 20000 in
theorem yy_Fb_n {m m' : Nat → Nat → Int} (h : yy_Fb m m' 1) : ∀ c, (18 ≤ c ∨ c = 0 ∨ c = 5) → m' c = m c := fun c hc => h c (by omega)
set_option maxRecDepth 20000 in
theorem sg_clr_D {K : Nat → Bool} {s : Nat → Int} (h3 : 0 ≤ s 3 ∧ s 3 ≤ 41) (hD : sg_D s) : sg_D (sg_clr K s) :=
  sg_D_eq (sg_clr_o h3 (by decide) (Or.inl (by decide))) (sg_clr_o h3 (by decide) (Or.inl (by decide))) (fun k hk => sg_clr_o h3 (by omega) (Or.inr (by omega))) hD
/-! an act on the moor alone, the reference's row being what the class's moor holds -/
set_option maxRecDepth 20000 in
theorem yy_I_mo {t : xm_W} {m m' : Nat → Nat → Int} (hI : yy_I t m) (hW : sg_W (m' 75) 0) (h1 : m' 75 1 ≤ 9999) (hX : yy_MX t m' 1 (m' 75)) (ho : ∀ k, (k = 4 ∨ k = 5 ∨ k = 6 ∨ 589 ≤ k) → m' 75 k = m 75 k) (h : ∀ c, c < 87 → ¬ yy_no c → ¬ (1 ≤ c ∧ c < 18) → c ≠ 75 → m' c = m c) : yy_I t m' :=
  yy_I_75 hI ⟨hW, h1, sg_D_eq (ho _ (by omega)) (ho _ (by omega)) (fun k hk => ho k (by omega)) hI.1.2.2⟩ hX (yy_DR_eq (fun c hc => h c (by omega) (by unfold yy_no; omega) (by omega) (by omega)) (ho _ (by omega)) (ho _ (by omega)) (ho _ (by omega)) (fun k hk => ho k (by omega)) hI.2.2.1) (fun c hc a b _ d => h c hc a b d)
set_option maxRecDepth 20000 in
theorem a_102 {sc : List Int} {t : xm_W} {m : Nat → Nat → Int} {x1 x2 : Int} (hI : yy_I t m) : yy_A sc t m 102 1140 [.inl x1, .inl x2] true := by
  by_cases h : (0 ≤ x1 ∧ x1 ≤ 35) ∧ (0 ≤ x2 ∧ x2 ≤ 3)
  · obtain ⟨⟨hW, h1, hD⟩, hX, hR, -⟩ := id hI
    obtain ⟨⟨e1, e2, e3, e4, e5, e6, e7⟩, t0, t1⟩ := id hX
    have h3 := hW.1.2.2.2.1
    -- the row with the ground anew
    have o : ∀ k, k ≠ (8 + x1).toNat → yy_u (m 75) (8 + x1).toNat x2 k = m 75 k := fun k hk => yy_u_ne hk
    have R : sg_R (yy_u (m 75) (8 + x1).toNat x2) := by
      obtain ⟨a0, a1, a2, a3, a4, a5⟩ := hW.1
      refine ⟨by rw [o _ (by omega)]; exact a0, by rw [o _ (by omega)]; exact a1, by rw [o _ (by omega)]; exact a2, by rw [o _ (by omega)]; exact a3, fun k hk => ?_, fun i hi => ?_⟩
      · by_cases e : 8 + k = (8 + x1).toNat
        · rw [e, yy_u_eq]; exact h.2
        · rw [o _ e]; exact a4 k hk
      · obtain ⟨b0, b1, b2, b3, b4, b5, b6⟩ := a5 i hi
        rw [o _ (by omega), o _ (by omega), o _ (by omega), o _ (by omega), o _ (by omega), o _ (by omega)]
        exact ⟨b0, b1, b2, b3, b4, b5, fun k hk => by rw [o _ (by omega)]; exact b6 k hk⟩
    have ep : ∀ i w : Nat, sg_p (yy_u (m 75) (8 + x1).toNat x2) i w = sg_p (m 75) i w := fun i w => o _ (by omega)
    have O : sg_O (yy_u (m 75) (8 + x1).toNat x2) 0 := by
      refine ⟨fun i hi => ?_, fun i j hij hj => ?_⟩
      · rw [o _ (by omega)] at hi
        have := hW.2.1.1 i hi
        unfold sg_E at this ⊢
        rw [ep, ep, ep, ep, ep, o _ (by omega)]; exact this
      · rw [o _ (by omega)] at hj
        have := hW.2.1.2 i j hij hj
        unfold sg_lt at this ⊢
        rw [ep, ep, ep, ep]; exact this
    have B : sg_B (yy_u (m 75) (8 + x1).toNat x2) := ⟨R.2.2.1, by rw [o _ (by omega)]; omega, fun i hi => ⟨(O.1 i hi).1.1, (O.1 i hi).1.2.2.2.1⟩⟩
    have H3 : 0 ≤ yy_u (m 75) (8 + x1).toNat x2 3 ∧ yy_u (m 75) (8 + x1).toNat x2 3 ≤ 41 := by rw [o _ (by omega)]; omega
    have co : ∀ k, k ≠ 3 → (k < 134 ∨ 339 ≤ k) → k ≠ (8 + x1).toNat → sg_clr (sg_K (yy_u (m 75) (8 + x1).toNat x2) 0 (-1)) (yy_u (m 75) (8 + x1).toNat x2) k = m 75 k := fun k a b c => by rw [sg_clr_o H3 a b, o k c]
    have W : sg_W (sg_clr (sg_K (yy_u (m 75) (8 + x1).toNat x2) 0 (-1)) (yy_u (m 75) (8 + x1).toNat x2)) 0 := by
      obtain ⟨g, c1, c2, c3⟩ := sg_clr_p (K := sg_K (yy_u (m 75) (8 + x1).toNat x2) 0 (-1)) H3
      refine ⟨sg_R_eq (fun k a b => sg_clr_o H3 b (Or.inl a)) (by rw [o 3 (by omega)] at c1; omega) R, sg_clr_O H3 O, sg_clr_S H3 O (fun i hi hK => ?_), sg_T_eq (by decide) (fun k a b => co k (by omega) (Or.inr a) (by omega)) hW.2.2.2.1, sg_T_eq (by decide) (fun k a b => co k (by omega) (Or.inr a) (by omega)) hW.2.2.2.2⟩
      unfold sg_K at hK
      rw [decide_eq_true_iff] at hK
      exact hK.2.2
    -- the class
    have M : yy_MR (yy_s m 2 x1.toNat x2) 1 (yy_u (m 75) (8 + x1).toNat x2) := by
      refine ⟨by rw [o _ (by omega)]; simp (disch := first | omega | (unfold xm_w; omega)) only [↓zy_at, xm_O_some, xm_Oi_some, xm_Ov_some, xm_Oq_some, ↓reduceIte, ↓zz_t, ↓zz_f, ↓zi_t, ↓zi_f, eq_self, yy_d_0, Int.reduceEq, Int.reduceLT, Int.reduceLE, Int.reduceNe, Int.reduceToNat, Int.reduceAdd, Int.reduceSub, Int.reduceMul, Int.reduceNeg, Nat.reduceAdd, Nat.reduceMul, Nat.reduceSub, Nat.reduceEqDiff, Nat.reduceLT, ne_eq, not_false_eq_true, not_true_eq_false, true_and, and_true, and_self, yy_s_eq, yy_s_ne, yy_c_eq, yy_c_ne, yy_u_eq, yy_u_ne, xm_w_id, yy_at, tdiv_pos, tmod_pos]; exact e1, by rw [o _ (by omega)]; simp (disch := first | omega | (unfold xm_w; omega)) only [↓zy_at, xm_O_some, xm_Oi_some, xm_Ov_some, xm_Oq_some, ↓reduceIte, ↓zz_t, ↓zz_f, ↓zi_t, ↓zi_f, eq_self, yy_d_0, Int.reduceEq, Int.reduceLT, Int.reduceLE, Int.reduceNe, Int.reduceToNat, Int.reduceAdd, Int.reduceSub, Int.reduceMul, Int.reduceNeg, Nat.reduceAdd, Nat.reduceMul, Nat.reduceSub, Nat.reduceEqDiff, Nat.reduceLT, ne_eq, not_false_eq_true, not_true_eq_false, true_and, and_true, and_self, yy_s_eq, yy_s_ne, yy_c_eq, yy_c_ne, yy_u_eq, yy_u_ne, xm_w_id, yy_at, tdiv_pos, tmod_pos]; exact e2, by rw [o _ (by omega)]; simp (disch := first | omega | (unfold xm_w; omega)) only [↓zy_at, xm_O_some, xm_Oi_some, xm_Ov_some, xm_Oq_some, ↓reduceIte, ↓zz_t, ↓zz_f, ↓zi_t, ↓zi_f, eq_self, yy_d_0, Int.reduceEq, Int.reduceLT, Int.reduceLE, Int.reduceNe, Int.reduceToNat, Int.reduceAdd, Int.reduceSub, Int.reduceMul, Int.reduceNeg, Nat.reduceAdd, Nat.reduceMul, Nat.reduceSub, Nat.reduceEqDiff, Nat.reduceLT, ne_eq, not_false_eq_true, not_true_eq_false, true_and, and_true, and_self, yy_s_eq, yy_s_ne, yy_c_eq, yy_c_ne, yy_u_eq, yy_u_ne, xm_w_id, yy_at, tdiv_pos, tmod_pos]; exact e3, by rw [o _ (by omega)]; simp (disch := first | omega | (unfold xm_w; omega)) only [↓zy_at, xm_O_some, xm_Oi_some, xm_Ov_some, xm_Oq_some, ↓reduceIte, ↓zz_t, ↓zz_f, ↓zi_t, ↓zi_f, eq_self, yy_d_0, Int.reduceEq, Int.reduceLT, Int.reduceLE, Int.reduceNe, Int.reduceToNat, Int.reduceAdd, Int.reduceSub, Int.reduceMul, Int.reduceNeg, Nat.reduceAdd, Nat.reduceMul, Nat.reduceSub, Nat.reduceEqDiff, Nat.reduceLT, ne_eq, not_false_eq_true, not_true_eq_false, true_and, and_true, and_self, yy_s_eq, yy_s_ne, yy_c_eq, yy_c_ne, yy_u_eq, yy_u_ne, xm_w_id, yy_at, tdiv_pos, tmod_pos]; exact e4, fun k hk => ?_, fun k hk => by rw [o _ (by omega)]; simp (disch := first | omega | (unfold xm_w; omega)) only [↓zy_at, xm_O_some, xm_Oi_some, xm_Ov_some, xm_Oq_some, ↓reduceIte, ↓zz_t, ↓zz_f, ↓zi_t, ↓zi_f, eq_self, yy_d_0, Int.reduceEq, Int.reduceLT, Int.reduceLE, Int.reduceNe, Int.reduceToNat, Int.reduceAdd, Int.reduceSub, Int.reduceMul, Int.reduceNeg, Nat.reduceAdd, Nat.reduceMul, Nat.reduceSub, Nat.reduceEqDiff, Nat.reduceLT, ne_eq, not_false_eq_true, not_true_eq_false, true_and, and_true, and_self, yy_s_eq, yy_s_ne, yy_c_eq, yy_c_ne, yy_u_eq, yy_u_ne, xm_w_id, yy_at, tdiv_pos, tmod_pos]; exact e6 k hk, fun i hi => ⟨fun k hk => by rw [o _ (by omega)]; simp (disch := first | omega | (unfold xm_w; omega)) only [↓zy_at, xm_O_some, xm_Oi_some, xm_Ov_some, xm_Oq_some, ↓reduceIte, ↓zz_t, ↓zz_f, ↓zi_t, ↓zi_f, eq_self, yy_d_0, Int.reduceEq, Int.reduceLT, Int.reduceLE, Int.reduceNe, Int.reduceToNat, Int.reduceAdd, Int.reduceSub, Int.reduceMul, Int.reduceNeg, Nat.reduceAdd, Nat.reduceMul, Nat.reduceSub, Nat.reduceEqDiff, Nat.reduceLT, ne_eq, not_false_eq_true, not_true_eq_false, true_and, and_true, and_self, yy_s_eq, yy_s_ne, yy_c_eq, yy_c_ne, yy_u_eq, yy_u_ne, xm_w_id, yy_at, tdiv_pos, tmod_pos]; exact (e7 i hi).1 k hk, fun k hk => by rw [o _ (by omega)]; simp (disch := first | omega | (unfold xm_w; omega)) only [↓zy_at, xm_O_some, xm_Oi_some, xm_Ov_some, xm_Oq_some, ↓reduceIte, ↓zz_t, ↓zz_f, ↓zi_t, ↓zi_f, eq_self, yy_d_0, Int.reduceEq, Int.reduceLT, Int.reduceLE, Int.reduceNe, Int.reduceToNat, Int.reduceAdd, Int.reduceSub, Int.reduceMul, Int.reduceNeg, Nat.reduceAdd, Nat.reduceMul, Nat.reduceSub, Nat.reduceEqDiff, Nat.reduceLT, ne_eq, not_false_eq_true, not_true_eq_false, true_and, and_true, and_self, yy_s_eq, yy_s_ne, yy_c_eq, yy_c_ne, yy_u_eq, yy_u_ne, xm_w_id, yy_at, tdiv_pos, tmod_pos]; exact (e7 i hi).2 k hk⟩⟩
      simp (disch := first | omega | (unfold xm_w; omega)) only [↓zy_at, xm_O_some, xm_Oi_some, xm_Ov_some, xm_Oq_some, ↓reduceIte, ↓zz_t, ↓zz_f, ↓zi_t, ↓zi_f, eq_self, yy_d_0, Int.reduceEq, Int.reduceLT, Int.reduceLE, Int.reduceNe, Int.reduceToNat, Int.reduceAdd, Int.reduceSub, Int.reduceMul, Int.reduceNeg, Nat.reduceAdd, Nat.reduceMul, Nat.reduceSub, Nat.reduceEqDiff, Nat.reduceLT, ne_eq, not_false_eq_true, not_true_eq_false, true_and, and_true, and_self, yy_s_eq, yy_s_ne, yy_c_eq, yy_c_ne, yy_u_eq, yy_u_ne, xm_w_id, yy_at, tdiv_pos, tmod_pos]
      by_cases e : k = x1.toNat
      · subst e; rw [yy_u_eq, show 8 + x1.toNat = (8 + x1).toNat by omega, yy_u_eq]
      · rw [yy_u_ne e, o _ (by omega)]; exact e5 k hk
    obtain ⟨m1, c1, g1, g2, g3⟩ := c_409_1g (sc := sc) (d := 96) (t := t) (m := yy_s m 2 x1.toNat x2) M B (by rw [o _ (by omega)]; exact h3.2)
    have X1 : xm_X (xm_old sc) xm_mt (99 + 1) 102 [.inr (.inl (some 0)), .inl x1, .inl x2] (yy_W m t) = some (some (.inl (m 2 x1.toNat)), yy_W m1 t) := by
      refine xm_X_of (M := xm_m102) rfl ⟨xm_EQ.eq (xb_102_0 ?_), rfl, rfl, Nat.le_of_ble_eq_true rfl, yy_hd rfl (by decide)⟩
      simp (disch := first | omega | (unfold xm_w; omega)) only [↓zy_at, xm_O_some, xm_Oi_some, xm_Ov_some, xm_Oq_some, ↓reduceIte, ↓zz_t, ↓zz_f, ↓zi_t, ↓zi_f, eq_self, yy_d_0, Int.reduceEq, Int.reduceLT, Int.reduceLE, Int.reduceNe, Int.reduceToNat, Int.reduceAdd, Int.reduceSub, Int.reduceMul, Int.reduceNeg, Nat.reduceAdd, Nat.reduceMul, Nat.reduceSub, Nat.reduceEqDiff, Nat.reduceLT, ne_eq, not_false_eq_true, not_true_eq_false, true_and, and_true, and_self, yy_s_eq, yy_s_ne, yy_c_eq, yy_c_ne, yy_u_eq, yy_u_ne, xm_w_id, yy_at, tdiv_pos, tmod_pos, ↓oc_142, ↓oc_143, ↓zr_0_0, ↓zr_0_1, ↓zr_0_2, ↓zr_0_3, ↓zr_0_4, ↓zf_0_5, ↓zs_0_5, ↓zr_0_6, ↓zr_0_7, ↓zr_0_8, ↓zr_0_9, ↓zr_0_10, ↓zr_1_0, ↓zf_1_1, ↓zs_1_1, ↓zf_1_2, ↓zs_1_2, ↓zr_1_3, ↓zf_1_4, ↓zs_1_4, ↓zr_1_5, ↓zf_1_6, ↓zs_1_6, ↓zr_1_7, ↓zr_1_8, ↓zr_1_9, ↓zi_2, ↓zt_2]
      rw [c1]
      simp (disch := first | omega | (unfold xm_w; omega)) only [↓zy_at, xm_O_some, xm_Oi_some, xm_Ov_some, xm_Oq_some, ↓reduceIte, ↓zz_t, ↓zz_f, ↓zi_t, ↓zi_f, eq_self, yy_d_0, Int.reduceEq, Int.reduceLT, Int.reduceLE, Int.reduceNe, Int.reduceToNat, Int.reduceAdd, Int.reduceSub, Int.reduceMul, Int.reduceNeg, Nat.reduceAdd, Nat.reduceMul, Nat.reduceSub, Nat.reduceEqDiff, Nat.reduceLT, ne_eq, not_false_eq_true, not_true_eq_false, true_and, and_true, and_self, yy_s_eq, yy_s_ne, yy_c_eq, yy_c_ne, yy_u_eq, yy_u_ne, xm_w_id, yy_at, tdiv_pos, tmod_pos]
    have f75 : m1 75 = m 75 := by rw [g1 75 (by omega), yy_s_ne (by decide)]
    have X2 : xm_X (xm_old sc) xm_mt (99 + 1) 1140 [.inr (.inl (some 74)), .inl x1, .inl x2] (yy_W m1 t) = some (some (.inl (m 75 (8 + x1).toNat)), yy_W (yy_c m1 75 (sg_clr (sg_K (yy_u (m 75) (8 + x1).toNat x2) 0 (-1)) (yy_u (m 75) (8 + x1).toNat x2))) t) := by
      refine xm_X_of (M := xm_m1140) rfl ⟨xm_EQ.eq (xb_1140_0 ?_), rfl, rfl, Nat.le_of_ble_eq_true rfl, yy_hd rfl (by decide)⟩
      simp (disch := first | omega | (unfold xm_w; omega)) only [↓zy_at, xm_O_some, xm_Oi_some, xm_Ov_some, xm_Oq_some, ↓reduceIte, ↓zz_t, ↓zz_f, ↓zi_t, ↓zi_f, eq_self, yy_d_0, Int.reduceEq, Int.reduceLT, Int.reduceLE, Int.reduceNe, Int.reduceToNat, Int.reduceAdd, Int.reduceSub, Int.reduceMul, Int.reduceNeg, Nat.reduceAdd, Nat.reduceMul, Nat.reduceSub, Nat.reduceEqDiff, Nat.reduceLT, ne_eq, not_false_eq_true, not_true_eq_false, true_and, and_true, and_self, yy_s_eq, yy_s_ne, yy_c_eq, yy_c_ne, yy_u_eq, yy_u_ne, xm_w_id, yy_at, tdiv_pos, tmod_pos, ↓oc_1103, ↓oc_1108, ↓zr_74_0, ↓zr_74_1, ↓zr_74_2, ↓zf_74_3, ↓zs_74_3, ↓zf_74_4, ↓zs_74_4, ↓zr_74_5, ↓zf_74_6, ↓zs_74_6, ↓zf_74_7, ↓zs_74_7, ↓zf_74_8, ↓zs_74_8, ↓zf_74_9, ↓zs_74_9, ↓zr_74_10, ↓zr_74_11, ↓zr_74_12, ↓zf_74_13, ↓zs_74_13, ↓zr_74_14, ↓zf_74_15, ↓zs_74_15, ↓zf_74_16, ↓zs_74_16, ↓zf_74_17, ↓zs_74_17, ↓zr_74_18, ↓zr_74_19, ↓zr_74_20, ↓zr_74_21, ↓zi_75, ↓zt_75, ↓oc_1113, f75]
      have e : yy_s m1 75 (8 + x1).toNat x2 = yy_c m1 75 (yy_u (m 75) (8 + x1).toNat x2) := by unfold yy_s; rw [f75]
      rw [e, oc_1132 (d := 94) (by rw [yy_c_eq]; exact B), yy_c_eq, yy_c_c]
    refine yy_Ao X1 X2 (yy_I_mo hI (by rw [yy_c_eq]; exact W) ?_ ?_ (fun k hk => ?_) (fun c hc a b d => ?_)) ?_ ?_
    · rw [yy_c_eq, co 1 (by decide) (Or.inl (by decide)) (by omega)]; exact h1
    · rw [yy_c_eq]
      refine yy_MX_fr (sg_W_T hW) hX ?_ (yy_MR_fr (fun c hc => by rw [yy_c_ne (by omega)]) g2) (fun k a b => co k (by omega) (Or.inr a) (by omega))
      rw [yy_c_ne (by decide), g1 5 (by omega), yy_s_ne (by decide)]
    · rw [yy_c_eq]; exact co k (by omega) (by omega) (by omega)
    · rw [yy_c_ne d, g1 c (by omega), yy_s_ne (by omega)]
    · rw [yy_c_ne (by decide), g1 0 (by omega), yy_s_ne (by decide)]
    · have := e5 x1.toNat (by omega)
      rw [show (8 + x1).toNat = 8 + x1.toNat by omega]; exact this
  · exact r_102 hI h
end
section
set_option maxRecDepth 20000 in
theorem a_103 {sc : List Int} {t : xm_W} {m : Nat → Nat → Int} {x1 : Int} (hI : yy_I t m) : yy_A sc t m 103 1141 [.inl x1] true := by
  by_cases h : 0 ≤ x1 ∧ x1 ≤ 9
  · obtain ⟨⟨hW, h1, hD⟩, hX, hR, -⟩ := id hI
    obtain ⟨⟨e1, e2, e3, e4, e5, e6, e7⟩, t0, t1⟩ := id hX
    have h3 := hW.1.2.2.2.1
    have o : ∀ k, k ≠ 2 → yy_u (m 75) 2 x1 k = m 75 k := fun k hk => yy_u_ne hk
    have R : sg_R (yy_u (m 75) 2 x1) := by
      obtain ⟨a0, a1, a2, a3, a4, a5⟩ := hW.1
      refine ⟨by rw [o _ (by omega)]; exact a0, by rw [o _ (by omega)]; exact a1, by rw [yy_u_eq]; exact h, by rw [o _ (by omega)]; exact a3, fun k hk => by rw [o _ (by omega)]; exact a4 k hk, fun i hi => ?_⟩
      obtain ⟨b0, b1, b2, b3, b4, b5, b6⟩ := a5 i hi
      rw [o _ (by omega), o _ (by omega), o _ (by omega), o _ (by omega), o _ (by omega), o _ (by omega)]
      exact ⟨b0, b1, b2, b3, b4, b5, fun k hk => by rw [o _ (by omega)]; exact b6 k hk⟩
    have ep : ∀ i w : Nat, sg_p (yy_u (m 75) 2 x1) i w = sg_p (m 75) i w := fun i w => o _ (by omega)
    have O : sg_O (yy_u (m 75) 2 x1) 0 := by
      refine ⟨fun i hi => ?_, fun i j hij hj => ?_⟩
      · rw [o _ (by omega)] at hi
        have := hW.2.1.1 i hi
        unfold sg_E at this ⊢
        rw [ep, ep, ep, ep, ep, o _ (by omega)]; exact this
      · rw [o _ (by omega)] at hj
        have := hW.2.1.2 i j hij hj
        unfold sg_lt at this ⊢
        rw [ep, ep, ep, ep]; exact this
    have B : sg_B (yy_u (m 75) 2 x1) := ⟨R.2.2.1, by rw [o _ (by omega)]; omega, fun i hi => ⟨(O.1 i hi).1.1, (O.1 i hi).1.2.2.2.1⟩⟩
    have H3 : 0 ≤ yy_u (m 75) 2 x1 3 ∧ yy_u (m 75) 2 x1 3 ≤ 41 := by rw [o _ (by omega)]; omega
    have co : ∀ k, k ≠ 3 → (k < 134 ∨ 339 ≤ k) → k ≠ 2 → sg_clr (sg_K (yy_u (m 75) 2 x1) 0 (-1)) (yy_u (m 75) 2 x1) k = m 75 k := fun k a b c => by rw [sg_clr_o H3 a b, o k c]
    have W : sg_W (sg_clr (sg_K (yy_u (m 75) 2 x1) 0 (-1)) (yy_u (m 75) 2 x1)) 0 := by
      obtain ⟨g, c1, c2, c3⟩ := sg_clr_p (K := sg_K (yy_u (m 75) 2 x1) 0 (-1)) H3
      refine ⟨sg_R_eq (fun k a b => sg_clr_o H3 b (Or.inl a)) (by rw [o 3 (by omega)] at c1; omega) R, sg_clr_O H3 O, sg_clr_S H3 O (fun i hi hK => ?_), sg_T_eq (by decide) (fun k a b => co k (by omega) (Or.inr a) (by omega)) hW.2.2.2.1, sg_T_eq (by decide) (fun k a b => co k (by omega) (Or.inr a) (by omega)) hW.2.2.2.2⟩
      unfold sg_K at hK
      rw [decide_eq_true_iff] at hK
      exact hK.2.2
    have M : yy_MR (yy_s m 1 1 x1) 1 (yy_u (m 75) 2 x1) := by
      refine ⟨by rw [yy_u_eq]; simp (disch := first | omega | (unfold xm_w; omega)) only [↓zy_at, xm_O_some, xm_Oi_some, xm_Ov_some, xm_Oq_some, ↓reduceIte, ↓zz_t, ↓zz_f, ↓zi_t, ↓zi_f, eq_self, yy_d_0, Int.reduceEq, Int.reduceLT, Int.reduceLE, Int.reduceNe, Int.reduceToNat, Int.reduceAdd, Int.reduceSub, Int.reduceMul, Int.reduceNeg, Nat.reduceAdd, Nat.reduceMul, Nat.reduceSub, Nat.reduceEqDiff, Nat.reduceLT, ne_eq, not_false_eq_true, not_true_eq_false, true_and, and_true, and_self, yy_s_eq, yy_s_ne, yy_c_eq, yy_c_ne, yy_u_eq, yy_u_ne, xm_w_id, yy_at, tdiv_pos, tmod_pos], by rw [o _ (by omega)]; simp (disch := first | omega | (unfold xm_w; omega)) only [↓zy_at, xm_O_some, xm_Oi_some, xm_Ov_some, xm_Oq_some, ↓reduceIte, ↓zz_t, ↓zz_f, ↓zi_t, ↓zi_f, eq_self, yy_d_0, Int.reduceEq, Int.reduceLT, Int.reduceLE, Int.reduceNe, Int.reduceToNat, Int.reduceAdd, Int.reduceSub, Int.reduceMul, Int.reduceNeg, Nat.reduceAdd, Nat.reduceMul, Nat.reduceSub, Nat.reduceEqDiff, Nat.reduceLT, ne_eq, not_false_eq_true, not_true_eq_false, true_and, and_true, and_self, yy_s_eq, yy_s_ne, yy_c_eq, yy_c_ne, yy_u_eq, yy_u_ne, xm_w_id, yy_at, tdiv_pos, tmod_pos]; exact e2, by rw [o _ (by omega)]; simp (disch := first | omega | (unfold xm_w; omega)) only [↓zy_at, xm_O_some, xm_Oi_some, xm_Ov_some, xm_Oq_some, ↓reduceIte, ↓zz_t, ↓zz_f, ↓zi_t, ↓zi_f, eq_self, yy_d_0, Int.reduceEq, Int.reduceLT, Int.reduceLE, Int.reduceNe, Int.reduceToNat, Int.reduceAdd, Int.reduceSub, Int.reduceMul, Int.reduceNeg, Nat.reduceAdd, Nat.reduceMul, Nat.reduceSub, Nat.reduceEqDiff, Nat.reduceLT, ne_eq, not_false_eq_true, not_true_eq_false, true_and, and_true, and_self, yy_s_eq, yy_s_ne, yy_c_eq, yy_c_ne, yy_u_eq, yy_u_ne, xm_w_id, yy_at, tdiv_pos, tmod_pos]; exact e3, by rw [o _ (by omega)]; simp (disch := first | omega | (unfold xm_w; omega)) only [↓zy_at, xm_O_some, xm_Oi_some, xm_Ov_some, xm_Oq_some, ↓reduceIte, ↓zz_t, ↓zz_f, ↓zi_t, ↓zi_f, eq_self, yy_d_0, Int.reduceEq, Int.reduceLT, Int.reduceLE, Int.reduceNe, Int.reduceToNat, Int.reduceAdd, Int.reduceSub, Int.reduceMul, Int.reduceNeg, Nat.reduceAdd, Nat.reduceMul, Nat.reduceSub, Nat.reduceEqDiff, Nat.reduceLT, ne_eq, not_false_eq_true, not_true_eq_false, true_and, and_true, and_self, yy_s_eq, yy_s_ne, yy_c_eq, yy_c_ne, yy_u_eq, yy_u_ne, xm_w_id, yy_at, tdiv_pos, tmod_pos]; exact e4, fun k hk => by rw [o _ (by omega)]; simp (disch := first | omega | (unfold xm_w; omega)) only [↓zy_at, xm_O_some, xm_Oi_some, xm_Ov_some, xm_Oq_some, ↓reduceIte, ↓zz_t, ↓zz_f, ↓zi_t, ↓zi_f, eq_self, yy_d_0, Int.reduceEq, Int.reduceLT, Int.reduceLE, Int.reduceNe, Int.reduceToNat, Int.reduceAdd, Int.reduceSub, Int.reduceMul, Int.reduceNeg, Nat.reduceAdd, Nat.reduceMul, Nat.reduceSub, Nat.reduceEqDiff, Nat.reduceLT, ne_eq, not_false_eq_true, not_true_eq_false, true_and, and_true, and_self, yy_s_eq, yy_s_ne, yy_c_eq, yy_c_ne, yy_u_eq, yy_u_ne, xm_w_id, yy_at, tdiv_pos, tmod_pos]; exact e5 k hk, fun k hk => by rw [o _ (by omega)]; simp (disch := first | omega | (unfold xm_w; omega)) only [↓zy_at, xm_O_some, xm_Oi_some, xm_Ov_some, xm_Oq_some, ↓reduceIte, ↓zz_t, ↓zz_f, ↓zi_t, ↓zi_f, eq_self, yy_d_0, Int.reduceEq, Int.reduceLT, Int.reduceLE, Int.reduceNe, Int.reduceToNat, Int.reduceAdd, Int.reduceSub, Int.reduceMul, Int.reduceNeg, Nat.reduceAdd, Nat.reduceMul, Nat.reduceSub, Nat.reduceEqDiff, Nat.reduceLT, ne_eq, not_false_eq_true, not_true_eq_false, true_and, and_true, and_self, yy_s_eq, yy_s_ne, yy_c_eq, yy_c_ne, yy_u_eq, yy_u_ne, xm_w_id, yy_at, tdiv_pos, tmod_pos]; exact e6 k hk, fun i hi => ⟨fun k hk => by rw [o _ (by omega)]; simp (disch := first | omega | (unfold xm_w; omega)) only [↓zy_at, xm_O_some, xm_Oi_some, xm_Ov_some, xm_Oq_some, ↓reduceIte, ↓zz_t, ↓zz_f, ↓zi_t, ↓zi_f, eq_self, yy_d_0, Int.reduceEq, Int.reduceLT, Int.reduceLE, Int.reduceNe, Int.reduceToNat, Int.reduceAdd, Int.reduceSub, Int.reduceMul, Int.reduceNeg, Nat.reduceAdd, Nat.reduceMul, Nat.reduceSub, Nat.reduceEqDiff, Nat.reduceLT, ne_eq, not_false_eq_true, not_true_eq_false, true_and, and_true, and_self, yy_s_eq, yy_s_ne, yy_c_eq, yy_c_ne, yy_u_eq, yy_u_ne, xm_w_id, yy_at, tdiv_pos, tmod_pos]; exact (e7 i hi).1 k hk, fun k hk => by rw [o _ (by omega)]; simp (disch := first | omega | (unfold xm_w; omega)) only [↓zy_at, xm_O_some, xm_Oi_some, xm_Ov_some, xm_Oq_some, ↓reduceIte, ↓zz_t, ↓zz_f, ↓zi_t, ↓zi_f, eq_self, yy_d_0, Int.reduceEq, Int.reduceLT, Int.reduceLE, Int.reduceNe, Int.reduceToNat, Int.reduceAdd, Int.reduceSub, Int.reduceMul, Int.reduceNeg, Nat.reduceAdd, Nat.reduceMul, Nat.reduceSub, Nat.reduceEqDiff, Nat.reduceLT, ne_eq, not_false_eq_true, not_true_eq_false, true_and, and_true, and_self, yy_s_eq, yy_s_ne, yy_c_eq, yy_c_ne, yy_u_eq, yy_u_ne, xm_w_id, yy_at, tdiv_pos, tmod_pos]; exact (e7 i hi).2 k hk⟩⟩
    obtain ⟨m1, c1, g1, g2, g3⟩ := c_409_1g (sc := sc) (d := 96) (t := t) (m := yy_s m 1 1 x1) M B (by rw [o _ (by omega)]; exact h3.2)
    have X1 : xm_X (xm_old sc) xm_mt (99 + 1) 103 [.inr (.inl (some 0)), .inl x1] (yy_W m t) = some (some (.inl (m 1 1)), yy_W m1 t) := by
      refine xm_X_of (M := xm_m103) rfl ⟨xm_EQ.eq (xb_103_0 ?_), rfl, rfl, Nat.le_of_ble_eq_true rfl, yy_hd rfl (by decide)⟩
      simp (disch := first | omega | (unfold xm_w; omega)) only [↓zy_at, xm_O_some, xm_Oi_some, xm_Ov_some, xm_Oq_some, ↓reduceIte, ↓zz_t, ↓zz_f, ↓zi_t, ↓zi_f, eq_self, yy_d_0, Int.reduceEq, Int.reduceLT, Int.reduceLE, Int.reduceNe, Int.reduceToNat, Int.reduceAdd, Int.reduceSub, Int.reduceMul, Int.reduceNeg, Nat.reduceAdd, Nat.reduceMul, Nat.reduceSub, Nat.reduceEqDiff, Nat.reduceLT, ne_eq, not_false_eq_true, not_true_eq_false, true_and, and_true, and_self, yy_s_eq, yy_s_ne, yy_c_eq, yy_c_ne, yy_u_eq, yy_u_ne, xm_w_id, yy_at, tdiv_pos, tmod_pos, ↓oc_142, ↓oc_143, ↓zr_0_0, ↓zr_0_1, ↓zr_0_2, ↓zr_0_3, ↓zr_0_4, ↓zf_0_5, ↓zs_0_5, ↓zr_0_6, ↓zr_0_7, ↓zr_0_8, ↓zr_0_9, ↓zr_0_10, ↓zr_1_0, ↓zf_1_1, ↓zs_1_1, ↓zf_1_2, ↓zs_1_2, ↓zr_1_3, ↓zf_1_4, ↓zs_1_4, ↓zr_1_5, ↓zf_1_6, ↓zs_1_6, ↓zr_1_7, ↓zr_1_8, ↓zr_1_9, ↓zi_2, ↓zt_2]
      rw [c1]
      simp (disch := first | omega | (unfold xm_w; omega)) only [↓zy_at, xm_O_some, xm_Oi_some, xm_Ov_some, xm_Oq_some, ↓reduceIte, ↓zz_t, ↓zz_f, ↓zi_t, ↓zi_f, eq_self, yy_d_0, Int.reduceEq, Int.reduceLT, Int.reduceLE, Int.reduceNe, Int.reduceToNat, Int.reduceAdd, Int.reduceSub, Int.reduceMul, Int.reduceNeg, Nat.reduceAdd, Nat.reduceMul, Nat.reduceSub, Nat.reduceEqDiff, Nat.reduceLT, ne_eq, not_false_eq_true, not_true_eq_false, true_and, and_true, and_self, yy_s_eq, yy_s_ne, yy_c_eq, yy_c_ne, yy_u_eq, yy_u_ne, xm_w_id, yy_at, tdiv_pos, tmod_pos]
    have f75 : m1 75 = m 75 := by rw [g1 75 (by omega), yy_s_ne (by decide)]
    have X2 : xm_X (xm_old sc) xm_mt (99 + 1) 1141 [.inr (.inl (some 74)), .inl x1] (yy_W m1 t) = some (some (.inl (m 75 2)), yy_W (yy_c m1 75 (sg_clr (sg_K (yy_u (m 75) 2 x1) 0 (-1)) (yy_u (m 75) 2 x1))) t) := by
      refine xm_X_of (M := xm_m1141) rfl ⟨xm_EQ.eq (xb_1141_0 ?_), rfl, rfl, Nat.le_of_ble_eq_true rfl, yy_hd rfl (by decide)⟩
      simp (disch := first | omega | (unfold xm_w; omega)) only [↓zy_at, xm_O_some, xm_Oi_some, xm_Ov_some, xm_Oq_some, ↓reduceIte, ↓zz_t, ↓zz_f, ↓zi_t, ↓zi_f, eq_self, yy_d_0, Int.reduceEq, Int.reduceLT, Int.reduceLE, Int.reduceNe, Int.reduceToNat, Int.reduceAdd, Int.reduceSub, Int.reduceMul, Int.reduceNeg, Nat.reduceAdd, Nat.reduceMul, Nat.reduceSub, Nat.reduceEqDiff, Nat.reduceLT, ne_eq, not_false_eq_true, not_true_eq_false, true_and, and_true, and_self, yy_s_eq, yy_s_ne, yy_c_eq, yy_c_ne, yy_u_eq, yy_u_ne, xm_w_id, yy_at, tdiv_pos, tmod_pos, ↓oc_1103, ↓oc_1108, ↓zr_74_0, ↓zr_74_1, ↓zr_74_2, ↓zf_74_3, ↓zs_74_3, ↓zf_74_4, ↓zs_74_4, ↓zr_74_5, ↓zf_74_6, ↓zs_74_6, ↓zf_74_7, ↓zs_74_7, ↓zf_74_8, ↓zs_74_8, ↓zf_74_9, ↓zs_74_9, ↓zr_74_10, ↓zr_74_11, ↓zr_74_12, ↓zf_74_13, ↓zs_74_13, ↓zr_74_14, ↓zf_74_15, ↓zs_74_15, ↓zf_74_16, ↓zs_74_16, ↓zf_74_17, ↓zs_74_17, ↓zr_74_18, ↓zr_74_19, ↓zr_74_20, ↓zr_74_21, ↓zi_75, ↓zt_75, ↓oc_1113, f75]
      have e : yy_s m1 75 2 x1 = yy_c m1 75 (yy_u (m 75) 2 x1) := by unfold yy_s; rw [f75]
      rw [e, oc_1132 (d := 94) (by rw [yy_c_eq]; exact B), yy_c_eq, yy_c_c]
    refine yy_Ao X1 X2 (yy_I_mo hI (by rw [yy_c_eq]; exact W) ?_ ?_ (fun k hk => ?_) (fun c hc a b d => ?_)) ?_ e1
    · rw [yy_c_eq, co 1 (by decide) (Or.inl (by decide)) (by omega)]; exact h1
    · rw [yy_c_eq]
      refine yy_MX_fr (sg_W_T hW) hX ?_ (yy_MR_fr (fun c hc => by rw [yy_c_ne (by omega)]) g2) (fun k a b => co k (by omega) (Or.inr a) (by omega))
      rw [yy_c_ne (by decide), g1 5 (by omega), yy_s_ne (by decide)]
    · rw [yy_c_eq]; exact co k (by omega) (by omega) (by omega)
    · rw [yy_c_ne d, g1 c (by omega), yy_s_ne (by omega)]
    · rw [yy_c_ne (by decide), g1 0 (by omega), yy_s_ne (by decide)]
  · exact r_103 hI h
/-! names, pile, stack: cells that the relation doesn't speak of -/
set_option maxRecDepth 20000 in
theorem yy_I_rd {t : xm_W} {m m1 m2 : Nat → Nat → Int} (hI : yy_I t m) (h1 : ∀ c, ¬ yy_no c → m1 c = m c) (h2 : ∀ c, ¬ yy_no c → m2 c = m1 c) : yy_I t m2 := yy_I_n (fun c hc => by rw [h2 c hc, h1 c hc]) hI
set_option maxRecDepth 20000 in
theorem a_105 {sc : List Int} {t : xm_W} {m : Nat → Nat → Int} {x1 x2 : Int} (hI : yy_I t m) : yy_A sc t m 105 1145 [.inl x1, .inl x2] true := by
  by_cases h : (0 ≤ x1 ∧ x1 ≤ m 1 4 - 1) ∧ (0 ≤ x2 ∧ x2 ≤ 19)
  · obtain ⟨⟨e0, e3, e1, e2⟩, hR⟩ := yy_I_0 hI
    have b0 := hR.1
    obtain ⟨r, rfl⟩ : ∃ r : Nat, x1 = r := ⟨x1.toNat, by omega⟩
    have X1 : xm_X (xm_old sc) xm_mt (99 + 1) 105 [.inr (.inl (some 0)), .inl (r : Int), .inl x2] (yy_W m t) = some (some (.inl (sg_rf (m 75) r x2)), yy_W m t) := by
      refine xm_X_of (M := xm_m105) rfl ⟨xm_EQ.eq (xb_105_0 ?_), rfl, rfl, Nat.le_of_ble_eq_true rfl, yy_hd rfl (by decide)⟩
      rw [oc_141 (d := 97) (by omega) (by omega), zz_t h.1, oc_144 (d := 97), zz_t h.2, zr_0_0, oc_412_1 (d := 96) (by omega) hI.2.1.1 hR h.2]
    have X2 : xm_X (xm_old sc) xm_mt (99 + 1) 1145 [.inr (.inl (some 74)), .inl (r : Int), .inl x2] (yy_W m t) = some (some (.inl (sg_rf (m 75) r x2)), yy_W m t) := by
      refine xm_X_of (M := xm_m1145) rfl ⟨xm_EQ.eq (xb_1145_0 ?_), rfl, rfl, Nat.le_of_ble_eq_true rfl, yy_hd rfl (by decide)⟩
      rw [oc_1109 (d := 97) (by omega) (by omega), zz_t (by omega), oc_1103 (d := 98), zz_t h.2, oc_1144 (d := 96) (by omega) rfl hR h.2]
    exact yy_Ao X1 X2 hI rfl rfl
  · exact r_105 hI h
set_option maxRecDepth 20000 in
theorem a_116 {sc : List Int} {t : xm_W} {m : Nat → Nat → Int} {x1 x2 : Int} (hI : yy_I t m) : yy_A sc t m 116 1162 [.inl x1, .inl x2] true := by
  by_cases h : (0 ≤ x1 ∧ x1 ≤ m 1 6 - 1) ∧ (0 ≤ x2 ∧ x2 ≤ 4)
  · obtain ⟨⟨e0, e3, e1, e2⟩, hR⟩ := yy_I_0 hI
    have b3 := hR.2.2.2.1
    have f := hI.2.1.1.2.2.2.2.2.1 (x1 * 5 + x2).toNat (by omega)
    have f : m 4 (x1 * 5 + x2).toNat = m 75 (134 + 5 * x1 + x2).toNat := by rw [show (134 + 5 * x1 + x2).toNat = 134 + (x1 * 5 + x2).toNat by omega]; exact f
    have X1 : xm_X (xm_old sc) xm_mt (99 + 1) 116 [.inr (.inl (some 0)), .inl x1, .inl x2] (yy_W m t) = some (some (.inl (m 75 (134 + 5 * x1 + x2).toNat)), yy_W m t) := by
      refine xm_X_of (M := xm_m116) rfl ⟨xm_EQ.eq (xb_116_0 ?_), rfl, rfl, Nat.le_of_ble_eq_true rfl, yy_hd rfl (by decide)⟩
      simp (disch := first | omega | (unfold xm_w; omega)) only [↓zy_at, xm_O_some, xm_Oi_some, xm_Ov_some, xm_Oq_some, ↓reduceIte, ↓zz_t, ↓zz_f, ↓zi_t, ↓zi_f, eq_self, yy_d_0, Int.reduceEq, Int.reduceLT, Int.reduceLE, Int.reduceNe, Int.reduceToNat, Int.reduceAdd, Int.reduceSub, Int.reduceMul, Int.reduceNeg, Nat.reduceAdd, Nat.reduceMul, Nat.reduceSub, Nat.reduceEqDiff, Nat.reduceLT, ne_eq, not_false_eq_true, not_true_eq_false, true_and, and_true, and_self, yy_s_eq, yy_s_ne, yy_c_eq, yy_c_ne, yy_u_eq, yy_u_ne, xm_w_id, yy_at, tdiv_pos, tmod_pos, ↓oc_142, ↓zr_0_0, ↓zr_0_1, ↓zr_0_2, ↓zr_0_3, ↓zr_0_4, ↓zf_0_5, ↓zs_0_5, ↓zr_0_6, ↓zr_0_7, ↓zr_0_8, ↓zr_0_9, ↓zr_0_10, ↓zr_1_0, ↓zf_1_1, ↓zs_1_1, ↓zf_1_2, ↓zs_1_2, ↓zr_1_3, ↓zf_1_4, ↓zs_1_4, ↓zr_1_5, ↓zf_1_6, ↓zs_1_6, ↓zr_1_7, ↓zr_1_8, ↓zr_1_9, ↓zi_4, ↓zt_4, f]
    have X2 : xm_X (xm_old sc) xm_mt (99 + 1) 1162 [.inr (.inl (some 74)), .inl x1, .inl x2] (yy_W m t) = some (some (.inl (m 75 (134 + 5 * x1 + x2).toNat)), yy_W m t) := by
      refine xm_X_of (M := xm_m1162) rfl ⟨xm_EQ.eq (xb_1162_0 ?_), rfl, rfl, Nat.le_of_ble_eq_true rfl, yy_hd rfl (by decide)⟩
      rw [e3] at h
      simp (disch := first | omega | (unfold xm_w; omega)) only [↓zy_at, xm_O_some, xm_Oi_some, xm_Ov_some, xm_Oq_some, ↓reduceIte, ↓zz_t, ↓zz_f, ↓zi_t, ↓zi_f, eq_self, yy_d_0, Int.reduceEq, Int.reduceLT, Int.reduceLE, Int.reduceNe, Int.reduceToNat, Int.reduceAdd, Int.reduceSub, Int.reduceMul, Int.reduceNeg, Nat.reduceAdd, Nat.reduceMul, Nat.reduceSub, Nat.reduceEqDiff, Nat.reduceLT, ne_eq, not_false_eq_true, not_true_eq_false, true_and, and_true, and_self, yy_s_eq, yy_s_ne, yy_c_eq, yy_c_ne, yy_u_eq, yy_u_ne, xm_w_id, yy_at, tdiv_pos, tmod_pos, ↓oc_1103, ↓zr_74_0, ↓zr_74_1, ↓zr_74_2, ↓zf_74_3, ↓zs_74_3, ↓zf_74_4, ↓zs_74_4, ↓zr_74_5, ↓zf_74_6, ↓zs_74_6, ↓zf_74_7, ↓zs_74_7, ↓zf_74_8, ↓zs_74_8, ↓zf_74_9, ↓zs_74_9, ↓zr_74_10, ↓zr_74_11, ↓zr_74_12, ↓zf_74_13, ↓zs_74_13, ↓zr_74_14, ↓zf_74_15, ↓zs_74_15, ↓zf_74_16, ↓zs_74_16, ↓zf_74_17, ↓zs_74_17, ↓zr_74_18, ↓zr_74_19, ↓zr_74_20, ↓zr_74_21, ↓zi_75, ↓zt_75, ↓oc_1112]
    exact yy_Ao X1 X2 hI rfl rfl
  · exact r_116 hI h
set_option maxRecDepth 20000 in
theorem a_117 {sc : List Int} {t : xm_W} {m : Nat → Nat → Int} {x1 x2 : Int} (hI : yy_I t m) : yy_A sc t m 117 1168 [.inl x1, .inl x2] true := by
  by_cases h : (0 ≤ x1 ∧ x1 ≤ 35) ∧ (0 ≤ x2 ∧ x2 ≤ 4)
  · obtain ⟨m1, c1, g1⟩ := c_413_1g (sc := sc) (d := 94) (t := t) (m := m) (y := x2) hI.2.1 hI.1.1 h.1
    have f75 : m1 75 = m 75 := g1 75 (by decide) (by decide)
    obtain ⟨m2, c2, g2⟩ := c_1167 (sc := sc) (d := 94) (t := t) (m := m1) (y := x2) f75 hI.1.1 h.1
    have X1 : xm_X (xm_old sc) xm_mt (99 + 1) 117 [.inr (.inl (some 0)), .inl x1, .inl x2] (yy_W m t) = some (some (.inl (sg_cf (m 75) x1 x2)), yy_W m1 t) := by
      refine xm_X_of (M := xm_m117) rfl ⟨xm_EQ.eq (xb_117_0 ?_), rfl, rfl, Nat.le_of_ble_eq_true rfl, yy_hd rfl (by decide)⟩
      rw [oc_143 (d := 97), zz_t h.1, oc_145 (d := 97), zz_t h.2, zr_0_0, c1, xm_Oi_some]
    have X2 : xm_X (xm_old sc) xm_mt (99 + 1) 1168 [.inr (.inl (some 74)), .inl x1, .inl x2] (yy_W m1 t) = some (some (.inl (sg_cf (m 75) x1 x2)), yy_W m2 t) := by
      refine xm_X_of (M := xm_m1168) rfl ⟨xm_EQ.eq (xb_1168_0 ?_), rfl, rfl, Nat.le_of_ble_eq_true rfl, yy_hd rfl (by decide)⟩
      rw [oc_1108 (d := 97), zz_t h.1, oc_1103 (d := 98), zz_t h.2, c2, xm_Oi_some]
    exact yy_Ao X1 X2 (yy_I_rd hI (fun c hc => g1 c (by unfold yy_no at hc; omega) (by unfold yy_no at hc; omega)) (fun c hc => g2 c (by unfold yy_no at hc; omega) (by unfold yy_no at hc; omega))) (by rw [g2 0 (by decide) (by decide), g1 0 (by decide) (by decide)]) rfl
  · exact r_117 hI h
set_option maxRecDepth 20000 in
theorem a_118 {sc : List Int} {t : xm_W} {m : Nat → Nat → Int} {x1 x2 x3 x4 : Int} (hI : yy_I t m) : yy_A sc t m 118 1170 [.inl x1, .inl x2, .inl x3, .inl x4] true := by
  by_cases h : (0 ≤ x1 ∧ x1 ≤ 35) ∧ (0 ≤ x2 ∧ x2 ≤ 1) ∧ (0 ≤ x3 ∧ x3 ≤ 40) ∧ (0 ≤ x4 ∧ x4 ≤ 1)
  · have X1 : xm_X (xm_old sc) xm_mt (99 + 1) 118 [.inr (.inl (some 0)), .inl x1, .inl x2, .inl x3, .inl x4] (yy_W m t) = some (some (.inl (if x4 = 0 then (sg_tr (m 75) x2 x3.toNat x1 0).1 else (sg_tr (m 75) x2 x3.toNat x1 0).2)), yy_W m t) := by
      refine xm_X_of (M := xm_m118) rfl ⟨xm_EQ.eq (xb_118_0 ?_), rfl, rfl, Nat.le_of_ble_eq_true rfl, yy_hd rfl (by decide)⟩
      rw [oc_143 (d := 97), zz_t h.1, oc_142 (d := 98), zz_t h.2.1, oc_142 (d := 98), zz_t h.2.2.1, oc_142 (d := 98), zz_t h.2.2.2, zr_0_0, oc_418_1g (d := 96) hI.2.1.1 hI.1.1 h.1 h.2.2.1]
    obtain ⟨m2, c2, g1, g2, g3⟩ := c_1169 (sc := sc) (d := 95) (t := t) (m := m) (bl := x2) (b2 := if x2 = 0 then 1 else 0) rfl rfl hI.1.1 h.1 h.2.2.1
    have X2 : xm_X (xm_old sc) xm_mt (99 + 1) 1170 [.inr (.inl (some 74)), .inl x1, .inl x2, .inl x3, .inl x4] (yy_W m t) = some (some (.inl (if x4 = 0 then (sg_tr (m 75) x2 x3.toNat x1 0).1 else (sg_tr (m 75) x2 x3.toNat x1 0).2)), yy_W m2 t) := by
      refine xm_X_of (M := xm_m1170) rfl ⟨xm_EQ.eq (xb_1170_0 ?_), rfl, rfl, Nat.le_of_ble_eq_true rfl, yy_hd rfl (by decide)⟩
      rw [oc_1108 (d := 97), zz_t h.1, oc_1103 (d := 98), zz_t h.2.1, oc_1103 (d := 98), zz_t h.2.2.1, oc_1103 (d := 98), zz_t h.2.2.2]
      by_cases e : x2 = 0
      · rw [if_pos e] at c2
        rw [if_pos e, c2, xm_Oi_some]
        by_cases e4 : x4 = 0
        · rw [if_pos e4, if_pos e4]
        · rw [if_neg e4, if_neg e4, zf_74_13, g3]
      · rw [if_neg e] at c2
        rw [if_neg e, c2, xm_Oi_some]
        by_cases e4 : x4 = 0
        · rw [if_pos e4, if_pos e4]
        · rw [if_neg e4, if_neg e4, zf_74_13, g3]
    refine yy_Ao X1 X2 (yy_I_no (fun c hc h1 h2 h3 => g1 c h3) ?_ ?_ ?_ ?_ hI) (g1 0 (by decide)) rfl
    · rw [g1 61 (by decide)]; exact hI.2.2.2.2.2.2.1
    · exact g2 3 (by decide)
    · exact g2 4 (by decide)
    · rw [g2 15 (by decide)]; exact hI.2.2.2.2.2.2.2
  · exact r_118 hI h
set_option maxRecDepth 20000 in
theorem a_121 {sc : List Int} {t : xm_W} {m : Nat → Nat → Int} {x1 x2 x3 : Int} (hI : yy_I t m) : yy_A sc t m 121 1174 [.inl x1, .inl x2, .inl x3] true := by
  by_cases h : (0 ≤ x1 ∧ x1 ≤ 99) ∧ (0 ≤ x2 ∧ x2 ≤ 59) ∧ (0 ≤ x3 ∧ x3 ≤ 1)
  · obtain ⟨m1, c1, g1⟩ := c_121 (sc := sc) (d := 96) (t := t) (m := m) h.1 h.2.1 h.2.2
    obtain ⟨m2, c2, g2⟩ := c_1174 (sc := sc) (d := 96) (t := t) (m := m1) h.1 h.2.1 h.2.2
    exact yy_Ao c1 c2 (yy_I_rd hI (fun c hc => g1 c (by unfold yy_no at hc; omega)) (fun c hc => g2 c (by unfold yy_no at hc; omega))) (by rw [g2 0 (by decide), g1 0 (by decide)]) rfl
  · exact r_121 hI h
set_option maxRecDepth 20000 in
theorem a_127 {sc : List Int} {t : xm_W} {m : Nat → Nat → Int} {x1 : Int} (hI : yy_I t m) : yy_A sc t m 127 1195 [.inl x1] false := by
  have hs := hI.2.2.2.2.2
  have X1 : ∃ z m1, xm_X (xm_old sc) xm_mt (99 + 1) 127 [.inr (.inl (some 0)), .inl x1] (yy_W m t) = some (some (.inl z), yy_W m1 t) ∧ ∀ c, c ≠ 65 → m1 c = m c := by
    by_cases h : 0 ≤ x1 ∧ x1 ≤ m 61 1 - 1
    · refine ⟨m 62 x1.toNat, m, ?_, fun _ _ => rfl⟩
      have hs1 := hs.2.1
      refine xm_X_of (M := xm_m127) rfl ⟨xm_EQ.eq (xb_127_0 ?_), rfl, rfl, Nat.le_of_ble_eq_true rfl, yy_hd rfl (by decide)⟩
      simp (disch := first | omega | (unfold xm_w; omega)) only [↓zy_at, xm_O_some, xm_Oi_some, xm_Ov_some, xm_Oq_some, ↓reduceIte, ↓zz_t, ↓zz_f, ↓zi_t, ↓zi_f, eq_self, yy_d_0, Int.reduceEq, Int.reduceLT, Int.reduceLE, Int.reduceNe, Int.reduceToNat, Int.reduceAdd, Int.reduceSub, Int.reduceMul, Int.reduceNeg, Nat.reduceAdd, Nat.reduceMul, Nat.reduceSub, Nat.reduceEqDiff, Nat.reduceLT, ne_eq, not_false_eq_true, not_true_eq_false, true_and, and_true, and_self, yy_s_eq, yy_s_ne, yy_c_eq, yy_c_ne, yy_u_eq, yy_u_ne, xm_w_id, yy_at, tdiv_pos, tmod_pos, ↓oc_142, ↓zr_0_0, ↓zr_0_1, ↓zr_0_2, ↓zr_0_3, ↓zr_0_4, ↓zf_0_5, ↓zs_0_5, ↓zr_0_6, ↓zr_0_7, ↓zr_0_8, ↓zr_0_9, ↓zr_0_10, ↓zr_61_0, ↓zf_61_1, ↓zs_61_1, ↓zf_61_2, ↓zs_61_2, ↓zf_61_3, ↓zs_61_3, ↓zf_61_4, ↓zs_61_4, ↓zi_62, ↓zt_62]
    · exact ⟨_, _, f_127 (d := 96) hs.2.1.1 hs.2.1.2 h, fun c hc => yy_s_ne hc⟩
  obtain ⟨z, m1, c1, g1⟩ := X1
  have e74 : m1 74 = m 74 := g1 74 (by decide)
  have X2 : ∃ z m2, xm_X (xm_old sc) xm_mt (99 + 1) 1195 [.inr (.inl (some 74)), .inl x1] (yy_W m1 t) = some (some (.inl z), yy_W m2 t) ∧ ∀ c, c ≠ 78 → m2 c = m1 c := by
    by_cases h : 0 ≤ x1 ∧ x1 ≤ m1 74 15 - 1
    · refine ⟨m1 82 x1.toNat, m1, ?_, fun _ _ => rfl⟩
      have := hs.2.2
      rw [← e74] at this
      refine xm_X_of (M := xm_m1195) rfl ⟨xm_EQ.eq (xb_1195_0 ?_), rfl, rfl, Nat.le_of_ble_eq_true rfl, yy_hd rfl (by decide)⟩
      simp (disch := first | omega | (unfold xm_w; omega)) only [↓zy_at, xm_O_some, xm_Oi_some, xm_Ov_some, xm_Oq_some, ↓reduceIte, ↓zz_t, ↓zz_f, ↓zi_t, ↓zi_f, eq_self, yy_d_0, Int.reduceEq, Int.reduceLT, Int.reduceLE, Int.reduceNe, Int.reduceToNat, Int.reduceAdd, Int.reduceSub, Int.reduceMul, Int.reduceNeg, Nat.reduceAdd, Nat.reduceMul, Nat.reduceSub, Nat.reduceEqDiff, Nat.reduceLT, ne_eq, not_false_eq_true, not_true_eq_false, true_and, and_true, and_self, yy_s_eq, yy_s_ne, yy_c_eq, yy_c_ne, yy_u_eq, yy_u_ne, xm_w_id, yy_at, tdiv_pos, tmod_pos, ↓oc_1103, ↓zr_74_0, ↓zr_74_1, ↓zr_74_2, ↓zf_74_3, ↓zs_74_3, ↓zf_74_4, ↓zs_74_4, ↓zr_74_5, ↓zf_74_6, ↓zs_74_6, ↓zf_74_7, ↓zs_74_7, ↓zf_74_8, ↓zs_74_8, ↓zf_74_9, ↓zs_74_9, ↓zr_74_10, ↓zr_74_11, ↓zr_74_12, ↓zf_74_13, ↓zs_74_13, ↓zr_74_14, ↓zf_74_15, ↓zs_74_15, ↓zf_74_16, ↓zs_74_16, ↓zf_74_17, ↓zs_74_17, ↓zr_74_18, ↓zr_74_19, ↓zr_74_20, ↓zr_74_21, ↓zi_82, ↓zt_82]
    · exact ⟨_, _, f_1195 (d := 96) (by rw [e74]; exact hs.2.2.1) (by rw [e74]; exact hs.2.2.2) h, fun c hc => yy_s_ne hc⟩
  obtain ⟨z', m2, c2, g2⟩ := X2
  exact ⟨z, m1, t, z', m2, c1, c2, yy_I_rd hI (fun c hc => g1 c (by unfold yy_no at hc; omega)) (fun c hc => g2 c (by unfold yy_no at hc; omega)), by omega, by omega, by rw [g2 0 (by decide), g1 0 (by decide)]; omega, fun h => by cases h⟩
end
section
set_option maxRecDepth 20000 in
theorem yy_CP_MX {t : xm_W} {m m1 : Nat → Nat → Int} {a b : Nat} {s : Nat → Int} (hC : yy_CP m m1 a b) (hM : yy_MX t m a s) : yy_MX t m1 b s := by
  obtain ⟨g1, g2, g3, g4, g5, g6, g7, g8, g9⟩ := hC
  obtain ⟨⟨e1, e2, e3, e4, e5, e6, e7⟩, t0, t1⟩ := hM
  refine ⟨⟨by rw [g1]; exact e1, by rw [g2]; exact e2, by rw [g3]; exact e3, by rw [g4]; exact e4, fun k hk => by rw [g5 k hk]; exact e5 k hk, fun k hk => by rw [g6 k hk]; exact e6 k hk, fun i hi => ⟨fun k hk => by rw [(g9 i hi).1 k hk]; exact (e7 i hi).1 k hk, fun k hk => by rw [(g9 i hi).2 k hk]; exact (e7 i hi).2 k hk⟩⟩, by rw [g7]; exact t0, by rw [g8]; exact t1⟩
set_option maxRecDepth 20000 in
theorem yy_back {f g s : Nat → Int} (h1 : ∀ k, k < 339 → f k = s k) (h2 : ∀ k, 339 ≤ k → g k = s k) : yy_cp f g 0 0 339 = s := by
  funext k
  by_cases e : k < 339
  · rw [yy_cp0 e]; exact h1 k e
  · unfold yy_cp; rw [if_neg (by omega)]; exact h2 k (by omega)
/-! the class looks ahead -/
set_option maxRecDepth 20000 in
theorem c_140g {sc : List Int} {d : Nat} {t : xm_W} {m : Nat → Nat → Int} {n : Int} {s : Nat → Int} (h0 : 0 ≤ n ∧ n ≤ 24) (hM : yy_MX t m 1 s) (hW : sg_W s 0) (h1 : s 1 + n ≤ 20000) : ∃ m', xm_X (xm_old sc) xm_mt (d + 8) 140 [.inr (.inl (some 0)), .inl (n)] (yy_W m t) = some (none, yy_W m' t) ∧ (∀ c, c < 18 ∨ 35 ≤ c → m' c = m c) ∧ yy_MX t m' 18 (sg_go (-1) n.toNat s) := by
  have key : ∀ {Q : Option xm_V × xm_W → Prop}, (∀ m', ((∀ c, c < 18 ∨ 35 ≤ c → m' c = m c) ∧ yy_MX t m' 18 (sg_go (-1) n.toNat s)) → Q (none, yy_W m' t)) → xm_EQ (xm_old sc) xm_sta (xm_X (xm_old sc) xm_mt (d + 7)) xm_m140.2.2.2.2.2.2.2 0 (xm_loc xm_m140.2.2.1 [.inr (.inl (some 0)), .inl (n)]) [] (yy_W m t) Q := by
    intro Q hQ
    refine xb_140_0 ?_
    simp (disch := first | omega | (unfold xm_w; omega)) only [↓zy_at, xm_O_some, xm_Oi_some, xm_Ov_some, xm_Oq_some, ↓reduceIte, ↓zz_t, ↓zz_f, ↓zi_t, ↓zi_f, eq_self, yy_d_0, Int.reduceEq, Int.reduceLT, Int.reduceLE, Int.reduceNe, Int.reduceToNat, Int.reduceAdd, Int.reduceSub, Int.reduceMul, Int.reduceNeg, Nat.reduceAdd, Nat.reduceMul, Nat.reduceSub, Nat.reduceEqDiff, Nat.reduceLT, ne_eq, not_false_eq_true, not_true_eq_false, true_and, and_true, and_self, yy_s_eq, yy_s_ne, yy_c_eq, yy_c_ne, yy_u_eq, yy_u_ne, xm_w_id, yy_at, tdiv_pos, tmod_pos, ↓zr_0_0, ↓zr_0_1, ↓zr_0_2, ↓zr_0_3, ↓zr_0_4, ↓zf_0_5, ↓zs_0_5, ↓zr_0_6, ↓zr_0_7, ↓zr_0_8, ↓zr_0_9, ↓zr_0_10]
    obtain ⟨m1, e, f1, g⟩ := c_402_1_18 (sc := sc) (d := d + 5) (t := t) (m := m) (yy_TX_tx hM.2.1) (yy_TX_tx hM.2.2)
    rw [e]
    simp (disch := first | omega | (unfold xm_w; omega)) only [↓zy_at, xm_O_some, xm_Oi_some, xm_Ov_some, xm_Oq_some, ↓reduceIte, ↓zz_t, ↓zz_f, ↓zi_t, ↓zi_f, eq_self, yy_d_0, Int.reduceEq, Int.reduceLT, Int.reduceLE, Int.reduceNe, Int.reduceToNat, Int.reduceAdd, Int.reduceSub, Int.reduceMul, Int.reduceNeg, Nat.reduceAdd, Nat.reduceMul, Nat.reduceSub, Nat.reduceEqDiff, Nat.reduceLT, ne_eq, not_false_eq_true, not_true_eq_false, true_and, and_true, and_self, yy_s_eq, yy_s_ne, yy_c_eq, yy_c_ne, yy_u_eq, yy_u_ne, xm_w_id, yy_at, tdiv_pos, tmod_pos, ↓zr_0_0, ↓zr_0_1, ↓zr_0_2, ↓zr_0_3, ↓zr_0_4, ↓zf_0_5, ↓zs_0_5, ↓zr_0_6, ↓zr_0_7, ↓zr_0_8, ↓zr_0_9, ↓zr_0_10]
    obtain ⟨m2, e2, f2, g2⟩ := c_404_18g (sc := sc) (d := d) (t := t) (m := m1) h0 (yy_CP_MX g hM) hW h1
    rw [e2, xm_Ov_some]
    exact hQ m2 ⟨fun c hc => by rw [f2 c (by omega), f1 c hc], g2⟩
  obtain ⟨q, h1, m', h2, h3⟩ := yx_of (y := 140) (M := xm_m140) (sc := sc) (d := d + 7) (as := [.inr (.inl (some 0)), .inl (n)]) (w := yy_W m t) (Q := fun q => ∃ m', q = (none, yy_W m' t) ∧ ((∀ c, c < 18 ∨ 35 ≤ c → m' c = m c) ∧ yy_MX t m' 18 (sg_go (-1) n.toNat s))) rfl (key fun m' h => ⟨m', rfl, h⟩) (fun q ⟨m', h, _⟩ => by rw [h]; rfl) rfl (Nat.le_of_ble_eq_true rfl) (yy_hd rfl (by decide))
  exact ⟨m', by rw [h1, h2], h3⟩
/-! the reference looks ahead: the row is laid down, hours go by -/
set_option maxRecDepth 20000 in
theorem c_look {sc : List Int} {d : Nat} {t : xm_W} {m : Nat → Nat → Int} {n : Int} (h0 : 0 ≤ n ∧ n ≤ 24) (hW : sg_W (m 75) 0) (h1 : m 75 1 + n ≤ 20000) : ∃ m2, xm_X (xm_old sc) xm_mt (d + 2) 1106 [.inr (.inl (some 74))] (yy_W (m) t) = some (none, (yy_W (yy_c m 77 (yy_cp (m 75) (m 77) 0 0 339)) t)) ∧ xm_X (xm_old sc) xm_mt (d + 9) 1157 [.inr (.inl (some 74)), .inl (n)] (yy_W (yy_c m 77 (yy_cp (m 75) (m 77) 0 0 339)) t) = some (none, (yy_W (m2) t)) ∧ m2 75 = sg_go (m 74 3) n.toNat (m 75) ∧ (∀ c, c ≠ 75 → c ≠ 77 → c ≠ 80 → c ≠ 81 → m2 c = m c) ∧ ∀ k, k < 339 → m2 77 k = m 75 k := by
  obtain ⟨m2, e, f, g⟩ := c_1157 (sc := sc) (d := d) (t := t) (m := yy_c m 77 (yy_cp (m 75) (m 77) 0 0 339)) h0 (by rw [yy_c_ne (by decide)]; exact hW) (by rw [yy_c_ne (by decide)]; exact h1)
  rw [yy_c_ne (by decide), yy_c_ne (by decide)] at g
  exact ⟨m2, c_1106, e, g, fun c c1 c2 c3 c4 => by rw [f c c1 c3 c4, yy_c_ne c2], fun k hk => by rw [f 77 (by decide) (by decide) (by decide), yy_c_eq, yy_cp0 hk]⟩
/-! and is laid back -/
set_option maxRecDepth 20000 in
theorem c_lay {m m3 : Nat → Nat → Int} {n : Nat} {st : Int} (hW : sg_W (m 75) 0) (h1 : m 75 1 + n ≤ 20000) (h75 : m3 75 = sg_go st n (m 75)) (h77 : ∀ k, k < 339 → m3 77 k = m 75 k) : yy_c m3 75 (yy_cp (m3 77) (m3 75) 0 0 339) = yy_c m3 75 (m 75) := by
  rw [yy_back h77 (fun k hk => by rw [h75]; exact (sg_go_W n (m 75) hW h1).2.2 k (Or.inr hk) (by omega) (by omega))]
set_option maxRecDepth 20000 in
theorem a_119 {sc : List Int} {t : xm_W} {m : Nat → Nat → Int} {x1 x2 x3 : Int} (hI : yy_I t m) : yy_A sc t m 119 1172 [.inl x1, .inl x2, .inl x3] true := by
  by_cases h : (0 ≤ x1 ∧ x1 ≤ 24) ∧ (0 ≤ x2 ∧ x2 ≤ m 1 4 - 1) ∧ (0 ≤ x3 ∧ x3 ≤ 19)
  · obtain ⟨⟨e0, e3, e1, e2⟩, hR⟩ := yy_I_0 hI
    have hG := hI.1
    have b0 := hR.1
    obtain ⟨r, rfl⟩ : ∃ r : Nat, x2 = r := ⟨x2.toNat, by omega⟩
    obtain ⟨w1, w2, w3⟩ := sg_go_W (st := -1) x1.toNat (m 75) hG.1 (by have := hG.2.1; omega)
    obtain ⟨m1, c1, g1, g2⟩ := c_140g (sc := sc) (d := 91) (t := t) (m := m) h.1 hI.2.1 hG.1 (by have := hG.2.1; omega)
    have X1 : xm_X (xm_old sc) xm_mt (99 + 1) 119 [.inr (.inl (some 0)), .inl x1, .inl (r : Int), .inl x3] (yy_W m t) = some (some (.inl (sg_rf (sg_go (-1) x1.toNat (m 75)) r x3)), yy_W m1 t) := by
      refine xm_X_of (M := xm_m119) rfl ⟨xm_EQ.eq (xb_119_0 ?_), rfl, rfl, Nat.le_of_ble_eq_true rfl, yy_hd rfl (by decide)⟩
      rw [oc_142 (d := 98), zz_t h.1, oc_141 (d := 97) (by omega) (by omega), zz_t h.2.1, oc_144 (d := 97), zz_t h.2.2, c1, xm_Ov_some, zr_0_1, oc_412_18 (d := 96) (by omega) g2.1 w1.1 h.2.2]
    have f75 : m1 75 = m 75 := g1 75 (by omega)
    have f74 : m1 74 = m 74 := g1 74 (by omega)
    obtain ⟨m2, k1, k2, k3, k4, k5⟩ := c_look (sc := sc) (d := 90) (t := t) (m := m1) (n := x1) h.1 (by rw [f75]; exact hG.1) (by rw [f75]; have := hG.2.1; omega)
    rw [f74, hI.2.2.2.2.2.1, f75] at k3
    have L := c_lay (m := m) (m3 := m2) (n := x1.toNat) (st := -1) hG.1 (by have := hG.2.1; omega) k3 (fun k hk => by rw [k5 k hk, f75])
    have X2 : xm_X (xm_old sc) xm_mt (99 + 1) 1172 [.inr (.inl (some 74)), .inl x1, .inl (r : Int), .inl x3] (yy_W m1 t) = some (some (.inl (sg_rf (sg_go (-1) x1.toNat (m 75)) r x3)), yy_W (yy_c m2 75 (m 75)) t) := by
      refine xm_X_of (M := xm_m1172) rfl ⟨xm_EQ.eq (xb_1172_0 ?_), rfl, rfl, Nat.le_of_ble_eq_true rfl, yy_hd rfl (by decide)⟩
      rw [oc_1171 (d := 97), zz_t h.1, oc_1109 (d := 97) (by rw [f75]; omega) (by rw [f75]; omega), zz_t (by rw [f75]; omega), oc_1103 (d := 98), zz_t h.2.2, oc_1106 (d := 97)]
      rw [show xm_X (xm_old sc) xm_mt 99 1157 [.inr (.inl (some 74)), .inl x1] (yy_W (yy_c m1 77 (yy_cp (m1 75) (m1 77) 0 0 339)) t) = _ from k2, xm_Ov_some, oc_1144 (d := 96) (by omega) k3 w1.1 h.2.2, oc_1107 (d := 97), L]
    refine yy_Ao X1 X2 (yy_I_n (fun c hc => ?_) hI) ?_ rfl
    · by_cases e : c = 75
      · subst e; rw [yy_c_eq]
      · unfold yy_no at hc
        rw [yy_c_ne e, k4 c e (by omega) (by omega) (by omega), g1 c (by omega)]
    · rw [yy_c_ne (by decide), k4 0 (by decide) (by decide) (by decide) (by decide), g1 0 (by omega)]
  · exact r_119 hI h
set_option maxRecDepth 20000 in
theorem a_120 {sc : List Int} {t : xm_W} {m : Nat → Nat → Int} {x1 x2 x3 : Int} (hI : yy_I t m) : yy_A sc t m 120 1173 [.inl x1, .inl x2, .inl x3] true := by
  by_cases h : (0 ≤ x1 ∧ x1 ≤ 24) ∧ (0 ≤ x2 ∧ x2 ≤ 35) ∧ (0 ≤ x3 ∧ x3 ≤ 4)
  · have hG := hI.1
    obtain ⟨w1, w2, w3⟩ := sg_go_W (st := -1) x1.toNat (m 75) hG.1 (by have := hG.2.1; omega)
    obtain ⟨m1, c1, g1, g2⟩ := c_140g (sc := sc) (d := 91) (t := t) (m := m) h.1 hI.2.1 hG.1 (by have := hG.2.1; omega)
    obtain ⟨m1', c1', g1'⟩ := c_413_18g (sc := sc) (d := 94) (t := t) (m := m1) (y := x3) g2 w1 h.2.1
    have X1 : xm_X (xm_old sc) xm_mt (99 + 1) 120 [.inr (.inl (some 0)), .inl x1, .inl x2, .inl x3] (yy_W m t) = some (some (.inl (sg_cf (sg_go (-1) x1.toNat (m 75)) x2 x3)), yy_W m1' t) := by
      refine xm_X_of (M := xm_m120) rfl ⟨xm_EQ.eq (xb_120_0 ?_), rfl, rfl, Nat.le_of_ble_eq_true rfl, yy_hd rfl (by decide)⟩
      rw [oc_142 (d := 98), zz_t h.1, oc_143 (d := 97), zz_t h.2.1, oc_145 (d := 97), zz_t h.2.2, c1, xm_Ov_some, zr_0_1, c1', xm_Oi_some]
    have f75 : m1' 75 = m 75 := by rw [g1' 75 (by decide) (by decide), g1 75 (by omega)]
    have f74 : m1' 74 = m 74 := by rw [g1' 74 (by decide) (by decide), g1 74 (by omega)]
    obtain ⟨m2, k1, k2, k3, k4, k5⟩ := c_look (sc := sc) (d := 90) (t := t) (m := m1') (n := x1) h.1 (by rw [f75]; exact hG.1) (by rw [f75]; have := hG.2.1; omega)
    rw [f74, hI.2.2.2.2.2.1, f75] at k3
    obtain ⟨m3, j1, j2⟩ := c_1167 (sc := sc) (d := 94) (t := t) (m := m2) (y := x3) k3 w1 h.2.1
    have L := c_lay (m := m) (m3 := m3) (n := x1.toNat) (st := -1) hG.1 (by have := hG.2.1; omega) (by rw [j2 75 (by decide) (by decide)]; exact k3) (fun k hk => by rw [j2 77 (by decide) (by decide), k5 k hk, f75])
    have X2 : xm_X (xm_old sc) xm_mt (99 + 1) 1173 [.inr (.inl (some 74)), .inl x1, .inl x2, .inl x3] (yy_W m1' t) = some (some (.inl (sg_cf (sg_go (-1) x1.toNat (m 75)) x2 x3)), yy_W (yy_c m3 75 (m 75)) t) := by
      refine xm_X_of (M := xm_m1173) rfl ⟨xm_EQ.eq (xb_1173_0 ?_), rfl, rfl, Nat.le_of_ble_eq_true rfl, yy_hd rfl (by decide)⟩
      rw [oc_1171 (d := 97), zz_t h.1, oc_1108 (d := 97), zz_t h.2.1, oc_1103 (d := 98), zz_t h.2.2, oc_1106 (d := 97)]
      rw [show xm_X (xm_old sc) xm_mt 99 1157 [.inr (.inl (some 74)), .inl x1] (yy_W (yy_c m1' 77 (yy_cp (m1' 75) (m1' 77) 0 0 339)) t) = _ from k2, xm_Ov_some, j1, xm_Oi_some, oc_1107 (d := 97), L]
    refine yy_Ao X1 X2 (yy_I_n (fun c hc => ?_) hI) ?_ rfl
    · by_cases e : c = 75
      · subst e; rw [yy_c_eq]
      · unfold yy_no at hc
        rw [yy_c_ne e, j2 c (by omega) (by omega), k4 c e (by omega) (by omega) (by omega), g1' c (by omega) (by omega), g1 c (by omega)]
    · rw [yy_c_ne (by decide), j2 0 (by decide) (by decide), k4 0 (by decide) (by decide) (by decide) (by decide), g1' 0 (by decide) (by decide), g1 0 (by omega)]
  · exact r_120 hI h
set_option maxRecDepth 20000 in
theorem a_113 {sc : List Int} {t : xm_W} {m : Nat → Nat → Int} {x1 : Int} (hI : yy_I t m) : yy_A sc t m 113 1158 [.inl x1] true := by
  by_cases h : 1 ≤ x1 ∧ x1 ≤ 24
  · obtain ⟨⟨e0, e3, e1, e2⟩, hR⟩ := yy_I_0 hI
    have hG := hI.1
    have b1 := hR.2.1
    by_cases h2 : 9999 < m 75 1 + x1
    · have X1 : xm_X (xm_old sc) xm_mt (99 + 1) 113 [.inr (.inl (some 0)), .inl x1] (yy_W m t) = some (some (.inl (-1000000003)), yy_W (yy_e m 3) t) := by
        refine xm_X_of (M := xm_m113) rfl ⟨xm_EQ.eq (xb_113_0 ?_), rfl, rfl, Nat.le_of_ble_eq_true rfl, yy_hd rfl (by decide)⟩
        simp (disch := first | omega | (unfold xm_w; omega)) only [↓zy_at, xm_O_some, xm_Oi_some, xm_Ov_some, xm_Oq_some, ↓reduceIte, ↓zz_t, ↓zz_f, ↓zi_t, ↓zi_f, eq_self, yy_d_0, Int.reduceEq, Int.reduceLT, Int.reduceLE, Int.reduceNe, Int.reduceToNat, Int.reduceAdd, Int.reduceSub, Int.reduceMul, Int.reduceNeg, Nat.reduceAdd, Nat.reduceMul, Nat.reduceSub, Nat.reduceEqDiff, Nat.reduceLT, ne_eq, not_false_eq_true, not_true_eq_false, true_and, and_true, and_self, yy_s_eq, yy_s_ne, yy_c_eq, yy_c_ne, yy_u_eq, yy_u_ne, xm_w_id, yy_at, tdiv_pos, tmod_pos, ↓oc_142, ↓zr_0_0, ↓zr_0_1, ↓zr_0_2, ↓zr_0_3, ↓zr_0_4, ↓zf_0_5, ↓zs_0_5, ↓zr_0_6, ↓zr_0_7, ↓zr_0_8, ↓zr_0_9, ↓zr_0_10, ↓zr_1_0, ↓zf_1_1, ↓zs_1_1, ↓zf_1_2, ↓zs_1_2, ↓zr_1_3, ↓zf_1_4, ↓zs_1_4, ↓zr_1_5, ↓zf_1_6, ↓zs_1_6, ↓zr_1_7, ↓zr_1_8, ↓zr_1_9, e1, ↓oc_139]
      have X2 : xm_X (xm_old sc) xm_mt (99 + 1) 1158 [.inr (.inl (some 74)), .inl x1] (yy_W (yy_e m 3) t) = some (some (.inl (-1000000003)), yy_W (yy_f (yy_e m 3) 3) t) := by
        have f : yy_e m 3 75 = m 75 := yy_e75 (by decide)
        refine xm_X_of (M := xm_m1158) rfl ⟨xm_EQ.eq (xb_1158_0 ?_), rfl, rfl, Nat.le_of_ble_eq_true rfl, yy_hd rfl (by decide)⟩
        simp (disch := first | omega | (unfold xm_w; omega)) only [↓zy_at, xm_O_some, xm_Oi_some, xm_Ov_some, xm_Oq_some, ↓reduceIte, ↓zz_t, ↓zz_f, ↓zi_t, ↓zi_f, eq_self, yy_d_0, Int.reduceEq, Int.reduceLT, Int.reduceLE, Int.reduceNe, Int.reduceToNat, Int.reduceAdd, Int.reduceSub, Int.reduceMul, Int.reduceNeg, Nat.reduceAdd, Nat.reduceMul, Nat.reduceSub, Nat.reduceEqDiff, Nat.reduceLT, ne_eq, not_false_eq_true, not_true_eq_false, true_and, and_true, and_self, yy_s_eq, yy_s_ne, yy_c_eq, yy_c_ne, yy_u_eq, yy_u_ne, xm_w_id, yy_at, tdiv_pos, tmod_pos, ↓oc_1103, ↓zr_74_0, ↓zr_74_1, ↓zr_74_2, ↓zf_74_3, ↓zs_74_3, ↓zf_74_4, ↓zs_74_4, ↓zr_74_5, ↓zf_74_6, ↓zs_74_6, ↓zf_74_7, ↓zs_74_7, ↓zf_74_8, ↓zs_74_8, ↓zf_74_9, ↓zs_74_9, ↓zr_74_10, ↓zr_74_11, ↓zr_74_12, ↓zf_74_13, ↓zs_74_13, ↓zr_74_14, ↓zf_74_15, ↓zs_74_15, ↓zf_74_16, ↓zs_74_16, ↓zf_74_17, ↓zs_74_17, ↓zr_74_18, ↓zr_74_19, ↓zr_74_20, ↓zr_74_21, ↓zi_75, ↓zt_75, f, ↓oc_1102]
      exact yy_Ao X1 X2 (yy_I_ef hI) yy_ef0 rfl
    · obtain ⟨w1, w2, w3⟩ := sg_go_W (st := -1) x1.toNat (m 75) hG.1 (by omega)
      obtain ⟨m1, c1, g1, g2⟩ := c_404_1g (sc := sc) (d := 92) (t := t) (m := m) (n := x1) (by omega) hI.2.1 hG.1 (by omega)
      have X1 : xm_X (xm_old sc) xm_mt (99 + 1) 113 [.inr (.inl (some 0)), .inl x1] (yy_W m t) = some (some (.inl (sg_go (-1) x1.toNat (m 75) 3)), yy_W m1 t) := by
        refine xm_X_of (M := xm_m113) rfl ⟨xm_EQ.eq (xb_113_0 ?_), rfl, rfl, Nat.le_of_ble_eq_true rfl, yy_hd rfl (by decide)⟩
        simp (disch := first | omega | (unfold xm_w; omega)) only [↓zy_at, xm_O_some, xm_Oi_some, xm_Ov_some, xm_Oq_some, ↓reduceIte, ↓zz_t, ↓zz_f, ↓zi_t, ↓zi_f, eq_self, yy_d_0, Int.reduceEq, Int.reduceLT, Int.reduceLE, Int.reduceNe, Int.reduceToNat, Int.reduceAdd, Int.reduceSub, Int.reduceMul, Int.reduceNeg, Nat.reduceAdd, Nat.reduceMul, Nat.reduceSub, Nat.reduceEqDiff, Nat.reduceLT, ne_eq, not_false_eq_true, not_true_eq_false, true_and, and_true, and_self, yy_s_eq, yy_s_ne, yy_c_eq, yy_c_ne, yy_u_eq, yy_u_ne, xm_w_id, yy_at, tdiv_pos, tmod_pos, ↓oc_142, ↓zr_0_0, ↓zr_0_1, ↓zr_0_2, ↓zr_0_3, ↓zr_0_4, ↓zf_0_5, ↓zs_0_5, ↓zr_0_6, ↓zr_0_7, ↓zr_0_8, ↓zr_0_9, ↓zr_0_10, ↓zr_1_0, ↓zf_1_1, ↓zs_1_1, ↓zf_1_2, ↓zs_1_2, ↓zr_1_3, ↓zf_1_4, ↓zs_1_4, ↓zr_1_5, ↓zf_1_6, ↓zs_1_6, ↓zr_1_7, ↓zr_1_8, ↓zr_1_9, e1]
        rw [c1]
        simp (disch := first | omega | (unfold xm_w; omega)) only [↓zy_at, xm_O_some, xm_Oi_some, xm_Ov_some, xm_Oq_some, ↓reduceIte, ↓zz_t, ↓zz_f, ↓zi_t, ↓zi_f, eq_self, yy_d_0, Int.reduceEq, Int.reduceLT, Int.reduceLE, Int.reduceNe, Int.reduceToNat, Int.reduceAdd, Int.reduceSub, Int.reduceMul, Int.reduceNeg, Nat.reduceAdd, Nat.reduceMul, Nat.reduceSub, Nat.reduceEqDiff, Nat.reduceLT, ne_eq, not_false_eq_true, not_true_eq_false, true_and, and_true, and_self, yy_s_eq, yy_s_ne, yy_c_eq, yy_c_ne, yy_u_eq, yy_u_ne, xm_w_id, yy_at, tdiv_pos, tmod_pos, ↓zr_0_0, ↓zr_0_1, ↓zr_0_2, ↓zr_0_3, ↓zr_0_4, ↓zf_0_5, ↓zs_0_5, ↓zr_0_6, ↓zr_0_7, ↓zr_0_8, ↓zr_0_9, ↓zr_0_10, ↓zr_1_0, ↓zf_1_1, ↓zs_1_1, ↓zf_1_2, ↓zs_1_2, ↓zr_1_3, ↓zf_1_4, ↓zs_1_4, ↓zr_1_5, ↓zf_1_6, ↓zs_1_6, ↓zr_1_7, ↓zr_1_8, ↓zr_1_9, g2.1.2.2.2.1]
      have f75 : m1 75 = m 75 := g1 75 (by omega)
      have f74 : m1 74 = m 74 := g1 74 (by omega)
      obtain ⟨m2, c2, k1, k2⟩ := c_1157 (sc := sc) (d := 90) (t := t) (m := m1) (n := x1) (by omega) (by rw [f75]; exact hG.1) (by rw [f75]; omega)
      rw [f74, hI.2.2.2.2.2.1, f75] at k2
      have X2 : xm_X (xm_old sc) xm_mt (99 + 1) 1158 [.inr (.inl (some 74)), .inl x1] (yy_W m1 t) = some (some (.inl (sg_go (-1) x1.toNat (m 75) 3)), yy_W m2 t) := by
        refine xm_X_of (M := xm_m1158) rfl ⟨xm_EQ.eq (xb_1158_0 ?_), rfl, rfl, Nat.le_of_ble_eq_true rfl, yy_hd rfl (by decide)⟩
        simp (disch := first | omega | (unfold xm_w; omega)) only [↓zy_at, xm_O_some, xm_Oi_some, xm_Ov_some, xm_Oq_some, ↓reduceIte, ↓zz_t, ↓zz_f, ↓zi_t, ↓zi_f, eq_self, yy_d_0, Int.reduceEq, Int.reduceLT, Int.reduceLE, Int.reduceNe, Int.reduceToNat, Int.reduceAdd, Int.reduceSub, Int.reduceMul, Int.reduceNeg, Nat.reduceAdd, Nat.reduceMul, Nat.reduceSub, Nat.reduceEqDiff, Nat.reduceLT, ne_eq, not_false_eq_true, not_true_eq_false, true_and, and_true, and_self, yy_s_eq, yy_s_ne, yy_c_eq, yy_c_ne, yy_u_eq, yy_u_ne, xm_w_id, yy_at, tdiv_pos, tmod_pos, ↓oc_1103, ↓zr_74_0, ↓zr_74_1, ↓zr_74_2, ↓zf_74_3, ↓zs_74_3, ↓zf_74_4, ↓zs_74_4, ↓zr_74_5, ↓zf_74_6, ↓zs_74_6, ↓zf_74_7, ↓zs_74_7, ↓zf_74_8, ↓zs_74_8, ↓zf_74_9, ↓zs_74_9, ↓zr_74_10, ↓zr_74_11, ↓zr_74_12, ↓zf_74_13, ↓zs_74_13, ↓zr_74_14, ↓zf_74_15, ↓zs_74_15, ↓zf_74_16, ↓zs_74_16, ↓zf_74_17, ↓zs_74_17, ↓zr_74_18, ↓zr_74_19, ↓zr_74_20, ↓zr_74_21, ↓zi_75, ↓zt_75, f75]
        rw [c2]
        simp (disch := first | omega | (unfold xm_w; omega)) only [↓zy_at, xm_O_some, xm_Oi_some, xm_Ov_some, xm_Oq_some, ↓reduceIte, ↓zz_t, ↓zz_f, ↓zi_t, ↓zi_f, eq_self, yy_d_0, Int.reduceEq, Int.reduceLT, Int.reduceLE, Int.reduceNe, Int.reduceToNat, Int.reduceAdd, Int.reduceSub, Int.reduceMul, Int.reduceNeg, Nat.reduceAdd, Nat.reduceMul, Nat.reduceSub, Nat.reduceEqDiff, Nat.reduceLT, ne_eq, not_false_eq_true, not_true_eq_false, true_and, and_true, and_self, yy_s_eq, yy_s_ne, yy_c_eq, yy_c_ne, yy_u_eq, yy_u_ne, xm_w_id, yy_at, tdiv_pos, tmod_pos, ↓zr_74_0, ↓zr_74_1, ↓zr_74_2, ↓zf_74_3, ↓zs_74_3, ↓zf_74_4, ↓zs_74_4, ↓zr_74_5, ↓zf_74_6, ↓zs_74_6, ↓zf_74_7, ↓zs_74_7, ↓zf_74_8, ↓zs_74_8, ↓zf_74_9, ↓zs_74_9, ↓zr_74_10, ↓zr_74_11, ↓zr_74_12, ↓zf_74_13, ↓zs_74_13, ↓zr_74_14, ↓zf_74_15, ↓zs_74_15, ↓zf_74_16, ↓zs_74_16, ↓zf_74_17, ↓zs_74_17, ↓zr_74_18, ↓zr_74_19, ↓zr_74_20, ↓zr_74_21, ↓zi_75, ↓zt_75, k2]
      refine yy_Ao X1 X2 (yy_I_mo hI (by rw [k2]; exact w1) (by rw [k2, w2]; omega) ?_ (fun k hk => by rw [k2]; exact w3 k (by omega) (by omega) (by omega)) (fun c hc a b e => ?_)) ?_ rfl
      · rw [k2]; exact yy_MX_r (fun c hc => k1 c (by omega) (by omega) (by omega)) g2
      · unfold yy_no at a
        rw [k1 c e (by omega) (by omega), g1 c (by omega)]
      · rw [k1 0 (by decide) (by decide) (by decide), g1 0 (by omega)]
  · exact r_113 hI h
end
section
def sg_KC (s : Nat → Int) (c : Int) (i : Nat) : Bool := decide (sg_p s i 0 ≠ c)
set_option maxRecDepth 20000 in
theorem sg_clr_congr {K K' : Nat → Bool} {s : Nat → Int} (h3 : 0 ≤ s 3) (h : ∀ j : Nat, (j : Int) < s 3 → K j = K' j) : sg_clr K s = sg_clr K' s := by
  unfold sg_clr
  rw [sg_cl_congr (s 3).toNat 0 0 s (fun j _ hj => h j (by omega))]
set_option maxRecDepth 20000 in
theorem sg_KC_K {s : Nat → Int} {c : Int} (hW : sg_W s 0) : sg_clr (sg_KC s c) s = sg_clr (sg_K s 0 c) s := by
  refine sg_clr_congr hW.1.2.2.2.1.1 (fun j hj => ?_)
  have := hW.2.2.1 j hj
  unfold sg_KC sg_K
  by_cases e : sg_p s j 0 ≠ c
  · rw [decide_eq_true e, eq_comm, decide_eq_true_iff]; exact ⟨by omega, e, this⟩
  · rw [decide_eq_false e, eq_comm, decide_eq_false_iff_not]; exact fun h => e h.2.1
set_option maxRecDepth 20000 in
theorem l_410 {sc : List Int} {d : Nat} {t : xm_W} {m0 : Nat → Nat → Int} {s0 : Nat → Int} {c : Int} {Q : Option xm_V × xm_W → Prop} (hM : yy_MR m0 1 s0) (h40 : 0 ≤ s0 3 ∧ s0 3 ≤ 40) (hQ : ∀ m', yy_Fb m0 m' 1 → yy_MR m' 1 (sg_clr (sg_KC s0 c) s0) → (∀ c, c ≠ 1 → c ≠ 4 → m' c = m0 c) → Q ((none, (yy_W (m') t)))) : ∀ (k i l : Nat) (m : Nat → Nat → Int) (s : Nat → Int), ((i + k : Nat) : Int) = s0 3 → l ≤ i → (∀ q, (q < 134 ∨ 134 + 5 * i ≤ q) → s q = s0 q) → (∀ c, c ≠ 4 → m c = m0 c) → (∀ q, q < 200 → m 4 q = s (134 + q)) → sg_cl (sg_KC s0 c) k i l s = sg_cl (sg_KC s0 c) (s0 3).toNat 0 0 s0 → xm_EQ (xm_old sc) xm_sta (xm_X (xm_old sc) xm_mt (d + 2)) xm_c410 4 [some (.inr (.inl (some 1))), some (.inl (c)), some (.inl ((l : Int))), some (.inl ((i : Int)))] [] (yy_W (m) t) Q
  | 0, i, l, m, s, hk, hl, hs, hm, hp, hc => by
    obtain ⟨e1, e2, e3, e4, e5, e6, e7⟩ := id hM
    have a0 : m 1 = m0 1 := hm _ (by decide)
    refine xb_410_4 ?_
    simp (disch := first | omega | (unfold xm_w; omega)) only [↓zy_at, xm_O_some, xm_Oi_some, xm_Ov_some, xm_Oq_some, ↓reduceIte, ↓zz_t, ↓zz_f, ↓zi_t, ↓zi_f, eq_self, yy_d_0, Int.reduceEq, Int.reduceLT, Int.reduceLE, Int.reduceNe, Int.reduceToNat, Int.reduceAdd, Int.reduceSub, Int.reduceMul, Int.reduceNeg, Nat.reduceAdd, Nat.reduceMul, Nat.reduceSub, Nat.reduceEqDiff, Nat.reduceLT, ne_eq, not_false_eq_true, not_true_eq_false, true_and, and_true, and_self, yy_s_eq, yy_s_ne, yy_c_eq, yy_c_ne, yy_u_eq, yy_u_ne, xm_w_id, yy_at, tdiv_pos, tmod_pos, ↓zr_1_0, ↓zf_1_1, ↓zs_1_1, ↓zf_1_2, ↓zs_1_2, ↓zr_1_3, ↓zf_1_4, ↓zs_1_4, ↓zr_1_5, ↓zf_1_6, ↓zs_1_6, ↓zr_1_7, ↓zr_1_8, ↓zr_1_9, a0, e4]
    have hc2 : (s, l) = sg_cl (sg_KC s0 c) (s0 3).toNat 0 0 s0 := hc
    have r1 : (sg_cl (sg_KC s0 c) (s0 3).toNat 0 0 s0).1 = s := by rw [← hc2]
    have r2 : (sg_cl (sg_KC s0 c) (s0 3).toNat 0 0 s0).2 = l := by rw [← hc2]
    have ev : ∀ q, sg_clr (sg_KC s0 c) s0 q = if q = 3 then (l : Int) else s q := fun q => by unfold sg_clr yy_u; rw [r1, r2]
    have ev2 : ∀ q, q < 134 → q ≠ 3 → sg_clr (sg_KC s0 c) s0 q = s0 q := fun q h h' => by rw [ev, if_neg h', hs q (Or.inl h)]
    refine hQ _ (fun c hc => ?_) ⟨?_, ?_, ?_, ?_, fun q hq => ?_, fun q hq => ?_, fun j hj => ⟨fun q hq => ?_, fun q hq => ?_⟩⟩ (fun c c1 c2 => ?_)
    · simp (disch := first | omega | (unfold xm_w; omega)) only [↓zy_at, xm_O_some, xm_Oi_some, xm_Ov_some, xm_Oq_some, ↓reduceIte, ↓zz_t, ↓zz_f, ↓zi_t, ↓zi_f, eq_self, yy_d_0, Int.reduceEq, Int.reduceLT, Int.reduceLE, Int.reduceNe, Int.reduceToNat, Int.reduceAdd, Int.reduceSub, Int.reduceMul, Int.reduceNeg, Nat.reduceAdd, Nat.reduceMul, Nat.reduceSub, Nat.reduceEqDiff, Nat.reduceLT, ne_eq, not_false_eq_true, not_true_eq_false, true_and, and_true, and_self, yy_s_eq, yy_s_ne, yy_c_eq, yy_c_ne, yy_u_eq, yy_u_ne, xm_w_id, yy_at, tdiv_pos, tmod_pos]; exact hm c (by omega)
    · simp (disch := first | omega | (unfold xm_w; omega)) only [↓zy_at, xm_O_some, xm_Oi_some, xm_Ov_some, xm_Oq_some, ↓reduceIte, ↓zz_t, ↓zz_f, ↓zi_t, ↓zi_f, eq_self, yy_d_0, Int.reduceEq, Int.reduceLT, Int.reduceLE, Int.reduceNe, Int.reduceToNat, Int.reduceAdd, Int.reduceSub, Int.reduceMul, Int.reduceNeg, Nat.reduceAdd, Nat.reduceMul, Nat.reduceSub, Nat.reduceEqDiff, Nat.reduceLT, ne_eq, not_false_eq_true, not_true_eq_false, true_and, and_true, and_self, yy_s_eq, yy_s_ne, yy_c_eq, yy_c_ne, yy_u_eq, yy_u_ne, xm_w_id, yy_at, tdiv_pos, tmod_pos, a0, e1]; exact (ev2 2 (by decide) (by decide)).symm
    · simp (disch := first | omega | (unfold xm_w; omega)) only [↓zy_at, xm_O_some, xm_Oi_some, xm_Ov_some, xm_Oq_some, ↓reduceIte, ↓zz_t, ↓zz_f, ↓zi_t, ↓zi_f, eq_self, yy_d_0, Int.reduceEq, Int.reduceLT, Int.reduceLE, Int.reduceNe, Int.reduceToNat, Int.reduceAdd, Int.reduceSub, Int.reduceMul, Int.reduceNeg, Nat.reduceAdd, Nat.reduceMul, Nat.reduceSub, Nat.reduceEqDiff, Nat.reduceLT, ne_eq, not_false_eq_true, not_true_eq_false, true_and, and_true, and_self, yy_s_eq, yy_s_ne, yy_c_eq, yy_c_ne, yy_u_eq, yy_u_ne, xm_w_id, yy_at, tdiv_pos, tmod_pos, a0, e2]; exact (ev2 1 (by decide) (by decide)).symm
    · simp (disch := first | omega | (unfold xm_w; omega)) only [↓zy_at, xm_O_some, xm_Oi_some, xm_Ov_some, xm_Oq_some, ↓reduceIte, ↓zz_t, ↓zz_f, ↓zi_t, ↓zi_f, eq_self, yy_d_0, Int.reduceEq, Int.reduceLT, Int.reduceLE, Int.reduceNe, Int.reduceToNat, Int.reduceAdd, Int.reduceSub, Int.reduceMul, Int.reduceNeg, Nat.reduceAdd, Nat.reduceMul, Nat.reduceSub, Nat.reduceEqDiff, Nat.reduceLT, ne_eq, not_false_eq_true, not_true_eq_false, true_and, and_true, and_self, yy_s_eq, yy_s_ne, yy_c_eq, yy_c_ne, yy_u_eq, yy_u_ne, xm_w_id, yy_at, tdiv_pos, tmod_pos, a0, e3]; exact (ev2 0 (by decide) (by decide)).symm
    · simp (disch := first | omega | (unfold xm_w; omega)) only [↓zy_at, xm_O_some, xm_Oi_some, xm_Ov_some, xm_Oq_some, ↓reduceIte, ↓zz_t, ↓zz_f, ↓zi_t, ↓zi_f, eq_self, yy_d_0, Int.reduceEq, Int.reduceLT, Int.reduceLE, Int.reduceNe, Int.reduceToNat, Int.reduceAdd, Int.reduceSub, Int.reduceMul, Int.reduceNeg, Nat.reduceAdd, Nat.reduceMul, Nat.reduceSub, Nat.reduceEqDiff, Nat.reduceLT, ne_eq, not_false_eq_true, not_true_eq_false, true_and, and_true, and_self, yy_s_eq, yy_s_ne, yy_c_eq, yy_c_ne, yy_u_eq, yy_u_ne, xm_w_id, yy_at, tdiv_pos, tmod_pos]; rw [ev, if_pos rfl]
    · simp (disch := first | omega | (unfold xm_w; omega)) only [↓zy_at, xm_O_some, xm_Oi_some, xm_Ov_some, xm_Oq_some, ↓reduceIte, ↓zz_t, ↓zz_f, ↓zi_t, ↓zi_f, eq_self, yy_d_0, Int.reduceEq, Int.reduceLT, Int.reduceLE, Int.reduceNe, Int.reduceToNat, Int.reduceAdd, Int.reduceSub, Int.reduceMul, Int.reduceNeg, Nat.reduceAdd, Nat.reduceMul, Nat.reduceSub, Nat.reduceEqDiff, Nat.reduceLT, ne_eq, not_false_eq_true, not_true_eq_false, true_and, and_true, and_self, yy_s_eq, yy_s_ne, yy_c_eq, yy_c_ne, yy_u_eq, yy_u_ne, xm_w_id, yy_at, tdiv_pos, tmod_pos]; rw [hm _ (by decide), e5 q hq, ev2 _ (by omega) (by omega)]
    · simp (disch := first | omega | (unfold xm_w; omega)) only [↓zy_at, xm_O_some, xm_Oi_some, xm_Ov_some, xm_Oq_some, ↓reduceIte, ↓zz_t, ↓zz_f, ↓zi_t, ↓zi_f, eq_self, yy_d_0, Int.reduceEq, Int.reduceLT, Int.reduceLE, Int.reduceNe, Int.reduceToNat, Int.reduceAdd, Int.reduceSub, Int.reduceMul, Int.reduceNeg, Nat.reduceAdd, Nat.reduceMul, Nat.reduceSub, Nat.reduceEqDiff, Nat.reduceLT, ne_eq, not_false_eq_true, not_true_eq_false, true_and, and_true, and_self, yy_s_eq, yy_s_ne, yy_c_eq, yy_c_ne, yy_u_eq, yy_u_ne, xm_w_id, yy_at, tdiv_pos, tmod_pos]; rw [hp q hq, ev, if_neg (by omega)]
    · simp (disch := first | omega | (unfold xm_w; omega)) only [↓zy_at, xm_O_some, xm_Oi_some, xm_Ov_some, xm_Oq_some, ↓reduceIte, ↓zz_t, ↓zz_f, ↓zi_t, ↓zi_f, eq_self, yy_d_0, Int.reduceEq, Int.reduceLT, Int.reduceLE, Int.reduceNe, Int.reduceToNat, Int.reduceAdd, Int.reduceSub, Int.reduceMul, Int.reduceNeg, Nat.reduceAdd, Nat.reduceMul, Nat.reduceSub, Nat.reduceEqDiff, Nat.reduceLT, ne_eq, not_false_eq_true, not_true_eq_false, true_and, and_true, and_self, yy_s_eq, yy_s_ne, yy_c_eq, yy_c_ne, yy_u_eq, yy_u_ne, xm_w_id, yy_at, tdiv_pos, tmod_pos]; rw [hm _ (by omega), (e7 j hj).1 q hq, ev2 _ (by omega) (by omega)]
    · simp (disch := first | omega | (unfold xm_w; omega)) only [↓zy_at, xm_O_some, xm_Oi_some, xm_Ov_some, xm_Oq_some, ↓reduceIte, ↓zz_t, ↓zz_f, ↓zi_t, ↓zi_f, eq_self, yy_d_0, Int.reduceEq, Int.reduceLT, Int.reduceLE, Int.reduceNe, Int.reduceToNat, Int.reduceAdd, Int.reduceSub, Int.reduceMul, Int.reduceNeg, Nat.reduceAdd, Nat.reduceMul, Nat.reduceSub, Nat.reduceEqDiff, Nat.reduceLT, ne_eq, not_false_eq_true, not_true_eq_false, true_and, and_true, and_self, yy_s_eq, yy_s_ne, yy_c_eq, yy_c_ne, yy_u_eq, yy_u_ne, xm_w_id, yy_at, tdiv_pos, tmod_pos]; rw [hm _ (by omega), (e7 j hj).2 q hq, ev2 _ (by omega) (by omega)]
    · simp (disch := first | omega | (unfold xm_w; omega)) only [↓zy_at, xm_O_some, xm_Oi_some, xm_Ov_some, xm_Oq_some, ↓reduceIte, ↓zz_t, ↓zz_f, ↓zi_t, ↓zi_f, eq_self, yy_d_0, Int.reduceEq, Int.reduceLT, Int.reduceLE, Int.reduceNe, Int.reduceToNat, Int.reduceAdd, Int.reduceSub, Int.reduceMul, Int.reduceNeg, Nat.reduceAdd, Nat.reduceMul, Nat.reduceSub, Nat.reduceEqDiff, Nat.reduceLT, ne_eq, not_false_eq_true, not_true_eq_false, true_and, and_true, and_self, yy_s_eq, yy_s_ne, yy_c_eq, yy_c_ne, yy_u_eq, yy_u_ne, xm_w_id, yy_at, tdiv_pos, tmod_pos]; exact hm c c2
  | k + 1, i, l, m, s, hk, hl, hs, hm, hp, hc => by
    obtain ⟨e1, e2, e3, e4, e5, e6, e7⟩ := id hM
    have a0 : m 1 = m0 1 := hm _ (by decide)
    have f0 : m 4 (5 * i) = sg_p s0 i 0 := by rw [hp _ (by omega), show 134 + 5 * i = 134 + 5 * i + 0 by omega]; exact hs _ (Or.inr (by omega))
    have i0 : ((i : Int) * 5 + 0).toNat = 5 * i := by omega
    have hKi : sg_KC s0 c i = decide (sg_p s0 i 0 ≠ c) := rfl
    rw [sg_cl_s] at hc
    refine xb_410_4 ?_
    simp (disch := first | omega | (unfold xm_w; omega)) only [↓zy_at, xm_O_some, xm_Oi_some, xm_Ov_some, xm_Oq_some, ↓reduceIte, ↓zz_t, ↓zz_f, ↓zi_t, ↓zi_f, eq_self, yy_d_0, Int.reduceEq, Int.reduceLT, Int.reduceLE, Int.reduceNe, Int.reduceToNat, Int.reduceAdd, Int.reduceSub, Int.reduceMul, Int.reduceNeg, Nat.reduceAdd, Nat.reduceMul, Nat.reduceSub, Nat.reduceEqDiff, Nat.reduceLT, ne_eq, not_false_eq_true, not_true_eq_false, true_and, and_true, and_self, yy_s_eq, yy_s_ne, yy_c_eq, yy_c_ne, yy_u_eq, yy_u_ne, xm_w_id, yy_at, tdiv_pos, tmod_pos, ↓zr_1_0, ↓zf_1_1, ↓zs_1_1, ↓zf_1_2, ↓zs_1_2, ↓zr_1_3, ↓zf_1_4, ↓zs_1_4, ↓zr_1_5, ↓zf_1_6, ↓zs_1_6, ↓zr_1_7, ↓zr_1_8, ↓zr_1_9, ↓zi_4, ↓zt_4, a0, e4, i0, f0]
    by_cases g : sg_p s0 i 0 = c
    · rw [if_neg (by rw [hKi, decide_eq_true_iff]; exact fun h => h g)] at hc
      rw [if_pos g]
      have := l_410 (sc := sc) (d := d) (t := t) (Q := Q) hM h40 hQ k (i + 1) l m s (by omega) (by omega) (fun q hq => hs q (by omega)) hm hp hc
      rw [show ((i + 1 : Nat) : Int) = (i : Int) + 1 by omega] at this
      exact this
    · rw [if_pos (by rw [hKi, decide_eq_true_iff]; exact g)] at hc
      rw [if_neg g, oc_411_1 (by omega) (by omega)]
      have := l_410 (sc := sc) (d := d) (t := t) (Q := Q) hM h40 hQ k (i + 1) (l + 1) (yy_c m 4 (yy_cp (m 4) (m 4) (5 * i) (5 * l) 5)) (sg_c5 s i l) (by omega) (by omega) (fun q hq => by rw [sg_c5_out (by omega)]; exact hs q (by omega)) (fun c hc => by rw [yy_c_ne hc]; exact hm c hc) (fun q hq => ?_) hc
      · rw [show ((i + 1 : Nat) : Int) = (i : Int) + 1 by omega, show ((l + 1 : Nat) : Int) = (l : Int) + 1 by omega] at this
        exact this
      · rw [yy_c_eq]
        unfold yy_cp sg_c5
        by_cases f : 5 * l ≤ q ∧ q < 5 * l + 5
        · rw [if_pos f, if_pos (by omega), hp _ (by omega)]; congr 1; omega
        · rw [if_neg f, if_neg (by omega)]; exact hp q hq
set_option maxRecDepth 20000 in
theorem c_410g {sc : List Int} {d : Nat} {t : xm_W} {m : Nat → Nat → Int} {s : Nat → Int} {c : Int} (hM : yy_MR m 1 s) (h40 : 0 ≤ s 3 ∧ s 3 ≤ 40) : ∃ m', xm_X (xm_old sc) xm_mt (d + 3) 410 [.inr (.inl (some 1)), .inl (c)] (yy_W m t) = some (none, yy_W m' t) ∧ yy_Fb m m' 1 ∧ yy_MR m' 1 (sg_clr (sg_KC s c) s) ∧ (∀ c, c ≠ 1 → c ≠ 4 → m' c = m c) := by
  have key : ∀ {Q : Option xm_V × xm_W → Prop}, (∀ m', (yy_Fb m m' 1 ∧ yy_MR m' 1 (sg_clr (sg_KC s c) s) ∧ (∀ c, c ≠ 1 → c ≠ 4 → m' c = m c)) → Q (none, yy_W m' t)) → xm_EQ (xm_old sc) xm_sta (xm_X (xm_old sc) xm_mt (d + 2)) xm_m410.2.2.2.2.2.2.2 0 (xm_loc xm_m410.2.2.1 [.inr (.inl (some 1)), .inl (c)]) [] (yy_W m t) Q := by
    intro Q hQ
    refine xb_410_0 ?_
    exact l_410 (d := d) hM h40 (fun m' h1 h2 h3 => hQ m' ⟨h1, h2, h3⟩) (s 3).toNat 0 0 m s (by omega) (by decide) (fun q _ => rfl) (fun c _ => rfl) hM.2.2.2.2.2.1 rfl
  obtain ⟨q, h1, m', h2, h3⟩ := yx_of (y := 410) (M := xm_m410) (sc := sc) (d := d + 2) (as := [.inr (.inl (some 1)), .inl (c)]) (w := yy_W m t) (Q := fun q => ∃ m', q = (none, yy_W m' t) ∧ (yy_Fb m m' 1 ∧ yy_MR m' 1 (sg_clr (sg_KC s c) s) ∧ (∀ c, c ≠ 1 → c ≠ 4 → m' c = m c))) rfl (key fun m' h => ⟨m', rfl, h⟩) (fun q ⟨m', h, _⟩ => by rw [h]; rfl) rfl (Nat.le_of_ble_eq_true rfl) (yy_hd rfl (by decide))
  exact ⟨m', by rw [h1, h2], h3⟩
def sg_z (z : Int) : Int := xm_w (xm_w (z * 1103515245) + 12345)
/-! an hour by draws -/
def sg_dr (s : Nat → Int) : Nat → Int := sg_clr (sg_K (yy_u (sg_hour (-1) s) 6 (sg_z (s 6))) 0 ((xm_ushr (sg_z (s 6)) 8).tmod 36)) (yy_u (sg_hour (-1) s) 6 (sg_z (s 6)))
def sg_drs : Nat → (Nat → Int) → (Nat → Int)
  | 0, s => s
  | n + 1, s => sg_drs n (sg_dr s)
set_option maxRecDepth 20000 in
theorem sg_dr_W {s : Nat → Int} (hW : sg_W s 0) (h1 : s 1 < 20000) : sg_W (yy_u (sg_hour (-1) s) 6 (sg_z (s 6))) 0 ∧ sg_W (sg_dr s) 0 ∧ sg_dr s 1 = s 1 + 1 ∧ sg_dr s 6 = sg_z (s 6) ∧ ∀ q, (q < 44 ∨ 339 ≤ q) → q ≠ 3 → q ≠ 1 → q ≠ 6 → sg_dr s q = s q := by
  obtain ⟨w1, w2, w3⟩ := sg_hour_W (st := -1) hW h1
  have o : ∀ k, k ≠ 6 → yy_u (sg_hour (-1) s) 6 (sg_z (s 6)) k = sg_hour (-1) s k := fun k hk => yy_u_ne hk
  have W2 : sg_W (yy_u (sg_hour (-1) s) 6 (sg_z (s 6))) 0 := sg_W_q (fun k hk => o k (by omega)) w1
  have h3 : 0 ≤ yy_u (sg_hour (-1) s) 6 (sg_z (s 6)) 3 ∧ yy_u (sg_hour (-1) s) 6 (sg_z (s 6)) 3 ≤ 41 := by
    have := W2.1.2.2.2.1; omega
  have co : ∀ k, k ≠ 3 → (k < 134 ∨ 339 ≤ k) → sg_dr s k = yy_u (sg_hour (-1) s) 6 (sg_z (s 6)) k := fun k a b => sg_clr_o h3 a b
  refine ⟨W2, sg_clr_W W2 _ (fun i hi _ => W2.2.2.1 i hi), by rw [co 1 (by decide) (Or.inl (by decide)), o 1 (by decide), w2], by rw [co 6 (by decide) (Or.inl (by decide)), yy_u_eq], fun q a b c e => by rw [co q b (by omega), o q e]; exact w3 q a b c⟩
set_option maxRecDepth 20000 in
theorem sg_drs_W : ∀ (n : Nat) (s : Nat → Int), sg_W s 0 → s 1 + n ≤ 20000 → sg_W (sg_drs n s) 0 ∧ sg_drs n s 1 = s 1 + n ∧ ∀ q, (q < 44 ∨ 339 ≤ q) → q ≠ 3 → q ≠ 1 → q ≠ 6 → sg_drs n s q = s q
  | 0, s, hW, _ => ⟨hW, by unfold sg_drs; omega, fun q _ _ _ _ => rfl⟩
  | n + 1, s, hW, h => by
    obtain ⟨-, a, b, -, c⟩ := sg_dr_W hW (by omega)
    obtain ⟨x, y, z⟩ := sg_drs_W n (sg_dr s) a (by omega)
    unfold sg_drs
    exact ⟨x, by rw [y, b]; omega, fun q h1 h2 h3 h4 => by rw [z q h1 h2 h3 h4, c q h1 h2 h3 h4]⟩
set_option maxRecDepth 20000 in
theorem l_114g {sc : List Int} {d : Nat} {t : xm_W} {Q : Option xm_V × xm_W → Prop} {n : Int} {m0 : Nat → Nat → Int} {s' : Nat → Int} (hn : n ≤ 24) (hQ : ∀ m', (∀ c, (18 ≤ c ∨ c = 0) → c ≠ 35 → m' c = m0 c) → (∀ k, k ≠ 4 → m' 35 k = m0 35 k) → m' 35 4 = s' 6 → yy_MX t m' 1 s' → Q ((some (.inl (s' 3)), (yy_W (m') t)))) : ∀ (k : Nat) (m : Nat → Nat → Int) (s : Nat → Int) (i : Int), n - i = k → 0 ≤ i → sg_W s 0 → s 1 + k ≤ 20000 → yy_MX t m 1 s → m 35 4 = s 6 → (∀ c, (18 ≤ c ∨ c = 0) → c ≠ 35 → m c = m0 c) → (∀ k, k ≠ 4 → m 35 k = m0 35 k) → sg_drs k s = s' → xm_EQ (xm_old sc) xm_sta (xm_X (xm_old sc) xm_mt (d + 6)) xm_c114 22 [some (.inr (.inl (some 0))), some (.inl (n)), some (.inl (i))] [] (yy_W (m) t) Q
  | 0, m, s, i, hk, hi, hW, h1, hM, hz, hF, hF2, hs => by
    have hs : s = s' := hs
    refine xb_114_22 ?_
    simp (disch := first | omega | (unfold xm_w; omega)) only [↓zy_at, xm_O_some, xm_Oi_some, xm_Ov_some, xm_Oq_some, ↓reduceIte, ↓zz_t, ↓zz_f, ↓zi_t, ↓zi_f, eq_self, yy_d_0, Int.reduceEq, Int.reduceLT, Int.reduceLE, Int.reduceNe, Int.reduceToNat, Int.reduceAdd, Int.reduceSub, Int.reduceMul, Int.reduceNeg, Nat.reduceAdd, Nat.reduceMul, Nat.reduceSub, Nat.reduceEqDiff, Nat.reduceLT, ne_eq, not_false_eq_true, not_true_eq_false, true_and, and_true, and_self, yy_s_eq, yy_s_ne, yy_c_eq, yy_c_ne, yy_u_eq, yy_u_ne, xm_w_id, yy_at, tdiv_pos, tmod_pos, ↓zr_0_0, ↓zr_0_1, ↓zr_0_2, ↓zr_0_3, ↓zr_0_4, ↓zf_0_5, ↓zs_0_5, ↓zr_0_6, ↓zr_0_7, ↓zr_0_8, ↓zr_0_9, ↓zr_0_10, ↓zr_1_0, ↓zf_1_1, ↓zs_1_1, ↓zf_1_2, ↓zs_1_2, ↓zr_1_3, ↓zf_1_4, ↓zs_1_4, ↓zr_1_5, ↓zf_1_6, ↓zs_1_6, ↓zr_1_7, ↓zr_1_8, ↓zr_1_9, hM.1.2.2.2.1]
    rw [hs] at hM hz ⊢
    exact hQ m hF hF2 hz hM
  | k + 1, m, s, i, hk, hi, hW, h1, hM, hz, hF, hF2, hs => by
    refine xb_114_22 ?_
    rw [if_pos (by omega), zr_0_0]
    obtain ⟨m1, c1, g1, g2⟩ := c_405_1g (sc := sc) (d := d) (t := t) (m := m) hM hW (by omega)
    obtain ⟨v1, v2, v3⟩ := sg_hour_W (st := -1) hW (by omega)
    obtain ⟨W2, w1, w2, w6, w3⟩ := sg_dr_W hW (by omega)
    have z1 : m1 35 = m 35 := g1 35 (by omega)
    rw [c1, xm_Ov_some, zr_0_0, zr_0_2, oc_303 (d := d + 5), z1, hz]
    have ez : xm_w (xm_w (s 6 * 1103515245) + 12345) = sg_z (s 6) := rfl
    rw [ez]
    refine ⟨by decide, ?_⟩
    have M2 : yy_MX t (yy_s m1 35 4 (sg_z (s 6))) 1 (yy_u (sg_hour (-1) s) 6 (sg_z (s 6))) := yy_MX_q (sg_W_T v1) (fun k hk => yy_u_ne (by omega)) (fun c hc => yy_s_ne (by omega)) g2
    obtain ⟨m2, c2, g3, g4, g5⟩ := c_410g (sc := sc) (d := d + 3) (t := t) (m := yy_s m1 35 4 (sg_z (s 6))) (c := (xm_ushr (sg_z (s 6)) 8).tmod 36) M2.1 W2.1.2.2.2.1
    rw [c2, xm_Ov_some, xm_w_id (by omega) (by omega)]
    rw [sg_KC_K W2] at g4
    have e2 : m2 35 = yy_s m1 35 4 (sg_z (s 6)) 35 := g3 35 (by omega)
    refine l_114g hn hQ k m2 (sg_dr s) (i + 1) (by omega) (by omega) w1 (by rw [w2]; omega) (yy_MX_fr (sg_W_T W2) M2 (g3 5 (by omega)) g4 (fun k hk hk2 => by rw [w3 k (by omega) (by omega) (by omega) (by omega), yy_u_ne (by omega), v3 k (by omega) (by omega) (by omega)])) (by rw [e2, yy_s_eq, yy_u_eq, w6]) (fun c hc hc2 => ?_) (fun k hk => ?_) hs
    · rw [g3 c (by omega), yy_s_ne hc2, g1 c (by omega)]; exact hF c hc hc2
    · rw [e2, yy_s_eq, yy_u_ne hk, z1]; exact hF2 k hk
set_option maxRecDepth 20000 in
theorem l_1160 {sc : List Int} {d : Nat} {t : xm_W} {Q : Option xm_V × xm_W → Prop} {n : Int} {m0 : Nat → Nat → Int} {s' : Nat → Int} (hn : n ≤ 24) (h74 : m0 74 3 = -1) (hQ : ∀ m', yy_F3 m0 m' → m' 75 = s' → Q ((some (.inl (s' 3)), (yy_W (m') t)))) : ∀ (k : Nat) (m : Nat → Nat → Int) (i : Int), n - i = k → 0 ≤ i → sg_W (m 75) 0 → m 75 1 + k ≤ 20000 → yy_F3 m0 m → sg_drs k (m 75) = s' → xm_EQ (xm_old sc) xm_sta (xm_X (xm_old sc) xm_mt (d + 8)) xm_c1160 23 [some (.inr (.inl (some 74))), some (.inl (n)), some (.inl (i))] [] (yy_W (m) t) Q
  | 0, m, i, hk, hi, hW, h1, hF, hs => by
    have hs : m 75 = s' := hs
    refine xb_1160_23 ?_
    simp (disch := first | omega | (unfold xm_w; omega)) only [↓zy_at, xm_O_some, xm_Oi_some, xm_Ov_some, xm_Oq_some, ↓reduceIte, ↓zz_t, ↓zz_f, ↓zi_t, ↓zi_f, eq_self, yy_d_0, Int.reduceEq, Int.reduceLT, Int.reduceLE, Int.reduceNe, Int.reduceToNat, Int.reduceAdd, Int.reduceSub, Int.reduceMul, Int.reduceNeg, Nat.reduceAdd, Nat.reduceMul, Nat.reduceSub, Nat.reduceEqDiff, Nat.reduceLT, ne_eq, not_false_eq_true, not_true_eq_false, true_and, and_true, and_self, yy_s_eq, yy_s_ne, yy_c_eq, yy_c_ne, yy_u_eq, yy_u_ne, xm_w_id, yy_at, tdiv_pos, tmod_pos, ↓zr_74_0, ↓zr_74_1, ↓zr_74_2, ↓zf_74_3, ↓zs_74_3, ↓zf_74_4, ↓zs_74_4, ↓zr_74_5, ↓zf_74_6, ↓zs_74_6, ↓zf_74_7, ↓zs_74_7, ↓zf_74_8, ↓zs_74_8, ↓zf_74_9, ↓zs_74_9, ↓zr_74_10, ↓zr_74_11, ↓zr_74_12, ↓zf_74_13, ↓zs_74_13, ↓zr_74_14, ↓zf_74_15, ↓zs_74_15, ↓zf_74_16, ↓zs_74_16, ↓zf_74_17, ↓zs_74_17, ↓zr_74_18, ↓zr_74_19, ↓zr_74_20, ↓zr_74_21, ↓zi_75, ↓zt_75, hs]
    exact hQ m hF hs
  | k + 1, m, i, hk, hi, hW, h1, hF, hs => by
    refine xb_1160_23 ?_
    rw [if_pos (by omega)]
    obtain ⟨m1, c1, g1, g2⟩ := c_1156 (sc := sc) (d := d) (t := t) (m := m) hW (by omega)
    have e74 : m 74 = m0 74 := hF 74 (by decide) (by decide) (by decide)
    rw [e74, h74] at g2
    obtain ⟨v1, v2, v3⟩ := sg_hour_W (st := -1) hW (by omega)
    obtain ⟨W2, w1, w2, w6, w3⟩ := sg_dr_W hW (by omega)
    rw [c1, xm_Ov_some, oc_1159 (d := d + 7), g2, v3 6 (Or.inl (by decide)) (by decide) (by decide)]
    have ez : xm_w (xm_w (m 75 6 * 1103515245) + 12345) = sg_z (m 75 6) := rfl
    rw [ez]
    refine ⟨by decide, ?_⟩
    have e : yy_s m1 75 6 (sg_z (m 75 6)) = yy_c m1 75 (yy_u (sg_hour (-1) (m 75)) 6 (sg_z (m 75 6))) := by unfold yy_s; rw [g2]
    rw [e, oc_1132 (d := d + 3) (by rw [yy_c_eq]; exact sg_W_B W2), yy_c_eq, yy_c_c, xm_w_id (by omega) (by omega)]
    exact l_1160 hn h74 hQ k _ (i + 1) (by omega) (by omega) (by rw [yy_c_eq]; exact w1) (by rw [yy_c_eq]; have := w2; unfold sg_dr at this; omega) (fun c c1 c2 c3 => by rw [yy_c_ne c1, g1 c c1 c2 c3]; exact hF c c1 c2 c3) (by rw [yy_c_eq]; exact hs)
set_option maxRecDepth 20000 in
theorem a_114 {sc : List Int} {t : xm_W} {m : Nat → Nat → Int} {x1 : Int} (hI : yy_I t m) : yy_A sc t m 114 1160 [.inl x1] true := by
  by_cases h : 1 ≤ x1 ∧ x1 ≤ 24
  · obtain ⟨⟨e0, e3, e1, e2⟩, hR⟩ := yy_I_0 hI
    have hG := hI.1
    have b1 := hR.2.1
    by_cases h2 : 9999 < m 75 1 + x1
    · have X1 : xm_X (xm_old sc) xm_mt (99 + 1) 114 [.inr (.inl (some 0)), .inl x1] (yy_W m t) = some (some (.inl (-1000000003)), yy_W (yy_e m 3) t) := by
        refine xm_X_of (M := xm_m114) rfl ⟨xm_EQ.eq (xb_114_0 ?_), rfl, rfl, Nat.le_of_ble_eq_true rfl, yy_hd rfl (by decide)⟩
        simp (disch := first | omega | (unfold xm_w; omega)) only [↓zy_at, xm_O_some, xm_Oi_some, xm_Ov_some, xm_Oq_some, ↓reduceIte, ↓zz_t, ↓zz_f, ↓zi_t, ↓zi_f, eq_self, yy_d_0, Int.reduceEq, Int.reduceLT, Int.reduceLE, Int.reduceNe, Int.reduceToNat, Int.reduceAdd, Int.reduceSub, Int.reduceMul, Int.reduceNeg, Nat.reduceAdd, Nat.reduceMul, Nat.reduceSub, Nat.reduceEqDiff, Nat.reduceLT, ne_eq, not_false_eq_true, not_true_eq_false, true_and, and_true, and_self, yy_s_eq, yy_s_ne, yy_c_eq, yy_c_ne, yy_u_eq, yy_u_ne, xm_w_id, yy_at, tdiv_pos, tmod_pos, ↓oc_142, ↓zr_0_0, ↓zr_0_1, ↓zr_0_2, ↓zr_0_3, ↓zr_0_4, ↓zf_0_5, ↓zs_0_5, ↓zr_0_6, ↓zr_0_7, ↓zr_0_8, ↓zr_0_9, ↓zr_0_10, ↓zr_1_0, ↓zf_1_1, ↓zs_1_1, ↓zf_1_2, ↓zs_1_2, ↓zr_1_3, ↓zf_1_4, ↓zs_1_4, ↓zr_1_5, ↓zf_1_6, ↓zs_1_6, ↓zr_1_7, ↓zr_1_8, ↓zr_1_9, e1, ↓oc_139]
      have X2 : xm_X (xm_old sc) xm_mt (99 + 1) 1160 [.inr (.inl (some 74)), .inl x1] (yy_W (yy_e m 3) t) = some (some (.inl (-1000000003)), yy_W (yy_f (yy_e m 3) 3) t) := by
        have f : yy_e m 3 75 = m 75 := yy_e75 (by decide)
        refine xm_X_of (M := xm_m1160) rfl ⟨xm_EQ.eq (xb_1160_0 ?_), rfl, rfl, Nat.le_of_ble_eq_true rfl, yy_hd rfl (by decide)⟩
        simp (disch := first | omega | (unfold xm_w; omega)) only [↓zy_at, xm_O_some, xm_Oi_some, xm_Ov_some, xm_Oq_some, ↓reduceIte, ↓zz_t, ↓zz_f, ↓zi_t, ↓zi_f, eq_self, yy_d_0, Int.reduceEq, Int.reduceLT, Int.reduceLE, Int.reduceNe, Int.reduceToNat, Int.reduceAdd, Int.reduceSub, Int.reduceMul, Int.reduceNeg, Nat.reduceAdd, Nat.reduceMul, Nat.reduceSub, Nat.reduceEqDiff, Nat.reduceLT, ne_eq, not_false_eq_true, not_true_eq_false, true_and, and_true, and_self, yy_s_eq, yy_s_ne, yy_c_eq, yy_c_ne, yy_u_eq, yy_u_ne, xm_w_id, yy_at, tdiv_pos, tmod_pos, ↓oc_1103, ↓zr_74_0, ↓zr_74_1, ↓zr_74_2, ↓zf_74_3, ↓zs_74_3, ↓zf_74_4, ↓zs_74_4, ↓zr_74_5, ↓zf_74_6, ↓zs_74_6, ↓zf_74_7, ↓zs_74_7, ↓zf_74_8, ↓zs_74_8, ↓zf_74_9, ↓zs_74_9, ↓zr_74_10, ↓zr_74_11, ↓zr_74_12, ↓zf_74_13, ↓zs_74_13, ↓zr_74_14, ↓zf_74_15, ↓zs_74_15, ↓zf_74_16, ↓zs_74_16, ↓zf_74_17, ↓zs_74_17, ↓zr_74_18, ↓zr_74_19, ↓zr_74_20, ↓zr_74_21, ↓zi_75, ↓zt_75, f, ↓oc_1102]
      exact yy_Ao X1 X2 (yy_I_ef hI) yy_ef0 rfl
    · obtain ⟨w1, w2, w3⟩ := sg_drs_W x1.toNat (m 75) hG.1 (by omega)
      obtain ⟨q1, X1, m1, rfl, k1, k2, k3, k4⟩ := yx_of (y := 114) (M := xm_m114) (sc := sc) (d := 99) (as := [.inr (.inl (some 0)), .inl x1]) (w := yy_W m t) (Q := fun q => ∃ m', q = (some (.inl (sg_drs x1.toNat (m 75) 3)), (yy_W (m') t)) ∧ (∀ c, (18 ≤ c ∨ c = 0) → c ≠ 35 → m' c = m c) ∧ (∀ k, k ≠ 4 → m' 35 k = m 35 k) ∧ m' 35 4 = sg_drs x1.toNat (m 75) 6 ∧ yy_MX t m' 1 (sg_drs x1.toNat (m 75))) rfl (by
        refine xb_114_0 ?_
        simp (disch := first | omega | (unfold xm_w; omega)) only [↓zy_at, xm_O_some, xm_Oi_some, xm_Ov_some, xm_Oq_some, ↓reduceIte, ↓zz_t, ↓zz_f, ↓zi_t, ↓zi_f, eq_self, yy_d_0, Int.reduceEq, Int.reduceLT, Int.reduceLE, Int.reduceNe, Int.reduceToNat, Int.reduceAdd, Int.reduceSub, Int.reduceMul, Int.reduceNeg, Nat.reduceAdd, Nat.reduceMul, Nat.reduceSub, Nat.reduceEqDiff, Nat.reduceLT, ne_eq, not_false_eq_true, not_true_eq_false, true_and, and_true, and_self, yy_s_eq, yy_s_ne, yy_c_eq, yy_c_ne, yy_u_eq, yy_u_ne, xm_w_id, yy_at, tdiv_pos, tmod_pos, ↓oc_142, ↓zr_0_0, ↓zr_0_1, ↓zr_0_2, ↓zr_0_3, ↓zr_0_4, ↓zf_0_5, ↓zs_0_5, ↓zr_0_6, ↓zr_0_7, ↓zr_0_8, ↓zr_0_9, ↓zr_0_10, ↓zr_1_0, ↓zf_1_1, ↓zs_1_1, ↓zf_1_2, ↓zs_1_2, ↓zr_1_3, ↓zf_1_4, ↓zs_1_4, ↓zr_1_5, ↓zf_1_6, ↓zs_1_6, ↓zr_1_7, ↓zr_1_8, ↓zr_1_9, e1]
        exact l_114g (d := 93) h.2 (fun m' a b c e => ⟨m', rfl, a, b, c, e⟩) x1.toNat m (m 75) 0 (by omega) (by decide) hG.1 (by omega) hI.2.1 hI.2.2.1.2.2.1 (fun _ _ _ => rfl) (fun _ _ => rfl) rfl) (fun q ⟨m', h, _⟩ => by rw [h]; rfl) rfl (Nat.le_of_ble_eq_true rfl) (yy_hd rfl (by decide))
      have f75 : m1 75 = m 75 := k1 75 (by omega) (by omega)
      have f74 : m1 74 = m 74 := k1 74 (by omega) (by omega)
      obtain ⟨q2, X2, m2, rfl, j1, j2⟩ := yx_of (y := 1160) (M := xm_m1160) (sc := sc) (d := 99) (as := [.inr (.inl (some 74)), .inl x1]) (w := yy_W m1 t) (Q := fun q => ∃ m', q = (some (.inl (sg_drs x1.toNat (m 75) 3)), (yy_W (m') t)) ∧ yy_F3 m1 m' ∧ m' 75 = sg_drs x1.toNat (m 75)) rfl (by
        refine xb_1160_0 ?_
        simp (disch := first | omega | (unfold xm_w; omega)) only [↓zy_at, xm_O_some, xm_Oi_some, xm_Ov_some, xm_Oq_some, ↓reduceIte, ↓zz_t, ↓zz_f, ↓zi_t, ↓zi_f, eq_self, yy_d_0, Int.reduceEq, Int.reduceLT, Int.reduceLE, Int.reduceNe, Int.reduceToNat, Int.reduceAdd, Int.reduceSub, Int.reduceMul, Int.reduceNeg, Nat.reduceAdd, Nat.reduceMul, Nat.reduceSub, Nat.reduceEqDiff, Nat.reduceLT, ne_eq, not_false_eq_true, not_true_eq_false, true_and, and_true, and_self, yy_s_eq, yy_s_ne, yy_c_eq, yy_c_ne, yy_u_eq, yy_u_ne, xm_w_id, yy_at, tdiv_pos, tmod_pos, ↓oc_1103, ↓zr_74_0, ↓zr_74_1, ↓zr_74_2, ↓zf_74_3, ↓zs_74_3, ↓zf_74_4, ↓zs_74_4, ↓zr_74_5, ↓zf_74_6, ↓zs_74_6, ↓zf_74_7, ↓zs_74_7, ↓zf_74_8, ↓zs_74_8, ↓zf_74_9, ↓zs_74_9, ↓zr_74_10, ↓zr_74_11, ↓zr_74_12, ↓zf_74_13, ↓zs_74_13, ↓zr_74_14, ↓zf_74_15, ↓zs_74_15, ↓zf_74_16, ↓zs_74_16, ↓zf_74_17, ↓zs_74_17, ↓zr_74_18, ↓zr_74_19, ↓zr_74_20, ↓zr_74_21, ↓zi_75, ↓zt_75, f75]
        exact l_1160 (d := 91) h.2 (by rw [f74]; exact hI.2.2.2.2.2.1) (fun m' a b => ⟨m', rfl, a, b⟩) x1.toNat m1 0 (by omega) (by decide) (by rw [f75]; exact hG.1) (by rw [f75]; omega) (fun _ _ _ _ => rfl) (by rw [f75])) (fun q ⟨m', h, _⟩ => by rw [h]; rfl) rfl (Nat.le_of_ble_eq_true rfl) (yy_hd rfl (by decide))
      obtain ⟨d1, d2, d3, d4, d5⟩ := hI.2.2.1
      have ho : ∀ k, (k = 4 ∨ k = 5 ∨ 589 ≤ k) → sg_drs x1.toNat (m 75) k = m 75 k := fun k hk => w3 k (by omega) (by omega) (by omega) (by omega)
      refine yy_Ao X1 X2 (yy_I_75 hI ⟨by rw [j2]; exact w1, by rw [j2, w2]; omega, ?_⟩ ?_ ?_ (fun c hc a b e f => ?_)) ?_ rfl
      · rw [j2]; exact sg_D_eq (ho _ (by omega)) (ho _ (by omega)) (fun k hk => ho k (by omega)) hG.2.2
      · rw [j2]; exact yy_MX_r (fun c hc => j1 c (by omega) (by omega) (by omega)) k4
      · rw [j2]
        have x35 : m2 35 = m1 35 := j1 35 (by decide) (by decide) (by decide)
        refine ⟨by rw [x35, k2 1 (by decide), ho 4 (by omega)]; exact d1, by rw [x35, k2 3 (by decide), ho 5 (by omega)]; exact d2, by rw [x35]; exact k3, fun k hk => ?_, fun k hk => ?_⟩
        · rw [j1 36 (by decide) (by decide) (by decide), k1 36 (by omega) (by omega), ho _ (by omega)]; exact d4 k hk
        · rw [j1 37 (by decide) (by decide) (by decide), k1 37 (by omega) (by omega), ho _ (by omega)]; exact d5 k hk
      · unfold yy_no at a
        rw [j1 c f (by omega) (by omega), k1 c (by omega) (by omega)]
      · rw [j1 0 (by decide) (by decide) (by decide), k1 0 (by omega) (by omega)]
  · exact r_114 hI h
end
section
set_option maxRecDepth 20000 in
theorem sg_W_rd0 {s s' : Nat → Int} {r : Int} (h : ∀ k, k ≠ 0 → (k < 44 ∨ 134 ≤ k) → s' k = s k) (hR : sg_R s') (hW : sg_W s r) : sg_W s' r := by
  obtain ⟨-, hO, hS, hT, hT1⟩ := hW
  have e3 : s' 3 = s 3 := h _ (by decide) (Or.inl (by decide))
  have e1 : s' 1 = s 1 := h _ (by decide) (Or.inl (by decide))
  have ep : ∀ i w, sg_p s' i w = sg_p s i w := fun i w => h _ (by omega) (Or.inr (by omega))
  refine ⟨hR, ⟨fun i hi => ?_, fun i j hij hj => ?_⟩, fun i hi => ?_, sg_T_eq (by decide) (fun k h1 _ => h k (by omega) (Or.inr (by omega))) hT, sg_T_eq (by decide) (fun k h1 _ => h k (by omega) (Or.inr (by omega))) hT1⟩
  · rw [e3] at hi
    have := hO.1 i hi
    unfold sg_E at this ⊢
    rw [ep, ep, ep, ep, ep, e1]; exact this
  · rw [e3] at hj
    have := hO.2 i j hij hj
    unfold sg_lt at this ⊢
    rw [ep, ep, ep, ep]; exact this
  · rw [e3] at hi
    have := hS i hi
    rw [ep, ep, e1, sg_k_eq (h 2 (by decide) (Or.inl (by decide))) (h _ (by have := (hO.1 i hi).1.1; omega) (Or.inl (by have := (hO.1 i hi).1.1; omega)))]
    exact this
/-! an act on one rider: both sides behind it -/
set_option maxRecDepth 20000 in
theorem yy_I_rr {t : xm_W} {m m' : Nat → Nat → Int} (hI : yy_I t m) (hR : sg_R (m' 75)) (h75 : ∀ k, k ≠ 0 → (k < 44 ∨ 134 ≤ k) → m' 75 k = m 75 k) (h0 : m' 1 4 = m' 75 0) (h1 : ∀ k, k ≠ 4 → m' 1 k = m 1 k) (hr : ∀ i, i < 5 → (∀ k, k < 6 → m' (8 + 2 * i) k = m' 75 (44 + 18 * i + k)) ∧ ∀ k, k < 12 → m' (9 + 2 * i) k = m' 75 (50 + 18 * i + k)) (h : ∀ c, c < 87 → ¬ yy_no c → ¬ (8 ≤ c ∧ c < 18) → c ≠ 1 → c ≠ 75 → m' c = m c) : yy_I t m' := by
  obtain ⟨⟨hW, hh, hD⟩, hX, -⟩ := id hI
  obtain ⟨⟨e1, e2, e3, e4, e5, e6, e7⟩, t0, t1⟩ := id hX
  have hT := sg_W_T hW
  refine yy_I_mo hI (sg_W_rd0 h75 hR hW) (by rw [h75 1 (by decide) (by omega)]; exact hh) ⟨⟨by rw [h1 1 (by decide), h75 2 (by decide) (by omega)]; exact e1, by rw [h1 2 (by decide), h75 1 (by decide) (by omega)]; exact e2, h0, by rw [h1 6 (by decide), h75 3 (by decide) (by omega)]; exact e4, fun k hk => by rw [h 2 (by decide) (by unfold yy_no; omega) (by omega) (by decide) (by decide), h75 _ (by omega) (by omega)]; exact e5 k hk, fun k hk => by rw [h 4 (by decide) (by unfold yy_no; omega) (by omega) (by decide) (by decide), h75 _ (by omega) (by omega)]; exact e6 k hk, hr⟩, ?_, ?_⟩ (fun k hk => h75 k (by omega) (by omega)) (fun c hc a b e => h c hc a (by omega) (by omega) e)
  · rw [show (1 + 4 : Nat) = 5 from rfl, h 5 (by decide) (by unfold yy_no; omega) (by omega) (by decide) (by decide)]; exact yy_TX_eq (by decide) hT.1 (fun k a b => h75 k (by omega) (by omega)) t0
  · rw [show (1 + 4 : Nat) = 5 from rfl, h 5 (by decide) (by unfold yy_no; omega) (by omega) (by decide) (by decide)]; exact yy_TX_eq (by decide) hT.2 (fun k a b => h75 k (by omega) (by omega)) t1
set_option maxRecDepth 20000 in
theorem a_104 {sc : List Int} {t : xm_W} {m : Nat → Nat → Int} {x1 x2 : Int} (hI : yy_I t m) : yy_A sc t m 104 1142 [.inl x1, .inl x2] true := by
  by_cases h : (0 ≤ x1 ∧ x1 ≤ 69) ∧ (0 ≤ x2 ∧ x2 ≤ 35)
  · obtain ⟨⟨e0, e3, e1, e2⟩, hR⟩ := yy_I_0 hI
    obtain ⟨a0, a1, a2, a3, a4, a5⟩ := id hR
    obtain ⟨⟨g1, g2, g3, g4, g5, g6, g7⟩, t0, t1⟩ := id hI.2.1
    by_cases h5 : m 75 0 = 5
    · have X1 : xm_X (xm_old sc) xm_mt (99 + 1) 104 [.inr (.inl (some 0)), .inl x1, .inl x2] (yy_W m t) = some (some (.inl (-1000000004)), yy_W (yy_e m 4) t) := by
        refine xm_X_of (M := xm_m104) rfl ⟨xm_EQ.eq (xb_104_0 ?_), rfl, rfl, Nat.le_of_ble_eq_true rfl, yy_hd rfl (by decide)⟩
        simp (disch := first | omega | (unfold xm_w; omega)) only [↓zy_at, xm_O_some, xm_Oi_some, xm_Ov_some, xm_Oq_some, ↓reduceIte, ↓zz_t, ↓zz_f, ↓zi_t, ↓zi_f, eq_self, yy_d_0, Int.reduceEq, Int.reduceLT, Int.reduceLE, Int.reduceNe, Int.reduceToNat, Int.reduceAdd, Int.reduceSub, Int.reduceMul, Int.reduceNeg, Nat.reduceAdd, Nat.reduceMul, Nat.reduceSub, Nat.reduceEqDiff, Nat.reduceLT, ne_eq, not_false_eq_true, not_true_eq_false, true_and, and_true, and_self, yy_s_eq, yy_s_ne, yy_c_eq, yy_c_ne, yy_u_eq, yy_u_ne, xm_w_id, yy_at, tdiv_pos, tmod_pos, ↓oc_142, ↓oc_143, ↓zr_0_0, ↓zr_0_1, ↓zr_0_2, ↓zr_0_3, ↓zr_0_4, ↓zf_0_5, ↓zs_0_5, ↓zr_0_6, ↓zr_0_7, ↓zr_0_8, ↓zr_0_9, ↓zr_0_10, ↓zr_1_0, ↓zf_1_1, ↓zs_1_1, ↓zf_1_2, ↓zs_1_2, ↓zr_1_3, ↓zf_1_4, ↓zs_1_4, ↓zr_1_5, ↓zf_1_6, ↓zs_1_6, ↓zr_1_7, ↓zr_1_8, ↓zr_1_9, e0, h5, ↓oc_139]
      have X2 : xm_X (xm_old sc) xm_mt (99 + 1) 1142 [.inr (.inl (some 74)), .inl x1, .inl x2] (yy_W (yy_e m 4) t) = some (some (.inl (-1000000004)), yy_W (yy_f (yy_e m 4) 4) t) := by
        have f : yy_e m 4 75 = m 75 := yy_e75 (by decide)
        refine xm_X_of (M := xm_m1142) rfl ⟨xm_EQ.eq (xb_1142_0 ?_), rfl, rfl, Nat.le_of_ble_eq_true rfl, yy_hd rfl (by decide)⟩
        simp (disch := first | omega | (unfold xm_w; omega)) only [↓zy_at, xm_O_some, xm_Oi_some, xm_Ov_some, xm_Oq_some, ↓reduceIte, ↓zz_t, ↓zz_f, ↓zi_t, ↓zi_f, eq_self, yy_d_0, Int.reduceEq, Int.reduceLT, Int.reduceLE, Int.reduceNe, Int.reduceToNat, Int.reduceAdd, Int.reduceSub, Int.reduceMul, Int.reduceNeg, Nat.reduceAdd, Nat.reduceMul, Nat.reduceSub, Nat.reduceEqDiff, Nat.reduceLT, ne_eq, not_false_eq_true, not_true_eq_false, true_and, and_true, and_self, yy_s_eq, yy_s_ne, yy_c_eq, yy_c_ne, yy_u_eq, yy_u_ne, xm_w_id, yy_at, tdiv_pos, tmod_pos, ↓oc_1103, ↓oc_1108, ↓zr_74_0, ↓zr_74_1, ↓zr_74_2, ↓zf_74_3, ↓zs_74_3, ↓zf_74_4, ↓zs_74_4, ↓zr_74_5, ↓zf_74_6, ↓zs_74_6, ↓zf_74_7, ↓zs_74_7, ↓zf_74_8, ↓zs_74_8, ↓zf_74_9, ↓zs_74_9, ↓zr_74_10, ↓zr_74_11, ↓zr_74_12, ↓zf_74_13, ↓zs_74_13, ↓zr_74_14, ↓zf_74_15, ↓zs_74_15, ↓zf_74_16, ↓zs_74_16, ↓zf_74_17, ↓zs_74_17, ↓zr_74_18, ↓zr_74_19, ↓zr_74_20, ↓zr_74_21, ↓zi_75, ↓zt_75, f, h5, ↓oc_1102]
      exact yy_Ao X1 X2 (yy_I_ef hI) yy_ef0 rfl
    · obtain ⟨r, hr⟩ : ∃ r : Nat, m 75 0 = r := ⟨(m 75 0).toNat, by omega⟩
      have er : (m 1 4).toNat = r := by omega
      have X1 := c_104 (sc := sc) (d := 96) (t := t) (m := m) h.1 h.2 (by omega) (by omega)
      rw [er] at X1
      generalize hm1 : yy_s (yy_s (yy_s (yy_s (yy_s (yy_s (yy_s m (8 + 2 * r) 0 (x1 / 10)) (8 + 2 * r) 1 (x1 % 10)) (8 + 2 * r) 2 x2) (8 + 2 * r) 3 0) (8 + 2 * r) 4 0) (8 + 2 * r) 5 0) 1 4 (m 1 4 + 1) = m1 at X1
      have o1 : ∀ c, c ≠ 8 + 2 * r → c ≠ 1 → m1 c = m c := fun c c1 c2 => by subst hm1; simp (disch := first | omega | (unfold xm_w; omega)) only [↓zy_at, xm_O_some, xm_Oi_some, xm_Ov_some, xm_Oq_some, ↓reduceIte, ↓zz_t, ↓zz_f, ↓zi_t, ↓zi_f, eq_self, yy_d_0, Int.reduceEq, Int.reduceLT, Int.reduceLE, Int.reduceNe, Int.reduceToNat, Int.reduceAdd, Int.reduceSub, Int.reduceMul, Int.reduceNeg, Nat.reduceAdd, Nat.reduceMul, Nat.reduceSub, Nat.reduceEqDiff, Nat.reduceLT, ne_eq, not_false_eq_true, not_true_eq_false, true_and, and_true, and_self, yy_s_eq, yy_s_ne, yy_c_eq, yy_c_ne, yy_u_eq, yy_u_ne, xm_w_id, yy_at, tdiv_pos, tmod_pos]
      have o2 : ∀ k, m1 1 k = if k = 4 then m 1 4 + 1 else m 1 k := fun k => by
        subst hm1; rw [yy_s_eq]; unfold yy_u; simp (disch := first | omega | (unfold xm_w; omega)) only [↓zy_at, xm_O_some, xm_Oi_some, xm_Ov_some, xm_Oq_some, ↓reduceIte, ↓zz_t, ↓zz_f, ↓zi_t, ↓zi_f, eq_self, yy_d_0, Int.reduceEq, Int.reduceLT, Int.reduceLE, Int.reduceNe, Int.reduceToNat, Int.reduceAdd, Int.reduceSub, Int.reduceMul, Int.reduceNeg, Nat.reduceAdd, Nat.reduceMul, Nat.reduceSub, Nat.reduceEqDiff, Nat.reduceLT, ne_eq, not_false_eq_true, not_true_eq_false, true_and, and_true, and_self, yy_s_eq, yy_s_ne, yy_c_eq, yy_c_ne, yy_u_eq, yy_u_ne, xm_w_id, yy_at, tdiv_pos, tmod_pos]
      have o3 : ∀ k, m1 (8 + 2 * r) k = if k = 0 then x1 / 10 else if k = 1 then x1 % 10 else if k = 2 then x2 else if k = 3 ∨ k = 4 ∨ k = 5 then 0 else m (8 + 2 * r) k := fun k => by
        subst hm1
        rw [yy_s_ne (by omega), yy_s_eq, yy_s_eq, yy_s_eq, yy_s_eq, yy_s_eq, yy_s_eq]
        unfold yy_u
        repeat' split
        all_goals first | rfl | omega
      have f75 : m1 75 = m 75 := o1 75 (by omega) (by decide)
      obtain ⟨m2, X2, k1, k2⟩ := c_1142 (sc := sc) (d := 96) (t := t) (m := m1) h.1 h.2 (by rw [f75]; omega) (by rw [f75]; omega)
      rw [f75, hr, Int.toNat_natCast] at k2
      have ot : ∀ k, k ≠ 0 → (k < 44 ∨ 134 ≤ k) → m2 75 k = m 75 k := fun k a b => by
        rw [k2, if_neg a, if_neg (by omega), if_neg (by omega), if_neg (by omega), if_neg (by omega)]
      have oi : ∀ i k, i < 5 → k < 18 → i ≠ r → m2 75 (44 + 18 * i + k) = m 75 (44 + 18 * i + k) := fun i k hi hk hne => by
        rw [k2, if_neg (by omega), if_neg (by omega), if_neg (by omega), if_neg (by omega), if_neg (by omega)]
      have oj : ∀ k, k < 12 → m2 75 (50 + 18 * r + k) = m 75 (50 + 18 * r + k) := fun k hk => by
        rw [k2, if_neg (by omega), if_neg (by omega), if_neg (by omega), if_neg (by omega), if_neg (by omega)]
      have v0 : m2 75 (44 + 18 * r) = x1 / 10 := by rw [k2, if_neg (by omega), if_pos rfl]
      have v1 : m2 75 (45 + 18 * r) = x1 % 10 := by rw [k2, if_neg (by omega), if_neg (by omega), if_pos rfl]
      have v2 : m2 75 (46 + 18 * r) = x2 := by rw [k2, if_neg (by omega), if_neg (by omega), if_neg (by omega), if_pos rfl]
      have v3 : m2 75 (47 + 18 * r) = 0 := by rw [k2, if_neg (by omega), if_neg (by omega), if_neg (by omega), if_neg (by omega), if_pos (by omega)]
      have v4 : m2 75 (48 + 18 * r) = 0 := by rw [k2, if_neg (by omega), if_neg (by omega), if_neg (by omega), if_neg (by omega), if_pos (by omega)]
      have v5 : m2 75 (49 + 18 * r) = 0 := by rw [k2, if_neg (by omega), if_neg (by omega), if_neg (by omega), if_neg (by omega), if_pos (by omega)]
      have v9 : m2 75 0 = m 75 0 + 1 := by rw [k2, if_pos rfl, hr]
      refine yy_Ao X1 X2 (yy_I_rr hI ⟨by omega, by rw [ot 1 (by decide) (by omega)]; exact a1, by rw [ot 2 (by decide) (by omega)]; exact a2, by rw [ot 3 (by decide) (by omega)]; exact a3, fun k hk => by rw [ot _ (by omega) (by omega)]; exact a4 k hk, fun i hi => ?_⟩ ot ?_ (fun k hk => ?_) (fun i hi => ⟨fun k hk => ?_, fun k hk => ?_⟩) (fun c hc a b e f => ?_)) ?_ ?_
      · obtain ⟨b0, b1, b2, b3, b4, b5, b6⟩ := a5 i hi
        by_cases e : i = r
        · subst e
          rw [v0, v1, v2, v3, v4, v5]
          exact ⟨by omega, by omega, h.2, by omega, by omega, by omega, fun k hk => by rw [oj k hk]; exact b6 k hk⟩
        · have q := fun k hk => oi i k hi hk e
          have q0 := q 0 (by decide)
          have q1 := q 1 (by decide)
          have q2 := q 2 (by decide)
          have q3 := q 3 (by decide)
          have q4 := q 4 (by decide)
          have q5 := q 5 (by decide)
          rw [show 44 + 18 * i + 0 = 44 + 18 * i by omega] at q0
          rw [show 44 + 18 * i + 1 = 45 + 18 * i by omega] at q1
          rw [show 44 + 18 * i + 2 = 46 + 18 * i by omega] at q2
          rw [show 44 + 18 * i + 3 = 47 + 18 * i by omega] at q3
          rw [show 44 + 18 * i + 4 = 48 + 18 * i by omega] at q4
          rw [show 44 + 18 * i + 5 = 49 + 18 * i by omega] at q5
          rw [q0, q1, q2, q3, q4, q5]
          exact ⟨b0, b1, b2, b3, b4, b5, fun k hk => by have := q (6 + k) (by omega); rw [show 44 + 18 * i + (6 + k) = 50 + 18 * i + k by omega] at this; rw [this]; exact b6 k hk⟩
      · rw [k1 1 (by decide), o2, if_pos rfl, v9, e0]
      · rw [k1 1 (by decide), o2, if_neg hk]
      · rw [k1 _ (by omega)]
        by_cases e : i = r
        · subst e
          rw [o3]
          rcases (show k = 0 ∨ k = 1 ∨ k = 2 ∨ k = 3 ∨ k = 4 ∨ k = 5 by omega) with h | h | h | h | h | h <;> subst h
          · rw [if_pos rfl]; exact v0.symm
          · rw [if_neg (by decide), if_pos rfl, show 44 + 18 * i + 1 = 45 + 18 * i by omega]; exact v1.symm
          · rw [if_neg (by decide), if_neg (by decide), if_pos rfl, show 44 + 18 * i + 2 = 46 + 18 * i by omega]; exact v2.symm
          · rw [if_neg (by decide), if_neg (by decide), if_neg (by decide), if_pos (by omega), show 44 + 18 * i + 3 = 47 + 18 * i by omega]; exact v3.symm
          · rw [if_neg (by decide), if_neg (by decide), if_neg (by decide), if_pos (by omega), show 44 + 18 * i + 4 = 48 + 18 * i by omega]; exact v4.symm
          · rw [if_neg (by decide), if_neg (by decide), if_neg (by decide), if_pos (by omega), show 44 + 18 * i + 5 = 49 + 18 * i by omega]; exact v5.symm
        · rw [o1 _ (by omega) (by omega), oi i k hi (by omega) e]; exact (g7 i hi).1 k hk
      · rw [k1 _ (by omega), o1 _ (by omega) (by omega)]
        by_cases e : i = r
        · subst e; rw [oj k hk]; exact (g7 i hi).2 k hk
        · have := oi i (6 + k) hi (by omega) e
          rw [show 44 + 18 * i + (6 + k) = 50 + 18 * i + k by omega] at this
          rw [this]; exact (g7 i hi).2 k hk
      · unfold yy_no at a
        rw [k1 c f, o1 c (by omega) e]
      · rw [k1 0 (by decide), o1 0 (by omega) (by decide)]
      · rw [f75, e0]
  · exact r_104 hI h
end
section
set_option maxRecDepth 20000 in
theorem sg_R_r {s s' : Nat → Int} {r : Nat} (hr : r < 5) (hR : sg_R s) (h : ∀ k, (k < 44 + 18 * r ∨ 62 + 18 * r ≤ k) → s' k = s k) (b0 : 0 ≤ s' (44 + 18 * r) ∧ s' (44 + 18 * r) ≤ 6) (b1 : 0 ≤ s' (45 + 18 * r) ∧ s' (45 + 18 * r) ≤ 9) (b2 : 0 ≤ s' (46 + 18 * r) ∧ s' (46 + 18 * r) ≤ 35) (b3 : 0 ≤ s' (47 + 18 * r) ∧ s' (47 + 18 * r) ≤ 99) (b4 : 0 ≤ s' (48 + 18 * r) ∧ s' (48 + 18 * r) ≤ 12) (b5 : 0 ≤ s' (49 + 18 * r) ∧ s' (49 + 18 * r) ≤ s' (48 + 18 * r)) (b6 : ∀ k, k < 12 → 0 ≤ s' (50 + 18 * r + k) ∧ s' (50 + 18 * r + k) ≤ 3) : sg_R s' := by
  obtain ⟨a0, a1, a2, a3, a4, a5⟩ := hR
  refine ⟨by rw [h 0 (by omega)]; exact a0, by rw [h 1 (by omega)]; exact a1, by rw [h 2 (by omega)]; exact a2, by rw [h 3 (by omega)]; exact a3, fun k hk => by rw [h _ (by omega)]; exact a4 k hk, fun i hi => ?_⟩
  by_cases e : i = r
  · subst e; exact ⟨b0, b1, b2, b3, b4, b5, b6⟩
  · obtain ⟨c0, c1, c2, c3, c4, c5, c6⟩ := a5 i hi
    rw [h _ (by omega), h _ (by omega), h _ (by omega), h _ (by omega), h _ (by omega), h _ (by omega)]
    exact ⟨c0, c1, c2, c3, c4, c5, fun k hk => by rw [h _ (by omega)]; exact c6 k hk⟩
set_option maxRecDepth 20000 in
theorem a_109 {sc : List Int} {t : xm_W} {m : Nat → Nat → Int} {x1 : Int} (hI : yy_I t m) : yy_A sc t m 109 1153 [.inl x1] true := by
  by_cases h : 0 ≤ x1 ∧ x1 ≤ m 1 4 - 1
  · obtain ⟨⟨e0, e3, e1, e2⟩, hR⟩ := yy_I_0 hI
    obtain ⟨a0, a1, a2, a3, a4, a5⟩ := id hR
    obtain ⟨r, rfl⟩ : ∃ r : Nat, x1 = r := ⟨x1.toNat, by omega⟩
    have hr5 : r < 5 := by omega
    obtain ⟨b0, b1, b2, b3, b4, b5, b6⟩ := a5 r hr5
    have g7 := hI.2.1.1.2.2.2.2.2.2
    have hq := yy_rdn8 hr5
    have er : ((r : Int)).toNat = r := Int.toNat_natCast r
    have f4 : m (8 + 2 * r) 4 = m 75 (48 + 18 * r) := by rw [(g7 r hr5).1 4 (by decide)]; congr 1; omega
    have X1 : xm_X (xm_old sc) xm_mt (99 + 1) 109 [.inr (.inl (some 0)), .inl (r : Int)] (yy_W m t) = some (some (.inl (m 75 (48 + 18 * r))), yy_W (yy_s (yy_s m (8 + 2 * r) 4 0) (8 + 2 * r) 5 0) t) := by
      refine xm_X_of (M := xm_m109) rfl ⟨xm_EQ.eq (xb_109_0 ?_), rfl, rfl, Nat.le_of_ble_eq_true rfl, yy_hd rfl (by decide)⟩
      rw [oc_141 (d := 97) (by omega) (by omega), zz_t h]
      simp (disch := first | omega | (unfold xm_w; omega)) only [↓zy_at, xm_O_some, xm_Oi_some, xm_Ov_some, xm_Oq_some, ↓reduceIte, ↓zz_t, ↓zz_f, ↓zi_t, ↓zi_f, eq_self, yy_d_0, Int.reduceEq, Int.reduceLT, Int.reduceLE, Int.reduceNe, Int.reduceToNat, Int.reduceAdd, Int.reduceSub, Int.reduceMul, Int.reduceNeg, Nat.reduceAdd, Nat.reduceMul, Nat.reduceSub, Nat.reduceEqDiff, Nat.reduceLT, ne_eq, not_false_eq_true, not_true_eq_false, true_and, and_true, and_self, yy_s_eq, yy_s_ne, yy_c_eq, yy_c_ne, yy_u_eq, yy_u_ne, xm_w_id, yy_at, tdiv_pos, tmod_pos, ↓zr_0_0, ↓zr_0_1, ↓zr_0_2, ↓zr_0_3, ↓zr_0_4, ↓zf_0_5, ↓zs_0_5, ↓zr_0_6, ↓zr_0_7, ↓zr_0_8, ↓zr_0_9, ↓zr_0_10, ↓zr_1_0, ↓zf_1_1, ↓zs_1_1, ↓zf_1_2, ↓zs_1_2, ↓zr_1_3, ↓zf_1_4, ↓zs_1_4, ↓zr_1_5, ↓zf_1_6, ↓zs_1_6, ↓zr_1_7, ↓zr_1_8, ↓zr_1_9, ↓zq_3, ↓zq_r1, er, ↓gf_4 hq, ↓gs_4 hq, ↓gs_5 hq, f4]
    have f75 : (yy_s (yy_s m (8 + 2 * r) 4 0) (8 + 2 * r) 5 0) 75 = m 75 := by rw [yy_s_ne (by omega), yy_s_ne (by omega)]
    have X2 : xm_X (xm_old sc) xm_mt (99 + 1) 1153 [.inr (.inl (some 74)), .inl (r : Int)] (yy_W (yy_s (yy_s m (8 + 2 * r) 4 0) (8 + 2 * r) 5 0) t) = some (some (.inl (m 75 (48 + 18 * r))), yy_W (yy_c (yy_s (yy_s m (8 + 2 * r) 4 0) (8 + 2 * r) 5 0) 75 (yy_u (yy_u (m 75) (48 + 18 * r) 0) (49 + 18 * r) 0)) t) := by
      refine xm_X_of (M := xm_m1153) rfl ⟨xm_EQ.eq (xb_1153_0 ?_), rfl, rfl, Nat.le_of_ble_eq_true rfl, yy_hd rfl (by decide)⟩
      rw [oc_1109 (d := 97) (by rw [f75]; omega) (by rw [f75]; omega), zz_t (by rw [f75]; omega), oc_1110_4 (d := 98) hr5, f75, oc_1111_4 (d := 98) hr5, oc_1111_5 (d := 98) hr5, yy_c_eq, yy_c_c, f75]
    have o : ∀ k, k ≠ 48 + 18 * r → k ≠ 49 + 18 * r → yy_u (yy_u (m 75) (48 + 18 * r) 0) (49 + 18 * r) 0 k = m 75 k := fun k c1 c2 => by rw [yy_u_ne c2, yy_u_ne c1]
    have v4 : yy_u (yy_u (m 75) (48 + 18 * r) 0) (49 + 18 * r) 0 (48 + 18 * r) = 0 := by rw [yy_u_ne (by omega), yy_u_eq]
    have v5 : yy_u (yy_u (m 75) (48 + 18 * r) 0) (49 + 18 * r) 0 (49 + 18 * r) = 0 := yy_u_eq
    refine yy_Ao X1 X2 (yy_I_rr hI ?_ (fun k a b => by rw [yy_c_eq]; exact o k (by omega) (by omega)) ?_ (fun k hk => ?_) (fun i hi => ⟨fun k hk => ?_, fun k hk => ?_⟩) (fun c hc a b e f => ?_)) ?_ rfl
    · rw [yy_c_eq]
      refine sg_R_r hr5 hR (fun k hk => o k (by omega) (by omega)) ?_ ?_ ?_ ?_ ?_ ?_ (fun k hk => ?_)
      · rw [o _ (by omega) (by omega)]; exact b0
      · rw [o _ (by omega) (by omega)]; exact b1
      · rw [o _ (by omega) (by omega)]; exact b2
      · rw [o _ (by omega) (by omega)]; exact b3
      · rw [v4]; decide
      · rw [v4, v5]; decide
      · rw [o _ (by omega) (by omega)]; exact b6 k hk
    · rw [yy_c_eq, o _ (by omega) (by omega)]; simp (disch := first | omega | (unfold xm_w; omega)) only [↓zy_at, xm_O_some, xm_Oi_some, xm_Ov_some, xm_Oq_some, ↓reduceIte, ↓zz_t, ↓zz_f, ↓zi_t, ↓zi_f, eq_self, yy_d_0, Int.reduceEq, Int.reduceLT, Int.reduceLE, Int.reduceNe, Int.reduceToNat, Int.reduceAdd, Int.reduceSub, Int.reduceMul, Int.reduceNeg, Nat.reduceAdd, Nat.reduceMul, Nat.reduceSub, Nat.reduceEqDiff, Nat.reduceLT, ne_eq, not_false_eq_true, not_true_eq_false, true_and, and_true, and_self, yy_s_eq, yy_s_ne, yy_c_eq, yy_c_ne, yy_u_eq, yy_u_ne, xm_w_id, yy_at, tdiv_pos, tmod_pos]; exact e0
    · simp (disch := first | omega | (unfold xm_w; omega)) only [↓zy_at, xm_O_some, xm_Oi_some, xm_Ov_some, xm_Oq_some, ↓reduceIte, ↓zz_t, ↓zz_f, ↓zi_t, ↓zi_f, eq_self, yy_d_0, Int.reduceEq, Int.reduceLT, Int.reduceLE, Int.reduceNe, Int.reduceToNat, Int.reduceAdd, Int.reduceSub, Int.reduceMul, Int.reduceNeg, Nat.reduceAdd, Nat.reduceMul, Nat.reduceSub, Nat.reduceEqDiff, Nat.reduceLT, ne_eq, not_false_eq_true, not_true_eq_false, true_and, and_true, and_self, yy_s_eq, yy_s_ne, yy_c_eq, yy_c_ne, yy_u_eq, yy_u_ne, xm_w_id, yy_at, tdiv_pos, tmod_pos]
    · rw [yy_c_eq, yy_c_ne (by omega)]
      by_cases e : i = r
      · subst e
        rw [yy_s_s, yy_c_eq]
        by_cases k5 : k = 5
        · subst k5; rw [yy_u_eq, show 44 + 18 * i + 5 = 49 + 18 * i by omega, v5]
        · by_cases k4 : k = 4
          · subst k4; rw [yy_u_ne (by decide), yy_u_eq, show 44 + 18 * i + 4 = 48 + 18 * i by omega, v4]
          · rw [yy_u_ne k5, yy_u_ne k4, o _ (by omega) (by omega)]; exact (g7 i hi).1 k hk
      · rw [yy_s_ne (by omega), yy_s_ne (by omega), o _ (by omega) (by omega)]; exact (g7 i hi).1 k hk
    · rw [yy_c_eq, yy_c_ne (by omega), yy_s_ne (by omega), yy_s_ne (by omega), o _ (by omega) (by omega)]; exact (g7 i hi).2 k hk
    · rw [yy_c_ne f, yy_s_ne (by omega), yy_s_ne (by omega)]
    · rw [yy_c_ne (by decide), yy_s_ne (by omega), yy_s_ne (by omega)]
  · exact r_109 hI h
/-! a way comes behind a ride: both sides -/
set_option maxRecDepth 20000 in
theorem c_604 {sc : List Int} {d : Nat} {t : xm_W} {m : Nat → Nat → Int} {r : Nat} {w : Int} (hq : yy_rd r) (h : 0 ≤ m r 4 ∧ m r 4 ≤ 12) : xm_X (xm_old sc) xm_mt (d + 1) 604 [.inr (.inl (some r)), .inl (w)] (yy_W (m) t) = some (some (.inl (if m r 4 < 12 then 1 else 0)), (yy_W (if m r 4 < 12 then yy_s (yy_s m (r + 1) (m r 4).toNat w) r 4 (m r 4 + 1) else m) t)) := by
  refine xm_X_of (M := xm_m604) rfl ⟨xm_EQ.eq (xb_604_0 ?_), ?_, rfl, Nat.le_of_ble_eq_true rfl, yy_hdr hq⟩
  · by_cases g : m r 4 < 12
    · rw [if_pos g, if_pos g]
      rw [gf_4 hq, if_pos g, gr_6 hq, gf_4 hq, gt_1 hq h.1 g, gf_4 hq, yy_s_ne (by omega), gs_4 hq, xm_w_id (by omega) (by omega)]
    · rw [if_neg g, if_neg g]
      rw [gf_4 hq, if_neg g]
  · show (_ == _ || _ == _) = true
    split <;> rfl
set_option maxRecDepth 20000 in
theorem oc_604 {F : Int → xm_W → Prop} {sc : List Int} {d : Nat} {t : xm_W} {m : Nat → Nat → Int} {r : Nat} {w : Int} (hq : yy_rd r) (h : 0 ≤ m r 4 ∧ m r 4 ≤ 12) : xm_Oi (xm_X (xm_old sc) xm_mt (d + 1) 604 [.inr (.inl (some r)), .inl (w)] (yy_W (m) t)) F = F (if m r 4 < 12 then 1 else 0) (yy_W (if m r 4 < 12 then yy_s (yy_s m (r + 1) (m r 4).toNat w) r 4 (m r 4 + 1) else m) t) := congrArg (fun x => xm_Oi x F) (c_604 hq h)
set_option maxRecDepth 20000 in
theorem c_1151 {sc : List Int} {d : Nat} {t : xm_W} {m : Nat → Nat → Int} {r : Nat} {w : Int} (hr : r < 5) (h : 0 ≤ m 75 (48 + 18 * r) ∧ m 75 (48 + 18 * r) < 12) : xm_X (xm_old sc) xm_mt (d + 2) 1151 [.inr (.inl (some 74)), .inl ((r : Int)), .inl (w)] (yy_W (m) t) = some (none, (yy_W (yy_c m 75 (yy_u (yy_u (m 75) (50 + 18 * r + (m 75 (48 + 18 * r)).toNat) w) (48 + 18 * r) (m 75 (48 + 18 * r) + 1))) t)) := by
  refine xm_X_of (M := xm_m1151) rfl ⟨xm_EQ.eq (xb_1151_0 ?_), rfl, rfl, Nat.le_of_ble_eq_true rfl, yy_hd rfl (by decide)⟩
  rw [oc_1110_4 hr, xm_w_id (by omega) (by omega), oc_1111 (by omega) (by omega) (by omega) (by omega), show (44 + 18 * (r : Int) + (6 + m 75 (48 + 18 * r))).toNat = 50 + 18 * r + (m 75 (48 + 18 * r)).toNat by omega, oc_1110_4 hr, yy_s_eq, yy_u_ne (by omega), oc_1111_4 hr, xm_w_id (by omega) (by omega), yy_s_eq]
  unfold yy_s
  rw [yy_c_c]
set_option maxRecDepth 20000 in
theorem oc_1151 {F : xm_W → Prop} {sc : List Int} {d : Nat} {t : xm_W} {m : Nat → Nat → Int} {r : Nat} {w : Int} (hr : r < 5) (h : 0 ≤ m 75 (48 + 18 * r) ∧ m 75 (48 + 18 * r) < 12) : xm_Ov (xm_X (xm_old sc) xm_mt (d + 2) 1151 [.inr (.inl (some 74)), .inl ((r : Int)), .inl (w)] (yy_W (m) t)) F = F (yy_W (yy_c m 75 (yy_u (yy_u (m 75) (50 + 18 * r + (m 75 (48 + 18 * r)).toNat) w) (48 + 18 * r) (m 75 (48 + 18 * r) + 1))) t) := congrArg (fun x => xm_Ov x F) (c_1151 hr h)
def sg_aw (s : Nat → Int) (r : Nat) (w : Int) : Nat → Int := yy_u (yy_u s (50 + 18 * r + (s (48 + 18 * r)).toNat) w) (48 + 18 * r) (s (48 + 18 * r) + 1)
set_option maxRecDepth 20000 in
theorem yy_I_aw {t : xm_W} {m : Nat → Nat → Int} {r : Nat} {w : Int} (hI : yy_I t m) (hr5 : r < 5) (hw : 0 ≤ w ∧ w ≤ 3) (hl : m 75 (48 + 18 * r) < 12) : yy_I t (yy_c (yy_s (yy_s m (8 + 2 * r + 1) (m (8 + 2 * r) 4).toNat w) (8 + 2 * r) 4 (m (8 + 2 * r) 4 + 1)) 75 (sg_aw (m 75) r w)) := by
  obtain ⟨⟨e0, e3, e1, e2⟩, hR⟩ := yy_I_0 hI
  obtain ⟨a0, a1, a2, a3, a4, a5⟩ := id hR
  obtain ⟨b0, b1, b2, b3, b4, b5, b6⟩ := a5 r hr5
  have g7 := hI.2.1.1.2.2.2.2.2.2
  have f4 : m (8 + 2 * r) 4 = m 75 (48 + 18 * r) := by rw [(g7 r hr5).1 4 (by decide)]; congr 1; omega
  have o : ∀ k, k ≠ 48 + 18 * r → k ≠ 50 + 18 * r + (m 75 (48 + 18 * r)).toNat → sg_aw (m 75) r w k = m 75 k := fun k c1 c2 => by unfold sg_aw; rw [yy_u_ne c1, yy_u_ne c2]
  have v4 : sg_aw (m 75) r w (48 + 18 * r) = m 75 (48 + 18 * r) + 1 := yy_u_eq
  have vw : sg_aw (m 75) r w (50 + 18 * r + (m 75 (48 + 18 * r)).toNat) = w := by unfold sg_aw; rw [yy_u_ne (by omega), yy_u_eq]
  rw [f4]
  refine yy_I_rr hI ?_ (fun k a b => by rw [yy_c_eq]; exact o k (by omega) (by omega)) ?_ (fun k hk => ?_) (fun i hi => ⟨fun k hk => ?_, fun k hk => ?_⟩) (fun c hc a b e f => ?_)
  · rw [yy_c_eq]
    refine sg_R_r hr5 hR (fun k hk => o k (by omega) (by omega)) ?_ ?_ ?_ ?_ ?_ ?_ (fun k hk => ?_)
    · rw [o _ (by omega) (by omega)]; exact b0
    · rw [o _ (by omega) (by omega)]; exact b1
    · rw [o _ (by omega) (by omega)]; exact b2
    · rw [o _ (by omega) (by omega)]; exact b3
    · rw [v4]; omega
    · rw [v4, o _ (by omega) (by omega)]; omega
    · by_cases e : 50 + 18 * r + k = 50 + 18 * r + (m 75 (48 + 18 * r)).toNat
      · rw [e, vw]; exact hw
      · rw [o _ (by omega) e]; exact b6 k hk
  · rw [yy_c_eq, o _ (by omega) (by omega)]; simp (disch := first | omega | (unfold xm_w; omega)) only [↓zy_at, xm_O_some, xm_Oi_some, xm_Ov_some, xm_Oq_some, ↓reduceIte, ↓zz_t, ↓zz_f, ↓zi_t, ↓zi_f, eq_self, yy_d_0, Int.reduceEq, Int.reduceLT, Int.reduceLE, Int.reduceNe, Int.reduceToNat, Int.reduceAdd, Int.reduceSub, Int.reduceMul, Int.reduceNeg, Nat.reduceAdd, Nat.reduceMul, Nat.reduceSub, Nat.reduceEqDiff, Nat.reduceLT, ne_eq, not_false_eq_true, not_true_eq_false, true_and, and_true, and_self, yy_s_eq, yy_s_ne, yy_c_eq, yy_c_ne, yy_u_eq, yy_u_ne, xm_w_id, yy_at, tdiv_pos, tmod_pos]; exact e0
  · simp (disch := first | omega | (unfold xm_w; omega)) only [↓zy_at, xm_O_some, xm_Oi_some, xm_Ov_some, xm_Oq_some, ↓reduceIte, ↓zz_t, ↓zz_f, ↓zi_t, ↓zi_f, eq_self, yy_d_0, Int.reduceEq, Int.reduceLT, Int.reduceLE, Int.reduceNe, Int.reduceToNat, Int.reduceAdd, Int.reduceSub, Int.reduceMul, Int.reduceNeg, Nat.reduceAdd, Nat.reduceMul, Nat.reduceSub, Nat.reduceEqDiff, Nat.reduceLT, ne_eq, not_false_eq_true, not_true_eq_false, true_and, and_true, and_self, yy_s_eq, yy_s_ne, yy_c_eq, yy_c_ne, yy_u_eq, yy_u_ne, xm_w_id, yy_at, tdiv_pos, tmod_pos]
  · rw [yy_c_eq, yy_c_ne (by omega)]
    by_cases e : i = r
    · subst e
      rw [yy_s_eq, yy_s_ne (by omega)]
      by_cases k4 : k = 4
      · subst k4; rw [yy_u_eq, show 44 + 18 * i + 4 = 48 + 18 * i by omega, v4]
      · rw [yy_u_ne k4, o _ (by omega) (by omega)]; exact (g7 i hi).1 k hk
    · rw [yy_s_ne (by omega), yy_s_ne (by omega), o _ (by omega) (by omega)]; exact (g7 i hi).1 k hk
  · rw [yy_c_eq, yy_c_ne (by omega), yy_s_ne (by omega)]
    by_cases e : i = r
    · subst e
      rw [show 9 + 2 * i = 8 + 2 * i + 1 by omega, yy_s_eq]
      by_cases ek : k = (m 75 (48 + 18 * i)).toNat
      · subst ek; rw [yy_u_eq, vw]
      · rw [yy_u_ne ek, o _ (by omega) (by omega)]
        have := (g7 i hi).2 k hk
        rw [show 9 + 2 * i = 8 + 2 * i + 1 by omega] at this
        rw [show 8 + 2 * i + 1 = 8 + 2 * i + 1 from rfl]
        have h8 : (1 + 8 + 2 * i) = 8 + 2 * i + 1 := by omega
        first | exact this | (rw [← h8] at this; exact this)
    · rw [yy_s_ne (by omega), o _ (by omega) (by omega)]; exact (g7 i hi).2 k hk
  · rw [yy_c_ne f, yy_s_ne (by omega), yy_s_ne (by omega)]
set_option maxRecDepth 20000 in
theorem a_108 {sc : List Int} {t : xm_W} {m : Nat → Nat → Int} {x1 x2 : Int} (hI : yy_I t m) : yy_A sc t m 108 1152 [.inl x1, .inl x2] true := by
  obtain ⟨⟨e0, e3, e1, e2⟩, hR⟩ := yy_I_0 hI
  obtain ⟨a0, a1, a2, a3, a4, a5⟩ := id hR
  by_cases h : (0 ≤ x1 ∧ x1 ≤ m 1 4 - 1) ∧ (0 ≤ x2 ∧ x2 ≤ 3)
  · obtain ⟨r, rfl⟩ : ∃ r : Nat, x1 = r := ⟨x1.toNat, by omega⟩
    have hr5 : r < 5 := by omega
    obtain ⟨b0, b1, b2, b3, b4, b5, b6⟩ := a5 r hr5
    have g7 := hI.2.1.1.2.2.2.2.2.2
    have hq := yy_rdn8 hr5
    have er : ((r : Int)).toNat = r := Int.toNat_natCast r
    have f4 : m (8 + 2 * r) 4 = m 75 (48 + 18 * r) := by rw [(g7 r hr5).1 4 (by decide)]; congr 1; omega
    by_cases hl : m 75 (48 + 18 * r) < 12
    · have X1 : xm_X (xm_old sc) xm_mt (99 + 1) 108 [.inr (.inl (some 0)), .inl (r : Int), .inl x2] (yy_W m t) = some (some (.inl (m 75 (48 + 18 * r) + 1)), yy_W (yy_s (yy_s m (8 + 2 * r + 1) (m (8 + 2 * r) 4).toNat x2) (8 + 2 * r) 4 (m (8 + 2 * r) 4 + 1)) t) := by
        refine xm_X_of (M := xm_m108) rfl ⟨xm_EQ.eq (xb_108_0 ?_), rfl, rfl, Nat.le_of_ble_eq_true rfl, yy_hd rfl (by decide)⟩
        rw [oc_141 (d := 97) (by omega) (by omega), zz_t h.1, oc_142 (d := 98), zz_t h.2, zr_0_0, zr_1_3, zq_3, zq_r1 (by omega) (by omega), er, oc_604 (d := 98) hq (by omega)]
        have g : m (8 + 2 * r) 4 < 12 := by omega
        rw [if_pos g, if_pos g, if_neg (by decide : ¬ (1 : Int) = 0)]
        simp (disch := first | omega | (unfold xm_w; omega)) only [↓zy_at, xm_O_some, xm_Oi_some, xm_Ov_some, xm_Oq_some, ↓reduceIte, ↓zz_t, ↓zz_f, ↓zi_t, ↓zi_f, eq_self, yy_d_0, Int.reduceEq, Int.reduceLT, Int.reduceLE, Int.reduceNe, Int.reduceToNat, Int.reduceAdd, Int.reduceSub, Int.reduceMul, Int.reduceNeg, Nat.reduceAdd, Nat.reduceMul, Nat.reduceSub, Nat.reduceEqDiff, Nat.reduceLT, ne_eq, not_false_eq_true, not_true_eq_false, true_and, and_true, and_self, yy_s_eq, yy_s_ne, yy_c_eq, yy_c_ne, yy_u_eq, yy_u_ne, xm_w_id, yy_at, tdiv_pos, tmod_pos, ↓zr_0_0, ↓zr_0_1, ↓zr_0_2, ↓zr_0_3, ↓zr_0_4, ↓zf_0_5, ↓zs_0_5, ↓zr_0_6, ↓zr_0_7, ↓zr_0_8, ↓zr_0_9, ↓zr_0_10, ↓zr_1_0, ↓zf_1_1, ↓zs_1_1, ↓zf_1_2, ↓zs_1_2, ↓zr_1_3, ↓zf_1_4, ↓zs_1_4, ↓zr_1_5, ↓zf_1_6, ↓zs_1_6, ↓zr_1_7, ↓zr_1_8, ↓zr_1_9, ↓zq_3, ↓zq_r1, er, ↓gf_4 hq]
        rw [f4]
      have f75 : (yy_s (yy_s m (8 + 2 * r + 1) (m (8 + 2 * r) 4).toNat x2) (8 + 2 * r) 4 (m (8 + 2 * r) 4 + 1)) 75 = m 75 := by rw [yy_s_ne (by omega), yy_s_ne (by omega)]
      have X2 : xm_X (xm_old sc) xm_mt (99 + 1) 1152 [.inr (.inl (some 74)), .inl (r : Int), .inl x2] (yy_W (yy_s (yy_s m (8 + 2 * r + 1) (m (8 + 2 * r) 4).toNat x2) (8 + 2 * r) 4 (m (8 + 2 * r) 4 + 1)) t) = some (some (.inl (m 75 (48 + 18 * r) + 1)), yy_W (yy_c (yy_s (yy_s m (8 + 2 * r + 1) (m (8 + 2 * r) 4).toNat x2) (8 + 2 * r) 4 (m (8 + 2 * r) 4 + 1)) 75 (sg_aw (m 75) r x2)) t) := by
        refine xm_X_of (M := xm_m1152) rfl ⟨xm_EQ.eq (xb_1152_0 ?_), rfl, rfl, Nat.le_of_ble_eq_true rfl, yy_hd rfl (by decide)⟩
        have c50 : xm_X (xm_old sc) xm_mt (98 + 1) 1150 [.inr (.inl (some 74)), .inl (r : Int), .inl x2] (yy_W (yy_s (yy_s m (8 + 2 * r + 1) (m (8 + 2 * r) 4).toNat x2) (8 + 2 * r) 4 (m (8 + 2 * r) 4 + 1)) t) = some (some (.inl 0), yy_W (yy_s (yy_s m (8 + 2 * r + 1) (m (8 + 2 * r) 4).toNat x2) (8 + 2 * r) 4 (m (8 + 2 * r) 4 + 1)) t) := by
          refine xm_X_of (M := xm_m1150) rfl ⟨xm_EQ.eq (xb_1150_0 ?_), rfl, rfl, Nat.le_of_ble_eq_true rfl, yy_hd rfl (by decide)⟩
          rw [oc_1109 (d := 96) (by rw [f75]; omega) (by rw [f75]; omega), zz_t (by rw [f75]; omega), oc_1103 (d := 97), zz_t h.2, oc_1110_4 (d := 97) hr5, f75, if_neg (by omega)]
        rw [show (99 : Nat) = 98 + 1 from rfl, c50, xm_Oi_some, if_neg (by decide), oc_1151 (d := 97) hr5 (by rw [f75]; omega), oc_1110_4 (d := 98) hr5, yy_c_eq, f75, yy_u_eq]
        rfl
      exact yy_Ao X1 X2 (yy_I_aw hI hr5 h.2 hl) (by rw [yy_c_ne (by decide), yy_s_ne (by omega), yy_s_ne (by omega)]) rfl
    · have X1 : xm_X (xm_old sc) xm_mt (99 + 1) 108 [.inr (.inl (some 0)), .inl (r : Int), .inl x2] (yy_W m t) = some (some (.inl (-1000000004)), yy_W (yy_e m 4) t) := by
        refine xm_X_of (M := xm_m108) rfl ⟨xm_EQ.eq (xb_108_0 ?_), rfl, rfl, Nat.le_of_ble_eq_true rfl, yy_hd rfl (by decide)⟩
        rw [oc_141 (d := 97) (by omega) (by omega), zz_t h.1, oc_142 (d := 98), zz_t h.2, zr_0_0, zr_1_3, zq_3, zq_r1 (by omega) (by omega), er, oc_604 (d := 98) hq (by omega)]
        have g : ¬ m (8 + 2 * r) 4 < 12 := by omega
        rw [if_neg g, if_neg g, if_pos (rfl : (0 : Int) = 0), oc_139 (d := 98) (by decide) (by decide)]
        rfl
      have f : yy_e m 4 75 = m 75 := yy_e75 (by decide)
      have X2 : xm_X (xm_old sc) xm_mt (99 + 1) 1152 [.inr (.inl (some 74)), .inl (r : Int), .inl x2] (yy_W (yy_e m 4) t) = some (some (.inl (-1000000004)), yy_W (yy_f (yy_e m 4) 4) t) := by
        refine xm_X_of (M := xm_m1152) rfl ⟨xm_EQ.eq (xb_1152_0 ?_), rfl, rfl, Nat.le_of_ble_eq_true rfl, yy_hd rfl (by decide)⟩
        have c50 : xm_X (xm_old sc) xm_mt (98 + 1) 1150 [.inr (.inl (some 74)), .inl (r : Int), .inl x2] (yy_W (yy_e m 4) t) = some (some (.inl 4), yy_W (yy_e m 4) t) := by
          refine xm_X_of (M := xm_m1150) rfl ⟨xm_EQ.eq (xb_1150_0 ?_), rfl, rfl, Nat.le_of_ble_eq_true rfl, yy_hd rfl (by decide)⟩
          rw [oc_1109 (d := 96) (by rw [f]; omega) (by rw [f]; omega), zz_t (by rw [f]; omega), oc_1103 (d := 97), zz_t h.2, oc_1110_4 (d := 97) hr5, f, if_pos (by omega)]
        rw [show (99 : Nat) = 98 + 1 from rfl, c50, xm_Oi_some, if_pos (by decide), oc_1102 (d := 98) (by decide) (by decide)]
        rfl
      exact yy_Ao X1 X2 (yy_I_ef hI) yy_ef0 rfl
  · exact yy_Ao (f_108 (d := 96) (by omega) (by omega) h) (f_1152 (d := 96) (by rw [yy_e75 (by decide)]; omega) (by rw [yy_e75 (by decide)]; omega) (by rw [yy_e75 (by decide)]; rw [e0] at h; exact h)) (yy_I_ef hI) yy_ef0 rfl
end
section
/-! WHAT IS KEPT: image, restore; untell -/
set_option maxRecDepth 20000 in
theorem sg_G_q {s s' : Nat → Int} (h : ∀ k, k < 673 → s' k = s k) (hG : sg_G s) : sg_G s' :=
  ⟨sg_W_q (fun k hk => h k (by omega)) hG.1, by rw [h 1 (by omega)]; exact hG.2.1, by rw [h 4 (by omega)]; exact hG.2.2.1, by rw [h 5 (by omega)]; exact hG.2.2.2.1, fun k hk => by rw [h _ (by omega)]; exact hG.2.2.2.2 k hk⟩
set_option maxRecDepth 20000 in
theorem yy_DR_q {m m' : Nat → Nat → Int} {a : Nat} {s s' : Nat → Int} (hm : ∀ c, (c = a ∨ c = a + 1 ∨ c = a + 2) → m' c = m c) (h : ∀ k, k < 673 → s' k = s k) (hD : yy_DR m a s) : yy_DR m' a s' := by
  obtain ⟨a1, a2, a3, a4, a5⟩ := yy_DR_r hm hD
  exact ⟨by rw [h 4 (by omega)]; exact a1, by rw [h 5 (by omega)]; exact a2, by rw [h 6 (by omega)]; exact a3, fun k hk => by rw [h _ (by omega)]; exact a4 k hk, fun k hk => by rw [h _ (by omega)]; exact a5 k hk⟩
set_option maxRecDepth 20000 in
theorem yy_CD_DR {m m1 : Nat → Nat → Int} {a b : Nat} {s : Nat → Int} (hC : yy_CD m m1 a b) (hD : yy_DR m a s) : yy_DR m1 b s := by
  obtain ⟨g1, g2, g3, g4, g5⟩ := hC
  obtain ⟨a1, a2, a3, a4, a5⟩ := hD
  exact ⟨by rw [g1]; exact a1, by rw [g2]; exact a2, by rw [g3]; exact a3, fun k hk => by rw [g4 k hk]; exact a4 k hk, fun k hk => by rw [g5 k hk]; exact a5 k hk⟩
set_option maxRecDepth 20000 in
theorem a_133 {sc : List Int} {t : xm_W} {m : Nat → Nat → Int} (hI : yy_I t m) (hb : m 0 5 ≤ 1000000) : yy_A sc t m 133 1203 [] true := by
  obtain ⟨hG, hX, hR, hK, hS, hP⟩ := id hI
  obtain ⟨k1, k2, k3⟩ := id hK
  obtain ⟨m1, X1, f1, g0, hC, hD⟩ := c_133 (sc := sc) (d := 96) (t := t) (m := m) (yy_TX_tx hX.2.1) (yy_TX_tx hX.2.2) k2 hb
  have f74 : m1 74 = m 74 := f1 74 (by decide) (by decide)
  have f75 : m1 75 = m 75 := f1 75 (by decide) (by decide)
  have X2 := c_1203 (sc := sc) (d := 96) (t := t) (m := m1) (by rw [f74, ← k1]; exact k2) (by rw [f74, ← k1]; exact hb)
  have o : ∀ c, c ≠ 74 → c ≠ 76 → (c < 38 ∨ 58 ≤ c) → c ≠ 0 → yy_s (yy_c m1 76 (yy_cp (m1 75) (m1 76) 0 0 673)) 74 4 (m1 74 4 + 1) c = m c := fun c a b d e => by rw [yy_s_ne a, yy_c_ne b, f1 c d e]
  have o1 : ∀ c, c ≠ 74 → c ≠ 76 → yy_s (yy_c m1 76 (yy_cp (m1 75) (m1 76) 0 0 673)) 74 4 (m1 74 4 + 1) c = m1 c := fun c a b => by rw [yy_s_ne a, yy_c_ne b]
  have o76 : ∀ k, k < 673 → yy_s (yy_c m1 76 (yy_cp (m1 75) (m1 76) 0 0 673)) 74 4 (m1 74 4 + 1) 76 k = m 75 k := fun k hk => by rw [yy_s_ne (by decide), yy_c_eq, yy_cp0 hk, f75]
  have o74 : ∀ k, k ≠ 4 → yy_s (yy_c m1 76 (yy_cp (m1 75) (m1 76) 0 0 673)) 74 4 (m1 74 4 + 1) 74 k = m 74 k := fun k hk => by rw [yy_s_eq, yy_u_ne hk, yy_c_ne (by decide), f74]
  have o05 : yy_s (yy_c m1 76 (yy_cp (m1 75) (m1 76) 0 0 673)) 74 4 (m1 74 4 + 1) 0 5 = m 0 5 + 1 := by rw [o1 0 (by decide) (by decide), g0, if_pos rfl]
  have o744 : yy_s (yy_c m1 76 (yy_cp (m1 75) (m1 76) 0 0 673)) 74 4 (m1 74 4 + 1) 74 4 = m 74 4 + 1 := by rw [yy_s_eq, yy_u_eq, f74]
  refine ⟨_, _, _, _, _, X1, X2, ⟨?_, ?_, ?_, ⟨?_, ?_, fun _ => ⟨?_, ?_, ?_⟩⟩, ?_, ?_⟩, by omega, by omega, ?_, fun _ => ?_⟩
  · rw [o 75 (by decide) (by decide) (by decide) (by decide)]; exact hG
  · rw [o 75 (by decide) (by decide) (by decide) (by decide)]
    exact yy_MX_r (fun c hc => o c (by omega) (by omega) (by omega) (by omega)) hX
  · rw [o 75 (by decide) (by decide) (by decide) (by decide)]
    exact yy_DR_r (fun c hc => o c (by omega) (by omega) (by omega) (by omega)) hR
  · rw [o05, o744, k1]
  · rw [o05]; omega
  · exact sg_G_q o76 hG
  · exact yy_MX_q (sg_W_T hG.1) (fun k hk => o76 k (by omega)) (fun c hc => o1 c (by omega) (by omega)) (yy_CP_MX hC hX)
  · exact yy_DR_q (fun c hc => o1 c (by omega) (by omega)) o76 (yy_CD_DR hD hR)
  · exact yy_SH_r (fun c hc => o c (by omega) (by omega) (by omega) (by omega)) hS
  · unfold yy_SP
    rw [o74 3 (by decide), o74 15 (by decide), o 61 (by decide) (by decide) (by decide) (by decide)]; exact hP
  · rw [o05]; omega
  · rw [f74, k1]
set_option maxRecDepth 20000 in
theorem a_134 {sc : List Int} {t : xm_W} {m : Nat → Nat → Int} (hI : yy_I t m) : yy_A sc t m 134 1204 [] true := by
  obtain ⟨hG, hX, hR, hK, hS, hP⟩ := id hI
  obtain ⟨k1, k2, k3⟩ := id hK
  by_cases h : m 0 5 = 0
  · exact yy_Ao (f_134 (d := 96) h) (f_1204 (d := 96) (by rw [yy_e75 (by decide), ← k1]; exact h)) (yy_I_ef hI) yy_ef0 rfl
  · obtain ⟨kG, kX, kD⟩ := k3 (by omega)
    obtain ⟨m1, X1, f1, gC⟩ := c_402_38_1 (sc := sc) (d := 97) (t := t) (m := m) (yy_TX_tx kX.2.1) (yy_TX_tx kX.2.2)
    obtain ⟨m2, X2, f2, gD⟩ := c_302_55_35 (sc := sc) (d := 98) (t := t) (m := m1)
    have f : ∀ c, (c = 0 ∨ (18 ≤ c ∧ c < 35) ∨ 38 ≤ c) → m2 c = m c := fun c hc => by rw [f2 c (by omega), f1 c (by omega)]
    have M : yy_MX t m2 1 (m 76) := yy_MX_r (fun c hc => f2 c (by omega)) (yy_CP_MX gC kX)
    have D : yy_DR m2 35 (m 76) := yy_CD_DR gD (yy_DR_r (fun c hc => f1 c (by omega)) kD)
    have L1 : xm_X (xm_old sc) xm_mt (99 + 1) 134 [.inr (.inl (some 0))] (yy_W m t) = some (some (.inl (m2 1 2)), yy_W m2 t) := by
      refine xm_X_of (M := xm_m134) rfl ⟨xm_EQ.eq (xb_134_0 ?_), rfl, rfl, Nat.le_of_ble_eq_true rfl, yy_hd rfl (by decide)⟩
      simp (disch := first | omega | (unfold xm_w; omega)) only [↓zy_at, xm_O_some, xm_Oi_some, xm_Ov_some, xm_Oq_some, ↓reduceIte, ↓zz_t, ↓zz_f, ↓zi_t, ↓zi_f, eq_self, yy_d_0, Int.reduceEq, Int.reduceLT, Int.reduceLE, Int.reduceNe, Int.reduceToNat, Int.reduceAdd, Int.reduceSub, Int.reduceMul, Int.reduceNeg, Nat.reduceAdd, Nat.reduceMul, Nat.reduceSub, Nat.reduceEqDiff, Nat.reduceLT, ne_eq, not_false_eq_true, not_true_eq_false, true_and, and_true, and_self, yy_s_eq, yy_s_ne, yy_c_eq, yy_c_ne, yy_u_eq, yy_u_ne, xm_w_id, yy_at, tdiv_pos, tmod_pos, ↓zr_0_0, ↓zr_0_1, ↓zr_0_2, ↓zr_0_3, ↓zr_0_4, ↓zf_0_5, ↓zs_0_5, ↓zr_0_6, ↓zr_0_7, ↓zr_0_8, ↓zr_0_9, ↓zr_0_10]
      rw [X1]
      simp (disch := first | omega | (unfold xm_w; omega)) only [↓zy_at, xm_O_some, xm_Oi_some, xm_Ov_some, xm_Oq_some, ↓reduceIte, ↓zz_t, ↓zz_f, ↓zi_t, ↓zi_f, eq_self, yy_d_0, Int.reduceEq, Int.reduceLT, Int.reduceLE, Int.reduceNe, Int.reduceToNat, Int.reduceAdd, Int.reduceSub, Int.reduceMul, Int.reduceNeg, Nat.reduceAdd, Nat.reduceMul, Nat.reduceSub, Nat.reduceEqDiff, Nat.reduceLT, ne_eq, not_false_eq_true, not_true_eq_false, true_and, and_true, and_self, yy_s_eq, yy_s_ne, yy_c_eq, yy_c_ne, yy_u_eq, yy_u_ne, xm_w_id, yy_at, tdiv_pos, tmod_pos, ↓zr_0_0, ↓zr_0_1, ↓zr_0_2, ↓zr_0_3, ↓zr_0_4, ↓zf_0_5, ↓zs_0_5, ↓zr_0_6, ↓zr_0_7, ↓zr_0_8, ↓zr_0_9, ↓zr_0_10]
      rw [X2]
      simp (disch := first | omega | (unfold xm_w; omega)) only [↓zy_at, xm_O_some, xm_Oi_some, xm_Ov_some, xm_Oq_some, ↓reduceIte, ↓zz_t, ↓zz_f, ↓zi_t, ↓zi_f, eq_self, yy_d_0, Int.reduceEq, Int.reduceLT, Int.reduceLE, Int.reduceNe, Int.reduceToNat, Int.reduceAdd, Int.reduceSub, Int.reduceMul, Int.reduceNeg, Nat.reduceAdd, Nat.reduceMul, Nat.reduceSub, Nat.reduceEqDiff, Nat.reduceLT, ne_eq, not_false_eq_true, not_true_eq_false, true_and, and_true, and_self, yy_s_eq, yy_s_ne, yy_c_eq, yy_c_ne, yy_u_eq, yy_u_ne, xm_w_id, yy_at, tdiv_pos, tmod_pos, ↓zr_0_0, ↓zr_0_1, ↓zr_0_2, ↓zr_0_3, ↓zr_0_4, ↓zf_0_5, ↓zs_0_5, ↓zr_0_6, ↓zr_0_7, ↓zr_0_8, ↓zr_0_9, ↓zr_0_10, ↓zr_1_0, ↓zf_1_1, ↓zs_1_1, ↓zf_1_2, ↓zs_1_2, ↓zr_1_3, ↓zf_1_4, ↓zs_1_4, ↓zr_1_5, ↓zf_1_6, ↓zs_1_6, ↓zr_1_7, ↓zr_1_8, ↓zr_1_9]
    have L2 : xm_X (xm_old sc) xm_mt (99 + 1) 1204 [.inr (.inl (some 74))] (yy_W m2 t) = some (some (.inl (m2 76 1)), yy_W (yy_c m2 75 (yy_cp (m2 76) (m2 75) 0 0 673)) t) := by
      refine xm_X_of (M := xm_m1204) rfl ⟨xm_EQ.eq (xb_1204_0 ?_), rfl, rfl, Nat.le_of_ble_eq_true rfl, yy_hd rfl (by decide)⟩
      have e4 : m2 74 4 = m 0 5 := by rw [f 74 (by omega), ← k1]
      simp (disch := first | omega | (unfold xm_w; omega)) only [↓zy_at, xm_O_some, xm_Oi_some, xm_Ov_some, xm_Oq_some, ↓reduceIte, ↓zz_t, ↓zz_f, ↓zi_t, ↓zi_f, eq_self, yy_d_0, Int.reduceEq, Int.reduceLT, Int.reduceLE, Int.reduceNe, Int.reduceToNat, Int.reduceAdd, Int.reduceSub, Int.reduceMul, Int.reduceNeg, Nat.reduceAdd, Nat.reduceMul, Nat.reduceSub, Nat.reduceEqDiff, Nat.reduceLT, ne_eq, not_false_eq_true, not_true_eq_false, true_and, and_true, and_self, yy_s_eq, yy_s_ne, yy_c_eq, yy_c_ne, yy_u_eq, yy_u_ne, xm_w_id, yy_at, tdiv_pos, tmod_pos, ↓zr_74_0, ↓zr_74_1, ↓zr_74_2, ↓zf_74_3, ↓zs_74_3, ↓zf_74_4, ↓zs_74_4, ↓zr_74_5, ↓zf_74_6, ↓zs_74_6, ↓zf_74_7, ↓zs_74_7, ↓zf_74_8, ↓zs_74_8, ↓zf_74_9, ↓zs_74_9, ↓zr_74_10, ↓zr_74_11, ↓zr_74_12, ↓zf_74_13, ↓zs_74_13, ↓zr_74_14, ↓zf_74_15, ↓zs_74_15, ↓zf_74_16, ↓zs_74_16, ↓zf_74_17, ↓zs_74_17, ↓zr_74_18, ↓zr_74_19, ↓zr_74_20, ↓zr_74_21, e4]
      rw [oc_1105_76_75 (d := 98)]
      simp (disch := first | omega | (unfold xm_w; omega)) only [↓zy_at, xm_O_some, xm_Oi_some, xm_Ov_some, xm_Oq_some, ↓reduceIte, ↓zz_t, ↓zz_f, ↓zi_t, ↓zi_f, eq_self, yy_d_0, Int.reduceEq, Int.reduceLT, Int.reduceLE, Int.reduceNe, Int.reduceToNat, Int.reduceAdd, Int.reduceSub, Int.reduceMul, Int.reduceNeg, Nat.reduceAdd, Nat.reduceMul, Nat.reduceSub, Nat.reduceEqDiff, Nat.reduceLT, ne_eq, not_false_eq_true, not_true_eq_false, true_and, and_true, and_self, yy_s_eq, yy_s_ne, yy_c_eq, yy_c_ne, yy_u_eq, yy_u_ne, xm_w_id, yy_at, tdiv_pos, tmod_pos, ↓zr_74_0, ↓zr_74_1, ↓zr_74_2, ↓zf_74_3, ↓zs_74_3, ↓zf_74_4, ↓zs_74_4, ↓zr_74_5, ↓zf_74_6, ↓zs_74_6, ↓zf_74_7, ↓zs_74_7, ↓zf_74_8, ↓zs_74_8, ↓zf_74_9, ↓zs_74_9, ↓zr_74_10, ↓zr_74_11, ↓zr_74_12, ↓zf_74_13, ↓zs_74_13, ↓zr_74_14, ↓zf_74_15, ↓zs_74_15, ↓zf_74_16, ↓zs_74_16, ↓zf_74_17, ↓zs_74_17, ↓zr_74_18, ↓zr_74_19, ↓zr_74_20, ↓zr_74_21, ↓zi_75, ↓zt_75]
      rw [yy_cp0 (by decide)]
    have o75 : ∀ k, k < 673 → yy_c m2 75 (yy_cp (m2 76) (m2 75) 0 0 673) 75 k = m 76 k := fun k hk => by rw [yy_c_eq, yy_cp0 hk, f 76 (by omega)]
    have o : ∀ c, c ≠ 75 → yy_c m2 75 (yy_cp (m2 76) (m2 75) 0 0 673) c = m2 c := fun c hc => yy_c_ne hc
    refine yy_Ao L1 L2 (yy_I_75 hI (sg_G_q o75 kG) (yy_MX_q (sg_W_T kG.1) (fun k hk => o75 k (by omega)) (fun c hc => o c (by omega)) M) (yy_DR_q (fun c hc => o c (by omega)) o75 D) (fun c hc a b d e => ?_)) ?_ ?_
    · rw [o c e, f c (by omega)]
    · rw [o 0 (by decide), f 0 (by omega)]
    · rw [M.1.2.1, f 76 (by omega)]
set_option maxRecDepth 20000 in
theorem sg_R_q2 {s s' : Nat → Int} (h : ∀ k, (k < 4 ∨ (8 ≤ k ∧ k < 134)) → s' k = s k) (hR : sg_R s) : sg_R s' := by
  obtain ⟨a0, a1, a2, a3, a4, a5⟩ := hR
  refine ⟨by rw [h 0 (by omega)]; exact a0, by rw [h 1 (by omega)]; exact a1, by rw [h 2 (by omega)]; exact a2, by rw [h 3 (by omega)]; exact a3, fun k hk => by rw [h _ (by omega)]; exact a4 k hk, fun i hi => ?_⟩
  obtain ⟨b0, b1, b2, b3, b4, b5, b6⟩ := a5 i hi
  rw [h _ (by omega), h _ (by omega), h _ (by omega), h _ (by omega), h _ (by omega), h _ (by omega)]
  exact ⟨b0, b1, b2, b3, b4, b5, fun k hk => by rw [h _ (by omega)]; exact b6 k hk⟩
set_option maxRecDepth 20000 in
theorem sg_W_qT {s s' : Nat → Int} {r : Int} (h : ∀ k, (k < 4 ∨ (8 ≤ k ∧ k < 339)) → s' k = s k) (T0 : sg_T s' 0) (T1 : sg_T s' 1) (hW : sg_W s r) : sg_W s' r := by
  obtain ⟨hR, hO, hS, -, -⟩ := hW
  have h3 := hR.2.2.2.1
  have e3 : s' 3 = s 3 := h _ (by omega)
  have e1 : s' 1 = s 1 := h _ (by omega)
  have ep : ∀ i w : Nat, (i : Int) < s 3 → w < 5 → sg_p s' i w = sg_p s i w := fun i w hi hw => h _ (by omega)
  refine ⟨sg_R_q2 (fun k hk => h k (by omega)) hR, ⟨fun i hi => ?_, fun i j hij hj => ?_⟩, fun i hi => ?_, T0, T1⟩
  · rw [e3] at hi
    have := hO.1 i hi
    unfold sg_E at this ⊢
    rw [ep i 0 hi (by decide), ep i 1 hi (by decide), ep i 2 hi (by decide), ep i 3 hi (by decide), ep i 4 hi (by decide), e1]; exact this
  · rw [e3] at hj
    have := hO.2 i j hij hj
    unfold sg_lt at this ⊢
    rw [ep i 3 (by omega) (by decide), ep i 4 (by omega) (by decide), ep j 3 hj (by decide), ep j 4 hj (by decide)]; exact this
  · rw [e3] at hi
    have := hS i hi
    have c := (hO.1 i hi).1.1
    rw [ep i 3 hi (by decide), ep i 0 hi (by decide), e1, sg_k_eq (h 2 (by omega)) (h _ (by omega))]
    exact this
set_option maxRecDepth 20000 in
theorem yy_MR_q {m m' : Nat → Nat → Int} {b : Nat} {s s' : Nat → Int} (h : ∀ k, (k < 4 ∨ (8 ≤ k ∧ k < 339)) → s' k = s k) (hm : ∀ c, (c = b ∨ c = b + 1 ∨ c = b + 3 ∨ (b + 7 ≤ c ∧ c < b + 17)) → m' c = m c) (hM : yy_MR m b s) : yy_MR m' b s' := by
  obtain ⟨e1, e2, e3, e4, e5, e6, e7⟩ := yy_MR_fr hm hM
  exact ⟨by rw [h 2 (by omega)]; exact e1, by rw [h 1 (by omega)]; exact e2, by rw [h 0 (by omega)]; exact e3, by rw [h 3 (by omega)]; exact e4, fun k hk => by rw [h _ (by omega)]; exact e5 k hk, fun k hk => by rw [h _ (by omega)]; exact e6 k hk, fun i hi => ⟨fun k hk => by rw [h _ (by omega)]; exact (e7 i hi).1 k hk, fun k hk => by rw [h _ (by omega)]; exact (e7 i hi).2 k hk⟩⟩
/-! an act on a text (and on the desk) -/
set_option maxRecDepth 20000 in
theorem yy_I_tx {t : xm_W} {m m' : Nat → Nat → Int} (hI : yy_I t m) (T : ∀ v, v < 2 → sg_T (m' 75) v) (X : ∀ v, v < 2 → yy_TX t (m' 75) v (m' 5 v)) (hD : sg_D (m' 75)) (hR : yy_DR m' 35 (m' 75)) (h75 : ∀ k, (k < 4 ∨ (8 ≤ k ∧ k < 339)) → m' 75 k = m 75 k) (h : ∀ c, c < 87 → ¬ yy_no c → ¬ (35 ≤ c ∧ c < 38) → c ≠ 5 → c ≠ 75 → m' c = m c) : yy_I t m' := by
  obtain ⟨⟨hW, h1, -⟩, hX, -⟩ := id hI
  exact yy_I_75 hI ⟨sg_W_qT h75 (T 0 (by decide)) (T 1 (by decide)) hW, by rw [h75 1 (by omega)]; exact h1, hD⟩ ⟨yy_MR_q h75 (fun c hc => h c (by omega) (by unfold yy_no; omega) (by omega) (by omega) (by omega)) hX.1, X 0 (by decide), X 1 (by decide)⟩ hR (fun c hc h1 h2 h3 h4 => h c hc h1 h3 (by omega) h4)
/-! the cells of the texts may grow -/
set_option maxRecDepth 20000 in
theorem yy_I_t {t t' : xm_W} {m : Nat → Nat → Int} (h : ∀ (a : Nat) c, t[a]? = some c → t'[a]? = some c) (hI : yy_I t m) : yy_I t' m := by
  have x : ∀ s u z, yy_TX t s u z → yy_TX t' s u z := by
    intro s u z hX
    rcases hX with hX | ⟨h0, a, a', e, c1, c2⟩
    · exact Or.inl hX
    · exact Or.inr ⟨h0, a, a', e, h _ _ c1, h _ _ c2⟩
  have y : ∀ b s, yy_MX t m b s → yy_MX t' m b s := fun b s hM => ⟨hM.1, x _ _ _ hM.2.1, x _ _ _ hM.2.2⟩
  obtain ⟨a, b, c, ⟨k1, k2, k3⟩, e, f⟩ := hI
  exact ⟨a, y _ _ b, c, ⟨k1, k2, fun hp => ⟨(k3 hp).1, y _ _ (k3 hp).2.1, (k3 hp).2.2⟩⟩, e, f⟩
/-! one text changes: the other's steps stay -/
set_option maxRecDepth 20000 in
theorem sg_T_x {s s' : Nat → Int} {v : Nat} (h : ∀ k, 339 + 125 * v ≤ k → k < 464 + 125 * v → s' k = s k) (hT : sg_T s v) : sg_T s' v := by
  have b := hT.1
  have tn : sg_tn s' v = sg_tn s v := h _ (by omega) (by omega)
  have tw : ∀ k : Nat, k < 60 → sg_tw s' v k = sg_tw s v k := fun k hk => h _ (by omega) (by omega)
  have tv : ∀ k : Nat, k < 60 → sg_tv s' v k = sg_tv s v k := fun k hk => h _ (by omega) (by omega)
  have td : ∀ k : Nat, k ≤ 60 → sg_d s' v k = sg_d s v k := by
    intro k
    induction k with
    | zero => intro _; rfl
    | succ k ih => intro hk; unfold sg_d; rw [ih (by omega), tw k (by omega)]
  refine ⟨by rw [tn]; exact b, fun h => ?_, fun k hk => ?_⟩
  · rw [tn] at h ⊢; rw [td _ (by omega)]; exact hT.2.1 h
  · rw [tn] at hk
    have := hT.2.2 k hk
    unfold sg_tok at this ⊢
    rw [tw k (by omega), tv k (by omega), td k (by omega)]; exact this
set_option maxRecDepth 20000 in
theorem yy_TX_x {t : xm_W} {s s' : Nat → Int} {v : Nat} {z : Int} (h : ∀ k, 339 + 125 * v ≤ k → k < 464 + 125 * v → s' k = s k) (hs : sg_tn s v ≤ 60) (hX : yy_TX t s v z) : yy_TX t s' v z := by
  have tn : sg_tn s' v = sg_tn s v := h _ (by omega) (by omega)
  have tw : ∀ k : Nat, k < 60 → sg_tw s' v k = sg_tw s v k := fun k hk => h _ (by omega) (by omega)
  have tv : ∀ k : Nat, k < 60 → sg_tv s' v k = sg_tv s v k := fun k hk => h _ (by omega) (by omega)
  rcases hX with hX | ⟨h0, a, a', e, c1, c2⟩
  · exact Or.inl ⟨by rw [tn]; exact hX.1, hX.2⟩
  · refine Or.inr ⟨by rw [tn]; exact h0, a, a', e, c1, ?_⟩
    rw [c2, tn]
    have : yy_R (sg_tn s v).toNat (sg_sg s v) = yy_R (sg_tn s v).toNat (sg_sg s' v) := yy_R_ext (yy_R_len) fun k hk => by
      rw [yy_R_get hk]
      unfold sg_sg
      rw [tw k (by omega), tv k (by omega)]
    rw [this]
set_option maxRecDepth 20000 in
theorem a_112 {sc : List Int} {t : xm_W} {m : Nat → Nat → Int} {x1 : Int} (hI : yy_I t m) : yy_A sc t m 112 1127 [.inl x1] true := by
  by_cases h : 0 ≤ x1 ∧ x1 ≤ 1
  · obtain ⟨u, rfl⟩ : ∃ u : Nat, x1 = u := ⟨x1.toNat, by omega⟩
    obtain ⟨hG, hX, hR, hK, hS, hP⟩ := id hI
    have X1 := c_112 (sc := sc) (d := 96) (t := t) (m := m) h
    have X2 := c_1127 (sc := sc) (d := 96) (t := t) (m := yy_s m 5 ((u : Int)).toNat 0) h
    have f75 : yy_s m 5 ((u : Int)).toNat 0 75 = m 75 := yy_s_ne (by decide)
    have eu : (339 + 125 * (u : Int)).toNat = 339 + 125 * u := by omega
    rw [f75, eu] at X2
    rw [Int.toNat_natCast] at X1 X2
    have e75 : yy_s (yy_s m 5 u 0) 75 (339 + 125 * u) 0 75 = yy_u (m 75) (339 + 125 * u) 0 := by rw [yy_s_eq, yy_s_ne (by decide)]
    have o : ∀ k, k ≠ 339 + 125 * u → yy_u (m 75) (339 + 125 * u) 0 k = m 75 k := fun k hk => yy_u_ne hk
    have t0 : ∀ v, v < 2 → sg_T (m 75) v := fun v hv => by
      rcases (show v = 0 ∨ v = 1 by omega) with e | e <;> subst e
      · exact hG.1.2.2.2.1
      · exact hG.1.2.2.2.2
    have x0 : ∀ v, v < 2 → yy_TX t (m 75) v (m 5 v) := fun v hv => by
      rcases (show v = 0 ∨ v = 1 by omega) with e | e <;> subst e
      · exact hX.2.1
      · exact hX.2.2
    have z : sg_tn (yy_u (m 75) (339 + 125 * u) 0) u = 0 := yy_u_eq
    refine yy_Ao X1 X2 (yy_I_tx hI (fun v hv => ?_) (fun v hv => ?_) ?_ ?_ (fun k hk => ?_) (fun c hc a b e f => ?_)) ?_ ?_
    · rw [e75]
      by_cases e : v = u
      · subst e; exact ⟨by rw [z]; decide, by rw [z]; omega, fun k hk => by rw [z] at hk; omega⟩
      · exact sg_T_x (fun k h1 h2 => o k (by omega)) (t0 v hv)
    · rw [e75, yy_s_ne (by decide), yy_s_eq]
      by_cases e : v = u
      · subst e; rw [yy_u_eq]; exact Or.inl ⟨z, rfl⟩
      · rw [yy_u_ne e]; exact yy_TX_x (fun k h1 h2 => o k (by omega)) (t0 v hv).1.2 (x0 v hv)
    · rw [e75]; exact sg_D_eq (o _ (by omega)) (o _ (by omega)) (fun k hk => o k (by omega)) hG.2.2
    · rw [e75]; exact yy_DR_eq (fun c hc => by rw [yy_s_ne (by omega), yy_s_ne (by omega)]) (o _ (by omega)) (o _ (by omega)) (o _ (by omega)) (fun k hk => o k (by omega)) hR
    · rw [e75]; exact o k (by omega)
    · rw [yy_s_ne f, yy_s_ne e]
    · rw [yy_s_ne (by decide), yy_s_ne (by decide)]
    · rcases x0 u (by omega) with ⟨a, b⟩ | ⟨a, c, c', b, -⟩
      · rw [if_pos b, if_neg (by show ¬ 0 < sg_tn (m 75) u; omega)]
      · rw [if_neg (by rw [b]; intro h; cases h), if_pos (by exact a)]
  · exact r_112 hI h
end
section
/-! FEED: the bytes of both sides -/
set_option maxRecDepth 20000 in
theorem sp_255 {w j : Nat} (hw : 8 ≤ w) (hj : j < w) : (255#w).getLsbD j = decide (j < 8) := by
  rw [BitVec.getLsbD_ofNat]
  rw [show (255 : Nat) = 2 ^ 8 - 1 from rfl, Nat.testBit_two_pow_sub_one]
  simp only [hj, decide_true, Bool.true_and]
set_option maxRecDepth 20000 in
theorem sp_byte {x : BitVec 64} {n : Nat} (hn : n + 8 ≤ 64) : ((x.sshiftRight n) &&& 255#64).signExtend 32 = ((x >>> n).signExtend 32) &&& 255#32 := by
  apply BitVec.eq_of_getLsbD_eq
  intro j hj
  rw [BitVec.getLsbD_signExtend, BitVec.getLsbD_and, BitVec.getLsbD_and, BitVec.getLsbD_signExtend, sp_255 (by decide) hj, if_pos (by omega), sp_255 (by decide) (by omega), if_pos (by omega), BitVec.getLsbD_sshiftRight, BitVec.getLsbD_ushiftRight]
  by_cases h : j < 8
  · rw [if_pos (by omega)]
    simp only [hj, h, decide_true, Bool.true_and, Bool.and_true]
    rw [decide_eq_false (by omega)]; rfl
  · simp only [h, decide_false, Bool.and_false]
set_option maxRecDepth 20000 in
theorem sp_b255 {v : Int} : 0 ≤ xm_and v 255 ∧ xm_and v 255 ≤ 255 := by
  unfold xm_and
  show 0 ≤ (Int32.ofInt v &&& Int32.ofInt 255).toBitVec.toInt ∧ (Int32.ofInt v &&& Int32.ofInt 255).toBitVec.toInt ≤ 255
  rw [Int32.toBitVec_and]
  have e : (Int32.ofInt 255).toBitVec = 255#32 := by decide
  have : ((Int32.ofInt v).toBitVec &&& (Int32.ofInt 255).toBitVec).toNat ≤ 255 := by
    rw [e, BitVec.toNat_and]; exact Nat.and_le_right
  rw [BitVec.toInt_eq_toNat_of_lt (by omega)]
  omega
set_option maxRecDepth 20000 in
theorem sp_sh8 {x : Int64} (k : Nat) (hk : k < 8) : (xm_lshr x (8 * (k : Int))).toBitVec = x.toBitVec.sshiftRight (8 * k) ∧ (xm_lushr x (8 * (k : Int))).toBitVec = x.toBitVec >>> (8 * k) := by
  rcases (show k = 0 ∨ k = 1 ∨ k = 2 ∨ k = 3 ∨ k = 4 ∨ k = 5 ∨ k = 6 ∨ k = 7 by omega) with e | e | e | e | e | e | e | e <;> subst e
  · exact ⟨by unfold xm_lshr; rw [show ((Int32.ofInt (8 * ((0 : Nat) : Int))).toInt64 &&& 63) = 0 from by decide]; rfl, by unfold xm_lushr; rw [show ((Int32.ofInt (8 * ((0 : Nat) : Int))).toInt64.toUInt64 &&& Int64.toUInt64 63) = 0 from by decide]; rfl⟩
  · exact ⟨by unfold xm_lshr; rw [show ((Int32.ofInt (8 * ((1 : Nat) : Int))).toInt64 &&& 63) = 8 from by decide]; rfl, by unfold xm_lushr; rw [show ((Int32.ofInt (8 * ((1 : Nat) : Int))).toInt64.toUInt64 &&& Int64.toUInt64 63) = 8 from by decide]; rfl⟩
  · exact ⟨by unfold xm_lshr; rw [show ((Int32.ofInt (8 * ((2 : Nat) : Int))).toInt64 &&& 63) = 16 from by decide]; rfl, by unfold xm_lushr; rw [show ((Int32.ofInt (8 * ((2 : Nat) : Int))).toInt64.toUInt64 &&& Int64.toUInt64 63) = 16 from by decide]; rfl⟩
  · exact ⟨by unfold xm_lshr; rw [show ((Int32.ofInt (8 * ((3 : Nat) : Int))).toInt64 &&& 63) = 24 from by decide]; rfl, by unfold xm_lushr; rw [show ((Int32.ofInt (8 * ((3 : Nat) : Int))).toInt64.toUInt64 &&& Int64.toUInt64 63) = 24 from by decide]; rfl⟩
  · exact ⟨by unfold xm_lshr; rw [show ((Int32.ofInt (8 * ((4 : Nat) : Int))).toInt64 &&& 63) = 32 from by decide]; rfl, by unfold xm_lushr; rw [show ((Int32.ofInt (8 * ((4 : Nat) : Int))).toInt64.toUInt64 &&& Int64.toUInt64 63) = 32 from by decide]; rfl⟩
  · exact ⟨by unfold xm_lshr; rw [show ((Int32.ofInt (8 * ((5 : Nat) : Int))).toInt64 &&& 63) = 40 from by decide]; rfl, by unfold xm_lushr; rw [show ((Int32.ofInt (8 * ((5 : Nat) : Int))).toInt64.toUInt64 &&& Int64.toUInt64 63) = 40 from by decide]; rfl⟩
  · exact ⟨by unfold xm_lshr; rw [show ((Int32.ofInt (8 * ((6 : Nat) : Int))).toInt64 &&& 63) = 48 from by decide]; rfl, by unfold xm_lushr; rw [show ((Int32.ofInt (8 * ((6 : Nat) : Int))).toInt64.toUInt64 &&& Int64.toUInt64 63) = 48 from by decide]; rfl⟩
  · exact ⟨by unfold xm_lshr; rw [show ((Int32.ofInt (8 * ((7 : Nat) : Int))).toInt64 &&& 63) = 56 from by decide]; rfl, by unfold xm_lushr; rw [show ((Int32.ofInt (8 * ((7 : Nat) : Int))).toInt64.toUInt64 &&& Int64.toUInt64 63) = 56 from by decide]; rfl⟩
set_option maxRecDepth 20000 in
theorem sp_fb {x : Int64} {i : Int} (h0 : 0 ≤ i) (h1 : i < 8) : ((xm_lshr x (8 * i)) &&& (Int64.ofInt 255)).toInt32.toInt = yy_by x i := by
  obtain ⟨k, rfl⟩ : ∃ k : Nat, i = k := ⟨i.toNat, by omega⟩
  obtain ⟨s1, s2⟩ := sp_sh8 (x := x) k (by omega)
  unfold yy_by xm_and
  rw [Int32.ofInt_toInt]
  congr 1
  apply Int32.toBitVec_inj.mp
  rw [Int32.toBitVec_and]
  have e : (Int32.ofInt 255).toBitVec = 255#32 := by decide
  have e2 : (Int64.ofInt 255).toBitVec = 255#64 := by decide
  rw [e]
  show BitVec.signExtend 32 (xm_lshr x (8 * (k : Int)) &&& Int64.ofInt 255).toBitVec = BitVec.signExtend 32 (xm_lushr x (8 * (k : Int))).toBitVec &&& 255#32
  rw [Int64.toBitVec_and, e2, s1, s2]
  exact sp_byte (by omega)
/-! the reference's loop -/
set_option maxRecDepth 20000 in
theorem l_1114 {sc : List Int} {d : Nat} {t : xm_W} {Q : Option xm_V × xm_W → Prop} {n : Int} {x1 : Int64} {u2 : Option xm_V} : ∀ (k : Nat) (m : Nat → Nat → Int) (i L : Int), n - i = k → m 75 4 = L → 0 ≤ L → L + k ≤ 60 → 0 ≤ i → n ≤ 8 → (∀ m', (∀ c, c ≠ 75 → m' c = m c) ∧ (∀ q : Nat, m' 75 q = if q = 4 then L + k else if 589 + L ≤ q ∧ (q : Int) < 589 + L + k then yy_by x1 (i + (q - (589 + L))) else m 75 q) → Q ((some (.inl (L + k)), (yy_W (m') t)))) → xm_EQ (xm_old sc) xm_sta (xm_X (xm_old sc) xm_mt (d + 1)) xm_c1114 23 [some (.inr (.inl (some 74))), some (.inr (.inr x1)), u2, some (.inl (n)), some (.inl (i))] [] (yy_W (m) t) Q
  | 0, m, i, L, hk, hL, h, h1, h2, h3, hQ => by
    refine xb_1114_23 ?_
    simp (disch := first | omega | (unfold xm_w; omega)) only [↓zy_at, xm_O_some, xm_Oi_some, xm_Ov_some, xm_Oq_some, ↓reduceIte, ↓zz_t, ↓zz_f, ↓zi_t, ↓zi_f, eq_self, yy_d_0, Int.reduceEq, Int.reduceLT, Int.reduceLE, Int.reduceNe, Int.reduceToNat, Int.reduceAdd, Int.reduceSub, Int.reduceMul, Int.reduceNeg, Nat.reduceAdd, Nat.reduceMul, Nat.reduceSub, Nat.reduceEqDiff, Nat.reduceLT, ne_eq, not_false_eq_true, not_true_eq_false, true_and, and_true, and_self, yy_s_eq, yy_s_ne, yy_c_eq, yy_c_ne, yy_u_eq, yy_u_ne, xm_w_id, yy_at, tdiv_pos, tmod_pos, ↓zr_74_0, ↓zr_74_1, ↓zr_74_2, ↓zf_74_3, ↓zs_74_3, ↓zf_74_4, ↓zs_74_4, ↓zr_74_5, ↓zf_74_6, ↓zs_74_6, ↓zf_74_7, ↓zs_74_7, ↓zf_74_8, ↓zs_74_8, ↓zf_74_9, ↓zs_74_9, ↓zr_74_10, ↓zr_74_11, ↓zr_74_12, ↓zf_74_13, ↓zs_74_13, ↓zr_74_14, ↓zf_74_15, ↓zs_74_15, ↓zf_74_16, ↓zs_74_16, ↓zf_74_17, ↓zs_74_17, ↓zr_74_18, ↓zr_74_19, ↓zr_74_20, ↓zr_74_21, ↓zi_75, ↓zt_75]
    have := hQ m ⟨fun c _ => rfl, fun q => ?_⟩
    · rw [show L + ((0 : Nat) : Int) = L by omega] at this
      rw [hL]
      exact this
    · split
      · rename_i e; rw [e, hL]; omega
      · rw [if_neg (by omega)]
  | k + 1, m, i, L, hk, hL, h, h1, h2, h3, hQ => by
    refine xb_1114_23 ?_
    rw [if_pos (by omega)]
    simp (disch := first | omega | (unfold xm_w; omega)) only [↓zy_at, xm_O_some, xm_Oi_some, xm_Ov_some, xm_Oq_some, ↓reduceIte, ↓zz_t, ↓zz_f, ↓zi_t, ↓zi_f, eq_self, yy_d_0, Int.reduceEq, Int.reduceLT, Int.reduceLE, Int.reduceNe, Int.reduceToNat, Int.reduceAdd, Int.reduceSub, Int.reduceMul, Int.reduceNeg, Nat.reduceAdd, Nat.reduceMul, Nat.reduceSub, Nat.reduceEqDiff, Nat.reduceLT, ne_eq, not_false_eq_true, not_true_eq_false, true_and, and_true, and_self, yy_s_eq, yy_s_ne, yy_c_eq, yy_c_ne, yy_u_eq, yy_u_ne, xm_w_id, yy_at, tdiv_pos, tmod_pos, ↓zr_74_0, ↓zr_74_1, ↓zr_74_2, ↓zf_74_3, ↓zs_74_3, ↓zf_74_4, ↓zs_74_4, ↓zr_74_5, ↓zf_74_6, ↓zs_74_6, ↓zf_74_7, ↓zs_74_7, ↓zf_74_8, ↓zs_74_8, ↓zf_74_9, ↓zs_74_9, ↓zr_74_10, ↓zr_74_11, ↓zr_74_12, ↓zf_74_13, ↓zs_74_13, ↓zr_74_14, ↓zf_74_15, ↓zs_74_15, ↓zf_74_16, ↓zs_74_16, ↓zf_74_17, ↓zs_74_17, ↓zr_74_18, ↓zr_74_19, ↓zr_74_20, ↓zr_74_21, ↓zi_75, ↓zt_75, hL]
    rw [sp_fb h2 (by omega)]
    refine l_1114 k _ (i + 1) (L + 1) (by omega) ?_ (by omega) (by omega) (by omega) h3 (fun m' ⟨h4, h5⟩ => ?_)
    · simp (disch := first | omega | (unfold xm_w; omega)) only [↓zy_at, xm_O_some, xm_Oi_some, xm_Ov_some, xm_Oq_some, ↓reduceIte, ↓zz_t, ↓zz_f, ↓zi_t, ↓zi_f, eq_self, yy_d_0, Int.reduceEq, Int.reduceLT, Int.reduceLE, Int.reduceNe, Int.reduceToNat, Int.reduceAdd, Int.reduceSub, Int.reduceMul, Int.reduceNeg, Nat.reduceAdd, Nat.reduceMul, Nat.reduceSub, Nat.reduceEqDiff, Nat.reduceLT, ne_eq, not_false_eq_true, not_true_eq_false, true_and, and_true, and_self, yy_s_eq, yy_s_ne, yy_c_eq, yy_c_ne, yy_u_eq, yy_u_ne, xm_w_id, yy_at, tdiv_pos, tmod_pos]
    · rw [show L + 1 + (k : Int) = L + ((k + 1 : Nat) : Int) by omega]
      refine hQ m' ⟨fun c c1 => ?_, fun q => ?_⟩
      · rw [h4 c c1, yy_s_ne c1, yy_s_ne c1]
      · rw [h5]
        by_cases e : q = 4
        · rw [if_pos e, if_pos e]; omega
        · rw [if_neg e, if_neg e, yy_s_eq, yy_u_ne e, yy_s_eq]
          by_cases e2 : (q : Int) = 589 + L
          · rw [if_neg (by omega), if_pos (by omega), show i + ((q : Int) - (589 + L)) = i by omega, show q = (589 + L).toNat by omega, yy_u_eq]
          · rw [yy_u_ne (by omega)]
            by_cases e3 : 589 + L ≤ q ∧ (q : Int) < 589 + L + ((k + 1 : Nat) : Int)
            · rw [if_pos (by omega), if_pos e3, show i + 1 + ((q : Int) - (589 + (L + 1))) = i + ((q : Int) - (589 + L)) by omega]
            · rw [if_neg (by omega), if_neg e3]
set_option maxRecDepth 20000 in
theorem c_1114b {sc : List Int} {d : Nat} {t : xm_W} {m : Nat → Nat → Int} {x1 : Int64} {n : Int} (h : 1 ≤ n ∧ n ≤ 8) (h1 : 0 ≤ m 75 4) (h2 : m 75 4 + n ≤ 60) : ∃ m', xm_X (xm_old sc) xm_mt (d + 4) 1114 [.inr (.inl (some 74)), .inr (.inr x1), .inl (n)] (yy_W m t) = some (some (.inl (m 75 4 + n)), yy_W m' t) ∧ (∀ c, c ≠ 75 → m' c = m c) ∧ (∀ q : Nat, m' 75 q = if q = 4 then m 75 4 + n else if 589 + m 75 4 ≤ q ∧ (q : Int) < 589 + m 75 4 + n then yy_by x1 (q - (589 + m 75 4)) else m 75 q) := by
  have key : ∀ {Q : Option xm_V × xm_W → Prop}, (∀ m', ((∀ c, c ≠ 75 → m' c = m c) ∧ (∀ q : Nat, m' 75 q = if q = 4 then m 75 4 + n else if 589 + m 75 4 ≤ q ∧ (q : Int) < 589 + m 75 4 + n then yy_by x1 (q - (589 + m 75 4)) else m 75 q)) → Q (some (.inl (m 75 4 + n)), yy_W m' t)) → xm_EQ (xm_old sc) xm_sta (xm_X (xm_old sc) xm_mt (d + 3)) xm_m1114.2.2.2.2.2.2.2 0 (xm_loc xm_m1114.2.2.1 [.inr (.inl (some 74)), .inr (.inr x1), .inl (n)]) [] (yy_W m t) Q := by
    intro Q hQ
    refine xb_1114_0 ?_
    simp (disch := first | omega | (unfold xm_w; omega)) only [↓zy_at, xm_O_some, xm_Oi_some, xm_Ov_some, xm_Oq_some, ↓reduceIte, ↓zz_t, ↓zz_f, ↓zi_t, ↓zi_f, eq_self, yy_d_0, Int.reduceEq, Int.reduceLT, Int.reduceLE, Int.reduceNe, Int.reduceToNat, Int.reduceAdd, Int.reduceSub, Int.reduceMul, Int.reduceNeg, Nat.reduceAdd, Nat.reduceMul, Nat.reduceSub, Nat.reduceEqDiff, Nat.reduceLT, ne_eq, not_false_eq_true, not_true_eq_false, true_and, and_true, and_self, yy_s_eq, yy_s_ne, yy_c_eq, yy_c_ne, yy_u_eq, yy_u_ne, xm_w_id, yy_at, tdiv_pos, tmod_pos, ↓zr_74_0, ↓zr_74_1, ↓zr_74_2, ↓zf_74_3, ↓zs_74_3, ↓zf_74_4, ↓zs_74_4, ↓zr_74_5, ↓zf_74_6, ↓zs_74_6, ↓zf_74_7, ↓zs_74_7, ↓zf_74_8, ↓zs_74_8, ↓zf_74_9, ↓zs_74_9, ↓zr_74_10, ↓zr_74_11, ↓zr_74_12, ↓zf_74_13, ↓zs_74_13, ↓zr_74_14, ↓zf_74_15, ↓zs_74_15, ↓zf_74_16, ↓zs_74_16, ↓zf_74_17, ↓zs_74_17, ↓zr_74_18, ↓zr_74_19, ↓zr_74_20, ↓zr_74_21, ↓zi_75, ↓zt_75, ↓oc_1103]
    refine l_1114 (d := d + 2) n.toNat m 0 (m 75 4) (by omega) rfl h1 (by omega) (by omega) h.2 (fun m' ⟨h4, h5⟩ => ?_)
    have e : ((n.toNat : Nat) : Int) = n := by omega
    rw [e] at h5 ⊢
    refine hQ m' ⟨h4, fun q => ?_⟩
    rw [h5 q, Int.zero_add]
  obtain ⟨q, h1, m', h2, h3⟩ := yx_of (y := 1114) (M := xm_m1114) (sc := sc) (d := d + 3) (as := [.inr (.inl (some 74)), .inr (.inr x1), .inl (n)]) (w := yy_W m t) (Q := fun q => ∃ m', q = (some (.inl (m 75 4 + n)), yy_W m' t) ∧ ((∀ c, c ≠ 75 → m' c = m c) ∧ (∀ q : Nat, m' 75 q = if q = 4 then m 75 4 + n else if 589 + m 75 4 ≤ q ∧ (q : Int) < 589 + m 75 4 + n then yy_by x1 (q - (589 + m 75 4)) else m 75 q))) rfl (key fun m' h => ⟨m', rfl, h⟩) (fun q ⟨m', h, _⟩ => by rw [h]; rfl) rfl (Nat.le_of_ble_eq_true rfl) (yy_hd rfl (by decide))
  exact ⟨m', by rw [h1, h2], h3⟩
set_option maxRecDepth 20000 in
theorem a_110 {sc : List Int} {t : xm_W} {m : Nat → Nat → Int} {x1 : Int64} {n : Int} (hI : yy_I t m) : yy_A sc t m 110 1114 [.inr (.inr x1), .inl n] true := by
  obtain ⟨⟨hW, g1, hD⟩, hX, hR, -⟩ := id hI
  obtain ⟨d1, d2, d3, d4, d5⟩ := id hR
  obtain ⟨b1, b2, b3⟩ := id hD
  by_cases h : 1 ≤ n ∧ n ≤ 8
  · by_cases h2 : m 75 4 + n ≤ 60
    · obtain ⟨m1, X1, f1, p1, p2⟩ := c_110 (sc := sc) (d := 96) (t := t) (m := m) (x1 := x1) h (by omega) (by omega)
      have f75 : m1 75 = m 75 := f1 75 (by decide) (by decide)
      obtain ⟨m2, X2, f2, q1⟩ := c_1114b (sc := sc) (d := 96) (t := t) (m := m1) (x1 := x1) h (by rw [f75]; omega) (by rw [f75]; omega)
      rw [f75] at q1
      have o : ∀ k, k ≠ 4 → (k < 589 ∨ 649 ≤ k) → m2 75 k = m 75 k := fun k a b => by rw [q1, if_neg a, if_neg (by omega)]
      have v4 : m2 75 4 = m 75 4 + n := by rw [q1, if_pos rfl]
      refine yy_Ao X1 X2 (yy_I_dk hI (fun c hc a b d => by rw [f2 c d, f1 c (by omega) (by omega)]) (fun k hk => o k (by omega) (by omega)) ⟨by rw [v4]; omega, by rw [o 5 (by decide) (by decide)]; exact b2, fun k hk => ?_⟩ ⟨?_, ?_, ?_, fun k hk => ?_, fun k hk => ?_⟩) ?_ ?_
      · rw [q1, if_neg (by omega)]
        split
        · exact sp_b255
        · exact b3 k hk
      · rw [f2 35 (by decide), p1, if_pos rfl, v4, d1]
      · rw [f2 35 (by decide), p1, if_neg (by decide), o 5 (by decide) (by decide)]; exact d2
      · rw [f2 35 (by decide), p1, if_neg (by decide), o 6 (by decide) (by decide)]; exact d3
      · rw [f2 36 (by decide), p2, d1, q1 (589 + k), if_neg (by omega : ¬ 589 + k = 4)]
        by_cases e : m 75 4 ≤ k ∧ (k : Int) < m 75 4 + n
        · rw [if_pos e, if_pos (by omega)]; congr 1; omega
        · rw [if_neg e, if_neg (by omega)]; exact d4 k hk
      · rw [f2 37 (by decide), f1 37 (by decide) (by decide), o _ (by omega) (by omega)]; exact d5 k hk
      · rw [f2 0 (by decide), f1 0 (by decide) (by decide)]
      · rw [d1, f75]
    · exact yy_Ao (g_110 (d := 96) h (by omega) (by omega) (by omega)) (g_1114 (d := 96) h (by rw [yy_e75 (by decide)]; omega) (by rw [yy_e75 (by decide)]; omega) (by rw [yy_e75 (by decide)]; omega)) (yy_I_ef hI) yy_ef0 rfl
  · exact yy_Ao (f_110 (d := 96) h) (f_1114 (d := 96) h) (yy_I_ef hI) yy_ef0 rfl
end
section
/-! SHEETS: both sides -/
set_option maxRecDepth 20000 in
theorem yy_I_sh {t : xm_W} {m m' : Nat → Nat → Int} (hI : yy_I t m) (hS : yy_SH m') (h : ∀ c, c < 87 → ¬ yy_no c → ¬ (66 ≤ c ∧ c < 74) → ¬ (83 ≤ c ∧ c < 86) → m' c = m c) : yy_I t m' := by
  obtain ⟨a, b, c, d, e, f⟩ := hI
  have e75 : m' 75 = m 75 := h 75 (by decide) (by unfold yy_no; omega) (by decide) (by decide)
  refine ⟨by rw [e75]; exact a, by rw [e75]; exact yy_MX_r (fun c hc => h c (by omega) (by unfold yy_no; omega) (by omega) (by omega)) b, by rw [e75]; exact yy_DR_r (fun c hc => h c (by omega) (by unfold yy_no; omega) (by omega) (by omega)) c, yy_KE_r (fun c hc => h c (by omega) (by unfold yy_no; omega) (by omega) (by omega)) (by rw [h 0 (by decide) (by unfold yy_no; omega) (by decide) (by decide)]) (by rw [h 74 (by decide) (by unfold yy_no; omega) (by decide) (by decide)]) d, hS, ?_⟩
  unfold yy_SP
  rw [h 74 (by decide) (by unfold yy_no; omega) (by decide) (by decide), h 61 (by decide) (by unfold yy_no; omega) (by decide) (by decide)]; exact f
set_option maxRecDepth 20000 in
theorem a_128 {sc : List Int} {t : xm_W} {m : Nat → Nat → Int} {x1 x2 x3 : Int} (hI : yy_I t m) : yy_A sc t m 128 1197 [.inl x1, .inl x2, .inl x3] true := by
  by_cases h : (0 ≤ x1 ∧ x1 ≤ 3) ∧ (x2 = 0 ∨ x2 = 8 ∨ x2 = 16 ∨ x2 = 32)
  · by_cases h3 : x2 = 0 ∨ (0 ≤ x3 ∧ x3 ≤ 24)
    · obtain ⟨i, rfl⟩ : ∃ i : Nat, x1 = i := ⟨x1.toNat, by omega⟩
      obtain ⟨m1, X1, f1, p1, p2, p3⟩ := c_128 (sc := sc) (d := 96) (t := t) (m := m) h.1 h.2 h3
      obtain ⟨m2, X2, f2, q1, q2, q3⟩ := c_1197 (sc := sc) (d := 96) (t := t) (m := m1) h.1 h.2 h3
      rw [Int.toNat_natCast] at f1 p1 p2 p3 q1 q2
      have hS := hI.2.2.2.2.1
      refine yy_Ao X1 X2 (yy_I_sh hI (fun k hk => ?_) (fun c hc a b d => ?_)) ?_ rfl
      · obtain ⟨s1, s2, s3, s4, s5⟩ := hS k hk
        rw [f2 (66 + 2 * k) (by omega) (by omega) (by omega), f2 (67 + 2 * k) (by omega) (by omega) (by omega), q1, q2]
        by_cases e : k = i
        · subst e
          rw [if_pos rfl, if_pos rfl, p1, p2]
          refine ⟨rfl, h.2, rfl, ?_, fun j hj => ?_⟩
          · split <;> omega
          · rw [show 67 + 2 * k = 66 + 2 * k + 1 by omega, p3 j hj, q3, if_pos (by omega)]; omega
        · rw [if_neg e, if_neg e, f1 (66 + 2 * k) (by omega) (by omega), f1 (67 + 2 * k) (by omega) (by omega), f1 83 (by omega) (by omega), f1 84 (by omega) (by omega)]
          refine ⟨s1, s2, s3, s4, fun j hj => ?_⟩
          rw [q3, if_neg (by omega), f1 85 (by omega) (by omega)]; exact s5 j hj
      · rw [f2 c (by omega) (by omega) (by omega), f1 c (by omega) (by omega)]
      · rw [f2 0 (by decide) (by decide) (by decide), f1 0 (by omega) (by omega)]
    · by_cases h4 : x3 < 0
      · exact yy_Ao (g_128 (d := 96) h.1 (by omega) h4) (g_1197 (d := 96) h.1 (by omega) h4) (yy_I_ef hI) yy_ef0 rfl
      · exact yy_Ao (k_128 (d := 96) h.1 (by omega) (by omega)) (k_1197 (d := 96) h.1 (by omega) (by omega)) (yy_I_ef hI) yy_ef0 rfl
  · exact yy_Ao (f_128 (d := 96) h) (f_1197 (d := 96) h) (yy_I_ef hI) yy_ef0 rfl
/-! eight and sixteen bits -/
set_option maxRecDepth 20000 in
theorem sp_sl8 {x : Int} : xm_shr (xm_shl x 24) 24 = xm_b x := by
  unfold xm_shr xm_shl xm_b
  rw [Int32.ofInt_toInt, show (Int32.ofInt 24 &&& 31) = 24 from by decide]
  show (((BitVec.ofInt 32 x) <<< 24).sshiftRight 24).toInt = _
  rw [BitVec.toInt_sshiftRight, BitVec.toInt_shiftLeft, Int.shiftRight_eq_div_pow, BitVec.toNat_ofInt, Nat.shiftLeft_eq]
  rw [Int.bmod_def]
  split <;> omega
set_option maxRecDepth 20000 in
theorem sp_sl16 {x : Int} : xm_shr (xm_shl x 16) 16 = xm_s x := by
  unfold xm_shr xm_shl xm_s
  rw [Int32.ofInt_toInt, show (Int32.ofInt 16 &&& 31) = 16 from by decide]
  show (((BitVec.ofInt 32 x) <<< 16).sshiftRight 16).toInt = _
  rw [BitVec.toInt_sshiftRight, BitVec.toInt_shiftLeft, Int.shiftRight_eq_div_pow, BitVec.toNat_ofInt, Nat.shiftLeft_eq]
  rw [Int.bmod_def]
  split <;> omega
set_option maxRecDepth 20000 in
theorem sp_sl32 {x : Int} (h : -2147483648 ≤ x ∧ x < 2147483648) : xm_shr (xm_shl x 0) 0 = x := by
  unfold xm_shr xm_shl
  rw [Int32.ofInt_toInt, show (Int32.ofInt 0 &&& 31) = 0 from by decide]
  show (((BitVec.ofInt 32 x) <<< 0).sshiftRight 0).toInt = _
  rw [BitVec.toInt_sshiftRight, BitVec.toInt_shiftLeft, Int.shiftRight_eq_div_pow, BitVec.toNat_ofInt, Nat.shiftLeft_eq]
  rw [Int.bmod_def]
  split <;> omega
def sg_cut (b v : Int) : Int := if b = 8 then xm_b v else if b = 16 then xm_s v else v
set_option maxRecDepth 20000 in
theorem sg_cut_sl {b v : Int} (hb : b = 8 ∨ b = 16 ∨ b = 32) (h : -2147483648 ≤ v ∧ v < 2147483648) : xm_shr (xm_shl v (32 - b)) (32 - b) = sg_cut b v := by
  unfold sg_cut
  rcases hb with e | e | e <;> subst e
  · rw [if_pos rfl]; exact sp_sl8
  · rw [if_neg (by decide), if_pos rfl]; exact sp_sl16
  · rw [if_neg (by decide), if_neg (by decide)]; exact sp_sl32 h
set_option maxRecDepth 20000 in
theorem sg_cut_b {b v : Int} (h : -2147483648 ≤ v ∧ v < 2147483648) : -2147483648 ≤ sg_cut b v ∧ sg_cut b v < 2147483648 := by
  unfold sg_cut xm_b xm_s
  split
  · omega
  · split <;> omega
set_option maxRecDepth 20000 in
theorem c_704 {sc : List Int} {d : Nat} {t : xm_W} {m : Nat → Nat → Int} {r : Nat} {i v : Int} (hr : yy_sh r) (h : 0 ≤ i ∧ i < 24) : xm_X (xm_old sc) xm_mt (d + 1) 704 [.inr (.inl (some r)), .inl (i), .inl (v)] (yy_W (m) t) = some (none, (yy_W (yy_s m (r + 1) i.toNat (sg_cut (m r 0) v)) t)) := by
  refine xm_X_of (M := xm_m704) rfl ⟨xm_EQ.eq (xb_704_0 ?_), rfl, rfl, Nat.le_of_ble_eq_true rfl, yy_hds hr⟩
  unfold sg_cut
  by_cases e : m r 0 = 8
  · rw [hf_0 hr, if_pos e, if_pos e, hr_2 hr, ht_1 hr h.1 h.2]
  · rw [hf_0 hr, if_neg e, if_neg e, hf_0 hr]
    by_cases e2 : m r 0 = 16
    · rw [if_pos e2, if_pos e2, hr_2 hr, ht_1 hr h.1 h.2]
    · rw [if_neg e2, if_neg e2, hr_2 hr, ht_1 hr h.1 h.2]
set_option maxRecDepth 20000 in
theorem oc_704 {F : xm_W → Prop} {sc : List Int} {d : Nat} {t : xm_W} {m : Nat → Nat → Int} {r : Nat} {i v : Int} (hr : yy_sh r) (h : 0 ≤ i ∧ i < 24) : xm_Ov (xm_X (xm_old sc) xm_mt (d + 1) 704 [.inr (.inl (some r)), .inl (i), .inl (v)] (yy_W (m) t)) F = F (yy_W (yy_s m (r + 1) i.toNat (sg_cut (m r 0) v)) t) := congrArg (fun x => xm_Ov x F) (c_704 hr h)
set_option maxRecDepth 20000 in
theorem a_129 {sc : List Int} {t : xm_W} {m : Nat → Nat → Int} {x1 x2 x3 : Int} (hI : yy_I t m) (hv : -2147483648 ≤ x3 ∧ x3 < 2147483648) : yy_A sc t m 129 1198 [.inl x1, .inl x2, .inl x3] true := by
  by_cases h : 0 ≤ x1 ∧ x1 ≤ 3
  · obtain ⟨i, rfl⟩ : ∃ i : Nat, x1 = i := ⟨x1.toNat, by omega⟩
    obtain ⟨s1, s2, s3, s4, s5⟩ := hI.2.2.2.2.1 i (by omega)
    have hr : yy_sh (66 + 2 * i) := by have := yy_sh66 (i := (i : Int)) (by omega) (by omega); rwa [Int.toNat_natCast] at this
    have ei : ((i : Int)).toNat = i := Int.toNat_natCast i
    by_cases b0 : m 83 i = 0
    · have X1 : xm_X (xm_old sc) xm_mt (99 + 1) 129 [.inr (.inl (some 0)), .inl (i : Int), .inl x2, .inl x3] (yy_W m t) = some (some (.inl (-1000000002)), yy_W (yy_e m 2) t) := by
        refine xm_X_of (M := xm_m129) rfl ⟨xm_EQ.eq (xb_129_0 ?_), rfl, rfl, Nat.le_of_ble_eq_true rfl, yy_hd rfl (by decide)⟩
        simp (disch := first | omega | (unfold xm_w; omega)) only [↓zy_at, xm_O_some, xm_Oi_some, xm_Ov_some, xm_Oq_some, ↓reduceIte, ↓zz_t, ↓zz_f, ↓zi_t, ↓zi_f, eq_self, yy_d_0, Int.reduceEq, Int.reduceLT, Int.reduceLE, Int.reduceNe, Int.reduceToNat, Int.reduceAdd, Int.reduceSub, Int.reduceMul, Int.reduceNeg, Nat.reduceAdd, Nat.reduceMul, Nat.reduceSub, Nat.reduceEqDiff, Nat.reduceLT, ne_eq, not_false_eq_true, not_true_eq_false, true_and, and_true, and_self, yy_s_eq, yy_s_ne, yy_c_eq, yy_c_ne, yy_u_eq, yy_u_ne, xm_w_id, yy_at, tdiv_pos, tmod_pos, ↓oc_147, ↓zr_0_0, ↓zr_0_1, ↓zr_0_2, ↓zr_0_3, ↓zr_0_4, ↓zf_0_5, ↓zs_0_5, ↓zr_0_6, ↓zr_0_7, ↓zr_0_8, ↓zr_0_9, ↓zr_0_10, ↓zq_64, ↓zq_sh, ei, ↓oc_702 hr, s1, b0, ↓oc_139]
      have X2 : xm_X (xm_old sc) xm_mt (99 + 1) 1198 [.inr (.inl (some 74)), .inl (i : Int), .inl x2, .inl x3] (yy_W (yy_e m 2) t) = some (some (.inl (-1000000002)), yy_W (yy_f (yy_e m 2) 2) t) := by
        refine xm_X_of (M := xm_m1198) rfl ⟨xm_EQ.eq (xb_1198_0 ?_), rfl, rfl, Nat.le_of_ble_eq_true rfl, yy_hd rfl (by decide)⟩
        have f : yy_e m 2 83 i = 0 := by rw [yy_e75 (by decide)]; exact b0
        simp (disch := first | omega | (unfold xm_w; omega)) only [↓zy_at, xm_O_some, xm_Oi_some, xm_Ov_some, xm_Oq_some, ↓reduceIte, ↓zz_t, ↓zz_f, ↓zi_t, ↓zi_f, eq_self, yy_d_0, Int.reduceEq, Int.reduceLT, Int.reduceLE, Int.reduceNe, Int.reduceToNat, Int.reduceAdd, Int.reduceSub, Int.reduceMul, Int.reduceNeg, Nat.reduceAdd, Nat.reduceMul, Nat.reduceSub, Nat.reduceEqDiff, Nat.reduceLT, ne_eq, not_false_eq_true, not_true_eq_false, true_and, and_true, and_self, yy_s_eq, yy_s_ne, yy_c_eq, yy_c_ne, yy_u_eq, yy_u_ne, xm_w_id, yy_at, tdiv_pos, tmod_pos, ↓oc_1196, ↓zr_74_0, ↓zr_74_1, ↓zr_74_2, ↓zf_74_3, ↓zs_74_3, ↓zf_74_4, ↓zs_74_4, ↓zr_74_5, ↓zf_74_6, ↓zs_74_6, ↓zf_74_7, ↓zs_74_7, ↓zf_74_8, ↓zs_74_8, ↓zf_74_9, ↓zs_74_9, ↓zr_74_10, ↓zr_74_11, ↓zr_74_12, ↓zf_74_13, ↓zs_74_13, ↓zr_74_14, ↓zf_74_15, ↓zs_74_15, ↓zf_74_16, ↓zs_74_16, ↓zf_74_17, ↓zs_74_17, ↓zr_74_18, ↓zr_74_19, ↓zr_74_20, ↓zr_74_21, ↓zi_83, ↓zt_83, ↓zi_84, ↓zt_84, ↓zi_85, ↓zt_85, ei, f, ↓oc_1102]
      exact yy_Ao X1 X2 (yy_I_ef hI) yy_ef0 rfl
    · by_cases h2 : 0 ≤ x2 ∧ x2 ≤ m 84 i - 1
      · have X1 : xm_X (xm_old sc) xm_mt (99 + 1) 129 [.inr (.inl (some 0)), .inl (i : Int), .inl x2, .inl x3] (yy_W m t) = some (some (.inl 1), yy_W (yy_s m (66 + 2 * i + 1) x2.toNat (sg_cut (m 83 i) x3)) t) := by
          refine xm_X_of (M := xm_m129) rfl ⟨xm_EQ.eq (xb_129_0 ?_), rfl, rfl, Nat.le_of_ble_eq_true rfl, yy_hd rfl (by decide)⟩
          simp (disch := first | omega | (unfold xm_w; omega)) only [↓zy_at, xm_O_some, xm_Oi_some, xm_Ov_some, xm_Oq_some, ↓reduceIte, ↓zz_t, ↓zz_f, ↓zi_t, ↓zi_f, eq_self, yy_d_0, Int.reduceEq, Int.reduceLT, Int.reduceLE, Int.reduceNe, Int.reduceToNat, Int.reduceAdd, Int.reduceSub, Int.reduceMul, Int.reduceNeg, Nat.reduceAdd, Nat.reduceMul, Nat.reduceSub, Nat.reduceEqDiff, Nat.reduceLT, ne_eq, not_false_eq_true, not_true_eq_false, true_and, and_true, and_self, yy_s_eq, yy_s_ne, yy_c_eq, yy_c_ne, yy_u_eq, yy_u_ne, xm_w_id, yy_at, tdiv_pos, tmod_pos, ↓oc_147, ↓zr_0_0, ↓zr_0_1, ↓zr_0_2, ↓zr_0_3, ↓zr_0_4, ↓zf_0_5, ↓zs_0_5, ↓zr_0_6, ↓zr_0_7, ↓zr_0_8, ↓zr_0_9, ↓zr_0_10, ↓zq_64, ↓zq_sh, ei, ↓oc_702 hr, s1, b0, ↓hf_1 hr, s3, ↓oc_142, ↓oc_704 hr]
        have f : ∀ c, 74 ≤ c → yy_s m (66 + 2 * i + 1) x2.toNat (sg_cut (m 83 i) x3) c = m c := fun c hc => yy_s_ne (by omega)
        have X2 : xm_X (xm_old sc) xm_mt (99 + 1) 1198 [.inr (.inl (some 74)), .inl (i : Int), .inl x2, .inl x3] (yy_W (yy_s m (66 + 2 * i + 1) x2.toNat (sg_cut (m 83 i) x3)) t) = some (some (.inl 1), yy_W (yy_s (yy_s m (66 + 2 * i + 1) x2.toNat (sg_cut (m 83 i) x3)) 85 (24 * i + x2.toNat) (sg_cut (m 83 i) x3)) t) := by
          refine xm_X_of (M := xm_m1198) rfl ⟨xm_EQ.eq (xb_1198_0 ?_), rfl, rfl, Nat.le_of_ble_eq_true rfl, yy_hd rfl (by decide)⟩
          simp (disch := first | omega | (unfold xm_w; omega)) only [↓zy_at, xm_O_some, xm_Oi_some, xm_Ov_some, xm_Oq_some, ↓reduceIte, ↓zz_t, ↓zz_f, ↓zi_t, ↓zi_f, eq_self, yy_d_0, Int.reduceEq, Int.reduceLT, Int.reduceLE, Int.reduceNe, Int.reduceToNat, Int.reduceAdd, Int.reduceSub, Int.reduceMul, Int.reduceNeg, Nat.reduceAdd, Nat.reduceMul, Nat.reduceSub, Nat.reduceEqDiff, Nat.reduceLT, ne_eq, not_false_eq_true, not_true_eq_false, true_and, and_true, and_self, yy_s_eq, yy_s_ne, yy_c_eq, yy_c_ne, yy_u_eq, yy_u_ne, xm_w_id, yy_at, tdiv_pos, tmod_pos, ↓oc_1196, ↓zr_74_0, ↓zr_74_1, ↓zr_74_2, ↓zf_74_3, ↓zs_74_3, ↓zf_74_4, ↓zs_74_4, ↓zr_74_5, ↓zf_74_6, ↓zs_74_6, ↓zf_74_7, ↓zs_74_7, ↓zf_74_8, ↓zs_74_8, ↓zf_74_9, ↓zs_74_9, ↓zr_74_10, ↓zr_74_11, ↓zr_74_12, ↓zf_74_13, ↓zs_74_13, ↓zr_74_14, ↓zf_74_15, ↓zs_74_15, ↓zf_74_16, ↓zs_74_16, ↓zf_74_17, ↓zs_74_17, ↓zr_74_18, ↓zr_74_19, ↓zr_74_20, ↓zr_74_21, ↓zi_83, ↓zt_83, ↓zi_84, ↓zt_84, ↓zi_85, ↓zt_85, ei, f, ↓oc_1103]
          rw [sg_cut_sl (by omega) hv, show (24 * (i : Int) + x2).toNat = 24 * i + x2.toNat by omega]
        have hc := sg_cut_b (b := m 83 i) hv
        refine yy_Ao X1 X2 (yy_I_sh hI (fun k hk => ?_) (fun c hc a b d => ?_)) ?_ rfl
        · obtain ⟨u1, u2, u3, u4, u5⟩ := hI.2.2.2.2.1 k hk
          rw [yy_s_ne (by omega : 66 + 2 * k ≠ 85), yy_s_ne (by omega : 66 + 2 * k ≠ 66 + 2 * i + 1), yy_s_ne (by decide : 83 ≠ 85), yy_s_ne (by omega : 83 ≠ 66 + 2 * i + 1), yy_s_ne (by decide : 84 ≠ 85), yy_s_ne (by omega : 84 ≠ 66 + 2 * i + 1)]
          refine ⟨u1, u2, u3, u4, fun j hj => ?_⟩
          rw [yy_s_ne (by omega : 67 + 2 * k ≠ 85), yy_s_eq, yy_s_ne (by omega : 85 ≠ 66 + 2 * i + 1)]
          by_cases e : k = i
          · subst e
            rw [show 67 + 2 * k = 66 + 2 * k + 1 by omega, yy_s_eq]
            by_cases ej : j = x2.toNat
            · subst ej; rw [yy_u_eq, yy_u_eq]; exact ⟨rfl, hc⟩
            · rw [yy_u_ne ej, yy_u_ne (by omega)]
              have := u5 j hj
              rw [show 67 + 2 * k = 66 + 2 * k + 1 by omega] at this; exact this
          · rw [yy_s_ne (by omega), yy_u_ne (by omega)]; exact u5 j hj
        · rw [yy_s_ne (by omega), yy_s_ne (by omega)]
        · rw [yy_s_ne (by decide), yy_s_ne (by omega)]
      · have X1 : xm_X (xm_old sc) xm_mt (99 + 1) 129 [.inr (.inl (some 0)), .inl (i : Int), .inl x2, .inl x3] (yy_W m t) = some (some (.inl (-1000000001)), yy_W (yy_e m 1) t) := by
          refine xm_X_of (M := xm_m129) rfl ⟨xm_EQ.eq (xb_129_0 ?_), rfl, rfl, Nat.le_of_ble_eq_true rfl, yy_hd rfl (by decide)⟩
          simp (disch := first | omega | (unfold xm_w; omega)) only [↓zy_at, xm_O_some, xm_Oi_some, xm_Ov_some, xm_Oq_some, ↓reduceIte, ↓zz_t, ↓zz_f, ↓zi_t, ↓zi_f, eq_self, yy_d_0, Int.reduceEq, Int.reduceLT, Int.reduceLE, Int.reduceNe, Int.reduceToNat, Int.reduceAdd, Int.reduceSub, Int.reduceMul, Int.reduceNeg, Nat.reduceAdd, Nat.reduceMul, Nat.reduceSub, Nat.reduceEqDiff, Nat.reduceLT, ne_eq, not_false_eq_true, not_true_eq_false, true_and, and_true, and_self, yy_s_eq, yy_s_ne, yy_c_eq, yy_c_ne, yy_u_eq, yy_u_ne, xm_w_id, yy_at, tdiv_pos, tmod_pos, ↓oc_147, ↓zr_0_0, ↓zr_0_1, ↓zr_0_2, ↓zr_0_3, ↓zr_0_4, ↓zf_0_5, ↓zs_0_5, ↓zr_0_6, ↓zr_0_7, ↓zr_0_8, ↓zr_0_9, ↓zr_0_10, ↓zq_64, ↓zq_sh, ei, ↓oc_702 hr, s1, b0, ↓hf_1 hr, s3, ↓oc_142, ↓oc_139]
        have X2 : xm_X (xm_old sc) xm_mt (99 + 1) 1198 [.inr (.inl (some 74)), .inl (i : Int), .inl x2, .inl x3] (yy_W (yy_e m 1) t) = some (some (.inl (-1000000001)), yy_W (yy_f (yy_e m 1) 1) t) := by
          refine xm_X_of (M := xm_m1198) rfl ⟨xm_EQ.eq (xb_1198_0 ?_), rfl, rfl, Nat.le_of_ble_eq_true rfl, yy_hd rfl (by decide)⟩
          have f : ∀ c, c ≠ 65 → yy_e m 1 c = m c := fun c hc => yy_e75 hc
          simp (disch := first | omega | (unfold xm_w; omega)) only [↓zy_at, xm_O_some, xm_Oi_some, xm_Ov_some, xm_Oq_some, ↓reduceIte, ↓zz_t, ↓zz_f, ↓zi_t, ↓zi_f, eq_self, yy_d_0, Int.reduceEq, Int.reduceLT, Int.reduceLE, Int.reduceNe, Int.reduceToNat, Int.reduceAdd, Int.reduceSub, Int.reduceMul, Int.reduceNeg, Nat.reduceAdd, Nat.reduceMul, Nat.reduceSub, Nat.reduceEqDiff, Nat.reduceLT, ne_eq, not_false_eq_true, not_true_eq_false, true_and, and_true, and_self, yy_s_eq, yy_s_ne, yy_c_eq, yy_c_ne, yy_u_eq, yy_u_ne, xm_w_id, yy_at, tdiv_pos, tmod_pos, ↓oc_1196, ↓zr_74_0, ↓zr_74_1, ↓zr_74_2, ↓zf_74_3, ↓zs_74_3, ↓zf_74_4, ↓zs_74_4, ↓zr_74_5, ↓zf_74_6, ↓zs_74_6, ↓zf_74_7, ↓zs_74_7, ↓zf_74_8, ↓zs_74_8, ↓zf_74_9, ↓zs_74_9, ↓zr_74_10, ↓zr_74_11, ↓zr_74_12, ↓zf_74_13, ↓zs_74_13, ↓zr_74_14, ↓zf_74_15, ↓zs_74_15, ↓zf_74_16, ↓zs_74_16, ↓zf_74_17, ↓zs_74_17, ↓zr_74_18, ↓zr_74_19, ↓zr_74_20, ↓zr_74_21, ↓zi_83, ↓zt_83, ↓zi_84, ↓zt_84, ↓zi_85, ↓zt_85, ei, f, ↓oc_1103, ↓oc_1102]
        exact yy_Ao X1 X2 (yy_I_ef hI) yy_ef0 rfl
  · exact r_129 hI h
end
section
/-! MOVE: both sides -/
set_option maxRecDepth 20000 in
theorem c_705 {sc : List Int} {d : Nat} {t : xm_W} {m : Nat → Nat → Int} {r : Nat} {a n : Int} (hr : yy_sh r) (h : 0 ≤ m r 1 ∧ m r 1 ≤ 24) : xm_X (xm_old sc) xm_mt (d + 1) 705 [.inr (.inl (some r)), .inl (a), .inl (n)] (yy_W (m) t) = some (some (.inl (if 0 ≤ a ∧ 0 ≤ n ∧ a + n ≤ m r 1 then 1 else 0)), (yy_W (m) t)) := by
  refine xm_X_of (M := xm_m705) rfl ⟨xm_EQ.eq (xb_705_0 ?_), ?_, rfl, Nat.le_of_ble_eq_true rfl, yy_hds hr⟩
  · by_cases g1 : a < 0
    · rw [if_pos g1, if_neg (by omega)]
    · rw [if_neg g1]
      by_cases g2 : n < 0
      · rw [if_pos g2, if_neg (by omega)]
      · rw [if_neg g2, hf_1 hr]
        by_cases g3 : m r 1 < a
        · rw [if_pos g3, if_neg (by omega)]
        · rw [if_neg g3, hf_1 hr, xm_w_id (by omega) (by omega)]
          by_cases g4 : m r 1 - a < n
          · rw [if_pos g4, if_neg (by omega)]
          · rw [if_neg g4, if_pos (by omega)]
  · show (_ == _ || _ == _) = true
    split <;> rfl
set_option maxRecDepth 20000 in
theorem oc_705 {F : Int → xm_W → Prop} {sc : List Int} {d : Nat} {t : xm_W} {m : Nat → Nat → Int} {r : Nat} {a n : Int} (hr : yy_sh r) (h : 0 ≤ m r 1 ∧ m r 1 ≤ 24) : xm_Oi (xm_X (xm_old sc) xm_mt (d + 1) 705 [.inr (.inl (some r)), .inl (a), .inl (n)] (yy_W (m) t)) F = F (if 0 ≤ a ∧ 0 ≤ n ∧ a + n ≤ m r 1 then 1 else 0) (yy_W (m) t) := congrArg (fun x => xm_Oi x F) (c_705 hr h)
set_option maxRecDepth 20000 in
theorem zc_sh {m : Nat → Nat → Int} {t : xm_W} {K : xm_W → Prop} {r r' : Nat} {a b n : Int} (hr : yy_sh r) (hr' : yy_sh r') (h0 : 0 ≤ a) (h1 : 0 ≤ b) (h2 : 0 ≤ n) (h3 : a + n ≤ 24) (h4 : b + n ≤ 24) : xm_O (xm_copy (yy_W m t) (r + 1) a (r' + 1) b n) K = K (yy_W (yy_c m (r' + 1) (yy_cp (m (r + 1)) (m (r' + 1)) a.toNat b.toNat n.toNat)) t) := congrArg (fun x => xm_O x K) (yy_copy hr.2 hr'.2 h0 h1 h2 h3 h4)
set_option maxRecDepth 20000 in
theorem l_1199a {sc : List Int} {d : Nat} {t : xm_W} {Q : Option xm_V × xm_W → Prop} {i a j b n : Nat} (hi : i < 4) (ha : a + n ≤ 24) : ∀ (k : Nat) (m : Nat → Nat → Int) (p : Nat), p + k = n → (∀ m', (∀ c, c ≠ 86 → m' c = m c) ∧ (∀ q : Nat, m' 86 q = if p ≤ q ∧ q < n then m 85 (24 * i + a + q) else m 86 q) → xm_EQ (xm_old sc) xm_sta (xm_X (xm_old sc) xm_mt (d)) xm_c1199 86 [some (.inr (.inl (some 74))), some (.inl ((i : Int))), some (.inl ((a : Int))), some (.inl ((j : Int))), some (.inl ((b : Int))), some (.inl ((n : Int))), some (.inl ((0 : Int)))] [] (yy_W (m') t) Q) → xm_EQ (xm_old sc) xm_sta (xm_X (xm_old sc) xm_mt (d)) xm_c1199 65 [some (.inr (.inl (some 74))), some (.inl ((i : Int))), some (.inl ((a : Int))), some (.inl ((j : Int))), some (.inl ((b : Int))), some (.inl ((n : Int))), some (.inl ((p : Int)))] [] (yy_W (m) t) Q
  | 0, m, p, hk, hQ => by
    refine xb_1199_65 ?_
    rw [if_neg (by omega)]
    exact hQ m ⟨fun c _ => rfl, fun q => by rw [if_neg (by omega)]⟩
  | k + 1, m, p, hk, hQ => by
    refine xb_1199_65 ?_
    rw [if_pos (by omega)]
    simp (disch := first | omega | (unfold xm_w; omega)) only [↓zy_at, xm_O_some, xm_Oi_some, xm_Ov_some, xm_Oq_some, ↓reduceIte, ↓zz_t, ↓zz_f, ↓zi_t, ↓zi_f, eq_self, yy_d_0, Int.reduceEq, Int.reduceLT, Int.reduceLE, Int.reduceNe, Int.reduceToNat, Int.reduceAdd, Int.reduceSub, Int.reduceMul, Int.reduceNeg, Nat.reduceAdd, Nat.reduceMul, Nat.reduceSub, Nat.reduceEqDiff, Nat.reduceLT, ne_eq, not_false_eq_true, not_true_eq_false, true_and, and_true, and_self, yy_s_eq, yy_s_ne, yy_c_eq, yy_c_ne, yy_u_eq, yy_u_ne, xm_w_id, yy_at, tdiv_pos, tmod_pos, ↓zr_74_0, ↓zr_74_1, ↓zr_74_2, ↓zf_74_3, ↓zs_74_3, ↓zf_74_4, ↓zs_74_4, ↓zr_74_5, ↓zf_74_6, ↓zs_74_6, ↓zf_74_7, ↓zs_74_7, ↓zf_74_8, ↓zs_74_8, ↓zf_74_9, ↓zs_74_9, ↓zr_74_10, ↓zr_74_11, ↓zr_74_12, ↓zf_74_13, ↓zs_74_13, ↓zr_74_14, ↓zf_74_15, ↓zs_74_15, ↓zf_74_16, ↓zs_74_16, ↓zf_74_17, ↓zs_74_17, ↓zr_74_18, ↓zr_74_19, ↓zr_74_20, ↓zr_74_21, ↓zi_85, ↓zt_85, ↓zi_86, ↓zt_86]
    rw [show (p : Int) + 1 = ((p + 1 : Nat) : Int) from rfl]
    refine l_1199a hi ha k _ (p + 1) (by omega) (fun m' ⟨h1, h2⟩ => hQ m' ⟨fun c hc => ?_, fun q => ?_⟩)
    · rw [h1 c hc, yy_s_ne hc]
    · rw [h2 q]
      by_cases e : q = p
      · subst e
        rw [if_neg (by omega), if_pos (by omega), Int.toNat_natCast, yy_s_eq, yy_u_eq]
        congr 1 <;> omega
      · rw [Int.toNat_natCast, yy_s_eq, yy_u_ne e, yy_s_ne (by decide)]
        by_cases e2 : p ≤ q ∧ q < n
        · rw [if_pos (by omega), if_pos e2]
        · rw [if_neg (by omega), if_neg e2]
set_option maxRecDepth 20000 in
theorem l_1199b {sc : List Int} {d : Nat} {t : xm_W} {Q : Option xm_V × xm_W → Prop} {i a j b n : Nat} (hj : j < 4) (hb : b + n ≤ 24) : ∀ (k : Nat) (m : Nat → Nat → Int) (p : Nat), p + k = n → (∀ m', (∀ c, c ≠ 85 → m' c = m c) ∧ (∀ q : Nat, m' 85 q = if 24 * j + b + p ≤ q ∧ q < 24 * j + b + n then m 86 (q - (24 * j + b)) else m 85 q) → Q ((some (.inl ((n : Int))), (yy_W (m') t)))) → xm_EQ (xm_old sc) xm_sta (xm_X (xm_old sc) xm_mt (d)) xm_c1199 86 [some (.inr (.inl (some 74))), some (.inl ((i : Int))), some (.inl ((a : Int))), some (.inl ((j : Int))), some (.inl ((b : Int))), some (.inl ((n : Int))), some (.inl ((p : Int)))] [] (yy_W (m) t) Q
  | 0, m, p, hk, hQ => by
    refine xb_1199_86 ?_
    rw [if_neg (by omega)]
    exact hQ m ⟨fun c _ => rfl, fun q => by rw [if_neg (by omega)]⟩
  | k + 1, m, p, hk, hQ => by
    refine xb_1199_86 ?_
    rw [if_pos (by omega)]
    simp (disch := first | omega | (unfold xm_w; omega)) only [↓zy_at, xm_O_some, xm_Oi_some, xm_Ov_some, xm_Oq_some, ↓reduceIte, ↓zz_t, ↓zz_f, ↓zi_t, ↓zi_f, eq_self, yy_d_0, Int.reduceEq, Int.reduceLT, Int.reduceLE, Int.reduceNe, Int.reduceToNat, Int.reduceAdd, Int.reduceSub, Int.reduceMul, Int.reduceNeg, Nat.reduceAdd, Nat.reduceMul, Nat.reduceSub, Nat.reduceEqDiff, Nat.reduceLT, ne_eq, not_false_eq_true, not_true_eq_false, true_and, and_true, and_self, yy_s_eq, yy_s_ne, yy_c_eq, yy_c_ne, yy_u_eq, yy_u_ne, xm_w_id, yy_at, tdiv_pos, tmod_pos, ↓zr_74_0, ↓zr_74_1, ↓zr_74_2, ↓zf_74_3, ↓zs_74_3, ↓zf_74_4, ↓zs_74_4, ↓zr_74_5, ↓zf_74_6, ↓zs_74_6, ↓zf_74_7, ↓zs_74_7, ↓zf_74_8, ↓zs_74_8, ↓zf_74_9, ↓zs_74_9, ↓zr_74_10, ↓zr_74_11, ↓zr_74_12, ↓zf_74_13, ↓zs_74_13, ↓zr_74_14, ↓zf_74_15, ↓zs_74_15, ↓zf_74_16, ↓zs_74_16, ↓zf_74_17, ↓zs_74_17, ↓zr_74_18, ↓zr_74_19, ↓zr_74_20, ↓zr_74_21, ↓zi_85, ↓zt_85, ↓zi_86, ↓zt_86]
    rw [show (p : Int) + 1 = ((p + 1 : Nat) : Int) from rfl]
    refine l_1199b hj hb k _ (p + 1) (by omega) (fun m' ⟨h1, h2⟩ => hQ m' ⟨fun c hc => ?_, fun q => ?_⟩)
    · rw [h1 c hc, yy_s_ne hc]
    · rw [h2 q]
      by_cases e : q = 24 * j + b + p
      · subst e
        rw [if_neg (by omega), if_pos (by omega), yy_s_eq, show (24 * (j : Int) + b + p).toNat = 24 * j + b + p by omega, yy_u_eq]
        congr 1 <;> omega
      · rw [yy_s_eq, yy_u_ne (by omega), yy_s_ne (by decide)]
        by_cases e2 : 24 * j + b + p ≤ q ∧ q < 24 * j + b + n
        · rw [if_pos (by omega), if_pos e2]
        · rw [if_neg (by omega), if_neg e2]
set_option maxRecDepth 20000 in
theorem a_130 {sc : List Int} {t : xm_W} {m : Nat → Nat → Int} {x1 x2 x3 x4 x5 : Int} (hI : yy_I t m) (hv : x5 < 2147483648) : yy_A sc t m 130 1199 [.inl x1, .inl x2, .inl x3, .inl x4, .inl x5] true := by
  by_cases h : (0 ≤ x1 ∧ x1 ≤ 3) ∧ (0 ≤ x3 ∧ x3 ≤ 3)
  · obtain ⟨i, rfl⟩ : ∃ i : Nat, x1 = i := ⟨x1.toNat, by omega⟩
    obtain ⟨j, rfl⟩ : ∃ j : Nat, x3 = j := ⟨x3.toNat, by omega⟩
    have hS := hI.2.2.2.2.1
    obtain ⟨s1, s2, s3, s4, s5⟩ := hS i (by omega)
    obtain ⟨u1, u2, u3, u4, u5⟩ := hS j (by omega)
    have hr : yy_sh (66 + 2 * i) := by have := yy_sh66 (i := (i : Int)) (by omega) (by omega); rwa [Int.toNat_natCast] at this
    have hq : yy_sh (66 + 2 * j) := by have := yy_sh66 (i := (j : Int)) (by omega) (by omega); rwa [Int.toNat_natCast] at this
    have ei : ((i : Int)).toNat = i := Int.toNat_natCast i
    have ej : ((j : Int)).toNat = j := Int.toNat_natCast j
    have o : ∀ e c, c ≠ 65 → yy_e m e c = m c := fun e c hc => yy_e75 hc
    by_cases b0 : m 83 i = 0
    · have X1 : xm_X (xm_old sc) xm_mt (99 + 1) 130 [.inr (.inl (some 0)), .inl (i : Int), .inl x2, .inl (j : Int), .inl x4, .inl x5] (yy_W m t) = some (some (.inl (-1000000002)), yy_W (yy_e m 2) t) := by
        refine xm_X_of (M := xm_m130) rfl ⟨xm_EQ.eq (xb_130_0 ?_), rfl, rfl, Nat.le_of_ble_eq_true rfl, yy_hd rfl (by decide)⟩
        simp (disch := first | omega | (unfold xm_w; omega)) only [↓zy_at, xm_O_some, xm_Oi_some, xm_Ov_some, xm_Oq_some, ↓reduceIte, ↓zz_t, ↓zz_f, ↓zi_t, ↓zi_f, eq_self, yy_d_0, Int.reduceEq, Int.reduceLT, Int.reduceLE, Int.reduceNe, Int.reduceToNat, Int.reduceAdd, Int.reduceSub, Int.reduceMul, Int.reduceNeg, Nat.reduceAdd, Nat.reduceMul, Nat.reduceSub, Nat.reduceEqDiff, Nat.reduceLT, ne_eq, not_false_eq_true, not_true_eq_false, true_and, and_true, and_self, yy_s_eq, yy_s_ne, yy_c_eq, yy_c_ne, yy_u_eq, yy_u_ne, xm_w_id, yy_at, tdiv_pos, tmod_pos, ↓oc_147, ↓zr_0_0, ↓zr_0_1, ↓zr_0_2, ↓zr_0_3, ↓zr_0_4, ↓zf_0_5, ↓zs_0_5, ↓zr_0_6, ↓zr_0_7, ↓zr_0_8, ↓zr_0_9, ↓zr_0_10, ↓zq_64, ↓zq_sh, ei, ej, ↓oc_702 hr, s1, b0, ↓oc_139]
      have X2 : xm_X (xm_old sc) xm_mt (99 + 1) 1199 [.inr (.inl (some 74)), .inl (i : Int), .inl x2, .inl (j : Int), .inl x4, .inl x5] (yy_W (yy_e m 2) t) = some (some (.inl (-1000000002)), yy_W (yy_f (yy_e m 2) 2) t) := by
        refine xm_X_of (M := xm_m1199) rfl ⟨xm_EQ.eq (xb_1199_0 ?_), rfl, rfl, Nat.le_of_ble_eq_true rfl, yy_hd rfl (by decide)⟩
        simp (disch := first | omega | (unfold xm_w; omega)) only [↓zy_at, xm_O_some, xm_Oi_some, xm_Ov_some, xm_Oq_some, ↓reduceIte, ↓zz_t, ↓zz_f, ↓zi_t, ↓zi_f, eq_self, yy_d_0, Int.reduceEq, Int.reduceLT, Int.reduceLE, Int.reduceNe, Int.reduceToNat, Int.reduceAdd, Int.reduceSub, Int.reduceMul, Int.reduceNeg, Nat.reduceAdd, Nat.reduceMul, Nat.reduceSub, Nat.reduceEqDiff, Nat.reduceLT, ne_eq, not_false_eq_true, not_true_eq_false, true_and, and_true, and_self, yy_s_eq, yy_s_ne, yy_c_eq, yy_c_ne, yy_u_eq, yy_u_ne, xm_w_id, yy_at, tdiv_pos, tmod_pos, ↓oc_1196, ↓zr_74_0, ↓zr_74_1, ↓zr_74_2, ↓zf_74_3, ↓zs_74_3, ↓zf_74_4, ↓zs_74_4, ↓zr_74_5, ↓zf_74_6, ↓zs_74_6, ↓zf_74_7, ↓zs_74_7, ↓zf_74_8, ↓zs_74_8, ↓zf_74_9, ↓zs_74_9, ↓zr_74_10, ↓zr_74_11, ↓zr_74_12, ↓zf_74_13, ↓zs_74_13, ↓zr_74_14, ↓zf_74_15, ↓zs_74_15, ↓zf_74_16, ↓zs_74_16, ↓zf_74_17, ↓zs_74_17, ↓zr_74_18, ↓zr_74_19, ↓zr_74_20, ↓zr_74_21, ↓zi_83, ↓zt_83, ↓zi_84, ↓zt_84, ei, ej, o, b0, ↓oc_1102]
      exact yy_Ao X1 X2 (yy_I_ef hI) yy_ef0 rfl
    · by_cases b1 : m 83 j = 0
      · have X1 : xm_X (xm_old sc) xm_mt (99 + 1) 130 [.inr (.inl (some 0)), .inl (i : Int), .inl x2, .inl (j : Int), .inl x4, .inl x5] (yy_W m t) = some (some (.inl (-1000000002)), yy_W (yy_e m 2) t) := by
          refine xm_X_of (M := xm_m130) rfl ⟨xm_EQ.eq (xb_130_0 ?_), rfl, rfl, Nat.le_of_ble_eq_true rfl, yy_hd rfl (by decide)⟩
          simp (disch := first | omega | (unfold xm_w; omega)) only [↓zy_at, xm_O_some, xm_Oi_some, xm_Ov_some, xm_Oq_some, ↓reduceIte, ↓zz_t, ↓zz_f, ↓zi_t, ↓zi_f, eq_self, yy_d_0, Int.reduceEq, Int.reduceLT, Int.reduceLE, Int.reduceNe, Int.reduceToNat, Int.reduceAdd, Int.reduceSub, Int.reduceMul, Int.reduceNeg, Nat.reduceAdd, Nat.reduceMul, Nat.reduceSub, Nat.reduceEqDiff, Nat.reduceLT, ne_eq, not_false_eq_true, not_true_eq_false, true_and, and_true, and_self, yy_s_eq, yy_s_ne, yy_c_eq, yy_c_ne, yy_u_eq, yy_u_ne, xm_w_id, yy_at, tdiv_pos, tmod_pos, ↓oc_147, ↓zr_0_0, ↓zr_0_1, ↓zr_0_2, ↓zr_0_3, ↓zr_0_4, ↓zf_0_5, ↓zs_0_5, ↓zr_0_6, ↓zr_0_7, ↓zr_0_8, ↓zr_0_9, ↓zr_0_10, ↓zq_64, ↓zq_sh, ei, ej, ↓oc_702 hr, s1, b0, ↓oc_702 hq, u1, b1, ↓oc_139]
        have X2 : xm_X (xm_old sc) xm_mt (99 + 1) 1199 [.inr (.inl (some 74)), .inl (i : Int), .inl x2, .inl (j : Int), .inl x4, .inl x5] (yy_W (yy_e m 2) t) = some (some (.inl (-1000000002)), yy_W (yy_f (yy_e m 2) 2) t) := by
          refine xm_X_of (M := xm_m1199) rfl ⟨xm_EQ.eq (xb_1199_0 ?_), rfl, rfl, Nat.le_of_ble_eq_true rfl, yy_hd rfl (by decide)⟩
          simp (disch := first | omega | (unfold xm_w; omega)) only [↓zy_at, xm_O_some, xm_Oi_some, xm_Ov_some, xm_Oq_some, ↓reduceIte, ↓zz_t, ↓zz_f, ↓zi_t, ↓zi_f, eq_self, yy_d_0, Int.reduceEq, Int.reduceLT, Int.reduceLE, Int.reduceNe, Int.reduceToNat, Int.reduceAdd, Int.reduceSub, Int.reduceMul, Int.reduceNeg, Nat.reduceAdd, Nat.reduceMul, Nat.reduceSub, Nat.reduceEqDiff, Nat.reduceLT, ne_eq, not_false_eq_true, not_true_eq_false, true_and, and_true, and_self, yy_s_eq, yy_s_ne, yy_c_eq, yy_c_ne, yy_u_eq, yy_u_ne, xm_w_id, yy_at, tdiv_pos, tmod_pos, ↓oc_1196, ↓zr_74_0, ↓zr_74_1, ↓zr_74_2, ↓zf_74_3, ↓zs_74_3, ↓zf_74_4, ↓zs_74_4, ↓zr_74_5, ↓zf_74_6, ↓zs_74_6, ↓zf_74_7, ↓zs_74_7, ↓zf_74_8, ↓zs_74_8, ↓zf_74_9, ↓zs_74_9, ↓zr_74_10, ↓zr_74_11, ↓zr_74_12, ↓zf_74_13, ↓zs_74_13, ↓zr_74_14, ↓zf_74_15, ↓zs_74_15, ↓zf_74_16, ↓zs_74_16, ↓zf_74_17, ↓zs_74_17, ↓zr_74_18, ↓zr_74_19, ↓zr_74_20, ↓zr_74_21, ↓zi_83, ↓zt_83, ↓zi_84, ↓zt_84, ei, ej, o, b0, b1, ↓oc_1102]
        exact yy_Ao X1 X2 (yy_I_ef hI) yy_ef0 rfl
      · by_cases bb : m 83 i = m 83 j
        · by_cases g : (0 ≤ x2 ∧ 0 ≤ x5 ∧ x2 + x5 ≤ m 84 i) ∧ (0 ≤ x4 ∧ 0 ≤ x5 ∧ x4 + x5 ≤ m 84 j)
          · obtain ⟨a, rfl⟩ : ∃ a : Nat, x2 = a := ⟨x2.toNat, by omega⟩
            obtain ⟨b, rfl⟩ : ∃ b : Nat, x4 = b := ⟨x4.toNat, by omega⟩
            obtain ⟨n, rfl⟩ : ∃ n : Nat, x5 = n := ⟨x5.toNat, by omega⟩
            have X1 : xm_X (xm_old sc) xm_mt (99 + 1) 130 [.inr (.inl (some 0)), .inl (i : Int), .inl (a : Int), .inl (j : Int), .inl (b : Int), .inl (n : Int)] (yy_W m t) = some (some (.inl (n : Int)), yy_W (yy_c m (66 + 2 * j + 1) (yy_cp (m (66 + 2 * i + 1)) (m (66 + 2 * j + 1)) a b n)) t) := by
              refine xm_X_of (M := xm_m130) rfl ⟨xm_EQ.eq (xb_130_0 ?_), rfl, rfl, Nat.le_of_ble_eq_true rfl, yy_hd rfl (by decide)⟩
              simp (disch := first | omega | (unfold xm_w; omega)) only [↓zy_at, xm_O_some, xm_Oi_some, xm_Ov_some, xm_Oq_some, ↓reduceIte, ↓zz_t, ↓zz_f, ↓zi_t, ↓zi_f, eq_self, yy_d_0, Int.reduceEq, Int.reduceLT, Int.reduceLE, Int.reduceNe, Int.reduceToNat, Int.reduceAdd, Int.reduceSub, Int.reduceMul, Int.reduceNeg, Nat.reduceAdd, Nat.reduceMul, Nat.reduceSub, Nat.reduceEqDiff, Nat.reduceLT, ne_eq, not_false_eq_true, not_true_eq_false, true_and, and_true, and_self, yy_s_eq, yy_s_ne, yy_c_eq, yy_c_ne, yy_u_eq, yy_u_ne, xm_w_id, yy_at, tdiv_pos, tmod_pos, ↓oc_147, ↓zr_0_0, ↓zr_0_1, ↓zr_0_2, ↓zr_0_3, ↓zr_0_4, ↓zf_0_5, ↓zs_0_5, ↓zr_0_6, ↓zr_0_7, ↓zr_0_8, ↓zr_0_9, ↓zr_0_10, ↓zq_64, ↓zq_sh, ei, ej, ↓oc_702 hr, s1, ↓oc_702 hq, u1, ↓hf_0 hr, ↓hf_0 hq]
              have g1 : 0 ≤ (a : Int) ∧ 0 ≤ (n : Int) ∧ (a : Int) + n ≤ m (66 + 2 * i) 1 := by omega
              have g2 : 0 ≤ (b : Int) ∧ 0 ≤ (n : Int) ∧ (b : Int) + n ≤ m (66 + 2 * j) 1 := by omega
              rw [oc_705 (d := 98) hr (by omega), if_pos g1]
              simp (disch := first | omega | (unfold xm_w; omega)) only [↓zy_at, xm_O_some, xm_Oi_some, xm_Ov_some, xm_Oq_some, ↓reduceIte, ↓zz_t, ↓zz_f, ↓zi_t, ↓zi_f, eq_self, yy_d_0, Int.reduceEq, Int.reduceLT, Int.reduceLE, Int.reduceNe, Int.reduceToNat, Int.reduceAdd, Int.reduceSub, Int.reduceMul, Int.reduceNeg, Nat.reduceAdd, Nat.reduceMul, Nat.reduceSub, Nat.reduceEqDiff, Nat.reduceLT, ne_eq, not_false_eq_true, not_true_eq_false, true_and, and_true, and_self, yy_s_eq, yy_s_ne, yy_c_eq, yy_c_ne, yy_u_eq, yy_u_ne, xm_w_id, yy_at, tdiv_pos, tmod_pos]
              rw [oc_705 (d := 98) hq (by omega), if_pos g2]
              simp (disch := first | omega | (unfold xm_w; omega)) only [↓zy_at, xm_O_some, xm_Oi_some, xm_Ov_some, xm_Oq_some, ↓reduceIte, ↓zz_t, ↓zz_f, ↓zi_t, ↓zi_f, eq_self, yy_d_0, Int.reduceEq, Int.reduceLT, Int.reduceLE, Int.reduceNe, Int.reduceToNat, Int.reduceAdd, Int.reduceSub, Int.reduceMul, Int.reduceNeg, Nat.reduceAdd, Nat.reduceMul, Nat.reduceSub, Nat.reduceEqDiff, Nat.reduceLT, ne_eq, not_false_eq_true, not_true_eq_false, true_and, and_true, and_self, yy_s_eq, yy_s_ne, yy_c_eq, yy_c_ne, yy_u_eq, yy_u_ne, xm_w_id, yy_at, tdiv_pos, tmod_pos, ↓hr_2 hr, ↓hr_2 hq]
              rw [zc_sh hr hq (by omega) (by omega) (by omega) (by omega) (by omega), Int.toNat_natCast, Int.toNat_natCast, Int.toNat_natCast]
            have f : ∀ c, 74 ≤ c → yy_c m (66 + 2 * j + 1) (yy_cp (m (66 + 2 * i + 1)) (m (66 + 2 * j + 1)) a b n) c = m c := fun c hc => yy_c_ne (by omega)
            generalize hm1 : yy_c m (66 + 2 * j + 1) (yy_cp (m (66 + 2 * i + 1)) (m (66 + 2 * j + 1)) a b n) = m1 at X1 f
            have X2 : ∃ m2, xm_X (xm_old sc) xm_mt (99 + 1) 1199 [.inr (.inl (some 74)), .inl (i : Int), .inl (a : Int), .inl (j : Int), .inl (b : Int), .inl (n : Int)] (yy_W m1 t) = some (some (.inl (n : Int)), yy_W m2 t) ∧ (∀ c, c ≠ 85 → c ≠ 86 → m2 c = m1 c) ∧ ∀ q : Nat, m2 85 q = if 24 * j + b ≤ q ∧ q < 24 * j + b + n then m 85 (24 * i + a + (q - (24 * j + b))) else m 85 q := by
              have key : ∀ {Q : Option xm_V × xm_W → Prop}, (∀ m2, ((∀ c, c ≠ 85 → c ≠ 86 → m2 c = m1 c) ∧ ∀ q : Nat, m2 85 q = if 24 * j + b ≤ q ∧ q < 24 * j + b + n then m 85 (24 * i + a + (q - (24 * j + b))) else m 85 q) → Q (some (.inl (n : Int)), yy_W m2 t)) → xm_EQ (xm_old sc) xm_sta (xm_X (xm_old sc) xm_mt 99) xm_m1199.2.2.2.2.2.2.2 0 (xm_loc xm_m1199.2.2.1 [.inr (.inl (some 74)), .inl (i : Int), .inl (a : Int), .inl (j : Int), .inl (b : Int), .inl (n : Int)]) [] (yy_W m1 t) Q := by
                intro Q hQ
                refine xb_1199_0 ?_
                simp (disch := first | omega | (unfold xm_w; omega)) only [↓zy_at, xm_O_some, xm_Oi_some, xm_Ov_some, xm_Oq_some, ↓reduceIte, ↓zz_t, ↓zz_f, ↓zi_t, ↓zi_f, eq_self, yy_d_0, Int.reduceEq, Int.reduceLT, Int.reduceLE, Int.reduceNe, Int.reduceToNat, Int.reduceAdd, Int.reduceSub, Int.reduceMul, Int.reduceNeg, Nat.reduceAdd, Nat.reduceMul, Nat.reduceSub, Nat.reduceEqDiff, Nat.reduceLT, ne_eq, not_false_eq_true, not_true_eq_false, true_and, and_true, and_self, yy_s_eq, yy_s_ne, yy_c_eq, yy_c_ne, yy_u_eq, yy_u_ne, xm_w_id, yy_at, tdiv_pos, tmod_pos, ↓oc_1196, ↓zr_74_0, ↓zr_74_1, ↓zr_74_2, ↓zf_74_3, ↓zs_74_3, ↓zf_74_4, ↓zs_74_4, ↓zr_74_5, ↓zf_74_6, ↓zs_74_6, ↓zf_74_7, ↓zs_74_7, ↓zf_74_8, ↓zs_74_8, ↓zf_74_9, ↓zs_74_9, ↓zr_74_10, ↓zr_74_11, ↓zr_74_12, ↓zf_74_13, ↓zs_74_13, ↓zr_74_14, ↓zf_74_15, ↓zs_74_15, ↓zf_74_16, ↓zs_74_16, ↓zf_74_17, ↓zs_74_17, ↓zr_74_18, ↓zr_74_19, ↓zr_74_20, ↓zr_74_21, ↓zi_83, ↓zt_83, ↓zi_84, ↓zt_84, ei, ej, f, b0, b1, bb]
                refine l_1199a (d := 99) (i := i) (a := a) (j := j) (b := b) (n := n) (by omega) (by omega) n m1 0 (by omega) (fun m3 ⟨h1, h2⟩ => ?_)
                refine l_1199b (d := 99) (i := i) (a := a) (j := j) (b := b) (n := n) (by omega) (by omega) n m3 0 (by omega) (fun m4 ⟨h3, h4⟩ => ?_)
                refine hQ m4 ⟨fun c c1 c2 => by rw [h3 c c1, h1 c c2], fun q => ?_⟩
                rw [h4 q, Nat.add_zero]
                by_cases e : 24 * j + b ≤ q ∧ q < 24 * j + b + n
                · rw [if_pos e, if_pos e, h2, if_pos (by omega), f 85 (by decide)]
                · rw [if_neg e, if_neg e, h1 85 (by decide), f 85 (by decide)]
              obtain ⟨q, h1, m', h2, h3⟩ := yx_of (y := 1199) (M := xm_m1199) (sc := sc) (d := 99) (as := [.inr (.inl (some 74)), .inl (i : Int), .inl (a : Int), .inl (j : Int), .inl (b : Int), .inl (n : Int)]) (w := yy_W m1 t) (Q := fun q => ∃ m2, q = (some (.inl (n : Int)), yy_W m2 t) ∧ ((∀ c, c ≠ 85 → c ≠ 86 → m2 c = m1 c) ∧ ∀ q : Nat, m2 85 q = if 24 * j + b ≤ q ∧ q < 24 * j + b + n then m 85 (24 * i + a + (q - (24 * j + b))) else m 85 q)) rfl (key fun m' h => ⟨m', rfl, h⟩) (fun q ⟨m', h, _⟩ => by rw [h]; rfl) rfl (Nat.le_of_ble_eq_true rfl) (yy_hd rfl (by decide))
              exact ⟨m', by rw [h1, h2], h3⟩
            obtain ⟨m2, X2, f2, q2⟩ := X2
            refine yy_Ao X1 X2 (yy_I_sh hI (fun k hk => ?_) (fun c hc x y z => ?_)) ?_ rfl
            · obtain ⟨v1, v2, v3, v4, v5⟩ := hS k hk
              have k0 : m2 (66 + 2 * k) = m (66 + 2 * k) := by rw [f2 _ (by omega) (by omega), ← hm1, yy_c_ne (by omega)]
              have k1 : m2 83 = m 83 := by rw [f2 _ (by omega) (by omega), f 83 (by omega)]
              have k2 : m2 84 = m 84 := by rw [f2 _ (by omega) (by omega), f 84 (by omega)]
              rw [k0, k1, k2]
              refine ⟨v1, v2, v3, v4, fun p hp => ?_⟩
              rw [f2 (67 + 2 * k) (by omega) (by omega), ← hm1, q2]
              by_cases e : k = j
              · subst e
                rw [show 67 + 2 * k = 66 + 2 * k + 1 by omega, yy_c_eq]
                unfold yy_cp
                by_cases e2 : b ≤ p ∧ p < b + n
                · rw [if_pos e2, if_pos (by omega)]
                  have := s5 (a + (p - b)) (by omega)
                  rw [show 66 + 2 * i + 1 = 67 + 2 * i by omega, show 24 * i + a + (24 * k + p - (24 * k + b)) = 24 * i + (a + (p - b)) by omega]
                  exact this
                · rw [if_neg e2, if_neg (by omega)]
                  have := v5 p hp
                  rw [show 67 + 2 * k = 66 + 2 * k + 1 by omega] at this; exact this
              · rw [yy_c_ne (by omega), if_neg (by omega)]; exact v5 p hp
            · unfold yy_no at x
              rw [f2 c (by omega) (by omega), ← hm1, yy_c_ne (by omega)]
            · rw [f2 0 (by decide) (by decide), ← hm1, yy_c_ne (by omega)]
          · have X1 : xm_X (xm_old sc) xm_mt (99 + 1) 130 [.inr (.inl (some 0)), .inl (i : Int), .inl x2, .inl (j : Int), .inl x4, .inl x5] (yy_W m t) = some (some (.inl (-1000000001)), yy_W (yy_e m 1) t) := by
              refine xm_X_of (M := xm_m130) rfl ⟨xm_EQ.eq (xb_130_0 ?_), rfl, rfl, Nat.le_of_ble_eq_true rfl, yy_hd rfl (by decide)⟩
              simp (disch := first | omega | (unfold xm_w; omega)) only [↓zy_at, xm_O_some, xm_Oi_some, xm_Ov_some, xm_Oq_some, ↓reduceIte, ↓zz_t, ↓zz_f, ↓zi_t, ↓zi_f, eq_self, yy_d_0, Int.reduceEq, Int.reduceLT, Int.reduceLE, Int.reduceNe, Int.reduceToNat, Int.reduceAdd, Int.reduceSub, Int.reduceMul, Int.reduceNeg, Nat.reduceAdd, Nat.reduceMul, Nat.reduceSub, Nat.reduceEqDiff, Nat.reduceLT, ne_eq, not_false_eq_true, not_true_eq_false, true_and, and_true, and_self, yy_s_eq, yy_s_ne, yy_c_eq, yy_c_ne, yy_u_eq, yy_u_ne, xm_w_id, yy_at, tdiv_pos, tmod_pos, ↓oc_147, ↓zr_0_0, ↓zr_0_1, ↓zr_0_2, ↓zr_0_3, ↓zr_0_4, ↓zf_0_5, ↓zs_0_5, ↓zr_0_6, ↓zr_0_7, ↓zr_0_8, ↓zr_0_9, ↓zr_0_10, ↓zq_64, ↓zq_sh, ei, ej, ↓oc_702 hr, s1, ↓oc_702 hq, u1, ↓hf_0 hr, ↓hf_0 hq]
              rw [oc_705 (d := 98) hr (by omega)]
              by_cases g1 : 0 ≤ x2 ∧ 0 ≤ x5 ∧ x2 + x5 ≤ m (66 + 2 * i) 1
              · rw [if_pos g1]
                simp (disch := first | omega | (unfold xm_w; omega)) only [↓zy_at, xm_O_some, xm_Oi_some, xm_Ov_some, xm_Oq_some, ↓reduceIte, ↓zz_t, ↓zz_f, ↓zi_t, ↓zi_f, eq_self, yy_d_0, Int.reduceEq, Int.reduceLT, Int.reduceLE, Int.reduceNe, Int.reduceToNat, Int.reduceAdd, Int.reduceSub, Int.reduceMul, Int.reduceNeg, Nat.reduceAdd, Nat.reduceMul, Nat.reduceSub, Nat.reduceEqDiff, Nat.reduceLT, ne_eq, not_false_eq_true, not_true_eq_false, true_and, and_true, and_self, yy_s_eq, yy_s_ne, yy_c_eq, yy_c_ne, yy_u_eq, yy_u_ne, xm_w_id, yy_at, tdiv_pos, tmod_pos]
                have g2 : ¬ (0 ≤ x4 ∧ 0 ≤ x5 ∧ x4 + x5 ≤ m (66 + 2 * j) 1) := by omega
                rw [oc_705 (d := 98) hq (by omega), if_neg g2]
                simp (disch := first | omega | (unfold xm_w; omega)) only [↓zy_at, xm_O_some, xm_Oi_some, xm_Ov_some, xm_Oq_some, ↓reduceIte, ↓zz_t, ↓zz_f, ↓zi_t, ↓zi_f, eq_self, yy_d_0, Int.reduceEq, Int.reduceLT, Int.reduceLE, Int.reduceNe, Int.reduceToNat, Int.reduceAdd, Int.reduceSub, Int.reduceMul, Int.reduceNeg, Nat.reduceAdd, Nat.reduceMul, Nat.reduceSub, Nat.reduceEqDiff, Nat.reduceLT, ne_eq, not_false_eq_true, not_true_eq_false, true_and, and_true, and_self, yy_s_eq, yy_s_ne, yy_c_eq, yy_c_ne, yy_u_eq, yy_u_ne, xm_w_id, yy_at, tdiv_pos, tmod_pos, ↓oc_139]
              · rw [if_neg g1]
                simp (disch := first | omega | (unfold xm_w; omega)) only [↓zy_at, xm_O_some, xm_Oi_some, xm_Ov_some, xm_Oq_some, ↓reduceIte, ↓zz_t, ↓zz_f, ↓zi_t, ↓zi_f, eq_self, yy_d_0, Int.reduceEq, Int.reduceLT, Int.reduceLE, Int.reduceNe, Int.reduceToNat, Int.reduceAdd, Int.reduceSub, Int.reduceMul, Int.reduceNeg, Nat.reduceAdd, Nat.reduceMul, Nat.reduceSub, Nat.reduceEqDiff, Nat.reduceLT, ne_eq, not_false_eq_true, not_true_eq_false, true_and, and_true, and_self, yy_s_eq, yy_s_ne, yy_c_eq, yy_c_ne, yy_u_eq, yy_u_ne, xm_w_id, yy_at, tdiv_pos, tmod_pos, ↓oc_139]
            have X2 : xm_X (xm_old sc) xm_mt (99 + 1) 1199 [.inr (.inl (some 74)), .inl (i : Int), .inl x2, .inl (j : Int), .inl x4, .inl x5] (yy_W (yy_e m 1) t) = some (some (.inl (-1000000001)), yy_W (yy_f (yy_e m 1) 1) t) := by
              refine xm_X_of (M := xm_m1199) rfl ⟨xm_EQ.eq (xb_1199_0 ?_), rfl, rfl, Nat.le_of_ble_eq_true rfl, yy_hd rfl (by decide)⟩
              by_cases g1 : x5 < 0
              · simp (disch := first | omega | (unfold xm_w; omega)) only [↓zy_at, xm_O_some, xm_Oi_some, xm_Ov_some, xm_Oq_some, ↓reduceIte, ↓zz_t, ↓zz_f, ↓zi_t, ↓zi_f, eq_self, yy_d_0, Int.reduceEq, Int.reduceLT, Int.reduceLE, Int.reduceNe, Int.reduceToNat, Int.reduceAdd, Int.reduceSub, Int.reduceMul, Int.reduceNeg, Nat.reduceAdd, Nat.reduceMul, Nat.reduceSub, Nat.reduceEqDiff, Nat.reduceLT, ne_eq, not_false_eq_true, not_true_eq_false, true_and, and_true, and_self, yy_s_eq, yy_s_ne, yy_c_eq, yy_c_ne, yy_u_eq, yy_u_ne, xm_w_id, yy_at, tdiv_pos, tmod_pos, ↓oc_1196, ↓zr_74_0, ↓zr_74_1, ↓zr_74_2, ↓zf_74_3, ↓zs_74_3, ↓zf_74_4, ↓zs_74_4, ↓zr_74_5, ↓zf_74_6, ↓zs_74_6, ↓zf_74_7, ↓zs_74_7, ↓zf_74_8, ↓zs_74_8, ↓zf_74_9, ↓zs_74_9, ↓zr_74_10, ↓zr_74_11, ↓zr_74_12, ↓zf_74_13, ↓zs_74_13, ↓zr_74_14, ↓zf_74_15, ↓zs_74_15, ↓zf_74_16, ↓zs_74_16, ↓zf_74_17, ↓zs_74_17, ↓zr_74_18, ↓zr_74_19, ↓zr_74_20, ↓zr_74_21, ↓zi_83, ↓zt_83, ↓zi_84, ↓zt_84, ei, ej, o, bb, ↓oc_1102]
              · by_cases g2 : x2 < 0
                · simp (disch := first | omega | (unfold xm_w; omega)) only [↓zy_at, xm_O_some, xm_Oi_some, xm_Ov_some, xm_Oq_some, ↓reduceIte, ↓zz_t, ↓zz_f, ↓zi_t, ↓zi_f, eq_self, yy_d_0, Int.reduceEq, Int.reduceLT, Int.reduceLE, Int.reduceNe, Int.reduceToNat, Int.reduceAdd, Int.reduceSub, Int.reduceMul, Int.reduceNeg, Nat.reduceAdd, Nat.reduceMul, Nat.reduceSub, Nat.reduceEqDiff, Nat.reduceLT, ne_eq, not_false_eq_true, not_true_eq_false, true_and, and_true, and_self, yy_s_eq, yy_s_ne, yy_c_eq, yy_c_ne, yy_u_eq, yy_u_ne, xm_w_id, yy_at, tdiv_pos, tmod_pos, ↓oc_1196, ↓zr_74_0, ↓zr_74_1, ↓zr_74_2, ↓zf_74_3, ↓zs_74_3, ↓zf_74_4, ↓zs_74_4, ↓zr_74_5, ↓zf_74_6, ↓zs_74_6, ↓zf_74_7, ↓zs_74_7, ↓zf_74_8, ↓zs_74_8, ↓zf_74_9, ↓zs_74_9, ↓zr_74_10, ↓zr_74_11, ↓zr_74_12, ↓zf_74_13, ↓zs_74_13, ↓zr_74_14, ↓zf_74_15, ↓zs_74_15, ↓zf_74_16, ↓zs_74_16, ↓zf_74_17, ↓zs_74_17, ↓zr_74_18, ↓zr_74_19, ↓zr_74_20, ↓zr_74_21, ↓zi_83, ↓zt_83, ↓zi_84, ↓zt_84, ei, ej, o, bb, ↓oc_1102]
                · by_cases g3 : x4 < 0
                  · simp (disch := first | omega | (unfold xm_w; omega)) only [↓zy_at, xm_O_some, xm_Oi_some, xm_Ov_some, xm_Oq_some, ↓reduceIte, ↓zz_t, ↓zz_f, ↓zi_t, ↓zi_f, eq_self, yy_d_0, Int.reduceEq, Int.reduceLT, Int.reduceLE, Int.reduceNe, Int.reduceToNat, Int.reduceAdd, Int.reduceSub, Int.reduceMul, Int.reduceNeg, Nat.reduceAdd, Nat.reduceMul, Nat.reduceSub, Nat.reduceEqDiff, Nat.reduceLT, ne_eq, not_false_eq_true, not_true_eq_false, true_and, and_true, and_self, yy_s_eq, yy_s_ne, yy_c_eq, yy_c_ne, yy_u_eq, yy_u_ne, xm_w_id, yy_at, tdiv_pos, tmod_pos, ↓oc_1196, ↓zr_74_0, ↓zr_74_1, ↓zr_74_2, ↓zf_74_3, ↓zs_74_3, ↓zf_74_4, ↓zs_74_4, ↓zr_74_5, ↓zf_74_6, ↓zs_74_6, ↓zf_74_7, ↓zs_74_7, ↓zf_74_8, ↓zs_74_8, ↓zf_74_9, ↓zs_74_9, ↓zr_74_10, ↓zr_74_11, ↓zr_74_12, ↓zf_74_13, ↓zs_74_13, ↓zr_74_14, ↓zf_74_15, ↓zs_74_15, ↓zf_74_16, ↓zs_74_16, ↓zf_74_17, ↓zs_74_17, ↓zr_74_18, ↓zr_74_19, ↓zr_74_20, ↓zr_74_21, ↓zi_83, ↓zt_83, ↓zi_84, ↓zt_84, ei, ej, o, bb, ↓oc_1102]
                  · by_cases g4 : m 84 i - x5 < x2
                    · simp (disch := first | omega | (unfold xm_w; omega)) only [↓zy_at, xm_O_some, xm_Oi_some, xm_Ov_some, xm_Oq_some, ↓reduceIte, ↓zz_t, ↓zz_f, ↓zi_t, ↓zi_f, eq_self, yy_d_0, Int.reduceEq, Int.reduceLT, Int.reduceLE, Int.reduceNe, Int.reduceToNat, Int.reduceAdd, Int.reduceSub, Int.reduceMul, Int.reduceNeg, Nat.reduceAdd, Nat.reduceMul, Nat.reduceSub, Nat.reduceEqDiff, Nat.reduceLT, ne_eq, not_false_eq_true, not_true_eq_false, true_and, and_true, and_self, yy_s_eq, yy_s_ne, yy_c_eq, yy_c_ne, yy_u_eq, yy_u_ne, xm_w_id, yy_at, tdiv_pos, tmod_pos, ↓oc_1196, ↓zr_74_0, ↓zr_74_1, ↓zr_74_2, ↓zf_74_3, ↓zs_74_3, ↓zf_74_4, ↓zs_74_4, ↓zr_74_5, ↓zf_74_6, ↓zs_74_6, ↓zf_74_7, ↓zs_74_7, ↓zf_74_8, ↓zs_74_8, ↓zf_74_9, ↓zs_74_9, ↓zr_74_10, ↓zr_74_11, ↓zr_74_12, ↓zf_74_13, ↓zs_74_13, ↓zr_74_14, ↓zf_74_15, ↓zs_74_15, ↓zf_74_16, ↓zs_74_16, ↓zf_74_17, ↓zs_74_17, ↓zr_74_18, ↓zr_74_19, ↓zr_74_20, ↓zr_74_21, ↓zi_83, ↓zt_83, ↓zi_84, ↓zt_84, ei, ej, o, bb, ↓oc_1102]
                    · simp (disch := first | omega | (unfold xm_w; omega)) only [↓zy_at, xm_O_some, xm_Oi_some, xm_Ov_some, xm_Oq_some, ↓reduceIte, ↓zz_t, ↓zz_f, ↓zi_t, ↓zi_f, eq_self, yy_d_0, Int.reduceEq, Int.reduceLT, Int.reduceLE, Int.reduceNe, Int.reduceToNat, Int.reduceAdd, Int.reduceSub, Int.reduceMul, Int.reduceNeg, Nat.reduceAdd, Nat.reduceMul, Nat.reduceSub, Nat.reduceEqDiff, Nat.reduceLT, ne_eq, not_false_eq_true, not_true_eq_false, true_and, and_true, and_self, yy_s_eq, yy_s_ne, yy_c_eq, yy_c_ne, yy_u_eq, yy_u_ne, xm_w_id, yy_at, tdiv_pos, tmod_pos, ↓oc_1196, ↓zr_74_0, ↓zr_74_1, ↓zr_74_2, ↓zf_74_3, ↓zs_74_3, ↓zf_74_4, ↓zs_74_4, ↓zr_74_5, ↓zf_74_6, ↓zs_74_6, ↓zf_74_7, ↓zs_74_7, ↓zf_74_8, ↓zs_74_8, ↓zf_74_9, ↓zs_74_9, ↓zr_74_10, ↓zr_74_11, ↓zr_74_12, ↓zf_74_13, ↓zs_74_13, ↓zr_74_14, ↓zf_74_15, ↓zs_74_15, ↓zf_74_16, ↓zs_74_16, ↓zf_74_17, ↓zs_74_17, ↓zr_74_18, ↓zr_74_19, ↓zr_74_20, ↓zr_74_21, ↓zi_83, ↓zt_83, ↓zi_84, ↓zt_84, ei, ej, o, bb, ↓oc_1102]
            exact yy_Ao X1 X2 (yy_I_ef hI) yy_ef0 rfl
        · have X1 : xm_X (xm_old sc) xm_mt (99 + 1) 130 [.inr (.inl (some 0)), .inl (i : Int), .inl x2, .inl (j : Int), .inl x4, .inl x5] (yy_W m t) = some (some (.inl (-1000000005)), yy_W (yy_e m 5) t) := by
            refine xm_X_of (M := xm_m130) rfl ⟨xm_EQ.eq (xb_130_0 ?_), rfl, rfl, Nat.le_of_ble_eq_true rfl, yy_hd rfl (by decide)⟩
            simp (disch := first | omega | (unfold xm_w; omega)) only [↓zy_at, xm_O_some, xm_Oi_some, xm_Ov_some, xm_Oq_some, ↓reduceIte, ↓zz_t, ↓zz_f, ↓zi_t, ↓zi_f, eq_self, yy_d_0, Int.reduceEq, Int.reduceLT, Int.reduceLE, Int.reduceNe, Int.reduceToNat, Int.reduceAdd, Int.reduceSub, Int.reduceMul, Int.reduceNeg, Nat.reduceAdd, Nat.reduceMul, Nat.reduceSub, Nat.reduceEqDiff, Nat.reduceLT, ne_eq, not_false_eq_true, not_true_eq_false, true_and, and_true, and_self, yy_s_eq, yy_s_ne, yy_c_eq, yy_c_ne, yy_u_eq, yy_u_ne, xm_w_id, yy_at, tdiv_pos, tmod_pos, ↓oc_147, ↓zr_0_0, ↓zr_0_1, ↓zr_0_2, ↓zr_0_3, ↓zr_0_4, ↓zf_0_5, ↓zs_0_5, ↓zr_0_6, ↓zr_0_7, ↓zr_0_8, ↓zr_0_9, ↓zr_0_10, ↓zq_64, ↓zq_sh, ei, ej, ↓oc_702 hr, s1, ↓oc_702 hq, u1, ↓hf_0 hr, ↓hf_0 hq, ↓oc_139]
          have X2 : xm_X (xm_old sc) xm_mt (99 + 1) 1199 [.inr (.inl (some 74)), .inl (i : Int), .inl x2, .inl (j : Int), .inl x4, .inl x5] (yy_W (yy_e m 5) t) = some (some (.inl (-1000000005)), yy_W (yy_f (yy_e m 5) 5) t) := by
            refine xm_X_of (M := xm_m1199) rfl ⟨xm_EQ.eq (xb_1199_0 ?_), rfl, rfl, Nat.le_of_ble_eq_true rfl, yy_hd rfl (by decide)⟩
            simp (disch := first | omega | (unfold xm_w; omega)) only [↓zy_at, xm_O_some, xm_Oi_some, xm_Ov_some, xm_Oq_some, ↓reduceIte, ↓zz_t, ↓zz_f, ↓zi_t, ↓zi_f, eq_self, yy_d_0, Int.reduceEq, Int.reduceLT, Int.reduceLE, Int.reduceNe, Int.reduceToNat, Int.reduceAdd, Int.reduceSub, Int.reduceMul, Int.reduceNeg, Nat.reduceAdd, Nat.reduceMul, Nat.reduceSub, Nat.reduceEqDiff, Nat.reduceLT, ne_eq, not_false_eq_true, not_true_eq_false, true_and, and_true, and_self, yy_s_eq, yy_s_ne, yy_c_eq, yy_c_ne, yy_u_eq, yy_u_ne, xm_w_id, yy_at, tdiv_pos, tmod_pos, ↓oc_1196, ↓zr_74_0, ↓zr_74_1, ↓zr_74_2, ↓zf_74_3, ↓zs_74_3, ↓zf_74_4, ↓zs_74_4, ↓zr_74_5, ↓zf_74_6, ↓zs_74_6, ↓zf_74_7, ↓zs_74_7, ↓zf_74_8, ↓zs_74_8, ↓zf_74_9, ↓zs_74_9, ↓zr_74_10, ↓zr_74_11, ↓zr_74_12, ↓zf_74_13, ↓zs_74_13, ↓zr_74_14, ↓zf_74_15, ↓zs_74_15, ↓zf_74_16, ↓zs_74_16, ↓zf_74_17, ↓zs_74_17, ↓zr_74_18, ↓zr_74_19, ↓zr_74_20, ↓zr_74_21, ↓zi_83, ↓zt_83, ↓zi_84, ↓zt_84, ei, ej, o, ↓oc_1102]
          exact yy_Ao X1 X2 (yy_I_ef hI) yy_ef0 rfl
  · exact r_130 hI h
end
section
/-! SET: both sides -/
def sg_most (w v : Int) : Int := if w = 0 then 6 else if w = 1 then 9 else if w = 2 then 35 else if w = 3 then 99 else if w = 5 then v else -1
set_option maxRecDepth 20000 in
theorem c_605 {sc : List Int} {d : Nat} {t : xm_W} {m : Nat → Nat → Int} {r : Nat} {w : Int} (hq : yy_rd r) : xm_X (xm_old sc) xm_mt (d + 1) 605 [.inr (.inl (some r)), .inl (w)] (yy_W (m) t) = some (some (.inl (sg_most w (m r 4))), (yy_W (m) t)) := by
  refine xm_X_of (M := xm_m605) rfl ⟨xm_EQ.eq (xb_605_0 ?_), rfl, rfl, Nat.le_of_ble_eq_true rfl, yy_hdr hq⟩
  unfold sg_most
  by_cases h0 : w = 0
  · rw [if_pos h0, if_pos h0]
  · rw [if_neg h0, if_neg h0]
    by_cases h1 : w = 1
    · rw [if_pos h1, if_pos h1]
    · rw [if_neg h1, if_neg h1]
      by_cases h2 : w = 2
      · rw [if_pos h2, if_pos h2]
      · rw [if_neg h2, if_neg h2]
        by_cases h3 : w = 3
        · rw [if_pos h3, if_pos h3]
        · rw [if_neg h3, if_neg h3]
          by_cases h4 : w = 4
          · rw [if_pos h4, if_neg (by omega)]
          · rw [if_neg h4]
            by_cases h5 : w = 5
            · rw [if_pos h5, if_pos h5, gf_4 hq]
            · rw [if_neg h5, if_neg h5]
set_option maxRecDepth 20000 in
theorem oc_605 {F : Int → xm_W → Prop} {sc : List Int} {d : Nat} {t : xm_W} {m : Nat → Nat → Int} {r : Nat} {w : Int} (hq : yy_rd r) : xm_Oi (xm_X (xm_old sc) xm_mt (d + 1) 605 [.inr (.inl (some r)), .inl (w)] (yy_W (m) t)) F = F (sg_most w (m r 4)) (yy_W (m) t) := congrArg (fun x => xm_Oi x F) (c_605 hq)
set_option maxRecDepth 20000 in
theorem c_607 {sc : List Int} {d : Nat} {t : xm_W} {m : Nat → Nat → Int} {r : Nat} {w : Int} (hq : yy_rd r) (h : 0 ≤ w ∧ w ≤ 5) : xm_X (xm_old sc) xm_mt (d + 1) 607 [.inr (.inl (some r)), .inl (w)] (yy_W (m) t) = some (some (.inl (m r w.toNat)), (yy_W (m) t)) := by
  refine xm_X_of (M := xm_m607) rfl ⟨xm_EQ.eq (xb_607_0 ?_), rfl, rfl, Nat.le_of_ble_eq_true rfl, yy_hdr hq⟩
  rcases (show w = 0 ∨ w = 1 ∨ w = 2 ∨ w = 3 ∨ w = 4 ∨ w = 5 by omega) with e | e | e | e | e | e <;> subst e <;> simp (disch := first | omega | (unfold xm_w; omega)) only [↓zy_at, xm_O_some, xm_Oi_some, xm_Ov_some, xm_Oq_some, ↓reduceIte, ↓zz_t, ↓zz_f, ↓zi_t, ↓zi_f, eq_self, yy_d_0, Int.reduceEq, Int.reduceLT, Int.reduceLE, Int.reduceNe, Int.reduceToNat, Int.reduceAdd, Int.reduceSub, Int.reduceMul, Int.reduceNeg, Nat.reduceAdd, Nat.reduceMul, Nat.reduceSub, Nat.reduceEqDiff, Nat.reduceLT, ne_eq, not_false_eq_true, not_true_eq_false, true_and, and_true, and_self, yy_s_eq, yy_s_ne, yy_c_eq, yy_c_ne, yy_u_eq, yy_u_ne, xm_w_id, yy_at, tdiv_pos, tmod_pos, ↓gf_0 hq, ↓gf_1 hq, ↓gf_2 hq, ↓gf_3 hq, ↓gf_4 hq, ↓gf_5 hq]
set_option maxRecDepth 20000 in
theorem oc_607 {F : Int → xm_W → Prop} {sc : List Int} {d : Nat} {t : xm_W} {m : Nat → Nat → Int} {r : Nat} {w : Int} (hq : yy_rd r) (h : 0 ≤ w ∧ w ≤ 5) : xm_Oi (xm_X (xm_old sc) xm_mt (d + 1) 607 [.inr (.inl (some r)), .inl (w)] (yy_W (m) t)) F = F (m r w.toNat) (yy_W (m) t) := congrArg (fun x => xm_Oi x F) (c_607 hq h)
set_option maxRecDepth 20000 in
theorem c_606 {sc : List Int} {d : Nat} {t : xm_W} {m : Nat → Nat → Int} {r : Nat} {w v : Int} (hq : yy_rd r) (h : 0 ≤ w ∧ w ≤ 5) (h4 : w ≠ 4) : xm_X (xm_old sc) xm_mt (d + 2) 606 [.inr (.inl (some r)), .inl (w), .inl (v)] (yy_W (m) t) = some (some (.inl (m r w.toNat)), (yy_W (yy_s m r w.toNat v) t)) := by
  refine xm_X_of (M := xm_m606) rfl ⟨xm_EQ.eq (xb_606_0 ?_), rfl, rfl, Nat.le_of_ble_eq_true rfl, yy_hdr hq⟩
  rw [oc_607 hq h]
  rcases (show w = 0 ∨ w = 1 ∨ w = 2 ∨ w = 3 ∨ w = 5 by omega) with e | e | e | e | e <;> subst e <;> simp (disch := first | omega | (unfold xm_w; omega)) only [↓zy_at, xm_O_some, xm_Oi_some, xm_Ov_some, xm_Oq_some, ↓reduceIte, ↓zz_t, ↓zz_f, ↓zi_t, ↓zi_f, eq_self, yy_d_0, Int.reduceEq, Int.reduceLT, Int.reduceLE, Int.reduceNe, Int.reduceToNat, Int.reduceAdd, Int.reduceSub, Int.reduceMul, Int.reduceNeg, Nat.reduceAdd, Nat.reduceMul, Nat.reduceSub, Nat.reduceEqDiff, Nat.reduceLT, ne_eq, not_false_eq_true, not_true_eq_false, true_and, and_true, and_self, yy_s_eq, yy_s_ne, yy_c_eq, yy_c_ne, yy_u_eq, yy_u_ne, xm_w_id, yy_at, tdiv_pos, tmod_pos, ↓gs_0 hq, ↓gs_1 hq, ↓gs_2 hq, ↓gs_3 hq, ↓gs_5 hq]
set_option maxRecDepth 20000 in
theorem oc_606 {F : Int → xm_W → Prop} {sc : List Int} {d : Nat} {t : xm_W} {m : Nat → Nat → Int} {r : Nat} {w v : Int} (hq : yy_rd r) (h : 0 ≤ w ∧ w ≤ 5) (h4 : w ≠ 4) : xm_Oi (xm_X (xm_old sc) xm_mt (d + 2) 606 [.inr (.inl (some r)), .inl (w), .inl (v)] (yy_W (m) t)) F = F (m r w.toNat) (yy_W (yy_s m r w.toNat v) t) := congrArg (fun x => xm_Oi x F) (c_606 hq h h4)
set_option maxRecDepth 20000 in
theorem c_1148 {sc : List Int} {d : Nat} {t : xm_W} {m : Nat → Nat → Int} {r : Nat} {w : Int} (hr : r < 5) (h : 0 ≤ w ∧ w ≤ 5) (h4 : w ≠ 4) : xm_X (xm_old sc) xm_mt (d + 2) 1148 [.inr (.inl (some 74)), .inl ((r : Int)), .inl (w)] (yy_W (m) t) = some (some (.inl (sg_most w (m 75 (48 + 18 * r)))), (yy_W (m) t)) := by
  refine xm_X_of (M := xm_m1148) rfl ⟨xm_EQ.eq (xb_1148_0 ?_), rfl, rfl, Nat.le_of_ble_eq_true rfl, yy_hd rfl (by decide)⟩
  unfold sg_most
  rcases (show w = 0 ∨ w = 1 ∨ w = 2 ∨ w = 3 ∨ w = 5 by omega) with e | e | e | e | e <;> subst e
  · simp (disch := first | omega | (unfold xm_w; omega)) only [↓zy_at, xm_O_some, xm_Oi_some, xm_Ov_some, xm_Oq_some, ↓reduceIte, ↓zz_t, ↓zz_f, ↓zi_t, ↓zi_f, eq_self, yy_d_0, Int.reduceEq, Int.reduceLT, Int.reduceLE, Int.reduceNe, Int.reduceToNat, Int.reduceAdd, Int.reduceSub, Int.reduceMul, Int.reduceNeg, Nat.reduceAdd, Nat.reduceMul, Nat.reduceSub, Nat.reduceEqDiff, Nat.reduceLT, ne_eq, not_false_eq_true, not_true_eq_false, true_and, and_true, and_self, yy_s_eq, yy_s_ne, yy_c_eq, yy_c_ne, yy_u_eq, yy_u_ne, xm_w_id, yy_at, tdiv_pos, tmod_pos]
  · simp (disch := first | omega | (unfold xm_w; omega)) only [↓zy_at, xm_O_some, xm_Oi_some, xm_Ov_some, xm_Oq_some, ↓reduceIte, ↓zz_t, ↓zz_f, ↓zi_t, ↓zi_f, eq_self, yy_d_0, Int.reduceEq, Int.reduceLT, Int.reduceLE, Int.reduceNe, Int.reduceToNat, Int.reduceAdd, Int.reduceSub, Int.reduceMul, Int.reduceNeg, Nat.reduceAdd, Nat.reduceMul, Nat.reduceSub, Nat.reduceEqDiff, Nat.reduceLT, ne_eq, not_false_eq_true, not_true_eq_false, true_and, and_true, and_self, yy_s_eq, yy_s_ne, yy_c_eq, yy_c_ne, yy_u_eq, yy_u_ne, xm_w_id, yy_at, tdiv_pos, tmod_pos]
  · simp (disch := first | omega | (unfold xm_w; omega)) only [↓zy_at, xm_O_some, xm_Oi_some, xm_Ov_some, xm_Oq_some, ↓reduceIte, ↓zz_t, ↓zz_f, ↓zi_t, ↓zi_f, eq_self, yy_d_0, Int.reduceEq, Int.reduceLT, Int.reduceLE, Int.reduceNe, Int.reduceToNat, Int.reduceAdd, Int.reduceSub, Int.reduceMul, Int.reduceNeg, Nat.reduceAdd, Nat.reduceMul, Nat.reduceSub, Nat.reduceEqDiff, Nat.reduceLT, ne_eq, not_false_eq_true, not_true_eq_false, true_and, and_true, and_self, yy_s_eq, yy_s_ne, yy_c_eq, yy_c_ne, yy_u_eq, yy_u_ne, xm_w_id, yy_at, tdiv_pos, tmod_pos]
  · simp (disch := first | omega | (unfold xm_w; omega)) only [↓zy_at, xm_O_some, xm_Oi_some, xm_Ov_some, xm_Oq_some, ↓reduceIte, ↓zz_t, ↓zz_f, ↓zi_t, ↓zi_f, eq_self, yy_d_0, Int.reduceEq, Int.reduceLT, Int.reduceLE, Int.reduceNe, Int.reduceToNat, Int.reduceAdd, Int.reduceSub, Int.reduceMul, Int.reduceNeg, Nat.reduceAdd, Nat.reduceMul, Nat.reduceSub, Nat.reduceEqDiff, Nat.reduceLT, ne_eq, not_false_eq_true, not_true_eq_false, true_and, and_true, and_self, yy_s_eq, yy_s_ne, yy_c_eq, yy_c_ne, yy_u_eq, yy_u_ne, xm_w_id, yy_at, tdiv_pos, tmod_pos]
  · simp (disch := first | omega | (unfold xm_w; omega)) only [↓zy_at, xm_O_some, xm_Oi_some, xm_Ov_some, xm_Oq_some, ↓reduceIte, ↓zz_t, ↓zz_f, ↓zi_t, ↓zi_f, eq_self, yy_d_0, Int.reduceEq, Int.reduceLT, Int.reduceLE, Int.reduceNe, Int.reduceToNat, Int.reduceAdd, Int.reduceSub, Int.reduceMul, Int.reduceNeg, Nat.reduceAdd, Nat.reduceMul, Nat.reduceSub, Nat.reduceEqDiff, Nat.reduceLT, ne_eq, not_false_eq_true, not_true_eq_false, true_and, and_true, and_self, yy_s_eq, yy_s_ne, yy_c_eq, yy_c_ne, yy_u_eq, yy_u_ne, xm_w_id, yy_at, tdiv_pos, tmod_pos, ↓oc_1110_4 hr]
set_option maxRecDepth 20000 in
theorem oc_1148 {F : Int → xm_W → Prop} {sc : List Int} {d : Nat} {t : xm_W} {m : Nat → Nat → Int} {r : Nat} {w : Int} (hr : r < 5) (h : 0 ≤ w ∧ w ≤ 5) (h4 : w ≠ 4) : xm_Oi (xm_X (xm_old sc) xm_mt (d + 2) 1148 [.inr (.inl (some 74)), .inl ((r : Int)), .inl (w)] (yy_W (m) t)) F = F (sg_most w (m 75 (48 + 18 * r))) (yy_W (m) t) := congrArg (fun x => xm_Oi x F) (c_1148 hr h h4)
set_option maxRecDepth 20000 in
theorem a_107 {sc : List Int} {t : xm_W} {m : Nat → Nat → Int} {x1 x2 x3 : Int} (hI : yy_I t m) : yy_A sc t m 107 1149 [.inl x1, .inl x2, .inl x3] true := by
  by_cases h : 0 ≤ x1 ∧ x1 ≤ m 1 4 - 1
  · obtain ⟨⟨e0, e3, e1, e2⟩, hR⟩ := yy_I_0 hI
    obtain ⟨a0, a1, a2, a3, a4, a5⟩ := id hR
    obtain ⟨r, rfl⟩ : ∃ r : Nat, x1 = r := ⟨x1.toNat, by omega⟩
    have hr5 : r < 5 := by omega
    obtain ⟨b0, b1, b2, b3, b4, b5, b6⟩ := a5 r hr5
    have g7 := hI.2.1.1.2.2.2.2.2.2
    have hq := yy_rdn8 hr5
    have er : ((r : Int)).toNat = r := Int.toNat_natCast r
    have f4 : m (8 + 2 * r) 4 = m 75 (48 + 18 * r) := by rw [(g7 r hr5).1 4 (by decide)]; congr 1; omega
    by_cases hv : ((0 ≤ x2 ∧ x2 ≤ 5) ∧ x2 ≠ 4) ∧ (0 ≤ x3 ∧ x3 ≤ sg_most x2 (m 75 (48 + 18 * r)))
    · obtain ⟨w, rfl⟩ : ∃ w : Nat, x2 = w := ⟨x2.toNat, by omega⟩
      have ew : ((w : Int)).toNat = w := Int.toNat_natCast w
      have X1 : xm_X (xm_old sc) xm_mt (99 + 1) 107 [.inr (.inl (some 0)), .inl (r : Int), .inl (w : Int), .inl x3] (yy_W m t) = some (some (.inl (m (8 + 2 * r) w)), yy_W (yy_s m (8 + 2 * r) w x3) t) := by
        refine xm_X_of (M := xm_m107) rfl ⟨xm_EQ.eq (xb_107_0 ?_), rfl, rfl, Nat.le_of_ble_eq_true rfl, yy_hd rfl (by decide)⟩
        rw [oc_141 (d := 97) (by omega) (by omega), zz_t h, zr_0_0, zr_1_3, zq_3, zq_r1 (by omega) (by omega), er, oc_605 (d := 98) hq, f4, oc_142 (d := 98), zz_t hv.2, oc_606 (d := 97) hq hv.1.1 hv.1.2, ew]
      have f75 : yy_s m (8 + 2 * r) w x3 75 = m 75 := by rw [yy_s_ne (by omega)]
      have X2 : xm_X (xm_old sc) xm_mt (99 + 1) 1149 [.inr (.inl (some 74)), .inl (r : Int), .inl (w : Int), .inl x3] (yy_W (yy_s m (8 + 2 * r) w x3) t) = some (some (.inl (m 75 (44 + 18 * r + w))), yy_W (yy_c (yy_s m (8 + 2 * r) w x3) 75 (yy_u (m 75) (44 + 18 * r + w) x3)) t) := by
        refine xm_X_of (M := xm_m1149) rfl ⟨xm_EQ.eq (xb_1149_0 ?_), rfl, rfl, Nat.le_of_ble_eq_true rfl, yy_hd rfl (by decide)⟩
        rw [oc_1109 (d := 97) (by rw [f75]; omega) (by rw [f75]; omega), zz_t (by rw [f75]; omega), oc_1103 (d := 98), zz_t hv.1.1, if_neg hv.1.2, oc_1148 (d := 97) hr5 hv.1.1 hv.1.2, f75, oc_1103 (d := 98), zz_t hv.2]
        simp (disch := first | omega | (unfold xm_w; omega)) only [↓zy_at, xm_O_some, xm_Oi_some, xm_Ov_some, xm_Oq_some, ↓reduceIte, ↓zz_t, ↓zz_f, ↓zi_t, ↓zi_f, eq_self, yy_d_0, Int.reduceEq, Int.reduceLT, Int.reduceLE, Int.reduceNe, Int.reduceToNat, Int.reduceAdd, Int.reduceSub, Int.reduceMul, Int.reduceNeg, Nat.reduceAdd, Nat.reduceMul, Nat.reduceSub, Nat.reduceEqDiff, Nat.reduceLT, ne_eq, not_false_eq_true, not_true_eq_false, true_and, and_true, and_self, yy_s_eq, yy_s_ne, yy_c_eq, yy_c_ne, yy_u_eq, yy_u_ne, xm_w_id, yy_at, tdiv_pos, tmod_pos]
        rw [oc_1113 (d := 98) (by omega) (by omega), f75, show (44 + 18 * (r : Int) + (w : Int)).toNat = 44 + 18 * r + w by omega]
        unfold yy_s
        rw [← yy_s, f75]
      have hw : w ≤ 5 ∧ w ≠ 4 := by omega
      have o : ∀ k, k ≠ 44 + 18 * r + w → yy_u (m 75) (44 + 18 * r + w) x3 k = m 75 k := fun k hk => yy_u_ne hk
      have v : yy_u (m 75) (44 + 18 * r + w) x3 (44 + 18 * r + w) = x3 := yy_u_eq
      have hm := hv.2
      unfold sg_most at hm
      refine yy_Ao X1 X2 (yy_I_rr hI ?_ (fun k a b => by rw [yy_c_eq]; exact o k (by omega)) ?_ (fun k hk => ?_) (fun i hi => ⟨fun k hk => ?_, fun k hk => ?_⟩) (fun c hc a b e f => ?_)) ?_ ?_
      · rw [yy_c_eq]
        rcases (show w = 0 ∨ w = 1 ∨ w = 2 ∨ w = 3 ∨ w = 5 by omega) with e | e | e | e | e <;> subst e
        · refine sg_R_r hr5 hR (fun k hk => o k (by omega)) (by rw [Nat.add_zero, yy_u_eq]; simpa using hm) (by rw [o _ (by omega)]; exact b1) (by rw [o _ (by omega)]; exact b2) (by rw [o _ (by omega)]; exact b3) (by rw [o _ (by omega)]; exact b4) (by rw [o _ (by omega), o _ (by omega)]; exact b5) (fun k hk => by rw [o _ (by omega)]; exact b6 k hk)
        · refine sg_R_r hr5 hR (fun k hk => o k (by omega)) (by rw [o _ (by omega)]; exact b0) (by rw [show 45 + 18 * r = 44 + 18 * r + 1 by omega, v]; simpa using hm) (by rw [o _ (by omega)]; exact b2) (by rw [o _ (by omega)]; exact b3) (by rw [o _ (by omega)]; exact b4) (by rw [o _ (by omega), o _ (by omega)]; exact b5) (fun k hk => by rw [o _ (by omega)]; exact b6 k hk)
        · refine sg_R_r hr5 hR (fun k hk => o k (by omega)) (by rw [o _ (by omega)]; exact b0) (by rw [o _ (by omega)]; exact b1) (by rw [show 46 + 18 * r = 44 + 18 * r + 2 by omega, v]; simpa using hm) (by rw [o _ (by omega)]; exact b3) (by rw [o _ (by omega)]; exact b4) (by rw [o _ (by omega), o _ (by omega)]; exact b5) (fun k hk => by rw [o _ (by omega)]; exact b6 k hk)
        · refine sg_R_r hr5 hR (fun k hk => o k (by omega)) (by rw [o _ (by omega)]; exact b0) (by rw [o _ (by omega)]; exact b1) (by rw [o _ (by omega)]; exact b2) (by rw [show 47 + 18 * r = 44 + 18 * r + 3 by omega, v]; simpa using hm) (by rw [o _ (by omega)]; exact b4) (by rw [o _ (by omega), o _ (by omega)]; exact b5) (fun k hk => by rw [o _ (by omega)]; exact b6 k hk)
        · refine sg_R_r hr5 hR (fun k hk => o k (by omega)) (by rw [o _ (by omega)]; exact b0) (by rw [o _ (by omega)]; exact b1) (by rw [o _ (by omega)]; exact b2) (by rw [o _ (by omega)]; exact b3) (by rw [o _ (by omega)]; exact b4) (by rw [o (48 + 18 * r) (by omega), show 49 + 18 * r = 44 + 18 * r + 5 by omega, v]; simpa using hm) (fun k hk => by rw [o _ (by omega)]; exact b6 k hk)
      · rw [yy_c_eq, yy_c_ne (by decide), yy_s_ne (by omega), o _ (by omega)]; exact e0
      · rw [yy_c_ne (by decide), yy_s_ne (by omega)]
      · rw [yy_c_eq, yy_c_ne (by omega)]
        by_cases e : i = r
        · subst e
          rw [yy_s_eq]
          by_cases kw : k = w
          · subst kw; rw [yy_u_eq, v]
          · rw [yy_u_ne kw, o _ (by omega)]; exact (g7 i hi).1 k hk
        · rw [yy_s_ne (by omega), o _ (by omega)]; exact (g7 i hi).1 k hk
      · rw [yy_c_eq, yy_c_ne (by omega), yy_s_ne (by omega), o _ (by omega)]; exact (g7 i hi).2 k hk
      · rw [yy_c_ne f, yy_s_ne (by omega)]
      · rw [yy_c_ne (by decide), yy_s_ne (by omega)]
      · exact (g7 r hr5).1 w (by omega)
    · have X1 : xm_X (xm_old sc) xm_mt (99 + 1) 107 [.inr (.inl (some 0)), .inl (r : Int), .inl x2, .inl x3] (yy_W m t) = some (some (.inl (-1000000001)), yy_W (yy_e m 1) t) := by
        refine xm_X_of (M := xm_m107) rfl ⟨xm_EQ.eq (xb_107_0 ?_), rfl, rfl, Nat.le_of_ble_eq_true rfl, yy_hd rfl (by decide)⟩
        have g : ¬ (0 ≤ x3 ∧ x3 ≤ sg_most x2 (m 75 (48 + 18 * r))) := by
          intro g
          by_cases h5 : (0 ≤ x2 ∧ x2 ≤ 5) ∧ x2 ≠ 4
          · exact hv ⟨h5, g⟩
          · have : sg_most x2 (m 75 (48 + 18 * r)) = -1 := by
              unfold sg_most
              rw [if_neg (by omega), if_neg (by omega), if_neg (by omega), if_neg (by omega), if_neg (by omega)]
            omega
        rw [oc_141 (d := 97) (by omega) (by omega), zz_t h, zr_0_0, zr_1_3, zq_3, zq_r1 (by omega) (by omega), er, oc_605 (d := 98) hq, f4, oc_142 (d := 98), zz_f g, oc_139 (d := 98) (by decide) (by decide)]
        rfl
      have f75 : yy_e m 1 75 = m 75 := yy_e75 (by decide)
      have X2 : xm_X (xm_old sc) xm_mt (99 + 1) 1149 [.inr (.inl (some 74)), .inl (r : Int), .inl x2, .inl x3] (yy_W (yy_e m 1) t) = some (some (.inl (-1000000001)), yy_W (yy_f (yy_e m 1) 1) t) := by
        refine xm_X_of (M := xm_m1149) rfl ⟨xm_EQ.eq (xb_1149_0 ?_), rfl, rfl, Nat.le_of_ble_eq_true rfl, yy_hd rfl (by decide)⟩
        rw [oc_1109 (d := 97) (by rw [f75]; omega) (by rw [f75]; omega), zz_t (by rw [f75]; omega), oc_1103 (d := 98)]
        by_cases h5 : 0 ≤ x2 ∧ x2 ≤ 5
        · rw [zz_t h5]
          by_cases h4 : x2 = 4
          · rw [if_pos h4, oc_1102 (d := 98) (by decide) (by decide)]; rfl
          · rw [if_neg h4, oc_1148 (d := 97) hr5 h5 h4, f75, oc_1103 (d := 98), zz_f (fun g => hv ⟨⟨h5, h4⟩, g⟩), oc_1102 (d := 98) (by decide) (by decide)]; rfl
        · rw [zz_f h5, oc_1102 (d := 98) (by decide) (by decide)]; rfl
      exact yy_Ao X1 X2 (yy_I_ef hI) yy_ef0 rfl
  · exact r_107 hI h
end
section
/-! AS: what lies above a kind -/
set_option maxRecDepth 20000 in
theorem zz_st {sc : List Int} {t : xm_W} {m : Nat → Nat → Int} {F : List Int → Prop} (ht : t.length < 900000) : xm_O (xm_ints (xm_old sc) (yy_W m t) 1000000) F = F xm_st0 := by
  rw [xo_above (by rw [yy_W_len]; omega)]; rfl
set_option maxRecDepth 20000 in
theorem zst_0 {F : Int → Prop} : xm_O (xm_at xm_st0 0) F = F (-1) := rfl
set_option maxRecDepth 20000 in
theorem zst_1 {F : Int → Prop} : xm_O (xm_at xm_st0 1) F = F (0) := rfl
set_option maxRecDepth 20000 in
theorem zst_2 {F : Int → Prop} : xm_O (xm_at xm_st0 2) F = F (0) := rfl
set_option maxRecDepth 20000 in
theorem zst_3 {F : Int → Prop} : xm_O (xm_at xm_st0 3) F = F (0) := rfl
set_option maxRecDepth 20000 in
theorem zst_4 {F : Int → Prop} : xm_O (xm_at xm_st0 4) F = F (1) := rfl
set_option maxRecDepth 20000 in
theorem zst_5 {F : Int → Prop} : xm_O (xm_at xm_st0 5) F = F (2) := rfl
set_option maxRecDepth 20000 in
theorem zst_6 {F : Int → Prop} : xm_O (xm_at xm_st0 6) F = F (0) := rfl
set_option maxRecDepth 20000 in
theorem l_148_0 {sc : List Int} {d : Nat} {t : xm_W} {m : Nat → Nat → Int} {Q : Option xm_V × xm_W → Prop} {a b i : Int} (ht : t.length < 900000) (hb : 0 ≤ b) (h0 : 0 ≤ i) (h1 : i < 6) (hQ : Q ((some (.inl (if b = 0 then 1 else 0)), (yy_W (m) t)))) : xm_EQ (xm_old sc) xm_sta (xm_X (xm_old sc) xm_mt (d)) xm_c148 4 [some (.inl (a)), some (.inl (b)), some (.inl ((0 : Int))), some (.inl (i))] [] (yy_W (m) t) Q := by
  refine xb_148_4 ?_
  rw [if_pos (by omega), if_neg (by decide)]
  by_cases e : 0 = b
  · rw [if_pos e]; rw [if_pos e.symm] at hQ; exact hQ
  · rw [if_neg e, zz_st ht]; rw [if_neg (by omega)] at hQ
    rw [zst_0, xm_w_id (by omega) (by omega)]
    refine xb_148_4 ?_
    rw [if_pos (by omega), if_pos (by decide)]; exact hQ
set_option maxRecDepth 20000 in
theorem l_148_1 {sc : List Int} {d : Nat} {t : xm_W} {m : Nat → Nat → Int} {Q : Option xm_V × xm_W → Prop} {a b i x : Int} (ht : t.length < 900000) (hb : 0 ≤ b) (h0 : 0 ≤ i) (h1 : i < 5) (hx : x = 1 ∨ x = 2 ∨ x = 3 ∨ x = 6) (hQ : Q ((some (.inl (if b = 0 ∨ x = b then 1 else 0)), (yy_W (m) t)))) : xm_EQ (xm_old sc) xm_sta (xm_X (xm_old sc) xm_mt (d)) xm_c148 4 [some (.inl (a)), some (.inl (b)), some (.inl (x)), some (.inl (i))] [] (yy_W (m) t) Q := by
  refine xb_148_4 ?_
  rw [if_pos (by omega), if_neg (by omega)]
  by_cases e : x = b
  · rw [if_pos e]; rw [if_pos (Or.inr e)] at hQ; exact hQ
  · rw [if_neg e, zz_st ht]
    have s : xm_EQ (xm_old sc) xm_sta (xm_X (xm_old sc) xm_mt (d)) xm_c148 4 [some (.inl (a)), some (.inl (b)), some (.inl ((0 : Int))), some (.inl (xm_w (i + 1)))] [] (yy_W (m) t) Q := by
      rw [xm_w_id (by omega) (by omega)]
      refine l_148_0 ht hb (by omega) (by omega) ?_
      by_cases b0 : b = 0
      · rw [if_pos b0]; rw [if_pos (Or.inl b0)] at hQ; exact hQ
      · rw [if_neg b0]; rw [if_neg (by omega)] at hQ; exact hQ
    rcases hx with h | h | h | h <;> subst h
    · rw [zst_1]; exact s
    · rw [zst_2]; exact s
    · rw [zst_3]; exact s
    · rw [zst_6]; exact s
set_option maxRecDepth 20000 in
theorem c_148 {sc : List Int} {d : Nat} {t : xm_W} {m : Nat → Nat → Int} {a b : Int} (ht : t.length < 900000) (ha : 0 ≤ a ∧ a ≤ 6) (hb : 0 ≤ b ∧ b ≤ 6) : xm_X (xm_old sc) xm_mt (d + 1) 148 [.inl (a), .inl (b)] (yy_W (m) t) = some (some (.inl (sp_under a b)), (yy_W (m) t)) := by
  refine xm_X_of (M := xm_m148) rfl ⟨xm_EQ.eq (xb_148_0 ?_), ?_, rfl, Nat.le_of_ble_eq_true rfl, xw_hd0⟩
  · unfold sp_under
    rcases (show a = 0 ∨ (a = 1 ∨ a = 2 ∨ a = 3 ∨ a = 6) ∨ a = 4 ∨ a = 5 by omega) with h | h | h | h
    · subst h
      refine l_148_0 ht hb.1 (by decide) (by decide) ?_
      by_cases b0 : b = 0
      · rw [if_pos b0, if_pos (Or.inl b0)]
      · rw [if_neg b0, if_neg (by omega)]
    · refine l_148_1 ht hb.1 (by decide) (by decide) h ?_
      by_cases b0 : b = 0 ∨ a = b
      · rw [if_pos b0, if_pos (by omega)]
      · rw [if_neg b0, if_neg (by omega)]
    · subst h
      refine xb_148_4 ?_
      rw [if_pos (by decide), if_neg (by decide)]
      by_cases e : 4 = b
      · rw [if_pos e, if_pos (by omega)]
      · rw [if_neg e, zz_st ht, zst_4, show xm_w ((0 : Int) + 1) = 1 from rfl]
        refine l_148_1 (x := 1) (i := 1) ht hb.1 (by decide) (by decide) (by decide) ?_
        by_cases b0 : b = 0 ∨ 1 = b
        · rw [if_pos b0, if_pos (by omega)]
        · rw [if_neg b0, if_neg (by omega)]
    · subst h
      refine xb_148_4 ?_
      rw [if_pos (by decide), if_neg (by decide)]
      by_cases e : 5 = b
      · rw [if_pos e, if_pos (by omega)]
      · rw [if_neg e, zz_st ht, zst_5, show xm_w ((0 : Int) + 1) = 1 from rfl]
        refine l_148_1 (x := 2) (i := 1) ht hb.1 (by decide) (by decide) (by decide) ?_
        by_cases b0 : b = 0 ∨ 2 = b
        · rw [if_pos b0, if_pos (by omega)]
        · rw [if_neg b0, if_neg (by omega)]
  · show (_ == _ || _ == _) = true
    unfold sp_under
    split <;> rfl
set_option maxRecDepth 20000 in
theorem oc_148 {F : Int → xm_W → Prop} {sc : List Int} {d : Nat} {t : xm_W} {m : Nat → Nat → Int} {a b : Int} (ht : t.length < 900000) (ha : 0 ≤ a ∧ a ≤ 6) (hb : 0 ≤ b ∧ b ≤ 6) : xm_Oi (xm_X (xm_old sc) xm_mt (d + 1) 148 [.inl (a), .inl (b)] (yy_W (m) t)) F = F (sp_under a b) (yy_W (m) t) := congrArg (fun x => xm_Oi x F) (c_148 ht ha hb)
set_option maxRecDepth 20000 in
theorem a_106 {sc : List Int} {t : xm_W} {m : Nat → Nat → Int} {x1 x2 : Int} (hI : yy_I t m) (ht : t.length < 900000) : yy_A sc t m 106 1147 [.inl x1, .inl x2] true := by
  by_cases h : (0 ≤ x1 ∧ x1 ≤ m 1 4 - 1) ∧ (0 ≤ x2 ∧ x2 ≤ 6)
  · obtain ⟨⟨e0, e3, e1, e2⟩, hR⟩ := yy_I_0 hI
    obtain ⟨a0, a1, a2, a3, a4, a5⟩ := id hR
    obtain ⟨r, rfl⟩ : ∃ r : Nat, x1 = r := ⟨x1.toNat, by omega⟩
    have hr5 : r < 5 := by omega
    obtain ⟨b0, b1, b2, b3, b4, b5, b6⟩ := a5 r hr5
    have g7 := hI.2.1.1.2.2.2.2.2.2
    have hq := yy_rdn8 hr5
    have er : ((r : Int)).toNat = r := Int.toNat_natCast r
    have f0 : m (8 + 2 * r) 0 = m 75 (44 + 18 * r) := (g7 r hr5).1 0 (by decide)
    have f3 : m (8 + 2 * r) 3 = m 75 (47 + 18 * r) := by rw [(g7 r hr5).1 3 (by decide)]; congr 1; omega
    by_cases g : sp_under (m 75 (44 + 18 * r)) x2 = 0
    · have X1 : xm_X (xm_old sc) xm_mt (99 + 1) 106 [.inr (.inl (some 0)), .inl (r : Int), .inl x2] (yy_W m t) = some (some (.inl (-1000000005)), yy_W (yy_e m 5) t) := by
        refine xm_X_of (M := xm_m106) rfl ⟨xm_EQ.eq (xb_106_0 ?_), rfl, rfl, Nat.le_of_ble_eq_true rfl, yy_hd rfl (by decide)⟩
        rw [oc_141 (d := 97) (by omega) (by omega), zz_t h.1, oc_142 (d := 98), zz_t h.2, zr_0_0, zr_1_3, zq_3, zq_r1 (by omega) (by omega), er, xm_O_some, gf_0 hq, f0, oc_148 (d := 98) ht b0 h.2, if_pos g, oc_139 (d := 98) (by decide) (by decide)]
        rfl
      have f : yy_e m 5 75 = m 75 := yy_e75 (by decide)
      have X2 : xm_X (xm_old sc) xm_mt (99 + 1) 1147 [.inr (.inl (some 74)), .inl (r : Int), .inl x2] (yy_W (yy_e m 5) t) = some (some (.inl (-1000000005)), yy_W (yy_f (yy_e m 5) 5) t) := by
        refine xm_X_of (M := xm_m1147) rfl ⟨xm_EQ.eq (xb_1147_0 ?_), rfl, rfl, Nat.le_of_ble_eq_true rfl, yy_hd rfl (by decide)⟩
        rw [oc_1109 (d := 97) (by rw [f]; omega) (by rw [f]; omega), zz_t (by rw [f]; omega), oc_1103 (d := 98), zz_t h.2]
        rw [oc_1110 (d := 98) (by omega) (by omega) (by omega) (by omega), f, show (44 + 18 * (r : Int) + 0).toNat = 44 + 18 * r by omega, oc_1146 (d := 98), if_pos g, oc_1102 (d := 98) (by decide) (by decide)]
        rfl
      exact yy_Ao X1 X2 (yy_I_ef hI) yy_ef0 rfl
    · have X1 : xm_X (xm_old sc) xm_mt (99 + 1) 106 [.inr (.inl (some 0)), .inl (r : Int), .inl x2] (yy_W m t) = some (some (.inl (m 75 (47 + 18 * r))), yy_W m t) := by
        refine xm_X_of (M := xm_m106) rfl ⟨xm_EQ.eq (xb_106_0 ?_), rfl, rfl, Nat.le_of_ble_eq_true rfl, yy_hd rfl (by decide)⟩
        rw [oc_141 (d := 97) (by omega) (by omega), zz_t h.1, oc_142 (d := 98), zz_t h.2, zr_0_0, zr_1_3, zq_3, zq_r1 (by omega) (by omega), er, xm_O_some, gf_0 hq, f0, oc_148 (d := 98) ht b0 h.2, if_neg g]
        simp (disch := first | omega | (unfold xm_w; omega)) only [↓zy_at, xm_O_some, xm_Oi_some, xm_Ov_some, xm_Oq_some, ↓reduceIte, ↓zz_t, ↓zz_f, ↓zi_t, ↓zi_f, eq_self, yy_d_0, Int.reduceEq, Int.reduceLT, Int.reduceLE, Int.reduceNe, Int.reduceToNat, Int.reduceAdd, Int.reduceSub, Int.reduceMul, Int.reduceNeg, Nat.reduceAdd, Nat.reduceMul, Nat.reduceSub, Nat.reduceEqDiff, Nat.reduceLT, ne_eq, not_false_eq_true, not_true_eq_false, true_and, and_true, and_self, yy_s_eq, yy_s_ne, yy_c_eq, yy_c_ne, yy_u_eq, yy_u_ne, xm_w_id, yy_at, tdiv_pos, tmod_pos, ↓zr_0_0, ↓zr_0_1, ↓zr_0_2, ↓zr_0_3, ↓zr_0_4, ↓zf_0_5, ↓zs_0_5, ↓zr_0_6, ↓zr_0_7, ↓zr_0_8, ↓zr_0_9, ↓zr_0_10, ↓zr_1_0, ↓zf_1_1, ↓zs_1_1, ↓zf_1_2, ↓zs_1_2, ↓zr_1_3, ↓zf_1_4, ↓zs_1_4, ↓zr_1_5, ↓zf_1_6, ↓zs_1_6, ↓zr_1_7, ↓zr_1_8, ↓zr_1_9, ↓zq_3, ↓zq_r1, er, ↓gf_3 hq, f3]
      have X2 : xm_X (xm_old sc) xm_mt (99 + 1) 1147 [.inr (.inl (some 74)), .inl (r : Int), .inl x2] (yy_W m t) = some (some (.inl (m 75 (47 + 18 * r))), yy_W m t) := by
        refine xm_X_of (M := xm_m1147) rfl ⟨xm_EQ.eq (xb_1147_0 ?_), rfl, rfl, Nat.le_of_ble_eq_true rfl, yy_hd rfl (by decide)⟩
        rw [oc_1109 (d := 97) (by omega) (by omega), zz_t (by omega), oc_1103 (d := 98), zz_t h.2]
        rw [oc_1110 (d := 98) (by omega) (by omega) (by omega) (by omega), show (44 + 18 * (r : Int) + 0).toNat = 44 + 18 * r by omega, oc_1146 (d := 98), if_neg g, oc_1110 (d := 98) (by omega) (by omega) (by omega) (by omega), show (44 + 18 * (r : Int) + 3).toNat = 47 + 18 * r by omega]
      exact yy_Ao X1 X2 hI rfl rfl
  · exact r_106 hI h
end
section
/-! WAYS: both sides -/
def sg_wy (nu : Nat → Int) (r : Nat) : Nat → Nat → (Nat → Int) → Nat × (Nat → Int)
  | 0, i, s => (i, s)
  | k + 1, i, s => if (0 ≤ nu i ∧ nu i ≤ 3) ∧ s (48 + 18 * r) < 12 then sg_wy nu r k (i + 1) (sg_aw s r (nu i)) else (i, s)
set_option maxRecDepth 20000 in
theorem sg_wy_s {nu : Nat → Int} {r k i : Nat} {s : Nat → Int} : sg_wy nu r (k + 1) i s = if (0 ≤ nu i ∧ nu i ≤ 3) ∧ s (48 + 18 * r) < 12 then sg_wy nu r k (i + 1) (sg_aw s r (nu i)) else (i, s) := rfl
set_option maxRecDepth 20000 in
theorem sg_wy_congr {nu nu' : Nat → Int} {r : Nat} : ∀ (k i : Nat) (s : Nat → Int), (∀ j, i ≤ j → j < i + k → nu j = nu' j) → sg_wy nu r k i s = sg_wy nu' r k i s
  | 0, i, s, h => rfl
  | k + 1, i, s, h => by
    rw [sg_wy_s, sg_wy_s, h i (by omega) (by omega), sg_wy_congr k (i + 1) _ (fun j a b => h j (by omega) (by omega))]
set_option maxRecDepth 20000 in
theorem sg_aw_o {s : Nat → Int} {r k : Nat} {w : Int} (h1 : k ≠ 48 + 18 * r) (h2 : k ≠ 50 + 18 * r + (s (48 + 18 * r)).toNat) : sg_aw s r w k = s k := by unfold sg_aw; rw [yy_u_ne h1, yy_u_ne h2]
set_option maxRecDepth 20000 in
theorem sg_aw_4 {s : Nat → Int} {r : Nat} {w : Int} : sg_aw s r w (48 + 18 * r) = s (48 + 18 * r) + 1 := yy_u_eq
set_option maxRecDepth 20000 in
theorem l_131 {sc : List Int} {d : Nat} {t : xm_W} {Q : Option xm_V × xm_W → Prop} {sh r : Nat} {n : Nat} {nu : Nat → Int} (hsh : sh < 4) (hr5 : r < 5) (hn : n ≤ 24) : ∀ (k i : Nat) (m g : Nat → Nat → Int) (u : Option xm_V), i + k = n → m (66 + 2 * sh) 1 = (n : Int) → m (67 + 2 * sh) = nu → yy_I t g → (∀ c, c ≠ 75 → m c = g c) → (∀ m' g', yy_I t g' → (∀ c, c ≠ 75 → m' c = g' c) → (∀ c, (c < 8 ∨ 18 ≤ c) → m' c = m c) → g' 75 = (sg_wy nu r k i (g 75)).2 → Q ((some (.inl (((sg_wy nu r k i (g 75)).1 : Int))), (yy_W (m') t)))) → xm_EQ (xm_old sc) xm_sta (xm_X (xm_old sc) xm_mt (d + 1)) xm_c131 25 [some (.inr (.inl (some 0))), some (.inl ((sh : Int))), some (.inl ((r : Int))), some (.inr (.inl (some (66 + 2 * sh)))), some (.inl ((i : Int))), u] [] (yy_W (m) t) Q
  | 0, i, m, g, u, hk, h1, h2, hI, hg, hQ => by
    have hs : yy_sh (66 + 2 * sh) := by have := yy_sh66 (i := (sh : Int)) (by omega) (by omega); rwa [Int.toNat_natCast] at this
    refine xb_131_25 ?_
    rw [xm_O_some, hf_1 hs, if_neg (by omega), hf_1 hs]
    have := hQ m g hI hg (fun _ _ => rfl) rfl
    rw [show m (66 + 2 * sh) 1 = ((sg_wy nu r 0 i (g 75)).1 : Int) from by rw [h1]; show (n : Int) = (i : Int); omega]
    exact this
  | k + 1, i, m, g, u, hk, h1, h2, hI, hg, hQ => by
    have hs : yy_sh (66 + 2 * sh) := by have := yy_sh66 (i := (sh : Int)) (by omega) (by omega); rwa [Int.toNat_natCast] at this
    have hq := yy_rdn8 hr5
    have er : ((r : Int)).toNat = r := Int.toNat_natCast r
    obtain ⟨⟨e0, e3, e1, e2⟩, hR⟩ := yy_I_0 hI
    obtain ⟨b0, b1, b2, b3, b4, b5, b6⟩ := hR.2.2.2.2.2 r hr5
    have f4 : m (8 + 2 * r) 4 = g 75 (48 + 18 * r) := by rw [hg _ (by omega), (hI.2.1.1.2.2.2.2.2.2 r hr5).1 4 (by decide)]; congr 1; omega
    rw [sg_wy_s] at hQ
    refine xb_131_25 ?_
    rw [xm_O_some, hf_1 hs, if_pos (by omega), hr_2 hs, hi_1 hs, zy_at (by omega) (by omega), Int.toNat_natCast, show 66 + 2 * sh + 1 = 67 + 2 * sh by omega, h2, oc_142 (d := d)]
    by_cases g1 : 0 ≤ nu i ∧ nu i ≤ 3
    · rw [zz_t g1, zr_0_0, zr_1_3, zq_3, zq_r1 (by omega) (by omega), er, oc_604 (d := d) hq (by omega)]
      by_cases g2 : g 75 (48 + 18 * r) < 12
      · rw [if_pos ⟨g1, g2⟩] at hQ
        have g4 : m (8 + 2 * r) 4 < 12 := by omega
        have hx : g (8 + 2 * r) 4 = m (8 + 2 * r) 4 := by rw [hg _ (by omega)]
        rw [if_pos g4, if_pos g4, if_neg (by decide), xm_w_id (by omega) (by omega), show (i : Int) + 1 = ((i + 1 : Nat) : Int) from rfl]
        have hI' := yy_I_aw (w := nu i) hI hr5 g1 g2
        rw [hx] at hI'
        have key := l_131 (sc := sc) (d := d) (Q := Q) (nu := nu) hsh hr5 hn k (i + 1) (yy_s (yy_s m (8 + 2 * r + 1) (m (8 + 2 * r) 4).toNat (nu i)) (8 + 2 * r) 4 (m (8 + 2 * r) 4 + 1)) _ (some (.inl (nu i))) (by omega) (by rw [yy_s_ne (by omega), yy_s_ne (by omega)]; exact h1) (by rw [yy_s_ne (by omega), yy_s_ne (by omega)]; exact h2) hI' (fun c hc => by
          rw [yy_c_ne hc]
          by_cases c1 : c = 8 + 2 * r
          · subst c1; rw [yy_s_eq, yy_s_eq, yy_s_ne (by omega), yy_s_ne (by omega), hg _ hc]
          · rw [yy_s_ne c1, yy_s_ne c1]
            by_cases c2 : c = 8 + 2 * r + 1
            · subst c2; rw [yy_s_eq, yy_s_eq, hg _ hc]
            · rw [yy_s_ne c2, yy_s_ne c2]; exact hg c hc)
        rw [yy_c_eq] at key
        exact key (fun m' g' a b c e => hQ m' g' a b (fun c' hc' => by rw [c c' hc', yy_s_ne (by omega), yy_s_ne (by omega)]) e)
      · rw [if_neg (fun h => g2 h.2)] at hQ
        have g4 : ¬ m (8 + 2 * r) 4 < 12 := by omega
        rw [if_neg g4, if_neg g4, if_pos rfl]
        exact hQ m g hI hg (fun _ _ => rfl) rfl
    · rw [if_neg (fun h => g1 h.1)] at hQ
      rw [zz_f g1]
      exact hQ m g hI hg (fun _ _ => rfl) rfl
end
section
/-! WAYS: the reference -/
set_option maxRecDepth 20000 in
theorem c_1150 {sc : List Int} {d : Nat} {t : xm_W} {m : Nat → Nat → Int} {r : Nat} {w : Int} (hr : r < 5) (q0 : 0 ≤ m 75 0 ∧ m 75 0 ≤ 5) (q1 : (r : Int) ≤ m 75 0 - 1) : xm_X (xm_old sc) xm_mt (d + 3) 1150 [.inr (.inl (some 74)), .inl ((r : Int)), .inl (w)] (yy_W (m) t) = some (some (.inl (if 0 ≤ w ∧ w ≤ 3 then (if m 75 (48 + 18 * r) = 12 then 4 else 0) else 1)), (yy_W (m) t)) := by
  refine xm_X_of (M := xm_m1150) rfl ⟨xm_EQ.eq (xb_1150_0 ?_), rfl, rfl, Nat.le_of_ble_eq_true rfl, yy_hd rfl (by decide)⟩
  rw [oc_1109 (by omega) (by omega), zz_t (by omega), oc_1103]
  by_cases g : 0 ≤ w ∧ w ≤ 3
  · rw [zz_t g, oc_1110_4 hr, if_pos g]
    by_cases g2 : m 75 (48 + 18 * r) = 12
    · rw [if_pos g2, if_pos g2]
    · rw [if_neg g2, if_neg g2]
  · rw [zz_f g, if_neg g]
set_option maxRecDepth 20000 in
theorem oc_1150 {F : Int → xm_W → Prop} {sc : List Int} {d : Nat} {t : xm_W} {m : Nat → Nat → Int} {r : Nat} {w : Int} (hr : r < 5) (q0 : 0 ≤ m 75 0 ∧ m 75 0 ≤ 5) (q1 : (r : Int) ≤ m 75 0 - 1) : xm_Oi (xm_X (xm_old sc) xm_mt (d + 3) 1150 [.inr (.inl (some 74)), .inl ((r : Int)), .inl (w)] (yy_W (m) t)) F = F (if 0 ≤ w ∧ w ≤ 3 then (if m 75 (48 + 18 * r) = 12 then 4 else 0) else 1) (yy_W (m) t) := congrArg (fun x => xm_Oi x F) (c_1150 hr q0 q1)
set_option maxRecDepth 20000 in
theorem c_1200 {sc : List Int} {d : Nat} {t : xm_W} {m : Nat → Nat → Int} {i r : Nat} (hi : i < 4) (q0 : 0 ≤ m 75 0 ∧ m 75 0 ≤ 5) (q1 : (r : Int) ≤ m 75 0 - 1) : xm_X (xm_old sc) xm_mt (d + 3) 1200 [.inr (.inl (some 74)), .inl ((i : Int)), .inl ((r : Int))] (yy_W (m) t) = some (some (.inl (if m 83 i = 0 then 2 else 0)), (yy_W (m) t)) := by
  refine xm_X_of (M := xm_m1200) rfl ⟨xm_EQ.eq (xb_1200_0 ?_), rfl, rfl, Nat.le_of_ble_eq_true rfl, yy_hd rfl (by decide)⟩
  rw [oc_1196, zz_t (by omega), oc_1109 (by omega) (by omega), zz_t (by omega), zr_74_18, zi_83, zy_at (by omega) (by omega), Int.toNat_natCast]
  by_cases g2 : m 83 i = 0
  · rw [if_pos g2, if_pos g2]
  · rw [if_neg g2, if_neg g2]
set_option maxRecDepth 20000 in
theorem oc_1200 {F : Int → xm_W → Prop} {sc : List Int} {d : Nat} {t : xm_W} {m : Nat → Nat → Int} {i r : Nat} (hi : i < 4) (q0 : 0 ≤ m 75 0 ∧ m 75 0 ≤ 5) (q1 : (r : Int) ≤ m 75 0 - 1) : xm_Oi (xm_X (xm_old sc) xm_mt (d + 3) 1200 [.inr (.inl (some 74)), .inl ((i : Int)), .inl ((r : Int))] (yy_W (m) t)) F = F (if m 83 i = 0 then 2 else 0) (yy_W (m) t) := congrArg (fun x => xm_Oi x F) (c_1200 hi q0 q1)
end
section
/-! WAYS: the reference, its loop -/
set_option maxRecDepth 20000 in
theorem xm_w2 {a b : Int} (h0 : -2147483648 ≤ a) (h1 : a < 2147483648) (h2 : -2147483648 ≤ a + b) (h3 : a + b < 2147483648) : xm_w (xm_w a + b) = a + b := by rw [xm_w_id h0 h1, xm_w_id h2 h3]
set_option maxRecDepth 20000 in
theorem l_1201 {sc : List Int} {d : Nat} {t : xm_W} {Q : Option xm_V × xm_W → Prop} {sh r : Nat} {n : Nat} {nu : Nat → Int} {z : Int} (hsh : sh < 4) (hr5 : r < 5) (hn : n ≤ 24) : ∀ (k i : Nat) (m : Nat → Nat → Int), i + k = n → m 84 sh = (n : Int) → (∀ j, j < 24 → m 85 (24 * sh + j) = nu j) → (0 ≤ m 75 0 ∧ m 75 0 ≤ 5) → (r : Int) ≤ m 75 0 - 1 → (0 ≤ m 75 (48 + 18 * r) ∧ m 75 (48 + 18 * r) ≤ 12) → Q ((some (.inl (((sg_wy nu r k i (m 75)).1 : Int))), (yy_W (yy_c m 75 (sg_wy nu r k i (m 75)).2) t))) → xm_EQ (xm_old sc) xm_sta (xm_X (xm_old sc) xm_mt (d + 3)) xm_c1201 13 [some (.inr (.inl (some 74))), some (.inl ((sh : Int))), some (.inl ((r : Int))), some (.inl (z)), some (.inl ((i : Int)))] [] (yy_W (m) t) Q
  | 0, i, m, hk, h1, h2, h0, h3, h4, hQ => by
    refine xb_1201_13 ?_
    rw [zr_74_19, zi_84, zy_at (by omega) (by omega), Int.toNat_natCast, if_neg (by omega)]
    have e : yy_c m 75 (m 75) = m := yy_c_id
    rw [show (sg_wy nu r 0 i (m 75)).2 = m 75 from rfl, e] at hQ
    exact hQ
  | k + 1, i, m, hk, h1, h2, h0, h3, h4, hQ => by
    have g85 := h2 i (by omega)
    rw [sg_wy_s] at hQ
    refine xb_1201_13 ?_
    rw [zr_74_19, zi_84, zy_at (by omega) (by omega), Int.toNat_natCast, if_pos (by omega), zr_74_20, zi_85, xm_w2 (by omega) (by omega) (by omega) (by omega), zy_at (by omega) (by omega), show (24 * (sh : Int) + (i : Int)).toNat = 24 * sh + i by omega, g85, oc_1150 (d := d) hr5 h0 h3]
    by_cases g1 : 0 ≤ nu i ∧ nu i ≤ 3
    · rw [if_pos g1]
      by_cases g2 : m 75 (48 + 18 * r) < 12
      · rw [if_pos ⟨g1, g2⟩] at hQ
        rw [if_neg (by omega : ¬ m 75 (48 + 18 * r) = 12), if_pos rfl, zr_74_20, zi_85, zy_at (by omega) (by omega), show (24 * (sh : Int) + (i : Int)).toNat = 24 * sh + i by omega, g85, oc_1151 (d := d + 1) hr5 ⟨h4.1, g2⟩, xm_w_id (by omega) (by omega), show (i : Int) + 1 = ((i + 1 : Nat) : Int) from rfl]
        have key := l_1201 (sc := sc) (d := d) (t := t) (Q := Q) (z := z) (nu := nu) hsh hr5 hn k (i + 1) (yy_c m 75 (sg_aw (m 75) r (nu i))) (by omega) (by rw [yy_c_ne (by decide)]; exact h1) (fun j hj => by rw [yy_c_ne (by decide)]; exact h2 j hj) (by rw [yy_c_eq, sg_aw_o (by omega) (by omega)]; exact h0) (by rw [yy_c_eq, sg_aw_o (by omega) (by omega)]; exact h3) (by rw [yy_c_eq, sg_aw_4]; omega)
        rw [yy_c_eq, yy_c_c] at key
        exact key hQ
      · rw [if_neg (fun h => g2 h.2)] at hQ
        rw [if_pos (by omega : m 75 (48 + 18 * r) = 12), if_neg (by decide)]
        have e : yy_c m 75 (m 75) = m := yy_c_id
        rw [e] at hQ
        exact hQ
    · rw [if_neg (fun h => g1 h.1)] at hQ
      rw [if_neg g1, if_neg (by decide)]
      have e : yy_c m 75 (m 75) = m := yy_c_id
      rw [e] at hQ
      exact hQ
end
section
/-! WAYS: the act -/
set_option maxRecDepth 20000 in
theorem a_131 {sc : List Int} {t : xm_W} {m : Nat → Nat → Int} {x1 x2 : Int} (hI : yy_I t m) : yy_A sc t m 131 1201 [.inl x1, .inl x2] true := by
  by_cases h : (0 ≤ x1 ∧ x1 ≤ 3) ∧ (0 ≤ x2 ∧ x2 ≤ m 1 4 - 1)
  · obtain ⟨⟨e0, e3, e1, e2⟩, hR⟩ := yy_I_0 hI
    have b0 := hR.1
    obtain ⟨i, rfl⟩ : ∃ i : Nat, x1 = i := ⟨x1.toNat, by omega⟩
    obtain ⟨r, rfl⟩ : ∃ r : Nat, x2 = r := ⟨x2.toNat, by omega⟩
    have hr5 : r < 5 := by omega
    have hi4 : i < 4 := by omega
    have hb := hR.2.2.2.2.2 r hr5
    obtain ⟨s1, s2, s3, s4, s5⟩ := hI.2.2.2.2.1 i hi4
    have hr : yy_sh (66 + 2 * i) := by have := yy_sh66 (i := (i : Int)) (by omega) (by omega); rwa [Int.toNat_natCast] at this
    have ei : ((i : Int)).toNat = i := Int.toNat_natCast i
    by_cases g : m 83 i = 0
    · have X1 : xm_X (xm_old sc) xm_mt (99 + 1) 131 [.inr (.inl (some 0)), .inl (i : Int), .inl (r : Int)] (yy_W m t) = some (some (.inl (-1000000002)), yy_W (yy_e m 2) t) := by
        refine xm_X_of (M := xm_m131) rfl ⟨xm_EQ.eq (xb_131_0 ?_), rfl, rfl, Nat.le_of_ble_eq_true rfl, yy_hd rfl (by decide)⟩
        rw [oc_147 (d := 97), zz_t h.1, oc_141 (d := 97) (by omega) (by omega), zz_t h.2, zr_0_9, zq_64, zq_sh (by omega) (by omega), ei, oc_702 (d := 98) hr, zz_t (by rw [s1]; exact g), oc_139 (d := 98) (by decide) (by decide)]
        rfl
      have f : ∀ c, c ≠ 65 → yy_e m 2 c = m c := fun c hc => yy_e75 hc
      have X2 : xm_X (xm_old sc) xm_mt (99 + 1) 1201 [.inr (.inl (some 74)), .inl (i : Int), .inl (r : Int)] (yy_W (yy_e m 2) t) = some (some (.inl (-1000000002)), yy_W (yy_f (yy_e m 2) 2) t) := by
        refine xm_X_of (M := xm_m1201) rfl ⟨xm_EQ.eq (xb_1201_0 ?_), rfl, rfl, Nat.le_of_ble_eq_true rfl, yy_hd rfl (by decide)⟩
        rw [oc_1200 (d := 96) hi4 (by rw [f 75 (by decide)]; omega) (by rw [f 75 (by decide)]; omega), f 83 (by decide), if_pos g, if_pos (by decide), oc_1102 (d := 98) (by decide) (by decide)]
        rfl
      exact yy_Ao X1 X2 (yy_I_ef hI) yy_ef0 rfl
    · obtain ⟨n, hn⟩ : ∃ n : Nat, m 84 i = n := ⟨(m 84 i).toNat, by omega⟩
      have X1 : ∃ m1, xm_X (xm_old sc) xm_mt (99 + 1) 131 [.inr (.inl (some 0)), .inl (i : Int), .inl (r : Int)] (yy_W m t) = some (some (.inl ((sg_wy (m (67 + 2 * i)) r n 0 (m 75)).1 : Int)), yy_W m1 t) ∧ ∃ g', yy_I t g' ∧ (∀ c, c ≠ 75 → m1 c = g' c) ∧ (∀ c, (c < 8 ∨ 18 ≤ c) → m1 c = m c) ∧ g' 75 = (sg_wy (m (67 + 2 * i)) r n 0 (m 75)).2 := by
        have key : ∀ {Q : Option xm_V × xm_W → Prop}, (∀ m1, (∃ g', yy_I t g' ∧ (∀ c, c ≠ 75 → m1 c = g' c) ∧ (∀ c, (c < 8 ∨ 18 ≤ c) → m1 c = m c) ∧ g' 75 = (sg_wy (m (67 + 2 * i)) r n 0 (m 75)).2) → Q (some (.inl ((sg_wy (m (67 + 2 * i)) r n 0 (m 75)).1 : Int)), yy_W m1 t)) → xm_EQ (xm_old sc) xm_sta (xm_X (xm_old sc) xm_mt 99) xm_m131.2.2.2.2.2.2.2 0 (xm_loc xm_m131.2.2.1 [.inr (.inl (some 0)), .inl (i : Int), .inl (r : Int)]) [] (yy_W m t) Q := by
          intro Q hQ
          refine xb_131_0 ?_
          rw [oc_147 (d := 97), zz_t h.1, oc_141 (d := 97) (by omega) (by omega), zz_t h.2, zr_0_9, zq_64, zq_sh (by omega) (by omega), ei, oc_702 (d := 98) hr, zz_f (by rw [s1]; exact g)]
          exact l_131 (d := 98) hi4 hr5 (by omega : n ≤ 24) n 0 m m none (by omega) (by rw [s3, hn]) rfl hI (fun _ _ => rfl) (fun m' g' a b c e => hQ m' ⟨g', a, b, c, e⟩)
        obtain ⟨q, h1, m', h2, h3⟩ := yx_of (y := 131) (M := xm_m131) (sc := sc) (d := 99) (as := [.inr (.inl (some 0)), .inl (i : Int), .inl (r : Int)]) (w := yy_W m t) (Q := fun q => ∃ m1, q = (some (.inl ((sg_wy (m (67 + 2 * i)) r n 0 (m 75)).1 : Int)), yy_W m1 t) ∧ ∃ g', yy_I t g' ∧ (∀ c, c ≠ 75 → m1 c = g' c) ∧ (∀ c, (c < 8 ∨ 18 ≤ c) → m1 c = m c) ∧ g' 75 = (sg_wy (m (67 + 2 * i)) r n 0 (m 75)).2) rfl (key fun m' h => ⟨m', rfl, h⟩) (fun q ⟨m', h, _⟩ => by rw [h]; rfl) rfl (Nat.le_of_ble_eq_true rfl) (yy_hd rfl (by decide))
        exact ⟨m', by rw [h1, h2], h3⟩
      obtain ⟨m1, X1, g', k1, k2, k3, k4⟩ := X1
      have f75 : m1 75 = m 75 := k3 75 (by omega)
      have hc := sg_wy_congr (nu := m (67 + 2 * i)) (nu' := fun j => m1 85 (24 * i + j)) (r := r) n 0 (m 75) (fun j a b => by rw [k3 85 (by omega)]; exact (s5 j (by omega)).1)
      have X2 : xm_X (xm_old sc) xm_mt (99 + 1) 1201 [.inr (.inl (some 74)), .inl (i : Int), .inl (r : Int)] (yy_W m1 t) = some (some (.inl ((sg_wy (m (67 + 2 * i)) r n 0 (m 75)).1 : Int)), yy_W (yy_c m1 75 (sg_wy (m (67 + 2 * i)) r n 0 (m 75)).2) t) := by
        refine xm_X_of (M := xm_m1201) rfl ⟨xm_EQ.eq (xb_1201_0 ?_), rfl, rfl, Nat.le_of_ble_eq_true rfl, yy_hd rfl (by decide)⟩
        rw [oc_1200 (d := 96) hi4 (by rw [f75]; omega) (by rw [f75]; omega), k3 83 (by omega), if_neg g, if_neg (by decide)]
        refine l_1201 (d := 96) (nu := fun j => m1 85 (24 * i + j)) (n := n) hi4 hr5 (by omega) n 0 m1 (by omega) (by rw [k3 84 (by omega)]; exact hn) (fun j _ => rfl) (by rw [f75]; exact b0) (by rw [f75]; omega) (by rw [f75]; exact hb.2.2.2.2.1) ?_
        rw [f75, ← hc]
      have E : yy_c m1 75 (sg_wy (m (67 + 2 * i)) r n 0 (m 75)).2 = g' := by
        funext c
        by_cases c5 : c = 75
        · subst c5; rw [yy_c_eq, k4]
        · rw [yy_c_ne c5]; exact k2 c c5
      exact yy_Ao X1 X2 (by rw [E]; exact k1) (by rw [yy_c_ne (by decide), k3 0 (by omega)]) rfl
  · exact r_131 hI h
end
section
/-! JUDGE, CHECK: both sides -/
def sg_jd (nu : Nat → Int) (r : Nat) : Nat → Nat → (Nat → Int) → Nat
  | 0, i, _ => i
  | k + 1, i, s => if nu i = s (46 + 18 * r) then sg_jd nu r k (i + 1) (sg_hour (-1) s) else i
set_option maxRecDepth 20000 in
theorem sg_jd_s {nu : Nat → Int} {r k i : Nat} {s : Nat → Int} : sg_jd nu r (k + 1) i s = if nu i = s (46 + 18 * r) then sg_jd nu r k (i + 1) (sg_hour (-1) s) else i := rfl
set_option maxRecDepth 20000 in
theorem sg_jd_congr {nu nu' : Nat → Int} {r : Nat} : ∀ (k i : Nat) (s : Nat → Int), (∀ j, i ≤ j → j < i + k → nu j = nu' j) → sg_jd nu r k i s = sg_jd nu' r k i s
  | 0, i, s, h => rfl
  | k + 1, i, s, h => by
    rw [sg_jd_s, sg_jd_s, h i (by omega) (by omega), sg_jd_congr k (i + 1) _ (fun j a b => h j (by omega) (by omega))]
set_option maxRecDepth 20000 in
theorem yy_shn {i : Nat} (h : i < 4) : yy_sh (66 + 2 * i) := by have := yy_sh66 (i := (i : Int)) (by omega) (by omega); rwa [Int.toNat_natCast] at this
set_option maxRecDepth 20000 in
theorem l_132 {sc : List Int} {d : Nat} {t : xm_W} {Q : Option xm_V × xm_W → Prop} {sh r : Nat} {n z : Nat} {nu : Nat → Int} {m0 : Nat → Nat → Int} (hsh : sh < 4) (hr5 : r < 5) (hn : n ≤ 24) (h1 : m0 (66 + 2 * sh) 1 = (n : Int)) (h2 : m0 (67 + 2 * sh) = nu) (hQ : ∀ m', (∀ c, (c < 18 ∨ 35 ≤ c) → m' c = m0 c) → Q ((some (.inl ((z : Int))), (yy_W (m') t)))) : ∀ (k i : Nat) (m : Nat → Nat → Int) (s : Nat → Int), i + k = n → sg_W s 0 → s 1 + k ≤ 20000 → yy_MX t m 18 s → (∀ c, (c < 18 ∨ 35 ≤ c) → m c = m0 c) → sg_jd nu r k i s = z → xm_EQ (xm_old sc) xm_sta (xm_X (xm_old sc) xm_mt (d + 6)) xm_c132 30 [some (.inr (.inl (some 0))), some (.inl ((sh : Int))), some (.inl ((r : Int))), some (.inr (.inl (some (66 + 2 * sh)))), some (.inl ((i : Int)))] [] (yy_W (m) t) Q
  | 0, i, m, s, hk, hW, hs1, hM, hF, hz => by
    have hs := yy_shn hsh
    have hz' : i = z := hz
    have m1 : m (66 + 2 * sh) 1 = (n : Int) := by rw [hF _ (by omega)]; exact h1
    refine xb_132_30 ?_
    rw [xm_O_some, hf_1 hs, m1, if_neg (by omega), hf_1 hs, m1, show (n : Int) = (z : Int) by omega]
    exact hQ m hF
  | k + 1, i, m, s, hk, hW, hs1, hM, hF, hz => by
    have hs := yy_shn hsh
    have hq := yy_rdn25 hr5
    have er : ((r : Int)).toNat = r := Int.toNat_natCast r
    have m1 : m (66 + 2 * sh) 1 = (n : Int) := by rw [hF _ (by omega)]; exact h1
    have m2 : m (67 + 2 * sh) = nu := by rw [hF _ (by omega)]; exact h2
    have f2 : m (25 + 2 * r) 2 = s (46 + 18 * r) := by rw [(hM.1.2.2.2.2.2.2 r hr5).1 2 (by decide)]; congr 1; omega
    rw [sg_jd_s] at hz
    refine xb_132_30 ?_
    rw [xm_O_some, hf_1 hs, m1, if_pos (by omega), hr_2 hs, hi_1 hs, zy_at (by omega) (by omega), Int.toNat_natCast, show 66 + 2 * sh + 1 = 67 + 2 * sh by omega, m2, zr_0_1, zr_18_3, zq_20, zq_r18 (by omega) (by omega), er, xm_O_some, gf_2 hq, f2]
    by_cases g : nu i = s (46 + 18 * r)
    · rw [if_pos g] at hz
      rw [if_pos g, zr_0_1]
      obtain ⟨m', e, g1, g2⟩ := c_405_18g (sc := sc) (d := d) (t := t) (m := m) hM hW (by omega)
      obtain ⟨w1, w2, w3⟩ := sg_hour_W (st := -1) hW (by omega)
      rw [e, xm_Ov_some, xm_w_id (by omega) (by omega), show (i : Int) + 1 = ((i + 1 : Nat) : Int) from rfl]
      exact l_132 hsh hr5 hn h1 h2 hQ k (i + 1) m' (sg_hour (-1) s) (by omega) w1 (by rw [w2]; omega) g2 (fun c hc => by rw [g1 c (by omega)]; exact hF c hc) hz
    · rw [if_neg g] at hz
      rw [if_neg g, hz]
      exact hQ m hF
set_option maxRecDepth 20000 in
theorem l_1202 {sc : List Int} {d : Nat} {t : xm_W} {Q : Option xm_V × xm_W → Prop} {sh r : Nat} {n z : Nat} {zz : Int} {nu S0 : Nat → Int} {m0 : Nat → Nat → Int} (hsh : sh < 4) (hr5 : r < 5) (hn : n ≤ 24) (h1 : m0 84 sh = (n : Int)) (h2 : ∀ j, j < 24 → m0 85 (24 * sh + j) = nu j) (h3 : m0 74 3 = -1) (h77 : ∀ k, k < 339 → m0 77 k = S0 k) (hQ : ∀ m', (∀ c, c ≠ 75 → c ≠ 80 → c ≠ 81 → m' c = m0 c) → m' 75 = S0 → Q ((some (.inl ((z : Int))), (yy_W (m') t)))) : ∀ (k i : Nat) (m : Nat → Nat → Int), i + k = n → sg_W (m 75) 0 → m 75 1 + k ≤ 20000 → (∀ c, c ≠ 75 → c ≠ 80 → c ≠ 81 → m c = m0 c) → (∀ q, 339 ≤ q → m 75 q = S0 q) → sg_jd nu r k i (m 75) = z → xm_EQ (xm_old sc) xm_sta (xm_X (xm_old sc) xm_mt (d + 8)) xm_c1202 15 [some (.inr (.inl (some 74))), some (.inl ((sh : Int))), some (.inl ((r : Int))), some (.inl (zz)), some (.inl ((i : Int)))] [] (yy_W (m) t) Q
  | 0, i, m, hk, hW, hs1, hF, hq, hz => by
    have hz' : i = z := hz
    have m1 : m 84 sh = (n : Int) := by rw [hF 84 (by decide) (by decide) (by decide)]; exact h1
    refine xb_1202_15 ?_
    rw [zr_74_19, zi_84, zy_at (by omega) (by omega), Int.toNat_natCast, if_neg (by omega), oc_1107 (d := d + 6), yy_back (s := S0) (fun k hk => by rw [hF 77 (by decide) (by decide) (by decide)]; exact h77 k hk) hq, hz']
    exact hQ _ (fun c c1 c2 c3 => by rw [yy_c_ne c1]; exact hF c c1 c2 c3) yy_c_eq
  | k + 1, i, m, hk, hW, hs1, hF, hq, hz => by
    have m1 : m 84 sh = (n : Int) := by rw [hF 84 (by decide) (by decide) (by decide)]; exact h1
    have m2 : m 85 (24 * sh + i) = nu i := by rw [hF 85 (by decide) (by decide) (by decide)]; exact h2 i (by omega)
    have m3 : m 74 3 = -1 := by rw [hF 74 (by decide) (by decide) (by decide)]; exact h3
    rw [sg_jd_s] at hz
    refine xb_1202_15 ?_
    rw [zr_74_19, zi_84, zy_at (by omega) (by omega), Int.toNat_natCast, if_pos (by omega), zr_74_20, zi_85, xm_w2 (by omega) (by omega) (by omega) (by omega), zy_at (by omega) (by omega), show (24 * (sh : Int) + (i : Int)).toNat = 24 * sh + i by omega, m2, oc_1110_2 (d := d + 7) hr5]
    by_cases g : nu i = m 75 (46 + 18 * r)
    · rw [if_pos g] at hz
      obtain ⟨m', e, g1, g2⟩ := c_1156 (sc := sc) (d := d) (t := t) (m := m) hW (by omega)
      rw [m3] at g2
      obtain ⟨w1, w2, w3⟩ := sg_hour_W (st := -1) hW (by omega)
      rw [if_pos g, e, xm_Ov_some, xm_w_id (by omega) (by omega), show (i : Int) + 1 = ((i + 1 : Nat) : Int) from rfl]
      exact l_1202 hsh hr5 hn h1 h2 h3 h77 hQ k (i + 1) m' (by omega) (by rw [g2]; exact w1) (by rw [g2, w2]; omega) (fun c c1 c2 c3 => by rw [g1 c c1 c2 c3]; exact hF c c1 c2 c3) (fun q hq' => by rw [g2, w3 q (Or.inr hq') (by omega) (by omega)]; exact hq q hq') (by rw [g2]; exact hz)
    · rw [if_neg g] at hz
      rw [if_neg g, oc_1107 (d := d + 6), yy_back (s := S0) (fun k hk => by rw [hF 77 (by decide) (by decide) (by decide)]; exact h77 k hk) hq, hz]
      exact hQ _ (fun c c1 c2 c3 => by rw [yy_c_ne c1]; exact hF c c1 c2 c3) yy_c_eq
set_option maxRecDepth 20000 in
theorem c_132g {sc : List Int} {d : Nat} {t : xm_W} {m : Nat → Nat → Int} {i r n : Nat} (hi4 : i < 4) (hr5 : r < 5) (hI : yy_I t m) (hr : (r : Int) ≤ m 75 0 - 1) (g : ¬ m 83 i = 0) (hn : m 84 i = (n : Int)) : ∃ m', xm_X (xm_old sc) xm_mt (d + 10) 132 [.inr (.inl (some 0)), .inl ((i : Int)), .inl ((r : Int))] (yy_W m t) = some (some (.inl ((sg_jd (m (67 + 2 * i)) r n 0 (m 75) : Int))), yy_W m' t) ∧ ∀ c, (c < 18 ∨ 35 ≤ c) → m' c = m c := by
  have key : ∀ {Q : Option xm_V × xm_W → Prop}, (∀ m', (∀ c, (c < 18 ∨ 35 ≤ c) → m' c = m c) → Q (some (.inl ((sg_jd (m (67 + 2 * i)) r n 0 (m 75) : Int))), yy_W m' t)) → xm_EQ (xm_old sc) xm_sta (xm_X (xm_old sc) xm_mt (d + 9)) xm_m132.2.2.2.2.2.2.2 0 (xm_loc xm_m132.2.2.1 [.inr (.inl (some 0)), .inl ((i : Int)), .inl ((r : Int))]) [] (yy_W m t) Q := by
    intro Q hQ
    obtain ⟨⟨e0, e3, e1, e2⟩, hR⟩ := yy_I_0 hI
    have b0 := hR.1
    obtain ⟨s1, s2, s3, s4, s5⟩ := hI.2.2.2.2.1 i hi4
    have ei : ((i : Int)).toNat = i := Int.toNat_natCast i
    refine xb_132_0 ?_
    rw [oc_147 (d := d + 7), zz_t (by omega), oc_141 (d := d + 7) (by omega) (by omega), zz_t (by omega), zr_0_9, zq_64, zq_sh (by omega) (by omega), ei, oc_702 (d := d + 8) (yy_shn hi4), zz_f (by rw [s1]; exact g), zr_0_1, zr_0_0]
    obtain ⟨m1, e, f1, g⟩ := c_402_1_18 (sc := sc) (d := d + 7) (t := t) (m := m) (yy_TX_tx hI.2.1.2.1) (yy_TX_tx hI.2.1.2.2)
    rw [e, xm_Ov_some]
    exact l_132 (d := d + 3) (z := sg_jd (m (67 + 2 * i)) r n 0 (m 75)) (m0 := m) hi4 hr5 (by omega : n ≤ 24) (by rw [s3, hn]) rfl (fun m' h => hQ m' h) n 0 m1 (m 75) (by omega) hI.1.1 (by have := hI.1.2.1; omega) (yy_CP_MX g hI.2.1) (fun c hc => f1 c (by omega)) rfl
  obtain ⟨q, h1, m', h2, h3⟩ := yx_of (y := 132) (M := xm_m132) (sc := sc) (d := d + 9) (as := [.inr (.inl (some 0)), .inl ((i : Int)), .inl ((r : Int))]) (w := yy_W m t) (Q := fun q => ∃ m', q = (some (.inl ((sg_jd (m (67 + 2 * i)) r n 0 (m 75) : Int))), yy_W m' t) ∧ (∀ c, (c < 18 ∨ 35 ≤ c) → m' c = m c)) rfl (key fun m' h => ⟨m', rfl, h⟩) (fun q ⟨m', h, _⟩ => by rw [h]; rfl) rfl (Nat.le_of_ble_eq_true rfl) (yy_hd rfl (by decide))
  exact ⟨m', by rw [h1, h2], h3⟩
set_option maxRecDepth 20000 in
theorem c_1202g {sc : List Int} {d : Nat} {t : xm_W} {m : Nat → Nat → Int} {i r n : Nat} (hi4 : i < 4) (hr5 : r < 5) (h74 : m 74 3 = -1) (hW : sg_W (m 75) 0) (h9 : m 75 1 ≤ 9999) (hr : (r : Int) ≤ m 75 0 - 1) (g : ¬ m 83 i = 0) (hn : m 84 i = (n : Int)) (hn4 : n ≤ 24) : ∃ m', xm_X (xm_old sc) xm_mt (d + 10) 1202 [.inr (.inl (some 74)), .inl ((i : Int)), .inl ((r : Int))] (yy_W m t) = some (some (.inl ((sg_jd (fun j => m 85 (24 * i + j)) r n 0 (m 75) : Int))), yy_W m' t) ∧ (∀ c, c ≠ 75 → c ≠ 77 → c ≠ 80 → c ≠ 81 → m' c = m c) ∧ m' 75 = m 75 := by
  have key : ∀ {Q : Option xm_V × xm_W → Prop}, (∀ m', ((∀ c, c ≠ 75 → c ≠ 77 → c ≠ 80 → c ≠ 81 → m' c = m c) ∧ m' 75 = m 75) → Q (some (.inl ((sg_jd (fun j => m 85 (24 * i + j)) r n 0 (m 75) : Int))), yy_W m' t)) → xm_EQ (xm_old sc) xm_sta (xm_X (xm_old sc) xm_mt (d + 9)) xm_m1202.2.2.2.2.2.2.2 0 (xm_loc xm_m1202.2.2.1 [.inr (.inl (some 74)), .inl ((i : Int)), .inl ((r : Int))]) [] (yy_W m t) Q := by
    intro Q hQ
    have b0 := hW.1.1
    refine xb_1202_0 ?_
    rw [oc_1200 (d := d + 6) hi4 b0 hr, if_neg g, if_neg (by decide), oc_1106 (d := d + 7)]
    refine l_1202 (d := d + 1) (n := n) (nu := fun j => m 85 (24 * i + j)) (S0 := m 75) (m0 := yy_c m 77 (yy_cp (m 75) (m 77) 0 0 339)) (z := sg_jd (fun j => m 85 (24 * i + j)) r n 0 (m 75)) hi4 hr5 hn4 (by rw [yy_c_ne (by decide)]; exact hn) (fun j _ => by rw [yy_c_ne (by decide)]) (by rw [yy_c_ne (by decide)]; exact h74) (fun k hk => by rw [yy_c_eq, yy_cp0 hk]) (fun m' h1 h2 => hQ m' ⟨fun c c1 c2 c3 c4 => by rw [h1 c c1 c3 c4, yy_c_ne c2], h2⟩) n 0 _ (by omega) (by rw [yy_c_ne (by decide)]; exact hW) (by rw [yy_c_ne (by decide)]; omega) (fun c _ _ _ => rfl) (fun q _ => by rw [yy_c_ne (by decide)]) (by rw [yy_c_ne (by decide)])
  obtain ⟨q, h1, m', h2, h3⟩ := yx_of (y := 1202) (M := xm_m1202) (sc := sc) (d := d + 9) (as := [.inr (.inl (some 74)), .inl ((i : Int)), .inl ((r : Int))]) (w := yy_W m t) (Q := fun q => ∃ m', q = (some (.inl ((sg_jd (fun j => m 85 (24 * i + j)) r n 0 (m 75) : Int))), yy_W m' t) ∧ ((∀ c, c ≠ 75 → c ≠ 77 → c ≠ 80 → c ≠ 81 → m' c = m c) ∧ m' 75 = m 75)) rfl (key fun m' h => ⟨m', rfl, h⟩) (fun q ⟨m', h, _⟩ => by rw [h]; rfl) rfl (Nat.le_of_ble_eq_true rfl) (yy_hd rfl (by decide))
  exact ⟨m', by rw [h1, h2], h3⟩
set_option maxRecDepth 20000 in
theorem a_132 {sc : List Int} {t : xm_W} {m : Nat → Nat → Int} {x1 x2 : Int} (hI : yy_I t m) : yy_A sc t m 132 1202 [.inl x1, .inl x2] true := by
  by_cases h : (0 ≤ x1 ∧ x1 ≤ 3) ∧ (0 ≤ x2 ∧ x2 ≤ m 1 4 - 1)
  · obtain ⟨⟨e0, e3, e1, e2⟩, hR⟩ := yy_I_0 hI
    have b0 := hR.1
    obtain ⟨i, rfl⟩ : ∃ i : Nat, x1 = i := ⟨x1.toNat, by omega⟩
    obtain ⟨r, rfl⟩ : ∃ r : Nat, x2 = r := ⟨x2.toNat, by omega⟩
    have hr5 : r < 5 := by omega
    have hi4 : i < 4 := by omega
    obtain ⟨s1, s2, s3, s4, s5⟩ := hI.2.2.2.2.1 i hi4
    have ei : ((i : Int)).toNat = i := Int.toNat_natCast i
    by_cases g : m 83 i = 0
    · have X1 : xm_X (xm_old sc) xm_mt (99 + 1) 132 [.inr (.inl (some 0)), .inl (i : Int), .inl (r : Int)] (yy_W m t) = some (some (.inl (-1000000002)), yy_W (yy_e m 2) t) := by
        refine xm_X_of (M := xm_m132) rfl ⟨xm_EQ.eq (xb_132_0 ?_), rfl, rfl, Nat.le_of_ble_eq_true rfl, yy_hd rfl (by decide)⟩
        rw [oc_147 (d := 97), zz_t h.1, oc_141 (d := 97) (by omega) (by omega), zz_t h.2, zr_0_9, zq_64, zq_sh (by omega) (by omega), ei, oc_702 (d := 98) (yy_shn hi4), zz_t (by rw [s1]; exact g), oc_139 (d := 98) (by decide) (by decide)]
        rfl
      have f : ∀ c, c ≠ 65 → yy_e m 2 c = m c := fun c hc => yy_e75 hc
      have X2 : xm_X (xm_old sc) xm_mt (99 + 1) 1202 [.inr (.inl (some 74)), .inl (i : Int), .inl (r : Int)] (yy_W (yy_e m 2) t) = some (some (.inl (-1000000002)), yy_W (yy_f (yy_e m 2) 2) t) := by
        refine xm_X_of (M := xm_m1202) rfl ⟨xm_EQ.eq (xb_1202_0 ?_), rfl, rfl, Nat.le_of_ble_eq_true rfl, yy_hd rfl (by decide)⟩
        rw [oc_1200 (d := 96) hi4 (by rw [f 75 (by decide)]; omega) (by rw [f 75 (by decide)]; omega), f 83 (by decide), if_pos g, if_pos (by decide), oc_1102 (d := 98) (by decide) (by decide)]
        rfl
      exact yy_Ao X1 X2 (yy_I_ef hI) yy_ef0 rfl
    · obtain ⟨n, hn⟩ : ∃ n : Nat, m 84 i = n := ⟨(m 84 i).toNat, by omega⟩
      obtain ⟨m1, X1, f1⟩ := c_132g (sc := sc) (d := 90) (t := t) (m := m) (i := i) (r := r) (n := n) hi4 hr5 hI (by omega) g hn
      have f75 : m1 75 = m 75 := f1 75 (by omega)
      obtain ⟨m2, X2, f2, q2⟩ := c_1202g (sc := sc) (d := 90) (t := t) (m := m1) (i := i) (r := r) (n := n) hi4 hr5 (by rw [f1 74 (by omega)]; exact hI.2.2.2.2.2.1) (by rw [f75]; exact hI.1.1) (by rw [f75]; exact hI.1.2.1) (by rw [f75]; omega) (by rw [f1 83 (by omega)]; exact g) (by rw [f1 84 (by omega)]; exact hn) (by omega)
      have E : sg_jd (m (67 + 2 * i)) r n 0 (m 75) = sg_jd (fun j => m1 85 (24 * i + j)) r n 0 (m1 75) := by
        rw [f75]
        exact sg_jd_congr n 0 _ (fun j a b => by rw [f1 85 (by omega)]; exact (s5 j (by omega)).1)
      refine yy_Ao X1 X2 (yy_I_n (fun c hc => ?_) hI) ?_ (by rw [E])
      · by_cases e : c = 75
        · subst e; rw [q2, f75]
        · unfold yy_no at hc
          rw [f2 c e (by omega) (by omega) (by omega), f1 c (by omega)]
      · rw [f2 0 (by decide) (by decide) (by decide) (by decide), f1 0 (by omega)]
  · exact r_132 hI h
end
section
/-! CHECK: both sides -/
def sg_ck (wa : Nat → Int) : Nat → Nat → (Nat → Int) → Int
  | 0, _, _ => 0
  | k + 1, i, s => if wa i = sg_hour (-1) s 3 then sg_ck wa k (i + 1) (sg_hour (-1) s) else 1 + i
set_option maxRecDepth 20000 in
theorem sg_ck_s {wa : Nat → Int} {k i : Nat} {s : Nat → Int} : sg_ck wa (k + 1) i s = if wa i = sg_hour (-1) s 3 then sg_ck wa k (i + 1) (sg_hour (-1) s) else 1 + i := rfl
set_option maxRecDepth 20000 in
theorem sg_ck_congr {wa wa' : Nat → Int} : ∀ (k i : Nat) (s : Nat → Int), (∀ j, i ≤ j → j < i + k → wa j = wa' j) → sg_ck wa k i s = sg_ck wa' k i s
  | 0, i, s, h => rfl
  | k + 1, i, s, h => by
    rw [sg_ck_s, sg_ck_s, h i (by omega) (by omega), sg_ck_congr k (i + 1) _ (fun j a b => h j (by omega) (by omega))]
set_option maxRecDepth 20000 in
theorem l_136 {sc : List Int} {d : Nat} {t : xm_W} {Q : Option xm_V × xm_W → Prop} {n : Nat} {z : Int} {wa : Nat → Int} {m0 : Nat → Nat → Int} (hn : n ≤ 24) (h2 : m0 37 = wa) (hQ : ∀ m', (∀ c, (c < 18 ∨ 35 ≤ c) → m' c = m0 c) → Q ((some (.inl (z)), (yy_W (m') t)))) : ∀ (k i : Nat) (m : Nat → Nat → Int) (s : Nat → Int), i + k = n → sg_W s 0 → s 1 + k ≤ 20000 → yy_MX t m 18 s → (∀ c, (c < 18 ∨ 35 ≤ c) → m c = m0 c) → sg_ck wa k i s = z → xm_EQ (xm_old sc) xm_sta (xm_X (xm_old sc) xm_mt (d + 6)) xm_c136 15 [some (.inr (.inl (some 0))), some (.inl ((n : Int))), some (.inl ((i : Int)))] [] (yy_W (m) t) Q
  | 0, i, m, s, hk, hW, hs1, hM, hF, hz => by
    have hz' : (0 : Int) = z := hz
    have := hQ m hF
    rw [← hz'] at this
    refine xb_136_15 ?_
    rw [if_neg (by omega)]
    exact this
  | k + 1, i, m, s, hk, hW, hs1, hM, hF, hz => by
    rw [sg_ck_s] at hz
    refine xb_136_15 ?_
    rw [if_pos (by omega), zr_0_1]
    obtain ⟨m', e, g1, g2⟩ := c_405_18g (sc := sc) (d := d) (t := t) (m := m) hM hW (by omega)
    obtain ⟨w1, w2, w3⟩ := sg_hour_W (st := -1) hW (by omega)
    have hF' : ∀ c, (c < 18 ∨ 35 ≤ c) → m' c = m0 c := fun c hc => by rw [g1 c (by omega)]; exact hF c hc
    rw [e, xm_Ov_some, zr_0_2, zr_35_2, zi_37, zy_at (by omega) (by omega), Int.toNat_natCast, hF' 37 (by omega), h2, zr_0_1, zf_18_6, g2.1.2.2.2.1]
    by_cases g : wa i = sg_hour (-1) s 3
    · rw [if_pos g] at hz
      rw [if_pos g, xm_w_id (by omega) (by omega), show (i : Int) + 1 = ((i + 1 : Nat) : Int) from rfl]
      exact l_136 hn h2 hQ k (i + 1) m' (sg_hour (-1) s) (by omega) w1 (by rw [w2]; omega) g2 hF' hz
    · rw [if_neg g] at hz
      rw [if_neg g, xm_w_id (by omega) (by omega), hz]
      exact hQ m' hF'
set_option maxRecDepth 20000 in
theorem l_1206 {sc : List Int} {d : Nat} {t : xm_W} {Q : Option xm_V × xm_W → Prop} {n : Nat} {z : Int} {wa S0 : Nat → Int} {m0 : Nat → Nat → Int} (hn : n ≤ 24) (h2 : ∀ j, j < 24 → S0 (649 + j) = wa j) (h3 : m0 74 3 = -1) (h77 : ∀ k, k < 339 → m0 77 k = S0 k) (hQ : ∀ m', (∀ c, c ≠ 75 → c ≠ 80 → c ≠ 81 → m' c = m0 c) → m' 75 = S0 → Q ((some (.inl (z)), (yy_W (m') t)))) : ∀ (k i : Nat) (m : Nat → Nat → Int), i + k = n → sg_W (m 75) 0 → m 75 1 + k ≤ 20000 → (∀ c, c ≠ 75 → c ≠ 80 → c ≠ 81 → m c = m0 c) → (∀ q, 339 ≤ q → m 75 q = S0 q) → sg_ck wa k i (m 75) = z → xm_EQ (xm_old sc) xm_sta (xm_X (xm_old sc) xm_mt (d + 8)) xm_c1206 16 [some (.inr (.inl (some 74))), some (.inl ((n : Int))), some (.inl ((i : Int))), some (.inl ((1 : Int)))] [] (yy_W (m) t) Q
  | 0, i, m, hk, hW, hs1, hF, hq, hz => by
    have hz' : (0 : Int) = z := hz
    refine xb_1206_16 ?_
    rw [if_neg (by omega), oc_1107 (d := d + 6), yy_back (s := S0) (fun k hk => by rw [hF 77 (by decide) (by decide) (by decide)]; exact h77 k hk) hq, if_neg (by decide)]
    have := hQ (yy_c m 75 S0) (fun c c1 c2 c3 => by rw [yy_c_ne c1]; exact hF c c1 c2 c3) yy_c_eq
    rw [← hz'] at this
    exact this
  | k + 1, i, m, hk, hW, hs1, hF, hq, hz => by
    have m3 : m 74 3 = -1 := by rw [hF 74 (by decide) (by decide) (by decide)]; exact h3
    obtain ⟨m', e, g1, g2⟩ := c_1156 (sc := sc) (d := d) (t := t) (m := m) hW (by omega)
    rw [m3] at g2
    obtain ⟨w1, w2, w3⟩ := sg_hour_W (st := -1) hW (by omega)
    have hF' : ∀ c, c ≠ 75 → c ≠ 80 → c ≠ 81 → m' c = m0 c := fun c c1 c2 c3 => by rw [g1 c c1 c2 c3]; exact hF c c1 c2 c3
    have hq' : ∀ q, 339 ≤ q → m' 75 q = S0 q := fun q hq' => by rw [g2, w3 q (Or.inr hq') (by omega) (by omega)]; exact hq q hq'
    have gw : m' 75 (649 + i) = wa i := by rw [hq' _ (by omega)]; exact h2 i (by omega)
    have g3 : m' 75 3 = sg_hour (-1) (m 75) 3 := by rw [g2]
    rw [sg_ck_s] at hz
    refine xb_1206_16 ?_
    rw [if_pos (by omega), if_neg (by decide), e, xm_Ov_some, zr_74_0, zi_75, xm_w_id (by omega) (by omega), zy_at (by omega) (by omega), show (649 + (i : Int)).toNat = 649 + i by omega, gw, zr_74_0, zi_75, zy_at (by decide) (by decide), show (3 : Int).toNat = 3 from rfl, g3]
    by_cases g : wa i = sg_hour (-1) (m 75) 3
    · rw [if_pos g] at hz
      rw [if_pos g, if_neg (by decide), xm_w_id (by omega) (by omega), show (i : Int) + 1 = ((i + 1 : Nat) : Int) from rfl]
      exact l_1206 hn h2 h3 h77 hQ k (i + 1) m' (by omega) (by rw [g2]; exact w1) (by rw [g2, w2]; omega) hF' hq' (by rw [g2]; exact hz)
    · rw [if_neg g] at hz
      rw [if_neg g, if_pos rfl, xm_w_id (by omega) (by omega), show (i : Int) + 0 = (i : Int) by omega]
      refine xb_1206_16 ?_
      rw [if_pos (by omega), if_pos rfl, oc_1107 (d := d + 6), yy_back (s := S0) (fun k hk => by rw [hF' 77 (by decide) (by decide) (by decide)]; exact h77 k hk) hq', if_pos rfl, xm_w_id (by omega) (by omega), hz]
      exact hQ _ (fun c c1 c2 c3 => by rw [yy_c_ne c1]; exact hF' c c1 c2 c3) yy_c_eq
set_option maxRecDepth 20000 in
theorem c_136g {sc : List Int} {d : Nat} {t : xm_W} {m : Nat → Nat → Int} {n : Nat} {S : Nat → Int} (hM : yy_MX t m 1 S) (hW : sg_W S 0) (h9 : S 1 ≤ 9999) (h : m 35 3 = (n : Int)) (hn : n ≤ 24) : ∃ m', xm_X (xm_old sc) xm_mt (d + 10) 136 [.inr (.inl (some 0))] (yy_W m t) = some (some (.inl (sg_ck (m 37) n 0 S)), yy_W m' t) ∧ (∀ c, (c < 18 ∨ 35 ≤ c) → m' c = yy_s m 35 3 0 c) := by
  have key : ∀ {Q : Option xm_V × xm_W → Prop}, (∀ m', ((∀ c, (c < 18 ∨ 35 ≤ c) → m' c = yy_s m 35 3 0 c)) → Q (some (.inl (sg_ck (m 37) n 0 S)), yy_W m' t)) → xm_EQ (xm_old sc) xm_sta (xm_X (xm_old sc) xm_mt (d + 9)) xm_m136.2.2.2.2.2.2.2 0 (xm_loc xm_m136.2.2.1 [.inr (.inl (some 0))]) [] (yy_W m t) Q := by
    intro Q hQ
    refine xb_136_0 ?_
    rw [zr_0_2, zf_35_3, zr_0_2, zs_35_3, h, zr_0_1, zr_0_0]
    have hM' : yy_MX t (yy_s m 35 3 0) 1 S := yy_MX_r (fun c hc => yy_s_ne (by omega)) hM
    obtain ⟨m1, e, f1, g⟩ := c_402_1_18 (sc := sc) (d := d + 7) (t := t) (m := yy_s m 35 3 0) (yy_TX_tx hM'.2.1) (yy_TX_tx hM'.2.2)
    rw [e, xm_Ov_some]
    exact l_136 (d := d + 3) (z := sg_ck (m 37) n 0 S) (wa := m 37) (m0 := yy_s m 35 3 0) hn (by rw [yy_s_ne (by decide)]) (fun m' h => hQ m' h) n 0 m1 S (by omega) hW (by omega) (yy_CP_MX g hM') (fun c hc => f1 c (by omega)) rfl
  obtain ⟨q, h1, m', h2, h3⟩ := yx_of (y := 136) (M := xm_m136) (sc := sc) (d := d + 9) (as := [.inr (.inl (some 0))]) (w := yy_W m t) (Q := fun q => ∃ m', q = (some (.inl (sg_ck (m 37) n 0 S)), yy_W m' t) ∧ ((∀ c, (c < 18 ∨ 35 ≤ c) → m' c = yy_s m 35 3 0 c))) rfl (key fun m' h => ⟨m', rfl, h⟩) (fun q ⟨m', h, _⟩ => by rw [h]; rfl) rfl (Nat.le_of_ble_eq_true rfl) (yy_hd rfl (by decide))
  exact ⟨m', by rw [h1, h2], h3⟩
set_option maxRecDepth 20000 in
theorem c_1206g {sc : List Int} {d : Nat} {t : xm_W} {m : Nat → Nat → Int} {n : Nat} {S : Nat → Int} (h74 : m 74 3 = -1) (hS : S = yy_u (m 75) 5 0) (hW : sg_W S 0) (h9 : S 1 ≤ 9999) (h : m 75 5 = (n : Int)) (hn : n ≤ 24) : ∃ m', xm_X (xm_old sc) xm_mt (d + 10) 1206 [.inr (.inl (some 74))] (yy_W m t) = some (some (.inl (sg_ck (fun j => S (649 + j)) n 0 S)), yy_W m' t) ∧ (∀ c, c ≠ 75 → c ≠ 77 → c ≠ 80 → c ≠ 81 → m' c = m c) ∧ m' 75 = S := by
  have key : ∀ {Q : Option xm_V × xm_W → Prop}, (∀ m', ((∀ c, c ≠ 75 → c ≠ 77 → c ≠ 80 → c ≠ 81 → m' c = m c) ∧ m' 75 = S) → Q (some (.inl (sg_ck (fun j => S (649 + j)) n 0 S)), yy_W m' t)) → xm_EQ (xm_old sc) xm_sta (xm_X (xm_old sc) xm_mt (d + 9)) xm_m1206.2.2.2.2.2.2.2 0 (xm_loc xm_m1206.2.2.1 [.inr (.inl (some 74))]) [] (yy_W m t) Q := by
    intro Q hQ
    refine xb_1206_0 ?_
    have e75 : yy_s m 75 5 0 75 = S := by rw [yy_s_eq, hS]
    rw [zr_74_0, zi_75, zy_at (by decide) (by decide), zr_74_0, zt_75 (by decide) (by decide), show (5 : Int).toNat = 5 from rfl, h, oc_1106 (d := d + 7), e75]
    exact l_1206 (d := d + 1) (n := n) (wa := fun j => S (649 + j)) (S0 := S) (m0 := yy_c (yy_s m 75 5 0) 77 (yy_cp S (yy_s m 75 5 0 77) 0 0 339)) (z := sg_ck (fun j => S (649 + j)) n 0 S) hn (fun j _ => rfl) (by rw [yy_c_ne (by decide), yy_s_ne (by decide)]; exact h74) (fun k hk => by rw [yy_c_eq, yy_cp0 hk]) (fun m' h1 h2 => hQ m' ⟨fun c c1 c2 c3 c4 => by rw [h1 c c1 c3 c4, yy_c_ne c2, yy_s_ne c1], h2⟩) n 0 _ (by omega) (by rw [yy_c_ne (by decide), e75]; exact hW) (by rw [yy_c_ne (by decide), e75]; omega) (fun c _ _ _ => rfl) (fun q _ => by rw [yy_c_ne (by decide), e75]) (by rw [yy_c_ne (by decide), e75])
  obtain ⟨q, h1, m', h2, h3⟩ := yx_of (y := 1206) (M := xm_m1206) (sc := sc) (d := d + 9) (as := [.inr (.inl (some 74))]) (w := yy_W m t) (Q := fun q => ∃ m', q = (some (.inl (sg_ck (fun j => S (649 + j)) n 0 S)), yy_W m' t) ∧ ((∀ c, c ≠ 75 → c ≠ 77 → c ≠ 80 → c ≠ 81 → m' c = m c) ∧ m' 75 = S)) rfl (key fun m' h => ⟨m', rfl, h⟩) (fun q ⟨m', h, _⟩ => by rw [h]; rfl) rfl (Nat.le_of_ble_eq_true rfl) (yy_hd rfl (by decide))
  exact ⟨m', by rw [h1, h2], h3⟩
set_option maxRecDepth 20000 in
theorem a_136 {sc : List Int} {t : xm_W} {m : Nat → Nat → Int} (hI : yy_I t m) : yy_A sc t m 136 1206 [] true := by
  obtain ⟨⟨hW, h1, hD⟩, hX, hR, -⟩ := id hI
  obtain ⟨d1, d2, d3, d4, d5⟩ := id hR
  obtain ⟨g1, g2, g3⟩ := id hD
  obtain ⟨n, hn⟩ : ∃ n : Nat, m 75 5 = n := ⟨(m 75 5).toNat, by omega⟩
  obtain ⟨S, hS⟩ : ∃ S, S = yy_u (m 75) 5 0 := ⟨_, rfl⟩
  have o : ∀ k, k ≠ 5 → S k = m 75 k := fun k hk => by rw [hS, yy_u_ne hk]
  have hWS : sg_W S 0 := sg_W_q (fun k hk => o k (by omega)) hW
  have hMS : yy_MX t m 1 S := yy_MX_q (sg_W_T hW) (fun k hk => o k (by omega)) (fun c _ => rfl) hX
  obtain ⟨m1, X1, f1⟩ := c_136g (sc := sc) (d := 90) (t := t) (m := m) (n := n) (S := S) hMS hWS (by rw [o 1 (by decide)]; exact h1) (by rw [d2]; exact hn) (by omega)
  have f75 : m1 75 = m 75 := by rw [f1 75 (by omega), yy_s_ne (by decide)]
  obtain ⟨m2, X2, f2, q2⟩ := c_1206g (sc := sc) (d := 90) (t := t) (m := m1) (n := n) (S := S) (by rw [f1 74 (by omega), yy_s_ne (by decide)]; exact hI.2.2.2.2.2.1) (by rw [f75]; exact hS) hWS (by rw [o 1 (by decide)]; exact h1) (by rw [f75]; exact hn) (by omega)
  have E : sg_ck (m 37) n 0 S = sg_ck (fun j => S (649 + j)) n 0 S := sg_ck_congr n 0 _ (fun j a b => by rw [o _ (by omega)]; exact d5 j (by omega))
  refine yy_Ao X1 X2 (yy_I_dk hI (fun c hc a b e => ?_) (fun k hk => by rw [q2, o k (by omega)]) ?_ ?_) ?_ E
  · unfold yy_no at a
    rw [f2 c e (by omega) (by omega) (by omega), f1 c (by omega), yy_s_ne (by omega)]
  · rw [q2]
    exact ⟨by rw [o 4 (by decide)]; exact g1, by rw [hS, yy_u_eq]; omega, fun k hk => by rw [o _ (by omega)]; exact g3 k hk⟩
  · rw [q2]
    have F : ∀ c, (35 ≤ c ∧ c < 38) → m2 c = yy_s m 35 3 0 c := fun c hc => by rw [f2 c (by omega) (by omega) (by omega) (by omega), f1 c (by omega)]
    refine ⟨?_, ?_, ?_, fun k hk => ?_, fun k hk => ?_⟩
    · rw [F 35 (by omega), o 4 (by decide), yy_s_eq, yy_u_ne (by decide)]; exact d1
    · rw [F 35 (by omega), hS, yy_s_eq, yy_u_eq, yy_u_eq]
    · rw [F 35 (by omega), o 6 (by decide), yy_s_eq, yy_u_ne (by decide)]; exact d3
    · rw [F (35 + 1) (by omega), o _ (by omega), yy_s_ne (by omega)]; exact d4 k hk
    · rw [F (35 + 2) (by omega), o _ (by omega), yy_s_ne (by omega)]; exact d5 k hk
  · rw [f2 0 (by decide) (by decide) (by decide) (by decide), f1 0 (by omega), yy_s_ne (by decide)]
end
section
/-! ROWS that are alike but for one rider's step -/
def sg_ag (p : Nat) (s s' : Nat → Int) : Prop := ∀ k, k ≠ p → s' k = s k
set_option maxRecDepth 20000 in
theorem sg_ag_u {p k : Nat} {v : Int} {s s' : Nat → Int} (h : sg_ag p s s') : sg_ag p (yy_u s k v) (yy_u s' k v) := fun q hq => by
  by_cases e : q = k
  · subst e; rw [yy_u_eq, yy_u_eq]
  · rw [yy_u_ne e, yy_u_ne e]; exact h q hq
set_option maxRecDepth 20000 in
theorem sg_ag_k {r : Nat} {c : Int} {s s' : Nat → Int} (h : sg_ag (49 + 18 * r) s s') (hc : 0 ≤ c ∧ c ≤ 35) : sg_k s' c = sg_k s c := sg_k_eq (h 2 (by omega)) (h _ (by omega))
set_option maxRecDepth 20000 in
theorem sg_ag_p {r i w : Nat} {s s' : Nat → Int} (hr : r < 5) (h : sg_ag (49 + 18 * r) s s') : sg_p s' i w = sg_p s i w := h _ (by omega)
set_option maxRecDepth 20000 in
theorem sg_ag_ap {r : Nat} {c sh dp hh q : Int} {s s' : Nat → Int} (h : sg_ag (49 + 18 * r) s s') : sg_ag (49 + 18 * r) (sg_ap s c sh dp hh q) (sg_ap s' c sh dp hh q) := by
  unfold sg_ap
  rw [h 3 (by omega)]
  exact sg_ag_u (sg_ag_u (sg_ag_u (sg_ag_u (sg_ag_u (sg_ag_u h)))))
set_option maxRecDepth 20000 in
theorem sg_ag_c5 {r i l : Nat} {s s' : Nat → Int} (hr : r < 5) (hl : l ≤ i) (h : sg_ag (49 + 18 * r) s s') : sg_ag (49 + 18 * r) (sg_c5 s i l) (sg_c5 s' i l) := fun k hk => by
  unfold sg_c5
  by_cases e : 134 + 5 * l ≤ k ∧ k < 134 + 5 * l + 5
  · rw [if_pos e, if_pos e]; exact h _ (by omega)
  · rw [if_neg e, if_neg e]; exact h k hk
set_option maxRecDepth 20000 in
theorem sg_ag_cl {K : Nat → Bool} {r : Nat} (hr : r < 5) : ∀ (n i l : Nat) (s s' : Nat → Int), l ≤ i → sg_ag (49 + 18 * r) s s' → sg_ag (49 + 18 * r) (sg_cl K n i l s).1 (sg_cl K n i l s').1 ∧ (sg_cl K n i l s').2 = (sg_cl K n i l s).2
  | 0, i, l, s, s', _, h => ⟨h, rfl⟩
  | n + 1, i, l, s, s', hl, h => by
    rw [sg_cl_s, sg_cl_s]
    by_cases e : K i = true
    · rw [if_pos e, if_pos e]; exact sg_ag_cl hr n (i + 1) (l + 1) _ _ (by omega) (sg_ag_c5 hr hl h)
    · rw [if_neg e, if_neg e]; exact sg_ag_cl hr n (i + 1) l _ _ (by omega) h
set_option maxRecDepth 20000 in
theorem sg_ag_clr {K K' : Nat → Bool} {r : Nat} {s s' : Nat → Int} (hr : r < 5) (h3 : 0 ≤ s 3) (h : sg_ag (49 + 18 * r) s s') (hK : ∀ j : Nat, (j : Int) < s 3 → K j = K' j) : sg_ag (49 + 18 * r) (sg_clr K s) (sg_clr K' s') := by
  rw [sg_clr_congr h3 hK]
  unfold sg_clr
  rw [h 3 (by omega)]
  obtain ⟨a, b⟩ := sg_ag_cl (K := K') hr (s 3).toNat 0 0 s s' (Nat.le_refl _) h
  rw [b]
  exact sg_ag_u a
set_option maxRecDepth 20000 in
theorem sg_ag_K {r : Nat} {o c : Int} {s s' : Nat → Int} (hr : r < 5) (hB : sg_B s) (h : sg_ag (49 + 18 * r) s s') : ∀ j : Nat, (j : Int) < s 3 → sg_K s o c j = sg_K s' o c j := fun j hj => by
  unfold sg_K
  rw [sg_ag_p hr h, sg_ag_p hr h, h 1 (by omega), sg_ag_k h (hB.2.2 j hj).1]
set_option maxRecDepth 20000 in
theorem sg_rn_s {s s' : Nat → Int} {u : Nat} {nm : Int → Int} (h : ∀ k, 339 ≤ k → s' k = s k) : ∀ k, sg_rn s' u nm k = sg_rn s u nm k
  | 0 => rfl
  | k + 1 => by
    show sg_st nm (sg_tw s' u k) (sg_tv s' u k) (sg_rn s' u nm k).1 (sg_rn s' u nm k).2 = sg_st nm (sg_tw s u k) (sg_tv s u k) (sg_rn s u nm k).1 (sg_rn s u nm k).2
    rw [sg_rn_s h k, show sg_tw s' u k = sg_tw s u k from h _ (by omega), show sg_tv s' u k = sg_tv s u k from h _ (by omega)]
set_option maxRecDepth 20000 in
theorem sg_val_s {s s' : Nat → Int} {u : Nat} {nm : Int → Int} (h : ∀ k, 339 ≤ k → s' k = s k) : sg_val s' u nm = sg_val s u nm := by
  unfold sg_val
  rw [show sg_tn s' u = sg_tn s u from h _ (by omega), sg_rn_s h]
set_option maxRecDepth 20000 in
theorem sg_ag_sh {r i : Nat} {w step : Int} {s s' : Nat → Int} (hr : r < 5) (hi : i < 5) (hR : sg_R s) (h : sg_ag (49 + 18 * r) s s') : sg_sh s' i w step = sg_sh s i w step := by
  have c := (hR.2.2.2.2.2 i hi).2.2.1
  have e : sg_told s' i w step = sg_told s i w step := by
    unfold sg_told
    rw [show sg_tn s' 0 = sg_tn s 0 from h _ (by omega), sg_val_s (fun k hk => h k (by omega)), h (45 + 18 * i) (by omega), h (46 + 18 * i) (by omega), h (8 + s (46 + 18 * i)).toNat (by omega)]
  unfold sg_sh
  rw [e, h (44 + 18 * i) (by omega)]
set_option maxRecDepth 20000 in
theorem sg_ag_dp {r i : Nat} {s s' : Nat → Int} (h : sg_ag (49 + 18 * r) s s') : sg_dp s' i = sg_dp s i := by
  unfold sg_dp
  rw [h (44 + 18 * i) (by omega), h (45 + 18 * i) (by omega), h (47 + 18 * i) (by omega)]
set_option maxRecDepth 20000 in
theorem sg_ag_lv {r i : Nat} {w step q : Int} {s s' : Nat → Int} (hr : r < 5) (hi : i < 5) (hW : sg_W s q) (h : sg_ag (49 + 18 * r) s s') : sg_ag (49 + 18 * r) (sg_lv s i w step) (sg_lv s' i w step) := by
  have c := (hW.1.2.2.2.2.2 i hi).2.2.1
  unfold sg_lv
  rw [sg_ag_sh hr hi hW.1 h, h (46 + 18 * i) (by omega), sg_ag_k h c, h 3 (by omega), sg_ag_dp h, h 1 (by omega)]
  by_cases g1 : sg_sh s i w step = -1 ∨ sg_k s (s (46 + 18 * i)) = 0
  · rw [if_pos g1, if_pos g1]; exact h
  · rw [if_neg g1, if_neg g1]
    by_cases g2 : 40 < s 3 + 1
    · rw [if_pos g2, if_pos g2]
      have hB := sg_ap_B (sh := sg_sh s i w step) (dp := sg_dp s i) (r := i) hW c hW.1.2.1
      exact sg_ag_clr hr hB.2.1.1 (sg_ag_ap h) (sg_ag_K hr hB (sg_ag_ap h))
    · rw [if_neg g2, if_neg g2]; exact sg_ag_ap h
set_option maxRecDepth 20000 in
theorem sg_ag_rd {r i : Nat} {q : Int} {s s' : Nat → Int} (hr : r < 5) (hi : i < 5) (hn : i ≠ r) (hW : sg_W s q) (hs : s (49 + 18 * i) < s (48 + 18 * i)) (h : sg_ag (49 + 18 * r) s s') : sg_ag (49 + 18 * r) (sg_rd s i) (sg_rd s' i) := by
  obtain ⟨b0, b1, b2, b3, b4, b5, b6⟩ := hW.1.2.2.2.2.2 i hi
  have e : sg_way s' i = sg_way s i := by
    unfold sg_way
    rw [h (49 + 18 * i) (by omega), h _ (by omega)]
  unfold sg_rd
  rw [e, h (46 + 18 * i) (by omega), h (49 + 18 * i) (by omega)]
  by_cases g : sp_next (s (46 + 18 * i)) (sg_way s i) = -1
  · rw [if_pos g, if_pos g]; exact sg_ag_u h
  · rw [if_neg g, if_neg g]; exact sg_ag_u (sg_ag_u (sg_ag_lv hr hi hW h))
set_option maxRecDepth 20000 in
theorem sg_ag_hl {r : Nat} (hr : r < 5) : ∀ (k i : Nat) (s s' : Nat → Int), i + k ≤ 5 → sg_W s i → sg_W s' i → sg_ag (49 + 18 * r) s s' → s' (49 + 18 * r) = s' (48 + 18 * r) → sg_ag (49 + 18 * r) (sg_hl r k i s) (sg_hl (-1) k i s') ∧ sg_hl (-1) k i s' (49 + 18 * r) = sg_hl (-1) k i s' (48 + 18 * r)
  | 0, i, s, s', _, _, _, h, hp => ⟨h, hp⟩
  | k + 1, i, s, s', hk, hW, hW', h, hp => by
    rw [sg_hl_s, sg_hl_s]
    by_cases e : i = r
    · subst e
      rw [if_neg (fun x => x.1 rfl), if_neg (fun x => by omega)]
      exact sg_ag_hl hr k (i + 1) s s' (by omega) (sg_W_mono (by omega) hW) (sg_W_mono (by omega) hW') h hp
    · have a1 := h (49 + 18 * i) (by omega)
      have a2 := h (48 + 18 * i) (by omega)
      by_cases g : s (49 + 18 * i) < s (48 + 18 * i)
      · rw [if_pos ⟨by omega, g⟩, if_pos ⟨by omega, by omega⟩]
        obtain ⟨w1, w2⟩ := sg_rd_W (by omega) hW g
        obtain ⟨w3, w4⟩ := sg_rd_W (s := s') (r := i) (by omega) hW' (by omega)
        exact sg_ag_hl hr k (i + 1) _ _ (by omega) w1 w3 (sg_ag_rd hr (by omega) e hW g h) (by rw [w4 _ (by omega) (by omega) (by omega) (by omega), w4 _ (by omega) (by omega) (by omega) (by omega)]; exact hp)
      · rw [if_neg (fun x => g x.2), if_neg (fun x => by omega)]
        exact sg_ag_hl hr k (i + 1) s s' (by omega) (sg_W_mono (by omega) hW) (sg_W_mono (by omega) hW') h hp
set_option maxRecDepth 20000 in
theorem sg_h1_B2 {st : Int} {s : Nat → Int} (hW : sg_W s 0) (h1 : s 1 < 20000) : sg_B (sg_h1 st s) := by
  obtain ⟨x1, x2, x3, x4, x5, x6, x7⟩ := sg_h1_B (st := st) hW h1
  refine ⟨?_, by omega, fun i hi => ⟨(x6.1 i hi).1.1, (x6.1 i hi).1.2.2.2.1⟩⟩
  rw [x5 2 (Or.inl (by decide)) (by decide) (by decide)]
  exact hW.1.2.2.1
set_option maxRecDepth 20000 in
theorem sg_ag_hour {r : Nat} {s s' : Nat → Int} (hr : r < 5) (hW : sg_W s 0) (hW' : sg_W s' 0) (h1 : s 1 < 20000) (h : sg_ag (49 + 18 * r) s s') (hp : s' (49 + 18 * r) = s' (48 + 18 * r)) : sg_ag (49 + 18 * r) (sg_hour r s) (sg_hour (-1) s') ∧ sg_hour (-1) s' (49 + 18 * r) = sg_hour (-1) s' (48 + 18 * r) := by
  have b0 := hW.1.1
  have e0 := h 0 (by omega)
  have e1 := h 1 (by omega)
  obtain ⟨a1, a2⟩ := sg_ag_hl hr (s 0).toNat 0 s s' (by omega) hW hW' h hp
  have h1' : sg_ag (49 + 18 * r) (sg_h1 r s) (sg_h1 (-1) s') := by
    unfold sg_h1
    rw [e0, a1 1 (by omega)]
    exact sg_ag_u a1
  have hB := sg_h1_B2 (st := r) hW h1
  have hB' := sg_h1_B2 (st := -1) hW' (by omega)
  refine ⟨sg_ag_clr hr hB.2.1.1 h1' (sg_ag_K hr hB h1'), ?_⟩
  have q : ∀ k, k ≠ 3 → k ≠ 1 → k < 134 → sg_hour (-1) s' k = sg_hl (-1) (s 0).toNat 0 s' k := fun k k3 k1 k4 => by
    unfold sg_hour
    rw [sg_clr_o hB'.2.1 k3 (Or.inl k4)]
    unfold sg_h1
    rw [yy_u_ne k1, e0]
  rw [q _ (by omega) (by omega) (by omega), q _ (by omega) (by omega) (by omega)]
  exact a2
set_option maxRecDepth 20000 in
theorem sg_ag_go {r : Nat} (hr : r < 5) : ∀ (n : Nat) (s s' : Nat → Int), sg_W s 0 → sg_W s' 0 → s 1 + n ≤ 20000 → sg_ag (49 + 18 * r) s s' → s' (49 + 18 * r) = s' (48 + 18 * r) → sg_ag (49 + 18 * r) (sg_go r n s) (sg_go (-1) n s')
  | 0, s, s', _, _, _, h, _ => h
  | n + 1, s, s', hW, hW', h1, h, hp => by
    obtain ⟨a, b⟩ := sg_ag_hour hr hW hW' (by omega) h hp
    obtain ⟨w1, w2, w3⟩ := sg_hour_W (st := r) hW (by omega)
    obtain ⟨w4, w5, w6⟩ := sg_hour_W (st := -1) hW' (by have := h 1 (by omega); omega)
    exact sg_ag_go hr n _ _ w1 w4 (by rw [w2]; omega) a b
set_option maxRecDepth 20000 in
theorem sg_ag_la {r : Nat} {c : Int} {s s' : Nat → Int} (hr : r < 5) (h : sg_ag (49 + 18 * r) s s') : ∀ n, sg_la s' c n = sg_la s c n
  | 0 => rfl
  | n + 1 => by
    show (if sg_p s' n 0 = c then (n : Int) else sg_la s' c n) = (if sg_p s n 0 = c then (n : Int) else sg_la s c n)
    rw [sg_ag_la hr h n, sg_ag_p hr h]
set_option maxRecDepth 20000 in
theorem sg_ag_tr {r : Nat} {bl : Int} {s s' : Nat → Int} (hr : r < 5) (h : sg_ag (49 + 18 * r) s s') : ∀ (k : Nat) (a b : Int), sg_tr s' bl k a b = sg_tr s bl k a b
  | 0, a, b => rfl
  | k + 1, a, b => by
    have eN : sg_N s' = sg_N s := by unfold sg_N; rw [h 3 (by omega)]
    unfold sg_tr
    rw [eN, sg_ag_la hr h, sg_ag_p hr h, sg_ag_tr hr h k]
end
section
/-! LEAST FOUND: both sides -/
set_option maxRecDepth 20000 in
theorem sg_tr_b {s : Nat → Int} {bl : Int} : ∀ (k : Nat) (a b : Int), 0 ≤ a ∧ a ≤ 35 → 0 ≤ (sg_tr s bl k a b).1 ∧ (sg_tr s bl k a b).1 ≤ 35
  | 0, a, b, h => h
  | k + 1, a, b, h => by
    obtain ⟨w, hw⟩ : ∃ w, w = (if bl = 0 then sg_p s (sg_la s a (sg_N s)).toNat 1 else sp_back (sg_p s (sg_la s a (sg_N s)).toNat 1)) := ⟨_, rfl⟩
    unfold sg_tr
    rw [← hw]
    by_cases g1 : sg_la s a (sg_N s) = -1
    · rw [if_pos g1]; exact h
    · rw [if_neg g1]
      by_cases g2 : sp_next a w = -1
      · rw [if_pos g2]; exact h
      · rw [if_neg g2]
        exact sg_tr_b k _ _ ((sg_next_r h).resolve_left g2)
set_option maxRecDepth 20000 in
theorem sp_far_0 {a b : Int} : 0 ≤ sp_far a b := by
  unfold sp_far
  split <;> split <;> omega
def sg_kd (s : Nat → Int) (r : Nat) (v : Int) : Nat → Int := yy_u s (44 + 18 * r) v
def sg_fd (s : Nat → Int) (r n : Nat) (c0 : Int) (i : Nat) : Int := sp_far (sg_tr (sg_go (-1) n (sg_kd s r i)) 0 40 c0 0).1 (sg_go (-1) n (sg_kd s r i) (46 + 18 * r))
def sg_lf (g : Nat → Int) : Nat → Nat → Int → Int → Int
  | 0, _, b, _ => b
  | k + 1, i, b, f => if f < g i then sg_lf g k (i + 1) i (g i) else sg_lf g k (i + 1) b f
set_option maxRecDepth 20000 in
theorem sg_lf_s {g : Nat → Int} {k i : Nat} {b f : Int} : sg_lf g (k + 1) i b f = if f < g i then sg_lf g k (i + 1) i (g i) else sg_lf g k (i + 1) b f := rfl
set_option maxRecDepth 20000 in
theorem sg_kd_W {s : Nat → Int} {r : Nat} {v : Int} (hr : r < 5) (hv : 0 ≤ v ∧ v ≤ 6) (hW : sg_W s 0) : sg_W (sg_kd s r v) 0 := by
  have o : ∀ k, k ≠ 44 + 18 * r → sg_kd s r v k = s k := fun k hk => yy_u_ne hk
  obtain ⟨b0, b1, b2, b3, b4, b5, b6⟩ := hW.1.2.2.2.2.2 r hr
  refine sg_W_rd0 (fun k k0 hk => o k (by omega)) (sg_R_r hr hW.1 (fun k hk => o k (by omega)) ?_ ?_ ?_ ?_ ?_ ?_ (fun k hk => ?_)) hW
  · rw [show sg_kd s r v (44 + 18 * r) = v from yy_u_eq]; exact hv
  · rw [o _ (by omega)]; exact b1
  · rw [o _ (by omega)]; exact b2
  · rw [o _ (by omega)]; exact b3
  · rw [o _ (by omega)]; exact b4
  · rw [o _ (by omega), o _ (by omega)]; exact b5
  · rw [o _ (by omega)]; exact b6 k hk
/-! one number of a rider changes -/
set_option maxRecDepth 20000 in
theorem yy_MR_fd {m : Nat → Nat → Int} {b : Nat} {s : Nat → Int} {r j : Nat} {v : Int} (hr : r < 5) (hj : j < 6) (hM : yy_MR m b s) : yy_MR (yy_s m (b + 7 + 2 * r) j v) b (yy_u s (44 + 18 * r + j) v) := by
  obtain ⟨e1, e2, e3, e4, e5, e6, e7⟩ := hM
  refine ⟨by rw [yy_s_ne (by omega), yy_u_ne (by omega)]; exact e1, by rw [yy_s_ne (by omega), yy_u_ne (by omega)]; exact e2, by rw [yy_s_ne (by omega), yy_u_ne (by omega)]; exact e3, by rw [yy_s_ne (by omega), yy_u_ne (by omega)]; exact e4, fun k hk => by rw [yy_s_ne (by omega), yy_u_ne (by omega)]; exact e5 k hk, fun k hk => by rw [yy_s_ne (by omega), yy_u_ne (by omega)]; exact e6 k hk, fun i hi => ⟨fun k hk => ?_, fun k hk => ?_⟩⟩
  · by_cases e : i = r
    · subst e
      rw [yy_s_eq]
      by_cases ek : k = j
      · subst ek; rw [yy_u_eq, yy_u_eq]
      · rw [yy_u_ne ek, yy_u_ne (by omega)]; exact (e7 i hi).1 k hk
    · rw [yy_s_ne (by omega), yy_u_ne (by omega)]; exact (e7 i hi).1 k hk
  · rw [yy_s_ne (by omega), yy_u_ne (by omega)]; exact (e7 i hi).2 k hk
set_option maxRecDepth 20000 in
theorem l_123 {sc : List Int} {d : Nat} {t : xm_W} {Q : Option xm_V × xm_W → Prop} {r : Nat} {n c0 z : Int} {s : Nat → Int} {m0 : Nat → Nat → Int} (hr5 : r < 5) (hn : 1 ≤ n ∧ n ≤ 12) (hc : 0 ≤ c0 ∧ c0 ≤ 35) (hM0 : yy_MX t m0 1 s) (hW : sg_W s 0) (h9 : s 1 ≤ 9999) (hQ : ∀ m', (∀ c, (c < 18 ∨ 35 ≤ c) → m' c = m0 c) → Q ((some (.inl (z)), (yy_W (m') t)))) : ∀ (k i : Nat) (b f : Int) (m : Nat → Nat → Int) (u : Option xm_V), i + k = 6 → (∀ c, (c < 18 ∨ 35 ≤ c) → m c = m0 c) → sg_lf (sg_fd s r n.toNat c0) k i b f = z → xm_EQ (xm_old sc) xm_sta (xm_X (xm_old sc) xm_mt (d + 8)) xm_c123 26 [some (.inr (.inl (some 0))), some (.inl ((r : Int))), some (.inl (n)), some (.inl (c0)), some (.inl (b)), some (.inl (f)), some (.inl ((i : Int))), u] [] (yy_W (m) t) Q
  | 0, i, b, f, m, u, hk, hF, hz => by
    have hz' : b = z := hz
    refine xb_123_26 ?_
    rw [if_neg (by omega), hz']
    exact hQ m hF
  | k + 1, i, b, f, m, u, hk, hF, hz => by
    have hq := yy_rdn25 hr5
    have er : ((r : Int)).toNat = r := Int.toNat_natCast r
    have hM : yy_MX t m 1 s := yy_MX_r (fun c hc => hF c (by omega)) hM0
    obtain ⟨m1, x1, f1, g1⟩ := c_402_1_18 (sc := sc) (d := d + 6) (t := t) (m := m) (yy_TX_tx hM.2.1) (yy_TX_tx hM.2.2)
    have hM1 := yy_CP_MX g1 hM
    have hWk := sg_kd_W (v := (i : Int)) hr5 (by omega) hW
    have hR2 : yy_MR (yy_s m1 (25 + 2 * r) 0 (i : Int)) 18 (sg_kd s r i) := yy_MR_fd (b := 18) (j := 0) hr5 (by decide) hM1.1
    have hM2 : yy_MX t (yy_s m1 (25 + 2 * r) 0 (i : Int)) 18 (sg_kd s r i) := yy_MX_fr (sg_W_T hW) hM1 (yy_s_ne (by omega)) hR2 (fun k hk _ => yy_u_ne (by omega))
    have k1 : sg_kd s r i 1 = s 1 := yy_u_ne (by omega)
    obtain ⟨m3, x3, f3, g3⟩ := c_404_18g (sc := sc) (d := d + 1) (t := t) (m := yy_s m1 (25 + 2 * r) 0 (i : Int)) (n := n) (by omega) hM2 hWk (by rw [k1]; omega)
    obtain ⟨w1, w2, w3⟩ := sg_go_W (st := -1) n.toNat (sg_kd s r i) hWk (by rw [k1]; omega)
    have hF3 : ∀ c, (c < 18 ∨ 35 ≤ c) → m3 c = m0 c := fun c hc => by rw [f3 c (by omega), yy_s_ne (by omega), f1 c (by omega)]; exact hF c hc
    have f2 : m3 (25 + 2 * r) 2 = sg_go (-1) n.toNat (sg_kd s r i) (46 + 18 * r) := by rw [(g3.1.2.2.2.2.2.2 r hr5).1 2 (by decide)]; congr 1; omega
    have tb := sg_tr_b (s := sg_go (-1) n.toNat (sg_kd s r i)) (bl := 0) 40 c0 0 hc
    have cb := (w1.1.2.2.2.2.2 r hr5).2.2.1
    rw [sg_lf_s] at hz
    refine xb_123_26 ?_
    rw [if_pos (by omega), zr_0_1, zr_0_0, x1, xm_Ov_some, zr_0_1, zr_18_3, zq_20, zq_r18 (by omega) (by omega), er, xm_O_some, gs_0 hq, zr_0_1, x3, xm_Ov_some, zr_0_1, oc_418_18g (d := d + 5) g3.1 w1 hc (by decide), if_pos rfl, show (40 : Int).toNat = 40 from rfl, zr_0_1, zr_18_3, zq_20, zq_r18 (by omega) (by omega), er, xm_O_some, gf_2 hq, f2, oc_149 (d := d + 7) (by omega) (by omega) (by omega) (by omega), xm_w_id (by omega) (by omega), show (i : Int) + 1 = ((i + 1 : Nat) : Int) from rfl]
    show (if f < sg_fd s r n.toNat c0 i then _ else _)
    by_cases g : f < sg_fd s r n.toNat c0 i
    · rw [if_pos g] at hz
      rw [if_pos g]
      exact l_123 hr5 hn hc hM0 hW h9 hQ k (i + 1) _ _ m3 _ (by omega) hF3 hz
    · rw [if_neg g] at hz
      rw [if_neg g]
      exact l_123 hr5 hn hc hM0 hW h9 hQ k (i + 1) _ _ m3 _ (by omega) hF3 hz
set_option maxRecDepth 20000 in
theorem l_1178 {sc : List Int} {d : Nat} {t : xm_W} {Q : Option xm_V × xm_W → Prop} {r : Nat} {n c0 z : Int} {s : Nat → Int} {m0 : Nat → Nat → Int} (hr5 : r < 5) (hn : 1 ≤ n ∧ n ≤ 12) (hc : 0 ≤ c0 ∧ c0 ≤ 35) (h3 : m0 74 3 = -1) (hW : sg_W s 0) (h9 : s 1 ≤ 9999) (hQ : ∀ m', (∀ c, c ≠ 74 → c ≠ 75 → c ≠ 77 → c ≠ 80 → c ≠ 81 → m' c = m0 c) → (∀ q, q ≠ 13 → m' 74 q = m0 74 q) → m' 75 = s → Q ((some (.inl (z)), (yy_W (m') t)))) : ∀ (k i : Nat) (b f : Int) (m : Nat → Nat → Int) (u : Option xm_V), i + k = 6 → (∀ c, c ≠ 74 → c ≠ 75 → c ≠ 77 → c ≠ 80 → c ≠ 81 → m c = m0 c) → (∀ q, q ≠ 13 → m 74 q = m0 74 q) → m 75 = s → ((b = -1 ∧ 0 < k ∧ sg_lf (sg_fd s r n.toNat c0) k i 0 (-1) = z) ∨ (0 ≤ b ∧ sg_lf (sg_fd s r n.toNat c0) k i b f = z)) → xm_EQ (xm_old sc) xm_sta (xm_X (xm_old sc) xm_mt (d + 10)) xm_c1178 24 [some (.inr (.inl (some 74))), some (.inl ((r : Int))), some (.inl (n)), some (.inl (c0)), some (.inl (b)), some (.inl (f)), some (.inl ((i : Int))), u] [] (yy_W (m) t) Q
  | 0, i, b, f, m, u, hk, hF, h74, h75, hz => by
    have hz' : b = z := by
      rcases hz with ⟨_, h, _⟩ | ⟨_, h⟩
      · omega
      · exact h
    refine xb_1178_24 ?_
    rw [if_neg (by omega), hz']
    exact hQ m hF h74 h75
  | k + 1, i, b, f, m, u, hk, hF, h74, h75, hz => by
    have hWk := sg_kd_W (v := (i : Int)) hr5 (by omega) hW
    have k1 : sg_kd s r i 1 = s 1 := yy_u_ne (by omega)
    obtain ⟨mA, eA⟩ : ∃ mA, mA = yy_c (yy_c m 77 (yy_cp (m 75) (m 77) 0 0 339)) 75 (yy_u (yy_c m 77 (yy_cp (m 75) (m 77) 0 0 339) 75) (44 + 18 * r) (i : Int)) := ⟨_, rfl⟩
    have a75 : mA 75 = sg_kd s r i := by rw [eA, yy_c_eq, yy_c_ne (by decide), h75]; rfl
    have a77 : ∀ k, k < 339 → mA 77 k = s k := fun k hk => by rw [eA, yy_c_ne (by decide), yy_c_eq, yy_cp0 hk, h75]
    have aF : ∀ c, c ≠ 75 → c ≠ 77 → mA c = m c := fun c c1 c2 => by rw [eA, yy_c_ne c1, yy_c_ne c2]
    have a3 : mA 74 3 = -1 := by rw [aF 74 (by decide) (by decide), h74 3 (by decide)]; exact h3
    obtain ⟨m2, x2, f2, g2⟩ := c_1157 (sc := sc) (d := d + 1) (t := t) (m := mA) (n := n) (by omega) (by rw [a75]; exact hWk) (by rw [a75, k1]; omega)
    rw [a3, a75] at g2
    obtain ⟨w1, w2, w3⟩ := sg_go_W (st := -1) n.toNat (sg_kd s r i) hWk (by rw [k1]; omega)
    obtain ⟨m3, y3, f3, q3, _⟩ := c_1169 (sc := sc) (d := d + 6) (t := t) (m := m2) (s := sg_go (-1) n.toNat (sg_kd s r i)) (c := c0) (bl := 0) (b2 := 1) (n := 40) rfl g2 w1 hc (by decide)
    rw [show (40 : Int).toNat = 40 from rfl] at y3
    have m75 : m3 75 = sg_go (-1) n.toNat (sg_kd s r i) := by rw [f3 75 (by decide)]; exact g2
    have tb := sg_tr_b (s := sg_go (-1) n.toNat (sg_kd s r i)) (bl := 0) 40 c0 0 hc
    have cb := (w1.1.2.2.2.2.2 r hr5).2.2.1
    have B := yy_back (f := m3 77) (g := m3 75) (s := s) (fun k hk => by rw [f3 77 (by decide), f2 77 (by decide) (by decide) (by decide)]; exact a77 k hk) (fun k hk => by rw [m75, w3 k (Or.inr hk) (by omega) (by omega)]; exact yy_u_ne (by omega))
    have hF' : ∀ c, c ≠ 74 → c ≠ 75 → c ≠ 77 → c ≠ 80 → c ≠ 81 → yy_c m3 75 s c = m0 c := fun c c1 c2 c3 c4 c5 => by rw [yy_c_ne c2, f3 c c1, f2 c c2 c4 c5, aF c c2 c3]; exact hF c c1 c2 c3 c4 c5
    have h74' : ∀ q, q ≠ 13 → yy_c m3 75 s 74 q = m0 74 q := fun q hq => by rw [yy_c_ne (by decide), q3 q hq, f2 74 (by decide) (by decide) (by decide), aF 74 (by decide) (by decide)]; exact h74 q hq
    have g0 : 0 ≤ sg_fd s r n.toNat c0 i := sp_far_0
    refine xb_1178_24 ?_
    rw [if_pos (by omega), oc_1106 (d := d + 8), oc_1111_0 (d := d + 9) hr5, ← eA, x2, xm_Ov_some, y3, xm_Oi_some, oc_1110_2 (d := d + 9) hr5, m75, oc_1177 (d := d + 9) (by omega) (by omega) (by omega) (by omega), oc_1107 (d := d + 8), B, xm_w_id (by omega) (by omega), show (i : Int) + 1 = ((i + 1 : Nat) : Int) from rfl]
    show (if b = -1 then _ else if f < sg_fd s r n.toNat c0 i then _ else _)
    rw [sg_lf_s, sg_lf_s] at hz
    have next : ∀ b' f', 0 ≤ b' → sg_lf (sg_fd s r n.toNat c0) k (i + 1) b' f' = z → xm_EQ (xm_old sc) xm_sta (xm_X (xm_old sc) xm_mt (d + 10)) xm_c1178 24 [some (.inr (.inl (some 74))), some (.inl ((r : Int))), some (.inl (n)), some (.inl (c0)), some (.inl (b')), some (.inl (f')), some (.inl (((i + 1 : Nat) : Int))), some (.inl (sg_fd s r n.toNat c0 i))] [] (yy_W (yy_c m3 75 s) t) Q := fun b' f' hb h => l_1178 hr5 hn hc h3 hW h9 hQ k (i + 1) b' f' _ _ (by omega) hF' h74' yy_c_eq (Or.inr ⟨hb, h⟩)
    rcases hz with ⟨hb, _, hz⟩ | ⟨hb, hz⟩
    · rw [if_pos (by omega)] at hz
      rw [if_pos hb]
      exact next _ _ (by omega) hz
    · rw [if_neg (by omega)]
      by_cases g : f < sg_fd s r n.toNat c0 i
      · rw [if_pos g] at hz
        rw [if_pos g]
        exact next _ _ (by omega) hz
      · rw [if_neg g] at hz
        rw [if_neg g]
        exact next _ _ hb hz
set_option maxRecDepth 20000 in
theorem c_123g {sc : List Int} {d : Nat} {t : xm_W} {m : Nat → Nat → Int} {r : Nat} {n : Int} (hr5 : r < 5) (hn : 1 ≤ n ∧ n ≤ 12) (hI : yy_I t m) (hr : (r : Int) ≤ m 75 0 - 1) : ∃ m', xm_X (xm_old sc) xm_mt (d + 12) 123 [.inr (.inl (some 0)), .inl ((r : Int)), .inl (n)] (yy_W m t) = some (some (.inl (sg_lf (sg_fd (m 75) r n.toNat (m 75 (46 + 18 * r))) 6 0 0 (-1))), yy_W m' t) ∧ ∀ c, (c < 18 ∨ 35 ≤ c) → m' c = m c := by
  have key : ∀ {Q : Option xm_V × xm_W → Prop}, (∀ m', (∀ c, (c < 18 ∨ 35 ≤ c) → m' c = m c) → Q (some (.inl (sg_lf (sg_fd (m 75) r n.toNat (m 75 (46 + 18 * r))) 6 0 0 (-1))), yy_W m' t)) → xm_EQ (xm_old sc) xm_sta (xm_X (xm_old sc) xm_mt (d + 11)) xm_m123.2.2.2.2.2.2.2 0 (xm_loc xm_m123.2.2.1 [.inr (.inl (some 0)), .inl ((r : Int)), .inl (n)]) [] (yy_W m t) Q := by
    intro Q hQ
    obtain ⟨⟨e0, e3, e1, e2⟩, hR⟩ := yy_I_0 hI
    have b0 := hR.1
    have hq := yy_rdn8 hr5
    have er : ((r : Int)).toNat = r := Int.toNat_natCast r
    have f2 : m (8 + 2 * r) 2 = m 75 (46 + 18 * r) := by rw [(hI.2.1.1.2.2.2.2.2.2 r hr5).1 2 (by decide)]; congr 1; omega
    refine xb_123_0 ?_
    rw [oc_141 (d := d + 9) (by omega) (by omega), zz_t (by omega), oc_142 (d := d + 10), zz_t hn, zr_0_0, zr_1_3, zq_3, zq_r1 (by omega) (by omega), er, xm_O_some, gf_2 hq, f2]
    exact l_123 (d := d + 3) (s := m 75) (m0 := m) hr5 hn (hR.2.2.2.2.2 r hr5).2.2.1 hI.2.1 hI.1.1 hI.1.2.1 (fun m' h => hQ m' h) 6 0 0 (-1) m none rfl (fun _ _ => rfl) rfl
  obtain ⟨q, h1, m', h2, h3⟩ := yx_of (y := 123) (M := xm_m123) (sc := sc) (d := d + 11) (as := [.inr (.inl (some 0)), .inl ((r : Int)), .inl (n)]) (w := yy_W m t) (Q := fun q => ∃ m', q = (some (.inl (sg_lf (sg_fd (m 75) r n.toNat (m 75 (46 + 18 * r))) 6 0 0 (-1))), yy_W m' t) ∧ (∀ c, (c < 18 ∨ 35 ≤ c) → m' c = m c)) rfl (key fun m' h => ⟨m', rfl, h⟩) (fun q ⟨m', h, _⟩ => by rw [h]; rfl) rfl (Nat.le_of_ble_eq_true rfl) (yy_hd rfl (by decide))
  exact ⟨m', by rw [h1, h2], h3⟩
set_option maxRecDepth 20000 in
theorem c_1178g {sc : List Int} {d : Nat} {t : xm_W} {m : Nat → Nat → Int} {r : Nat} {n : Int} (hr5 : r < 5) (hn : 1 ≤ n ∧ n ≤ 12) (h3 : m 74 3 = -1) (hW : sg_W (m 75) 0) (h9 : m 75 1 ≤ 9999) (hr : (r : Int) ≤ m 75 0 - 1) : ∃ m', xm_X (xm_old sc) xm_mt (d + 12) 1178 [.inr (.inl (some 74)), .inl ((r : Int)), .inl (n)] (yy_W m t) = some (some (.inl (sg_lf (sg_fd (m 75) r n.toNat (m 75 (46 + 18 * r))) 6 0 0 (-1))), yy_W m' t) ∧ (∀ c, c ≠ 74 → c ≠ 75 → c ≠ 77 → c ≠ 80 → c ≠ 81 → m' c = m c) ∧ (∀ q, q ≠ 13 → m' 74 q = m 74 q) ∧ m' 75 = m 75 := by
  have key : ∀ {Q : Option xm_V × xm_W → Prop}, (∀ m', ((∀ c, c ≠ 74 → c ≠ 75 → c ≠ 77 → c ≠ 80 → c ≠ 81 → m' c = m c) ∧ (∀ q, q ≠ 13 → m' 74 q = m 74 q) ∧ m' 75 = m 75) → Q (some (.inl (sg_lf (sg_fd (m 75) r n.toNat (m 75 (46 + 18 * r))) 6 0 0 (-1))), yy_W m' t)) → xm_EQ (xm_old sc) xm_sta (xm_X (xm_old sc) xm_mt (d + 11)) xm_m1178.2.2.2.2.2.2.2 0 (xm_loc xm_m1178.2.2.1 [.inr (.inl (some 74)), .inl ((r : Int)), .inl (n)]) [] (yy_W m t) Q := by
    intro Q hQ
    have b0 := hW.1.1
    refine xb_1178_0 ?_
    rw [oc_1109 (d := d + 9) (by omega) (by omega), zz_t (by omega), oc_1103 (d := d + 10), zz_t hn, oc_1110_2 (d := d + 10) hr5]
    exact l_1178 (d := d + 1) (s := m 75) (m0 := m) hr5 hn (hW.1.2.2.2.2.2 r hr5).2.2.1 h3 hW h9 (fun m' a b c => hQ m' ⟨a, b, c⟩) 6 0 (-1) 0 m none rfl (fun _ _ _ _ _ _ => rfl) (fun _ _ => rfl) rfl (Or.inl ⟨rfl, by decide, rfl⟩)
  obtain ⟨q, h1, m', h2, h3⟩ := yx_of (y := 1178) (M := xm_m1178) (sc := sc) (d := d + 11) (as := [.inr (.inl (some 74)), .inl ((r : Int)), .inl (n)]) (w := yy_W m t) (Q := fun q => ∃ m', q = (some (.inl (sg_lf (sg_fd (m 75) r n.toNat (m 75 (46 + 18 * r))) 6 0 0 (-1))), yy_W m' t) ∧ ((∀ c, c ≠ 74 → c ≠ 75 → c ≠ 77 → c ≠ 80 → c ≠ 81 → m' c = m c) ∧ (∀ q, q ≠ 13 → m' 74 q = m 74 q) ∧ m' 75 = m 75)) rfl (key fun m' h => ⟨m', rfl, h⟩) (fun q ⟨m', h, _⟩ => by rw [h]; rfl) rfl (Nat.le_of_ble_eq_true rfl) (yy_hd rfl (by decide))
  exact ⟨m', by rw [h1, h2], h3⟩
set_option maxRecDepth 20000 in
theorem a_123 {sc : List Int} {t : xm_W} {m : Nat → Nat → Int} {x1 x2 : Int} (hI : yy_I t m) : yy_A sc t m 123 1178 [.inl x1, .inl x2] true := by
  by_cases h : (0 ≤ x1 ∧ x1 ≤ m 1 4 - 1) ∧ (1 ≤ x2 ∧ x2 ≤ 12)
  · obtain ⟨⟨e0, e3, e1, e2⟩, hR⟩ := yy_I_0 hI
    have b0 := hR.1
    obtain ⟨r, rfl⟩ : ∃ r : Nat, x1 = r := ⟨x1.toNat, by omega⟩
    have hr5 : r < 5 := by omega
    obtain ⟨m1, X1, f1⟩ := c_123g (sc := sc) (d := 88) (t := t) (m := m) (r := r) hr5 h.2 hI (by omega)
    have f75 : m1 75 = m 75 := f1 75 (by omega)
    obtain ⟨m2, X2, f2, q2, q3⟩ := c_1178g (sc := sc) (d := 88) (t := t) (m := m1) (r := r) hr5 h.2 (by rw [f1 74 (by omega)]; exact hI.2.2.2.2.2.1) (by rw [f75]; exact hI.1.1) (by rw [f75]; exact hI.1.2.1) (by rw [f75]; omega)
    have F : ∀ c, ¬ yy_no c → c ≠ 74 → m2 c = m c := fun c hc c1 => by
      by_cases e : c = 75
      · subst e; rw [q3, f75]
      · unfold yy_no at hc
        rw [f2 c c1 e (by omega) (by omega) (by omega), f1 c (by omega)]
    have F74 : ∀ q, q ≠ 13 → m2 74 q = m 74 q := fun q hq => by rw [q2 q hq, f1 74 (by omega)]
    refine yy_Ao X1 X2 (yy_I_no (fun c _ hc _ c1 => F c hc c1) ?_ (F74 3 (by decide)) (F74 4 (by decide)) ?_ hI) ?_ (by rw [f75])
    · rw [F 61 (by unfold yy_no; omega) (by decide)]; exact hI.2.2.2.2.2.2.1
    · rw [F74 15 (by decide)]; exact hI.2.2.2.2.2.2.2
    · rw [f2 0 (by decide) (by decide) (by decide) (by decide) (by decide), f1 0 (by omega)]
  · exact r_123 hI h
end
section
/-! DECOY: both sides -/
def sg_sy (s : Nat → Int) (r : Nat) : Nat → Int := yy_u s (49 + 18 * r) (s (48 + 18 * r))
set_option maxRecDepth 20000 in
theorem sg_sy_W {s : Nat → Int} {r : Nat} (hr : r < 5) (hW : sg_W s 0) : sg_W (sg_sy s r) 0 := by
  have o : ∀ k, k ≠ 49 + 18 * r → sg_sy s r k = s k := fun k hk => yy_u_ne hk
  obtain ⟨b0, b1, b2, b3, b4, b5, b6⟩ := hW.1.2.2.2.2.2 r hr
  refine sg_W_rd0 (fun k k0 hk => o k (by omega)) (sg_R_r hr hW.1 (fun k hk => o k (by omega)) ?_ ?_ ?_ ?_ ?_ ?_ (fun k hk => ?_)) hW
  · rw [o _ (by omega)]; exact b0
  · rw [o _ (by omega)]; exact b1
  · rw [o _ (by omega)]; exact b2
  · rw [o _ (by omega)]; exact b3
  · rw [o _ (by omega)]; exact b4
  · rw [o (48 + 18 * r) (by omega), show sg_sy s r (49 + 18 * r) = s (48 + 18 * r) from yy_u_eq]; omega
  · rw [o _ (by omega)]; exact b6 k hk
set_option maxRecDepth 20000 in
theorem sg_sy_tr {s : Nat → Int} {r n : Nat} {bl : Int} {k : Nat} {a b : Int} (hr : r < 5) (hW : sg_W s 0) (h1 : s 1 + n ≤ 20000) : sg_tr (sg_go (-1) n (sg_sy s r)) bl k a b = sg_tr (sg_go r n s) bl k a b :=
  sg_ag_tr hr (sg_ag_go hr n s (sg_sy s r) hW (sg_sy_W hr hW) h1 (fun k hk => yy_u_ne hk) (by rw [show sg_sy s r (49 + 18 * r) = s (48 + 18 * r) from yy_u_eq, show sg_sy s r (48 + 18 * r) = s (48 + 18 * r) from yy_u_ne (by omega)])) k a b
set_option maxRecDepth 20000 in
theorem c_124g {sc : List Int} {d : Nat} {t : xm_W} {m : Nat → Nat → Int} {r : Nat} {n c : Int} (hr5 : r < 5) (hn : 1 ≤ n ∧ n ≤ 12) (hc : 0 ≤ c ∧ c ≤ 35) (hI : yy_I t m) (hr : (r : Int) ≤ m 75 0 - 1) : ∃ m', xm_X (xm_old sc) xm_mt (d + 12) 124 [.inr (.inl (some 0)), .inl ((r : Int)), .inl (n), .inl (c)] (yy_W m t) = some (some (.inl (sp_far (sg_tr (sg_go (-1) n.toNat (m 75)) 0 40 c 0).1 (sg_tr (sg_go (-1) n.toNat (sg_sy (m 75) r)) 0 40 c 0).1)), yy_W m' t) ∧ ∀ c, (c < 18 ∨ 35 ≤ c) → m' c = m c := by
  have key : ∀ {Q : Option xm_V × xm_W → Prop}, (∀ m', (∀ c, (c < 18 ∨ 35 ≤ c) → m' c = m c) → Q (some (.inl (sp_far (sg_tr (sg_go (-1) n.toNat (m 75)) 0 40 c 0).1 (sg_tr (sg_go (-1) n.toNat (sg_sy (m 75) r)) 0 40 c 0).1)), yy_W m' t)) → xm_EQ (xm_old sc) xm_sta (xm_X (xm_old sc) xm_mt (d + 11)) xm_m124.2.2.2.2.2.2.2 0 (xm_loc xm_m124.2.2.1 [.inr (.inl (some 0)), .inl ((r : Int)), .inl (n), .inl (c)]) [] (yy_W m t) Q := by
    intro Q hQ
    obtain ⟨⟨e0, e3, e1, e2⟩, hR⟩ := yy_I_0 hI
    have b0 := hR.1
    have hG := hI.1
    have h9 := hG.2.1
    have hq := yy_rdn25 hr5
    have er : ((r : Int)).toNat = r := Int.toNat_natCast r
    obtain ⟨m1, y1, f1, g1⟩ := c_140g (sc := sc) (d := d + 3) (t := t) (m := m) (n := n) (by omega) hI.2.1 hG.1 (by omega)
    obtain ⟨w1, w2, w3⟩ := sg_go_W (st := -1) n.toNat (m 75) hG.1 (by omega)
    have hM : yy_MX t m1 1 (m 75) := yy_MX_r (fun c hc => f1 c (by omega)) hI.2.1
    obtain ⟨m2, y2, f2, g2⟩ := c_402_1_18 (sc := sc) (d := d + 9) (t := t) (m := m1) (yy_TX_tx hM.2.1) (yy_TX_tx hM.2.2)
    have hM2 := yy_CP_MX g2 hM
    have f4 : m2 (25 + 2 * r) 4 = m 75 (48 + 18 * r) := by rw [(hM2.1.2.2.2.2.2.2 r hr5).1 4 (by decide)]; congr 1; omega
    have hWs := sg_sy_W hr5 hG.1
    have hR3 : yy_MR (yy_s m2 (25 + 2 * r) 5 (m 75 (48 + 18 * r))) 18 (sg_sy (m 75) r) := yy_MR_r1_18 hr5 hM2.1
    have hM3 : yy_MX t (yy_s m2 (25 + 2 * r) 5 (m 75 (48 + 18 * r))) 18 (sg_sy (m 75) r) := yy_MX_fr (sg_W_T hG.1) hM2 (yy_s_ne (by omega)) hR3 (fun k hk _ => yy_u_ne (by omega))
    have k1 : sg_sy (m 75) r 1 = m 75 1 := yy_u_ne (by omega)
    obtain ⟨m4, y4, f5, g4⟩ := c_404_18g (sc := sc) (d := d + 4) (t := t) (m := yy_s m2 (25 + 2 * r) 5 (m 75 (48 + 18 * r))) (n := n) (by omega) hM3 hWs (by rw [k1]; omega)
    obtain ⟨w4, w5, w6⟩ := sg_go_W (st := -1) n.toNat (sg_sy (m 75) r) hWs (by rw [k1]; omega)
    have tb := sg_tr_b (s := sg_go (-1) n.toNat (m 75)) (bl := 0) 40 c 0 hc
    have tb2 := sg_tr_b (s := sg_go (-1) n.toNat (sg_sy (m 75) r)) (bl := 0) 40 c 0 hc
    refine xb_124_0 ?_
    rw [oc_141 (d := d + 9) (by omega) (by omega), zz_t (by omega), oc_142 (d := d + 10), zz_t hn, oc_143 (d := d + 9), zz_t hc, y1, xm_Ov_some, zr_0_1, oc_418_18g (d := d + 8) g1.1 w1 hc (by decide), if_pos rfl, show (40 : Int).toNat = 40 from rfl, zr_0_1, zr_0_0, y2, xm_Ov_some, zr_0_1, zr_18_3, zq_20, zq_r18 (by omega) (by omega), er, zr_0_1, zr_18_3, zq_20, zq_r18 (by omega) (by omega), er, xm_O_some, gf_4 hq, xm_O_some, f4, gs_5 hq, zr_0_1, y4, xm_Ov_some, zr_0_1, oc_418_18g (d := d + 8) g4.1 w4 hc (by decide), if_pos rfl, show (40 : Int).toNat = 40 from rfl, oc_149 (d := d + 10) (by omega) (by omega) (by omega) (by omega)]
    exact hQ m4 (fun c hc => by rw [f5 c (by omega), yy_s_ne (by omega), f2 c (by omega), f1 c (by omega)])
  obtain ⟨q, h1, m', h2, h3⟩ := yx_of (y := 124) (M := xm_m124) (sc := sc) (d := d + 11) (as := [.inr (.inl (some 0)), .inl ((r : Int)), .inl (n), .inl (c)]) (w := yy_W m t) (Q := fun q => ∃ m', q = (some (.inl (sp_far (sg_tr (sg_go (-1) n.toNat (m 75)) 0 40 c 0).1 (sg_tr (sg_go (-1) n.toNat (sg_sy (m 75) r)) 0 40 c 0).1)), yy_W m' t) ∧ (∀ c, (c < 18 ∨ 35 ≤ c) → m' c = m c)) rfl (key fun m' h => ⟨m', rfl, h⟩) (fun q ⟨m', h, _⟩ => by rw [h]; rfl) rfl (Nat.le_of_ble_eq_true rfl) (yy_hd rfl (by decide))
  exact ⟨m', by rw [h1, h2], h3⟩
set_option maxRecDepth 20000 in
theorem c_1179 {sc : List Int} {d : Nat} {t : xm_W} {m : Nat → Nat → Int} {n c : Int} {s : Nat → Int} (hs : m 75 = s) (hn : 0 ≤ n ∧ n ≤ 24) (hc : 0 ≤ c ∧ c ≤ 35) (hW : sg_W s 0) (h9 : s 1 + n ≤ 20000) : ∃ m', xm_X (xm_old sc) xm_mt (d + 11) 1179 [.inr (.inl (some 74)), .inl (n), .inl (c)] (yy_W m t) = some (some (.inl ((sg_tr (sg_go (m 74 3) n.toNat s) 0 40 c 0).1)), yy_W m' t) ∧ (∀ c, c ≠ 74 → c ≠ 75 → c ≠ 77 → c ≠ 80 → c ≠ 81 → m' c = m c) ∧ (∀ q, q ≠ 13 → m' 74 q = m 74 q) ∧ m' 75 = s := by
  have key : ∀ {Q : Option xm_V × xm_W → Prop}, (∀ m', ((∀ c, c ≠ 74 → c ≠ 75 → c ≠ 77 → c ≠ 80 → c ≠ 81 → m' c = m c) ∧ (∀ q, q ≠ 13 → m' 74 q = m 74 q) ∧ m' 75 = s) → Q (some (.inl ((sg_tr (sg_go (m 74 3) n.toNat s) 0 40 c 0).1)), yy_W m' t)) → xm_EQ (xm_old sc) xm_sta (xm_X (xm_old sc) xm_mt (d + 10)) xm_m1179.2.2.2.2.2.2.2 0 (xm_loc xm_m1179.2.2.1 [.inr (.inl (some 74)), .inl (n), .inl (c)]) [] (yy_W m t) Q := by
    intro Q hQ
    obtain ⟨mA, eA⟩ : ∃ mA, mA = yy_c m 77 (yy_cp (m 75) (m 77) 0 0 339) := ⟨_, rfl⟩
    have a75 : mA 75 = s := by rw [eA, yy_c_ne (by decide), hs]
    have a77 : ∀ k, k < 339 → mA 77 k = s k := fun k hk => by rw [eA, yy_c_eq, yy_cp0 hk, hs]
    have aF : ∀ c, c ≠ 77 → mA c = m c := fun c c2 => by rw [eA, yy_c_ne c2]
    have a3 : mA 74 3 = m 74 3 := by rw [aF 74 (by decide)]
    obtain ⟨m2, x2, f2, g2⟩ := c_1157 (sc := sc) (d := d + 1) (t := t) (m := mA) (n := n) hn (by rw [a75]; exact hW) (by rw [a75]; exact h9)
    rw [a3, a75] at g2
    obtain ⟨w1, w2, w3⟩ := sg_go_W (st := m 74 3) n.toNat s hW (by omega)
    obtain ⟨m3, y3, f3, q3, _⟩ := c_1169 (sc := sc) (d := d + 6) (t := t) (m := m2) (s := sg_go (m 74 3) n.toNat s) (c := c) (bl := 0) (b2 := 1) (n := 40) rfl g2 w1 hc (by decide)
    have m75 : m3 75 = sg_go (m 74 3) n.toNat s := by rw [f3 75 (by decide)]; exact g2
    have B := yy_back (f := m3 77) (g := m3 75) (s := s) (fun k hk => by rw [f3 77 (by decide), f2 77 (by decide) (by decide) (by decide)]; exact a77 k hk) (fun k hk => by rw [m75, w3 k (Or.inr hk) (by omega) (by omega)])
    refine xb_1179_0 ?_
    rw [oc_1106 (d := d + 8), ← eA, x2, xm_Ov_some, y3, xm_Oi_some, oc_1107 (d := d + 8), B]
    exact hQ _ ⟨fun c c1 c2 c3 c4 c5 => by rw [yy_c_ne c2, f3 c c1, f2 c c2 c4 c5, aF c c3], fun q hq => by rw [yy_c_ne (by decide), q3 q hq, f2 74 (by decide) (by decide) (by decide), aF 74 (by decide)], yy_c_eq⟩
  obtain ⟨q, h1, m', h2, h3⟩ := yx_of (y := 1179) (M := xm_m1179) (sc := sc) (d := d + 10) (as := [.inr (.inl (some 74)), .inl (n), .inl (c)]) (w := yy_W m t) (Q := fun q => ∃ m', q = (some (.inl ((sg_tr (sg_go (m 74 3) n.toNat s) 0 40 c 0).1)), yy_W m' t) ∧ ((∀ c, c ≠ 74 → c ≠ 75 → c ≠ 77 → c ≠ 80 → c ≠ 81 → m' c = m c) ∧ (∀ q, q ≠ 13 → m' 74 q = m 74 q) ∧ m' 75 = s)) rfl (key fun m' h => ⟨m', rfl, h⟩) (fun q ⟨m', h, _⟩ => by rw [h]; rfl) rfl (Nat.le_of_ble_eq_true rfl) (yy_hd rfl (by decide))
  exact ⟨m', by rw [h1, h2], h3⟩
set_option maxRecDepth 20000 in
theorem c_1180g {sc : List Int} {d : Nat} {t : xm_W} {m : Nat → Nat → Int} {r : Nat} {n c : Int} (hr5 : r < 5) (hn : 1 ≤ n ∧ n ≤ 12) (hc : 0 ≤ c ∧ c ≤ 35) (h3 : m 74 3 = -1) (hW : sg_W (m 75) 0) (h9 : m 75 1 ≤ 9999) (hr : (r : Int) ≤ m 75 0 - 1) : ∃ m', xm_X (xm_old sc) xm_mt (d + 13) 1180 [.inr (.inl (some 74)), .inl ((r : Int)), .inl (n), .inl (c)] (yy_W m t) = some (some (.inl (sp_far (sg_tr (sg_go (-1) n.toNat (m 75)) 0 40 c 0).1 (sg_tr (sg_go r n.toNat (m 75)) 0 40 c 0).1)), yy_W m' t) ∧ (∀ c, c ≠ 74 → c ≠ 75 → c ≠ 77 → c ≠ 80 → c ≠ 81 → m' c = m c) ∧ (∀ q, q ≠ 13 → m' 74 q = m 74 q) ∧ m' 75 = m 75 := by
  have key : ∀ {Q : Option xm_V × xm_W → Prop}, (∀ m', ((∀ c, c ≠ 74 → c ≠ 75 → c ≠ 77 → c ≠ 80 → c ≠ 81 → m' c = m c) ∧ (∀ q, q ≠ 13 → m' 74 q = m 74 q) ∧ m' 75 = m 75) → Q (some (.inl (sp_far (sg_tr (sg_go (-1) n.toNat (m 75)) 0 40 c 0).1 (sg_tr (sg_go r n.toNat (m 75)) 0 40 c 0).1)), yy_W m' t)) → xm_EQ (xm_old sc) xm_sta (xm_X (xm_old sc) xm_mt (d + 12)) xm_m1180.2.2.2.2.2.2.2 0 (xm_loc xm_m1180.2.2.1 [.inr (.inl (some 74)), .inl ((r : Int)), .inl (n), .inl (c)]) [] (yy_W m t) Q := by
    intro Q hQ
    have b0 := hW.1.1
    obtain ⟨m1, y1, f1, q1, r1⟩ := c_1179 (sc := sc) (d := d + 1) (t := t) (m := m) (n := n) (c := c) (s := m 75) rfl (by omega) hc hW (by omega)
    obtain ⟨m2, y2, f2, q2, r2⟩ := c_1179 (sc := sc) (d := d + 1) (t := t) (m := yy_s m1 74 3 (r : Int)) (n := n) (c := c) (s := m 75) (by rw [yy_s_ne (by decide)]; exact r1) (by omega) hc hW (by omega)
    rw [show yy_s m1 74 3 (r : Int) 74 3 = (r : Int) by rw [yy_s_eq, yy_u_eq]] at y2
    rw [h3] at y1
    have tb := sg_tr_b (s := sg_go (-1) n.toNat (m 75)) (bl := 0) 40 c 0 hc
    have tb2 := sg_tr_b (s := sg_go r n.toNat (m 75)) (bl := 0) 40 c 0 hc
    refine xb_1180_0 ?_
    rw [oc_1109 (d := d + 10) (by omega) (by omega), zz_t (by omega), oc_1103 (d := d + 11), zz_t hn, oc_1108 (d := d + 10), zz_t hc, y1, xm_Oi_some, zs_74_3, y2, xm_Oi_some, zs_74_3, oc_1177 (d := d + 11) (by omega) (by omega) (by omega) (by omega)]
    refine hQ _ ⟨fun c c1 c2 c3 c4 c5 => by rw [yy_s_ne c1, f2 c c1 c2 c3 c4 c5, yy_s_ne c1, f1 c c1 c2 c3 c4 c5], fun q hq => ?_, by rw [yy_s_ne (by decide)]; exact r2⟩
    rw [yy_s_eq]
    by_cases e : q = 3
    · subst e; rw [yy_u_eq, h3]
    · rw [yy_u_ne e, q2 q hq, yy_s_eq, yy_u_ne e, q1 q hq]
  obtain ⟨q, h1, m', h2, h3⟩ := yx_of (y := 1180) (M := xm_m1180) (sc := sc) (d := d + 12) (as := [.inr (.inl (some 74)), .inl ((r : Int)), .inl (n), .inl (c)]) (w := yy_W m t) (Q := fun q => ∃ m', q = (some (.inl (sp_far (sg_tr (sg_go (-1) n.toNat (m 75)) 0 40 c 0).1 (sg_tr (sg_go r n.toNat (m 75)) 0 40 c 0).1)), yy_W m' t) ∧ ((∀ c, c ≠ 74 → c ≠ 75 → c ≠ 77 → c ≠ 80 → c ≠ 81 → m' c = m c) ∧ (∀ q, q ≠ 13 → m' 74 q = m 74 q) ∧ m' 75 = m 75)) rfl (key fun m' h => ⟨m', rfl, h⟩) (fun q ⟨m', h, _⟩ => by rw [h]; rfl) rfl (Nat.le_of_ble_eq_true rfl) (yy_hd rfl (by decide))
  exact ⟨m', by rw [h1, h2], h3⟩
set_option maxRecDepth 20000 in
theorem a_124 {sc : List Int} {t : xm_W} {m : Nat → Nat → Int} {x1 x2 x3 : Int} (hI : yy_I t m) : yy_A sc t m 124 1180 [.inl x1, .inl x2, .inl x3] true := by
  by_cases h : (0 ≤ x1 ∧ x1 ≤ m 1 4 - 1) ∧ (1 ≤ x2 ∧ x2 ≤ 12) ∧ (0 ≤ x3 ∧ x3 ≤ 35)
  · obtain ⟨⟨e0, e3, e1, e2⟩, hR⟩ := yy_I_0 hI
    have b0 := hR.1
    obtain ⟨r, rfl⟩ : ∃ r : Nat, x1 = r := ⟨x1.toNat, by omega⟩
    have hr5 : r < 5 := by omega
    obtain ⟨m1, X1, f1⟩ := c_124g (sc := sc) (d := 88) (t := t) (m := m) (r := r) hr5 h.2.1 h.2.2 hI (by omega)
    have f75 : m1 75 = m 75 := f1 75 (by omega)
    obtain ⟨m2, X2, f2, q2, q3⟩ := c_1180g (sc := sc) (d := 87) (t := t) (m := m1) (r := r) hr5 h.2.1 h.2.2 (by rw [f1 74 (by omega)]; exact hI.2.2.2.2.2.1) (by rw [f75]; exact hI.1.1) (by rw [f75]; exact hI.1.2.1) (by rw [f75]; omega)
    have F : ∀ c, ¬ yy_no c → c ≠ 74 → m2 c = m c := fun c hc c1 => by
      by_cases e : c = 75
      · subst e; rw [q3, f75]
      · unfold yy_no at hc
        rw [f2 c c1 e (by omega) (by omega) (by omega), f1 c (by omega)]
    have F74 : ∀ q, q ≠ 13 → m2 74 q = m 74 q := fun q hq => by rw [q2 q hq, f1 74 (by omega)]
    refine yy_Ao X1 X2 (yy_I_no (fun c _ hc _ c1 => F c hc c1) ?_ (F74 3 (by decide)) (F74 4 (by decide)) ?_ hI) ?_ ?_
    · rw [F 61 (by unfold yy_no; omega) (by decide)]; exact hI.2.2.2.2.2.2.1
    · rw [F74 15 (by decide)]; exact hI.2.2.2.2.2.2.2
    · rw [f2 0 (by decide) (by decide) (by decide) (by decide) (by decide), f1 0 (by omega)]
    · rw [f75, sg_sy_tr hr5 hI.1.1 (by have := hI.1.2.1; omega)]
  · exact r_124 hI h
end
section
/-! KINDS: what both sides look for, and the class -/
def sg_pn (s : Nat → Int) (r : Nat) : Nat → Nat → Nat
  | 0, i => i
  | n + 1, i => if sg_p s i 4 = r then i else sg_pn s r n (i + 1)
set_option maxRecDepth 20000 in
theorem sg_pn_s {s : Nat → Int} {r n i : Nat} : sg_pn s r (n + 1) i = if sg_p s i 4 = r then i else sg_pn s r n (i + 1) := rfl
set_option maxRecDepth 20000 in
theorem sg_pn_b {s : Nat → Int} {r : Nat} : ∀ n i, i ≤ sg_pn s r n i ∧ sg_pn s r n i ≤ i + n
  | 0, i => ⟨Nat.le_refl _, Nat.le_refl _⟩
  | n + 1, i => by
    have := sg_pn_b (s := s) (r := r) n (i + 1)
    rw [sg_pn_s]
    split <;> omega
def sg_pj (s : Nat → Int) (r i : Nat) : Nat := sg_pn s r (sg_N s - i) i
def sg_fo (s : Nat → Int) (r i : Nat) : Int := if sg_pj s r i < sg_N s then (sg_pj s r i : Int) else -1
def sg_mt (s : Nat → Int) (j : Nat) (a sh dp hh : Int) : Bool := decide (sg_p s j 0 = a ∧ sg_p s j 1 = sh ∧ sg_p s j 2 = dp ∧ sg_p s j 3 = hh)
/-! does a rider of a kind fit, from a step on -/
def sg_fk (s : Nat → Int) (r : Nat) (kd dp h : Int) : Nat → Nat → Int → Nat → Bool
  | 0, _, _, i => decide (sg_N s ≤ sg_pj s r i)
  | k + 1, st, a, i =>
    if h + st < s 1 then
      (if sp_next a (s (50 + 18 * r + st)) = -1 then sg_fk s r kd dp h k (st + 1) a i
      else if sp_shown kd (s (50 + 18 * r + st)) st = -1 ∨ ¬ (s 1 ≤ h + st + sg_k s a) then sg_fk s r kd dp h k (st + 1) (sp_next a (s (50 + 18 * r + st))) i
      else if sg_pj s r i < sg_N s ∧ sg_mt s (sg_pj s r i) a (sp_shown kd (s (50 + 18 * r + st)) st) dp (h + st) = true then sg_fk s r kd dp h k (st + 1) (sp_next a (s (50 + 18 * r + st))) (sg_pj s r i + 1)
      else false)
    else decide (sg_N s ≤ sg_pj s r i)
set_option maxRecDepth 20000 in
theorem sg_fk_s {s : Nat → Int} {r k st i : Nat} {kd dp h a : Int} : sg_fk s r kd dp h (k + 1) st a i = if h + st < s 1 then
      (if sp_next a (s (50 + 18 * r + st)) = -1 then sg_fk s r kd dp h k (st + 1) a i
      else if sp_shown kd (s (50 + 18 * r + st)) st = -1 ∨ ¬ (s 1 ≤ h + st + sg_k s a) then sg_fk s r kd dp h k (st + 1) (sp_next a (s (50 + 18 * r + st))) i
      else if sg_pj s r i < sg_N s ∧ sg_mt s (sg_pj s r i) a (sp_shown kd (s (50 + 18 * r + st)) st) dp (h + st) = true then sg_fk s r kd dp h k (st + 1) (sp_next a (s (50 + 18 * r + st))) (sg_pj s r i + 1)
      else false)
    else decide (sg_N s ≤ sg_pj s r i) := rfl
set_option maxRecDepth 20000 in
theorem l_420 {sc : List Int} {d : Nat} {t : xm_W} {m : Nat → Nat → Int} {s : Nat → Int} {Q : Option xm_V × xm_W → Prop} {r : Nat} {x2 : Int} (hM : yy_MR m 1 s) (h3 : 0 ≤ s 3 ∧ s 3 ≤ 40) : ∀ (n i : Nat), i + n = sg_N s → Q ((some (.inl (if sg_pn s r n i < sg_N s then (sg_pn s r n i : Int) else -1)), (yy_W (m) t))) → xm_EQ (xm_old sc) xm_sta (xm_X (xm_old sc) xm_mt (d)) xm_c420 2 [some (.inr (.inl (some 1))), some (.inl ((r : Int))), some (.inl (x2)), some (.inl ((i : Int)))] [] (yy_W (m) t) Q
  | 0, i, hk, hQ => by
    have eN : ((sg_N s : Nat) : Int) = s 3 := sg_N_i h3.1
    have e : sg_pn s r 0 i = i := rfl
    rw [e, if_neg (by omega)] at hQ
    refine xb_420_2 ?_
    rw [zf_1_6, hM.2.2.2.1, if_neg (by omega)]
    exact hQ
  | n + 1, i, hk, hQ => by
    have eN : ((sg_N s : Nat) : Int) = s 3 := sg_N_i h3.1
    have i1 : ((i : Int) * 5 + 4).toNat = 5 * i + 4 := by omega
    have f : m 4 (5 * i + 4) = sg_p s i 4 := by rw [hM.2.2.2.2.2.1 _ (by omega)]; unfold sg_p; first | rfl | (congr 1; omega)
    refine xb_420_2 ?_
    rw [zf_1_6, hM.2.2.2.1, if_pos (by omega), zr_1_5, zi_4, xm_w2 (by omega) (by omega) (by omega) (by omega), zy_at (by omega) (by omega), i1, f]
    rw [sg_pn_s] at hQ
    by_cases g : sg_p s i 4 = r
    · rw [if_pos g, if_pos (by omega)] at hQ
      rw [if_pos g]
      exact hQ
    · rw [if_neg g] at hQ
      rw [if_neg g, xm_w_id (by omega) (by omega), show (i : Int) + 1 = ((i + 1 : Nat) : Int) from rfl]
      exact l_420 hM h3 n (i + 1) (by omega) hQ
set_option maxRecDepth 20000 in
theorem c_420 {sc : List Int} {d : Nat} {t : xm_W} {m : Nat → Nat → Int} {s : Nat → Int} {r i : Nat} (hM : yy_MR m 1 s) (h3 : 0 ≤ s 3 ∧ s 3 ≤ 40) (hi : i ≤ sg_N s) : xm_X (xm_old sc) xm_mt (d + 1) 420 [.inr (.inl (some 1)), .inl ((r : Int)), .inl ((i : Int))] (yy_W (m) t) = some (some (.inl (sg_fo s r i)), (yy_W (m) t)) := by
  refine xm_X_of (M := xm_m420) rfl ⟨xm_EQ.eq (xb_420_0 ?_), rfl, rfl, Nat.le_of_ble_eq_true rfl, yy_hd rfl (by decide)⟩
  exact l_420 (d := d) hM h3 (sg_N s - i) i (by omega) rfl
set_option maxRecDepth 20000 in
theorem oc_420 {F : Int → xm_W → Prop} {sc : List Int} {d : Nat} {t : xm_W} {m : Nat → Nat → Int} {s : Nat → Int} {r i : Nat} (hM : yy_MR m 1 s) (h3 : 0 ≤ s 3 ∧ s 3 ≤ 40) (hi : i ≤ sg_N s) : xm_Oi (xm_X (xm_old sc) xm_mt (d + 1) 420 [.inr (.inl (some 1)), .inl ((r : Int)), .inl ((i : Int))] (yy_W (m) t)) F = F (sg_fo s r i) (yy_W (m) t) := congrArg (fun x => xm_Oi x F) (c_420 hM h3 hi)
set_option maxRecDepth 20000 in
theorem c_420_0 {sc : List Int} {d : Nat} {t : xm_W} {m : Nat → Nat → Int} {s : Nat → Int} {r : Nat} (hM : yy_MR m 1 s) (h3 : 0 ≤ s 3 ∧ s 3 ≤ 40) : xm_X (xm_old sc) xm_mt (d + 1) 420 [.inr (.inl (some 1)), .inl ((r : Int)), .inl (0)] (yy_W (m) t) = some (some (.inl (sg_fo s r 0)), (yy_W (m) t)) := by
  exact c_420 (i := 0) hM h3 (by omega)
set_option maxRecDepth 20000 in
theorem oc_420_0 {F : Int → xm_W → Prop} {sc : List Int} {d : Nat} {t : xm_W} {m : Nat → Nat → Int} {s : Nat → Int} {r : Nat} (hM : yy_MR m 1 s) (h3 : 0 ≤ s 3 ∧ s 3 ≤ 40) : xm_Oi (xm_X (xm_old sc) xm_mt (d + 1) 420 [.inr (.inl (some 1)), .inl ((r : Int)), .inl (0)] (yy_W (m) t)) F = F (sg_fo s r 0) (yy_W (m) t) := congrArg (fun x => xm_Oi x F) (c_420_0 hM h3)
set_option maxRecDepth 20000 in
theorem c_421 {sc : List Int} {d : Nat} {t : xm_W} {m : Nat → Nat → Int} {s : Nat → Int} {i : Nat} {a sh dp hh : Int} (hM : yy_MR m 1 s) (hi : i < 40) : xm_X (xm_old sc) xm_mt (d + 1) 421 [.inr (.inl (some 1)), .inl ((i : Int)), .inl (a), .inl (sh), .inl (dp), .inl (hh)] (yy_W (m) t) = some (some (.inl (if sg_mt s i a sh dp hh = true then 1 else 0)), (yy_W (m) t)) := by
  have f0 : m 4 ((i : Int) * 5 + 0).toNat = sg_p s i 0 := by rw [hM.2.2.2.2.2.1 _ (by omega)]; unfold sg_p; first | rfl | (congr 1; omega)
  have f1 : m 4 ((i : Int) * 5 + 1).toNat = sg_p s i 1 := by rw [hM.2.2.2.2.2.1 _ (by omega)]; unfold sg_p; first | rfl | (congr 1; omega)
  have f2 : m 4 ((i : Int) * 5 + 2).toNat = sg_p s i 2 := by rw [hM.2.2.2.2.2.1 _ (by omega)]; unfold sg_p; first | rfl | (congr 1; omega)
  have f3 : m 4 ((i : Int) * 5 + 3).toNat = sg_p s i 3 := by rw [hM.2.2.2.2.2.1 _ (by omega)]; unfold sg_p; first | rfl | (congr 1; omega)
  refine xm_X_of (M := xm_m421) rfl ⟨xm_EQ.eq (xb_421_0 ?_), ?_, rfl, Nat.le_of_ble_eq_true rfl, yy_hd rfl (by decide)⟩
  · unfold sg_mt
    rw [zr_1_5, zi_4, xm_w2 (by omega) (by omega) (by omega) (by omega), zy_at (by omega) (by omega), f0]
    by_cases g0 : sg_p s i 0 = a
    · rw [if_pos g0, zr_1_5, zi_4, xm_w2 (by omega) (by omega) (by omega) (by omega), zy_at (by omega) (by omega), f1]
      by_cases g1 : sg_p s i 1 = sh
      · rw [if_pos g1, zr_1_5, zi_4, xm_w2 (by omega) (by omega) (by omega) (by omega), zy_at (by omega) (by omega), f2]
        by_cases g2 : sg_p s i 2 = dp
        · rw [if_pos g2, zr_1_5, zi_4, xm_w2 (by omega) (by omega) (by omega) (by omega), zy_at (by omega) (by omega), f3]
          by_cases g3 : sg_p s i 3 = hh
          · rw [if_pos g3, if_pos (decide_eq_true ⟨g0, g1, g2, g3⟩)]
          · rw [if_neg g3, if_neg (fun x => g3 (of_decide_eq_true x).2.2.2)]
        · rw [if_neg g2, if_neg (fun x => g2 (of_decide_eq_true x).2.2.1)]
      · rw [if_neg g1, if_neg (fun x => g1 (of_decide_eq_true x).2.1)]
    · rw [if_neg g0, if_neg (fun x => g0 (of_decide_eq_true x).1)]
  · show (_ == _ || _ == _) = true
    split <;> rfl
set_option maxRecDepth 20000 in
theorem oc_421 {F : Int → xm_W → Prop} {sc : List Int} {d : Nat} {t : xm_W} {m : Nat → Nat → Int} {s : Nat → Int} {i : Nat} {a sh dp hh : Int} (hM : yy_MR m 1 s) (hi : i < 40) : xm_Oi (xm_X (xm_old sc) xm_mt (d + 1) 421 [.inr (.inl (some 1)), .inl ((i : Int)), .inl (a), .inl (sh), .inl (dp), .inl (hh)] (yy_W (m) t)) F = F (if sg_mt s i a sh dp hh = true then 1 else 0) (yy_W (m) t) := congrArg (fun x => xm_Oi x F) (c_421 hM hi)
set_option maxRecDepth 20000 in
theorem sg_fo_0 {s : Nat → Int} {r i : Nat} : (sg_fo s r i < 0) = ¬ sg_pj s r i < sg_N s := by
  unfold sg_fo
  apply propext
  split
  · rename_i g; exact ⟨fun h => absurd h (by omega), fun h => absurd g h⟩
  · rename_i g; exact ⟨fun _ => g, fun _ => by decide⟩
set_option maxRecDepth 20000 in
theorem l_419 {sc : List Int} {d : Nat} {t : xm_W} {m : Nat → Nat → Int} {s : Nat → Int} {Q : Option xm_V × xm_W → Prop} {r : Nat} {kd dp h c0 : Int} (hM : yy_MR m 1 s) (hW : sg_W s 0) (h9 : s 1 ≤ 9999) (hr : r < 5) (hk : 0 ≤ kd ∧ kd ≤ 5) (hh : 0 ≤ h ∧ h ≤ s 1) : ∀ (k st : Nat) (a : Int) (i : Nat) (u10 u11 u12 : Option xm_V), ((st + k : Nat) : Int) = s (48 + 18 * r) → 0 ≤ a ∧ a ≤ 35 → i ≤ sg_N s → Q ((some (.inl (if sg_fk s r kd dp h k st a i = true then 1 else 0)), (yy_W (m) t))) → xm_EQ (xm_old sc) xm_sta (xm_X (xm_old sc) xm_mt (d + 2)) xm_c419 21 [some (.inr (.inl (some 1))), some (.inl ((r : Int))), some (.inl (kd)), some (.inl (c0)), some (.inl (h)), some (.inr (.inl (some (8 + 2 * r)))), some (.inl (dp)), some (.inl (a)), some (.inl (sg_fo s r i)), some (.inl ((st : Int))), u10, u11, u12] [] (yy_W (m) t) Q
  | 0, st, a, i, u10, u11, u12, hl, ha, hi, hQ => by
    have hq := yy_rdn8 hr
    have f4 : m (8 + 2 * r) 4 = s (48 + 18 * r) := by rw [(hM.2.2.2.2.2.2 r hr).1 4 (by decide)]; congr 1; omega
    have e : sg_fk s r kd dp h 0 st a i = decide (sg_N s ≤ sg_pj s r i) := rfl
    rw [e] at hQ
    refine xb_419_21 ?_
    rw [xm_O_some, gf_4 hq, f4, if_neg (by omega)]
    by_cases g : sg_pj s r i < sg_N s
    · rw [if_neg (by rw [sg_fo_0]; exact fun x => x g)]
      rw [if_neg (fun x => by have := of_decide_eq_true x; omega)] at hQ
      exact hQ
    · rw [if_pos (by rw [sg_fo_0]; exact g)]
      rw [if_pos (decide_eq_true (by omega))] at hQ
      exact hQ
  | k + 1, st, a, i, u10, u11, u12, hl, ha, hi, hQ => by
    have hq := yy_rdn8 hr
    obtain ⟨b0, b1, b2, b3, b4, b5, b6⟩ := hW.1.2.2.2.2.2 r hr
    have n3 := hW.1.2.2.2.1
    have eN : ((sg_N s : Nat) : Int) = s 3 := sg_N_i n3.1
    have f4 : m (8 + 2 * r) 4 = s (48 + 18 * r) := by rw [(hM.2.2.2.2.2.2 r hr).1 4 (by decide)]; congr 1; omega
    have fw : m (8 + 2 * r + 1) st = s (50 + 18 * r + st) := by
      have := (hM.2.2.2.2.2.2 r hr).2 st (by omega)
      rw [show 1 + 8 + 2 * r = 8 + 2 * r + 1 by omega] at this
      exact this
    have hw := b6 st (by omega)
    have kr := sg_k_r (c := a) hW.1.2.2.1
    have nr := sg_next_r (w := s (50 + 18 * r + st)) ha
    have next : ∀ a' i' u1 u2 u3, 0 ≤ a' ∧ a' ≤ 35 → i' ≤ sg_N s → Q ((some (.inl (if sg_fk s r kd dp h k (st + 1) a' i' = true then 1 else 0)), (yy_W (m) t))) → xm_EQ (xm_old sc) xm_sta (xm_X (xm_old sc) xm_mt (d + 2)) xm_c419 21 [some (.inr (.inl (some 1))), some (.inl ((r : Int))), some (.inl (kd)), some (.inl (c0)), some (.inl (h)), some (.inr (.inl (some (8 + 2 * r)))), some (.inl (dp)), some (.inl (a')), some (.inl (sg_fo s r i')), some (.inl (((st + 1 : Nat) : Int))), u1, u2, u3] [] (yy_W (m) t) Q := fun a' i' u1 u2 u3 x1 x2 x3 => l_419 hM hW h9 hr hk hh k (st + 1) a' i' u1 u2 u3 (by omega) x1 x2 x3
    rw [sg_fk_s] at hQ
    refine xb_419_21 ?_
    rw [xm_O_some, gf_4 hq, f4, if_pos (by omega), zf_1_2, hM.2.1, xm_w_id (by omega) (by omega)]
    by_cases g1 : h + st < s 1
    · rw [if_pos g1] at hQ
      rw [if_pos g1, gr_6 hq, gi_1 hq, zy_at (by omega) (by omega), Int.toNat_natCast, fw, oc_150 (d := d + 1) ha.1 (by omega), xm_w_id (z := (st : Int) + 1) (by omega) (by omega), show (st : Int) + 1 = ((st + 1 : Nat) : Int) from rfl]
      by_cases g2 : sp_next a (s (50 + 18 * r + st)) = -1
      · rw [if_pos g2] at hQ
        rw [if_pos (by omega)]
        exact next _ _ _ _ _ ha hi hQ
      · rw [if_neg g2] at hQ
        have ha' := nr.resolve_left g2
        rw [if_neg (by omega), oc_152 (d := d) hw.1 (by omega) (by omega)]
        have sr : -1 ≤ sp_shown kd (s (50 + 18 * r + st)) st ∧ sp_shown kd (s (50 + 18 * r + st)) st ≤ 3 := by
          have := sg_sh_r (s := yy_u s (44 + 18 * r) kd) (r := r) (step := (st : Int)) hw
          unfold sg_sh at this
          rw [yy_u_eq, if_neg (by omega)] at this
          exact this
        by_cases g3 : sp_shown kd (s (50 + 18 * r + st)) st = -1
        · rw [if_pos (Or.inl g3)] at hQ
          rw [if_pos (by omega)]
          exact next _ _ _ _ _ ha' hi hQ
        · rw [if_neg (by omega), zf_1_2, hM.2.1, oc_403_1 (d := d + 1) hM ha hW.1.2.2.1, xm_w_id (by omega) (by omega)]
          by_cases g4 : s 1 ≤ h + st + sg_k s a
          · rw [if_neg (show ¬ (sp_shown kd (s (50 + 18 * r + st)) st = -1 ∨ ¬ (s 1 ≤ h + st + sg_k s a)) by omega)] at hQ
            rw [if_neg (by omega)]
            by_cases g5 : sg_pj s r i < sg_N s
            · have fo : sg_fo s r i = (sg_pj s r i : Int) := by unfold sg_fo; rw [if_pos g5]
              rw [fo, if_neg (by omega), oc_421 (d := d + 1) hM (by omega)]
              by_cases g6 : sg_mt s (sg_pj s r i) a (sp_shown kd (s (50 + 18 * r + st)) st) dp (h + st) = true
              · have g56 : sg_pj s r i < sg_N s ∧ sg_mt s (sg_pj s r i) a (sp_shown kd (s (50 + 18 * r + st)) st) dp (h + st) = true := ⟨g5, g6⟩
                rw [if_pos g56] at hQ
                rw [zz_t g6, xm_w_id (by omega) (by omega), show (sg_pj s r i : Int) + 1 = ((sg_pj s r i + 1 : Nat) : Int) from rfl, oc_420 (d := d + 1) hM n3 (by omega)]
                exact next _ _ _ _ _ ha' (by omega) hQ
              · have g56 : ¬ (sg_pj s r i < sg_N s ∧ sg_mt s (sg_pj s r i) a (sp_shown kd (s (50 + 18 * r + st)) st) dp (h + st) = true) := fun x => g6 x.2
                rw [if_neg g56, if_neg (show ¬ (false = true) by decide)] at hQ
                rw [zz_f g6]
                exact hQ
            · have g56 : ¬ (sg_pj s r i < sg_N s ∧ sg_mt s (sg_pj s r i) a (sp_shown kd (s (50 + 18 * r + st)) st) dp (h + st) = true) := fun x => g5 x.1
              rw [if_neg g56, if_neg (show ¬ (false = true) by decide)] at hQ
              rw [if_pos (by rw [sg_fo_0]; exact g5)]
              exact hQ
          · rw [if_pos (Or.inr g4)] at hQ
            rw [if_pos (by omega)]
            exact next _ _ _ _ _ ha' hi hQ
    · rw [if_neg g1] at hQ
      rw [if_neg g1]
      by_cases g : sg_pj s r i < sg_N s
      · rw [if_neg (by rw [sg_fo_0]; exact fun x => x g)]
        rw [if_neg (fun x => by have := of_decide_eq_true x; omega)] at hQ
        exact hQ
      · rw [if_pos (by rw [sg_fo_0]; exact g)]
        rw [if_pos (decide_eq_true (by omega))] at hQ
        exact hQ
def sg_ft (s : Nat → Int) (r : Nat) (kd c0 h : Int) : Bool := sg_fk s r kd (sp_deep kd (s (45 + 18 * r)) (s (47 + 18 * r))) h (s (48 + 18 * r)).toNat 0 c0 0
set_option maxRecDepth 20000 in
theorem c_419 {sc : List Int} {d : Nat} {t : xm_W} {m : Nat → Nat → Int} {s : Nat → Int} {r : Nat} {kd c0 h : Int} (hM : yy_MR m 1 s) (hW : sg_W s 0) (h9 : s 1 ≤ 9999) (hr : r < 5) (hk : 0 ≤ kd ∧ kd ≤ 5) (hc : 0 ≤ c0 ∧ c0 ≤ 35) (hh : 0 ≤ h ∧ h ≤ s 1) : xm_X (xm_old sc) xm_mt (d + 3) 419 [.inr (.inl (some 1)), .inl ((r : Int)), .inl (kd), .inl (c0), .inl (h)] (yy_W (m) t) = some (some (.inl (if sg_ft s r kd c0 h = true then 1 else 0)), (yy_W (m) t)) := by
  have hq := yy_rdn8 hr
  have er : ((r : Int)).toNat = r := Int.toNat_natCast r
  obtain ⟨b0, b1, b2, b3, b4, b5, b6⟩ := hW.1.2.2.2.2.2 r hr
  have f1 : m (8 + 2 * r) 1 = s (45 + 18 * r) := by rw [(hM.2.2.2.2.2.2 r hr).1 1 (by decide)]; congr 1; omega
  have f3 : m (8 + 2 * r) 3 = s (47 + 18 * r) := by rw [(hM.2.2.2.2.2.2 r hr).1 3 (by decide)]; congr 1; omega
  refine xm_X_of (M := xm_m419) rfl ⟨xm_EQ.eq (xb_419_0 ?_), ?_, rfl, Nat.le_of_ble_eq_true rfl, yy_hd rfl (by decide)⟩
  · rw [zr_1_3, zq_3, zq_r1 (by omega) (by omega), er, xm_O_some, gf_1 hq, gf_3 hq, f1, f3, oc_153 (d := d + 1) b3.1 (by omega) b1.1 (by omega), oc_420_0 (d := d + 1) hM hW.1.2.2.2.1]
    exact l_419 (d := d) hM hW h9 hr hk hh (s (48 + 18 * r)).toNat 0 c0 0 none none none (by omega) hc (by omega) rfl
  · show (_ == _ || _ == _) = true
    split <;> rfl
set_option maxRecDepth 20000 in
theorem oc_419 {F : Int → xm_W → Prop} {sc : List Int} {d : Nat} {t : xm_W} {m : Nat → Nat → Int} {s : Nat → Int} {r : Nat} {kd c0 h : Int} (hM : yy_MR m 1 s) (hW : sg_W s 0) (h9 : s 1 ≤ 9999) (hr : r < 5) (hk : 0 ≤ kd ∧ kd ≤ 5) (hc : 0 ≤ c0 ∧ c0 ≤ 35) (hh : 0 ≤ h ∧ h ≤ s 1) : xm_Oi (xm_X (xm_old sc) xm_mt (d + 3) 419 [.inr (.inl (some 1)), .inl ((r : Int)), .inl (kd), .inl (c0), .inl (h)] (yy_W (m) t)) F = F (if sg_ft s r kd c0 h = true then 1 else 0) (yy_W (m) t) := congrArg (fun x => xm_Oi x F) (c_419 hM hW h9 hr hk hc hh)
end
section
/-! KINDS: the reference -/
def sg_kc (s : Nat → Int) (r : Nat) (kd a : Int) : Nat → Int := yy_u (yy_u s (44 + 18 * r) kd) (46 + 18 * r) a
set_option maxRecDepth 20000 in
theorem sg_kc_o {s : Nat → Int} {r k : Nat} {kd a : Int} (h1 : k ≠ 44 + 18 * r) (h2 : k ≠ 46 + 18 * r) : sg_kc s r kd a k = s k := by unfold sg_kc; rw [yy_u_ne h2, yy_u_ne h1]
set_option maxRecDepth 20000 in
theorem sg_kc_0 {s : Nat → Int} {r : Nat} {kd a : Int} : sg_kc s r kd a (44 + 18 * r) = kd := by unfold sg_kc; rw [yy_u_ne (by omega), yy_u_eq]
set_option maxRecDepth 20000 in
theorem sg_kc_2 {s : Nat → Int} {r : Nat} {kd a : Int} : sg_kc s r kd a (46 + 18 * r) = a := yy_u_eq
set_option maxRecDepth 20000 in
theorem sg_kc_u {s : Nat → Int} {r : Nat} {kd a v : Int} : yy_u (sg_kc s r kd a) (46 + 18 * r) v = sg_kc s r kd v := by
  funext k
  unfold sg_kc
  by_cases e : k = 46 + 18 * r
  · subst e; rw [yy_u_eq, yy_u_eq]
  · rw [yy_u_ne e, yy_u_ne e, yy_u_ne e]
set_option maxRecDepth 20000 in
theorem sg_kc_b {s : Nat → Int} {r : Nat} {kd a : Int} : yy_u (yy_u (sg_kc s r kd a) (44 + 18 * r) (s (44 + 18 * r))) (46 + 18 * r) (s (46 + 18 * r)) = s := by
  funext k
  by_cases e : k = 46 + 18 * r
  · subst e; rw [yy_u_eq]
  · rw [yy_u_ne e]
    by_cases e2 : k = 44 + 18 * r
    · subst e2; rw [yy_u_eq]
    · rw [yy_u_ne e2, sg_kc_o e2 e]
set_option maxRecDepth 20000 in
theorem sg_kc_R {s : Nat → Int} {r : Nat} {kd a : Int} (hr : r < 5) (hk : 0 ≤ kd ∧ kd ≤ 6) (ha : 0 ≤ a ∧ a ≤ 35) (hR : sg_R s) : sg_R (sg_kc s r kd a) := by
  obtain ⟨b0, b1, b2, b3, b4, b5, b6⟩ := hR.2.2.2.2.2 r hr
  refine sg_R_r hr hR (fun k hk => sg_kc_o (by omega) (by omega)) ?_ ?_ ?_ ?_ ?_ ?_ (fun k hk => ?_)
  · rw [sg_kc_0]; exact hk
  · rw [sg_kc_o (by omega) (by omega)]; exact b1
  · rw [sg_kc_2]; exact ha
  · rw [sg_kc_o (by omega) (by omega)]; exact b3
  · rw [sg_kc_o (by omega) (by omega)]; exact b4
  · rw [sg_kc_o (by omega) (by omega), sg_kc_o (by omega) (by omega)]; exact b5
  · rw [sg_kc_o (by omega) (by omega)]; exact b6 k hk
set_option maxRecDepth 20000 in
theorem l_1175a {sc : List Int} {d : Nat} {t : xm_W} {m : Nat → Nat → Int} {s : Nat → Int} {Q : Option xm_V × xm_W → Prop} {r st : Nat} {kd c0 h own at0 w a nx sh x8 dp : Int} (hP : ∀ i w, sg_p (m 75) i w = sg_p s i w) (e3 : m 75 3 = s 3) (h3 : 0 ≤ s 3 ∧ s 3 ≤ 40) (hr : r < 5) (hd : sg_dp (m 75) r = dp) (d1 : 0 ≤ m 75 (45 + 18 * r) ∧ m 75 (45 + 18 * r) ≤ 9) (d3 : 0 ≤ m 75 (47 + 18 * r) ∧ m 75 (47 + 18 * r) ≤ 99) (hst : 0 ≤ h + st ∧ h + st ≤ 30000) (h8 : x8 = 0 ∨ x8 = 1) : ∀ (n i : Nat), n = sg_N s - i → i ≤ 60 → (∀ t0 : Int, t0 = (if x8 = 1 ∧ sg_pn s r n i < sg_N s ∧ sg_mt s (sg_pn s r n i) a sh dp (h + st) = true then 1 else 0) → xm_EQ (xm_old sc) xm_sta (xm_X (xm_old sc) xm_mt (d + 2)) xm_c1175 132 [some (.inr (.inl (some 74))), some (.inl ((r : Int))), some (.inl (kd)), some (.inl (c0)), some (.inl (h)), some (.inl (own)), some (.inl (at0)), some (.inl ((sg_pn s r n i : Int))), some (.inl (x8)), some (.inl ((st : Int))), some (.inl (w)), some (.inl (a)), some (.inl (nx)), some (.inl (sh))] [.inl (t0)] (yy_W (m) t) Q) → xm_EQ (xm_old sc) xm_sta (xm_X (xm_old sc) xm_mt (d + 2)) xm_c1175 79 [some (.inr (.inl (some 74))), some (.inl ((r : Int))), some (.inl (kd)), some (.inl (c0)), some (.inl (h)), some (.inl (own)), some (.inl (at0)), some (.inl ((i : Int))), some (.inl (x8)), some (.inl ((st : Int))), some (.inl (w)), some (.inl (a)), some (.inl (nx)), some (.inl (sh))] [] (yy_W (m) t) Q
  | 0, i, hn, hi, hQ => by
    have eN : ((sg_N s : Nat) : Int) = s 3 := sg_N_i h3.1
    have e : sg_pn s r 0 i = i := rfl
    have := hQ 0 (by rw [e, if_neg (by omega)])
    rw [e] at this
    refine xb_1175_79 ?_
    rw [zr_74_0, zi_75, zy_at (by decide) (by decide), show (3 : Int).toNat = 3 from rfl, e3, if_neg (by omega)]
    by_cases g : x8 = 0
    · rw [if_pos g]; exact this
    · rw [if_neg g, zr_74_0, zi_75, zy_at (by decide) (by decide), show (3 : Int).toNat = 3 from rfl, e3, if_neg (by omega)]; exact this
  | n + 1, i, hn, hi, hQ => by
    have eN : ((sg_N s : Nat) : Int) = s 3 := sg_N_i h3.1
    rw [sg_pn_s] at hQ
    refine xb_1175_79 ?_
    rw [zr_74_0, zi_75, zy_at (by decide) (by decide), show (3 : Int).toNat = 3 from rfl, e3, if_pos (by omega), oc_1112_4 (d := d + 1) (by omega), hP]
    by_cases g4 : sg_p s i 4 = r
    · rw [if_pos g4] at hQ
      rw [if_pos g4]
      by_cases g : x8 = 0
      · rw [if_pos g]
        exact hQ 0 (by rw [if_neg (by omega)])
      · have g1 : x8 = 1 := h8.resolve_left g
        have bad : sg_mt s i a sh dp (h + st) ≠ true → _ := fun x => hQ 0 (by rw [if_neg (fun y => x y.2.2)])
        rw [if_neg g, zr_74_0, zi_75, zy_at (by decide) (by decide), show (3 : Int).toNat = 3 from rfl, e3, if_pos (by omega), oc_1112_0 (d := d + 1) (by omega), hP]
        by_cases p0 : sg_p s i 0 = a
        · rw [if_pos p0, oc_1112_1 (d := d + 1) (by omega), hP]
          by_cases p1 : sg_p s i 1 = sh
          · rw [if_pos p1, oc_1112_2 (d := d + 1) (by omega), hP, oc_1138 (d := d) hr d1 d3]
            show (if sg_p s i 2 = sg_dp (m 75) r then _ else _)
            rw [hd]
            by_cases p2 : sg_p s i 2 = dp
            · rw [if_pos p2, oc_1112_3 (d := d + 1) (by omega), hP, xm_w_id (by omega) (by omega)]
              by_cases p3 : sg_p s i 3 = h + st
              · rw [if_pos p3]
                exact hQ 1 (by rw [if_pos ⟨g1, by omega, decide_eq_true ⟨p0, p1, p2, p3⟩⟩])
              · rw [if_neg p3]
                exact bad (fun x => p3 (of_decide_eq_true x).2.2.2)
            · rw [if_neg p2]
              exact bad (fun x => p2 (of_decide_eq_true x).2.2.1)
          · rw [if_neg p1]
            exact bad (fun x => p1 (of_decide_eq_true x).2.1)
        · rw [if_neg p0]
          exact bad (fun x => p0 (of_decide_eq_true x).1)
    · rw [if_neg g4] at hQ
      rw [if_neg g4, xm_w_id (by omega) (by omega), show (i : Int) + 1 = ((i + 1 : Nat) : Int) from rfl]
      exact l_1175a hP e3 h3 hr hd d1 d3 hst h8 n (i + 1) (by omega) (by omega) hQ
set_option maxRecDepth 20000 in
theorem l_1175b {sc : List Int} {d : Nat} {t : xm_W} {m : Nat → Nat → Int} {s : Nat → Int} {Q : Option xm_V × xm_W → Prop} {r : Nat} {kd c0 h a x8 x9 : Int} {u10 u11 u12 u13 : Option xm_V} (hr : r < 5) (h75 : m 75 = sg_kc s r kd a) (h3 : 0 ≤ s 3 ∧ s 3 ≤ 40) (h8 : x8 = 0 ∨ x8 = 1) : ∀ (n i : Nat), n = sg_N s - i → i ≤ 60 → Q ((some (.inl (if x8 = 1 ∧ sg_N s ≤ sg_pn s r n i then 1 else 0)), (yy_W (yy_c m 75 s) t))) → xm_EQ (xm_old sc) xm_sta (xm_X (xm_old sc) xm_mt (d + 2)) xm_c1175 146 [some (.inr (.inl (some 74))), some (.inl ((r : Int))), some (.inl (kd)), some (.inl (c0)), some (.inl (h)), some (.inl (s (44 + 18 * r))), some (.inl (s (46 + 18 * r))), some (.inl ((i : Int))), some (.inl (x8)), some (.inl (x9)), u10, u11, u12, u13] [] (yy_W (m) t) Q
  | 0, i, hn, hi, hQ => by
    have eN : ((sg_N s : Nat) : Int) = s 3 := sg_N_i h3.1
    have e : sg_pn s r 0 i = i := rfl
    have e3 : m 75 3 = s 3 := by rw [h75, sg_kc_o (by omega) (by omega)]
    rw [e] at hQ
    refine xb_1175_146 ?_
    rw [zr_74_0, zi_75, zy_at (by decide) (by decide), show (3 : Int).toNat = 3 from rfl, e3, if_neg (by omega), oc_1111_0 (d := d + 1) hr, oc_1111_2 (d := d + 1) hr, yy_c_eq, yy_c_c, h75, sg_kc_b]
    by_cases g : x8 = 0
    · rw [if_neg (by omega)] at hQ
      rw [if_pos g]; exact hQ
    · rw [if_pos ⟨h8.resolve_left g, by omega⟩] at hQ
      rw [if_neg g, zr_74_0, zi_75, zy_at (by decide) (by decide), show (3 : Int).toNat = 3 from rfl, yy_c_eq, if_neg (by omega)]; exact hQ
  | n + 1, i, hn, hi, hQ => by
    have eN : ((sg_N s : Nat) : Int) = s 3 := sg_N_i h3.1
    have e3 : m 75 3 = s 3 := by rw [h75, sg_kc_o (by omega) (by omega)]
    have ep : sg_p (m 75) i 4 = sg_p s i 4 := by rw [h75]; exact sg_kc_o (by omega) (by omega)
    rw [sg_pn_s] at hQ
    refine xb_1175_146 ?_
    rw [zr_74_0, zi_75, zy_at (by decide) (by decide), show (3 : Int).toNat = 3 from rfl, e3, if_pos (by omega), oc_1112_4 (d := d + 1) (by omega), ep]
    by_cases g4 : sg_p s i 4 = r
    · rw [if_pos g4, if_neg (by omega)] at hQ
      rw [if_pos g4, oc_1111_0 (d := d + 1) hr, oc_1111_2 (d := d + 1) hr, yy_c_eq, yy_c_c, h75, sg_kc_b]
      by_cases g : x8 = 0
      · rw [if_pos g]; exact hQ
      · rw [if_neg g, zr_74_0, zi_75, zy_at (by decide) (by decide), show (3 : Int).toNat = 3 from rfl, yy_c_eq, if_pos (by omega)]; exact hQ
    · rw [if_neg g4] at hQ
      rw [if_neg g4, xm_w_id (by omega) (by omega), show (i : Int) + 1 = ((i + 1 : Nat) : Int) from rfl]
      exact l_1175b hr h75 h3 h8 n (i + 1) (by omega) (by omega) hQ
set_option maxRecDepth 20000 in
theorem sg_ifd {x8 : Int} {s : Nat → Int} {r i : Nat} : (if x8 = 1 ∧ sg_N s ≤ sg_pn s r (sg_N s - i) i then (1 : Int) else 0) = if x8 = 1 ∧ decide (sg_N s ≤ sg_pj s r i) = true then 1 else 0 := by
  have e : sg_pj s r i = sg_pn s r (sg_N s - i) i := rfl
  rw [e]
  by_cases g : x8 = 1 ∧ sg_N s ≤ sg_pn s r (sg_N s - i) i
  · rw [if_pos g, if_pos ⟨g.1, decide_eq_true g.2⟩]
  · rw [if_neg g, if_neg (fun x => g ⟨x.1, of_decide_eq_true x.2⟩)]
set_option maxRecDepth 20000 in
theorem l_1175 {sc : List Int} {d : Nat} {t : xm_W} {s : Nat → Int} {Q : Option xm_V × xm_W → Prop} {r : Nat} {kd dp h c0 z : Int} {m0 : Nat → Nat → Int} (hW : sg_W s 0) (h9 : s 1 ≤ 9999) (hr : r < 5) (hk : 0 ≤ kd ∧ kd ≤ 5) (hh : 0 ≤ h ∧ h ≤ s 1) (hdp : sp_deep kd (s (45 + 18 * r)) (s (47 + 18 * r)) = dp) (hQ : ∀ m', (∀ c, c ≠ 75 → c ≠ 80 → c ≠ 81 → m' c = m0 c) → m' 75 = s → Q ((some (.inl (z)), (yy_W (m') t)))) : ∀ (k st : Nat) (a x8 : Int) (i : Nat) (m : Nat → Nat → Int) (u10 u11 u12 u13 : Option xm_V), ((st + k : Nat) : Int) = s (48 + 18 * r) → 0 ≤ a ∧ a ≤ 35 → i ≤ sg_N s + st → (x8 = 0 ∨ x8 = 1) → (∀ c, c ≠ 75 → c ≠ 80 → c ≠ 81 → m c = m0 c) → m 75 = sg_kc s r kd a → (if x8 = 1 ∧ sg_fk s r kd dp h k st a i = true then (1 : Int) else 0) = z → xm_EQ (xm_old sc) xm_sta (xm_X (xm_old sc) xm_mt (d + 5)) xm_c1175 26 [some (.inr (.inl (some 74))), some (.inl ((r : Int))), some (.inl (kd)), some (.inl (c0)), some (.inl (h)), some (.inl (s (44 + 18 * r))), some (.inl (s (46 + 18 * r))), some (.inl ((i : Int))), some (.inl (x8)), some (.inl ((st : Int))), u10, u11, u12, u13] [] (yy_W (m) t) Q
  | 0, st, a, x8, i, m, u10, u11, u12, u13, hl, ha, hi, h8, hF, h75, hz => by
    have n3 := hW.1.2.2.2.1
    have eN : ((sg_N s : Nat) : Int) = s 3 := sg_N_i n3.1
    obtain ⟨b0, b1, b2, b3, b4, b5, b6⟩ := hW.1.2.2.2.2.2 r hr
    have e4 : m 75 (48 + 18 * r) = s (48 + 18 * r) := by rw [h75, sg_kc_o (by omega) (by omega)]
    refine xb_1175_26 ?_
    rw [oc_1110_4 (d := d + 4) hr, e4, if_neg (by omega)]
    refine l_1175b (d := d + 3) hr h75 n3 h8 (sg_N s - i) i rfl (by omega) ?_
    have e : (if x8 = 1 ∧ sg_N s ≤ sg_pn s r (sg_N s - i) i then (1 : Int) else 0) = z := by
      rw [← hz]
      exact sg_ifd
    rw [e]
    exact hQ _ (fun c c1 c2 c3 => by rw [yy_c_ne c1]; exact hF c c1 c2 c3) yy_c_eq
  | k + 1, st, a, x8, i, m, u10, u11, u12, u13, hl, ha, hi, h8, hF, h75, hz => by
    have n3 := hW.1.2.2.2.1
    have eN : ((sg_N s : Nat) : Int) = s 3 := sg_N_i n3.1
    obtain ⟨b0, b1, b2, b3, b4, b5, b6⟩ := hW.1.2.2.2.2.2 r hr
    have o : ∀ q, q ≠ 44 + 18 * r → q ≠ 46 + 18 * r → m 75 q = s q := fun q q1 q2 => by rw [h75, sg_kc_o q1 q2]
    have e4 := o (48 + 18 * r) (by omega) (by omega)
    have e1 := o 1 (by omega) (by omega)
    have hw := b6 st (by omega)
    have kr := sg_k_r (c := a) hW.1.2.2.1
    have nr := sg_next_r (w := s (50 + 18 * r + st)) ha
    rw [sg_fk_s] at hz
    refine xb_1175_26 ?_
    rw [oc_1110_4 (d := d + 4) hr, e4, if_pos (by omega), zr_74_0, zi_75, zy_at (by decide) (by decide), show (1 : Int).toNat = 1 from rfl, e1, xm_w_id (z := h + st) (by omega) (by omega)]
    by_cases g1 : h + st < s 1
    · rw [if_pos g1] at hz
      obtain ⟨m2, x2, f2⟩ := c_1136 (sc := sc) (d := d) (t := t) (m := m) (r := r) (w := s (50 + 18 * r + st)) (step := (st : Int)) hr (by rw [h75]; exact sg_kc_R hr (by omega) ha hW.1) (sg_T_eq (by decide) (fun q q1 q2 => o q (by omega) (by omega)) hW.2.2.2.1) hw (by omega)
      have sh : sg_sh (m 75) r (s (50 + 18 * r + st)) st = sp_shown kd (s (50 + 18 * r + st)) st := by
        unfold sg_sh
        rw [h75, sg_kc_0, if_neg (by omega)]
      rw [sh] at x2
      have m75 : m2 75 = sg_kc s r kd a := by rw [f2 75 (by decide) (by decide)]; exact h75
      have o2 : ∀ q, q ≠ 44 + 18 * r → q ≠ 46 + 18 * r → m2 75 q = s q := fun q q1 q2 => by rw [m75, sg_kc_o q1 q2]
      have hF2 : ∀ v c, c ≠ 75 → c ≠ 80 → c ≠ 81 → yy_c m2 75 (sg_kc s r kd v) c = m0 c := fun v c c1 c2 c3 => by rw [yy_c_ne c1, f2 c c2 c3]; exact hF c c1 c2 c3
      have next : ∀ a' x8' i' u1 u2 u3 u4, 0 ≤ a' ∧ a' ≤ 35 → i' ≤ sg_N s + (st + 1) → (x8' = 0 ∨ x8' = 1) → (if x8' = 1 ∧ sg_fk s r kd dp h k (st + 1) a' i' = true then (1 : Int) else 0) = z → xm_EQ (xm_old sc) xm_sta (xm_X (xm_old sc) xm_mt (d + 5)) xm_c1175 26 [some (.inr (.inl (some 74))), some (.inl ((r : Int))), some (.inl (kd)), some (.inl (c0)), some (.inl (h)), some (.inl (s (44 + 18 * r))), some (.inl (s (46 + 18 * r))), some (.inl ((i' : Int))), some (.inl (x8')), some (.inl (((st + 1 : Nat) : Int))), u1, u2, u3, u4] [] (yy_W (yy_c m2 75 (sg_kc s r kd a')) t) Q := fun a' x8' i' u1 u2 u3 u4 y1 y2 y3 y4 => l_1175 hW h9 hr hk hh hdp hQ k (st + 1) a' x8' i' _ u1 u2 u3 u4 (by omega) y1 y2 y3 (hF2 a') yy_c_eq y4
      have ew : m 75 (50 + 18 * r + ((st : Int)).toNat) = s (50 + 18 * r + st) := by rw [Int.toNat_natCast]; exact o _ (by omega) (by omega)
      have e2 : m 75 (46 + 18 * r) = a := by rw [h75, sg_kc_2]
      rw [if_pos g1, oc_1110_6 (d := d + 4) hr (by omega), ew, oc_1110_2 (d := d + 4) hr, e2, oc_1139 (d := d + 4) ha.1 (by omega), x2, xm_Oi_some, xm_w_id (z := (st : Int) + 1) (by omega) (by omega), show (st : Int) + 1 = ((st + 1 : Nat) : Int) from rfl]
      by_cases g2 : sp_next a (s (50 + 18 * r + st)) = -1
      · rw [if_pos g2] at hz
        rw [if_pos g2, if_pos g2, oc_1111_2 (d := d + 4) hr, m75, sg_kc_u]
        exact next _ _ _ _ _ _ _ ha (by omega) h8 hz
      · rw [if_neg g2] at hz
        have ha' := nr.resolve_left g2
        rw [if_neg g2]
        by_cases g3 : sp_shown kd (s (50 + 18 * r + st)) st = -1
        · rw [if_pos (Or.inl g3)] at hz
          rw [if_pos g3, if_neg g2, oc_1111_2 (d := d + 4) hr, m75, sg_kc_u]
          exact next _ _ _ _ _ _ _ ha' (by omega) h8 hz
        · have k2 : sg_k (m2 75) a = sg_k s a := sg_k_eq (o2 2 (by omega) (by omega)) (o2 _ (by omega) (by omega))
          have hf2 : 0 ≤ m2 75 2 ∧ m2 75 2 ≤ 9 := by rw [o2 2 (by omega) (by omega)]; exact hW.1.2.2.1
          rw [if_neg g3, oc_1130 (d := d + 4) ha hf2, k2]
          by_cases g4 : s 1 ≤ h + st + sg_k s a
          · rw [if_neg (show ¬ (sp_shown kd (s (50 + 18 * r + st)) st = -1 ∨ ¬ (s 1 ≤ h + st + sg_k s a)) by omega)] at hz
            rw [if_pos (by omega), oc_1131 (d := d + 3) ha (by omega) hf2, k2, o2 1 (by omega) (by omega), zz_t g4]
            refine l_1175a (d := d + 3) (dp := dp) (s := s) (fun i w => ?_) (o2 3 (by omega) (by omega)) n3 hr ?_ ?_ ?_ (by omega) h8 (sg_N s - i) i rfl (by omega) (fun t0 ht => ?_)
            · exact o2 _ (by omega) (by omega)
            · unfold sg_dp
              rw [m75, sg_kc_0, sg_kc_o (by omega) (by omega), sg_kc_o (by omega) (by omega)]
              exact hdp
            · rw [o2 _ (by omega) (by omega)]; exact b1
            · rw [o2 _ (by omega) (by omega)]; exact b3
            · have jb := sg_pn_b (s := s) (r := r) (sg_N s - i) i
              refine xb_1175_132 ?_
              rw [if_neg g2, oc_1111_2 (d := d + 4) hr, m75, sg_kc_u, xm_w_id (z := (st : Int) + 1) (by omega) (by omega), show (st : Int) + 1 = ((st + 1 : Nat) : Int) from rfl, xm_w_id (by omega) (by omega), show (sg_pn s r (sg_N s - i) i : Int) + 1 = ((sg_pn s r (sg_N s - i) i + 1 : Nat) : Int) from rfl]
              refine next _ _ _ _ _ _ _ ha' (by omega) (by rw [ht]; split <;> omega) ?_
              rw [← hz]
              by_cases g8 : x8 = 1
              · by_cases g5 : sg_pj s r i < sg_N s ∧ sg_mt s (sg_pj s r i) a (sp_shown kd (s (50 + 18 * r + st)) st) dp (h + st) = true
                · have T : t0 = 1 := by rw [ht]; exact if_pos ⟨g8, g5⟩
                  rw [if_pos g5, T, g8]
                  first | done | rfl
                · have T : t0 = 0 := by rw [ht]; exact if_neg (fun x => g5 x.2)
                  rw [if_neg g5, T, if_neg (show ¬ ((0 : Int) = 1 ∧ _) from fun x => absurd x.1 (by decide)), if_neg (show ¬ (x8 = 1 ∧ false = true) from fun x => absurd x.2 (by decide))]
              · have T : t0 = 0 := by rw [ht]; exact if_neg (fun x => g8 x.1)
                rw [T, if_neg (show ¬ ((0 : Int) = 1 ∧ _) from fun x => absurd x.1 (by decide))]
                exact (if_neg (fun x => g8 x.1)).symm
          · rw [if_pos (Or.inr g4)] at hz
            by_cases g6 : 0 < sg_k s a
            · rw [if_pos g6, oc_1131 (d := d + 3) ha (by omega) hf2, k2, o2 1 (by omega) (by omega), zz_f g4, if_neg g2, oc_1111_2 (d := d + 4) hr, m75, sg_kc_u]
              exact next _ _ _ _ _ _ _ ha' (by omega) h8 hz
            · rw [if_neg g6, if_neg g2, oc_1111_2 (d := d + 4) hr, m75, sg_kc_u]
              exact next _ _ _ _ _ _ _ ha' (by omega) h8 hz
    · rw [if_neg g1] at hz
      rw [if_neg g1]
      refine l_1175b (d := d + 3) hr h75 n3 h8 (sg_N s - i) i rfl (by omega) ?_
      have e : (if x8 = 1 ∧ sg_N s ≤ sg_pn s r (sg_N s - i) i then (1 : Int) else 0) = z := by
        rw [← hz]
        exact sg_ifd
      rw [e]
      exact hQ _ (fun c c1 c2 c3 => by rw [yy_c_ne c1]; exact hF c c1 c2 c3) yy_c_eq
set_option maxRecDepth 20000 in
theorem c_1175 {sc : List Int} {d : Nat} {t : xm_W} {m : Nat → Nat → Int} {s : Nat → Int} {r : Nat} {kd c0 h : Int} (h75 : m 75 = s) (hW : sg_W s 0) (h9 : s 1 ≤ 9999) (hr : r < 5) (hk : 0 ≤ kd ∧ kd ≤ 5) (hc : 0 ≤ c0 ∧ c0 ≤ 35) (hh : 0 ≤ h ∧ h ≤ s 1) : ∃ m', xm_X (xm_old sc) xm_mt (d + 6) 1175 [.inr (.inl (some 74)), .inl ((r : Int)), .inl (kd), .inl (c0), .inl (h)] (yy_W m t) = some (some (.inl (if sg_ft s r kd c0 h = true then 1 else 0)), yy_W m' t) ∧ (∀ c, c ≠ 75 → c ≠ 80 → c ≠ 81 → m' c = m c) ∧ m' 75 = s := by
  have key : ∀ {Q : Option xm_V × xm_W → Prop}, (∀ m', ((∀ c, c ≠ 75 → c ≠ 80 → c ≠ 81 → m' c = m c) ∧ m' 75 = s) → Q (some (.inl (if sg_ft s r kd c0 h = true then 1 else 0)), yy_W m' t)) → xm_EQ (xm_old sc) xm_sta (xm_X (xm_old sc) xm_mt (d + 5)) xm_m1175.2.2.2.2.2.2.2 0 (xm_loc xm_m1175.2.2.1 [.inr (.inl (some 74)), .inl ((r : Int)), .inl (kd), .inl (c0), .inl (h)]) [] (yy_W m t) Q := by
    intro Q hQ
    have b4 := (hW.1.2.2.2.2.2 r hr).2.2.2.2.1
    refine xb_1175_0 ?_
    rw [oc_1110_0 (d := d + 4) hr, oc_1110_2 (d := d + 4) hr, oc_1111_0 (d := d + 4) hr, oc_1111_2 (d := d + 4) hr, yy_c_eq, yy_c_c, h75]
    exact l_1175 (d := d) (s := s) (m0 := m) (z := if sg_ft s r kd c0 h = true then 1 else 0) hW h9 hr hk hh rfl (fun m' a b => hQ m' ⟨a, b⟩) (s (48 + 18 * r)).toNat 0 c0 1 0 (yy_c m 75 (sg_kc s r kd c0)) none none none none (by omega) hc (by omega) (Or.inr rfl) (fun c c1 _ _ => yy_c_ne c1) yy_c_eq (by
      unfold sg_ft
      by_cases g : sg_fk s r kd (sp_deep kd (s (45 + 18 * r)) (s (47 + 18 * r))) h (s (48 + 18 * r)).toNat 0 c0 0 = true
      · rw [if_pos ⟨rfl, g⟩, if_pos g]
      · rw [if_neg (fun x => g x.2), if_neg g])
  obtain ⟨q, h1, m', h2, h3⟩ := yx_of (y := 1175) (M := xm_m1175) (sc := sc) (d := d + 5) (as := [.inr (.inl (some 74)), .inl ((r : Int)), .inl (kd), .inl (c0), .inl (h)]) (w := yy_W m t) (Q := fun q => ∃ m', q = (some (.inl (if sg_ft s r kd c0 h = true then 1 else 0)), yy_W m' t) ∧ ((∀ c, c ≠ 75 → c ≠ 80 → c ≠ 81 → m' c = m c) ∧ m' 75 = s)) rfl (key fun m' h => ⟨m', rfl, h⟩) (fun q ⟨m', h, _⟩ => by rw [h]; show (_ == _ || _ == _) = true; split <;> rfl) rfl (Nat.le_of_ble_eq_true rfl) (yy_hd rfl (by decide))
  exact ⟨m', by rw [h1, h2], h3⟩
end
section
/-! KINDS: the act -/
set_option maxRecDepth 20000 in
theorem sp_or0 {x y : Int} : xm_or (xm_or x y) 0 = xm_or x y := by
  unfold xm_or
  rw [Int32.ofInt_toInt, show Int32.ofInt 0 = 0 from rfl, Int32.or_zero]
def sg_ks (s : Nat → Int) (r : Nat) (c0 h : Int) : Nat → Nat → Int → Int
  | 0, _, b => b
  | k + 1, i, b => sg_ks s r c0 h k (i + 1) (if sg_ft s r i c0 h = true then xm_or b (xm_shl 1 i) else b)
set_option maxRecDepth 20000 in
theorem sg_ks_s {s : Nat → Int} {r k i : Nat} {c0 h b : Int} : sg_ks s r c0 h (k + 1) i b = sg_ks s r c0 h k (i + 1) (if sg_ft s r i c0 h = true then xm_or b (xm_shl 1 i) else b) := rfl
set_option maxRecDepth 20000 in
theorem l_122 {sc : List Int} {d : Nat} {t : xm_W} {m : Nat → Nat → Int} {s : Nat → Int} {Q : Option xm_V × xm_W → Prop} {r : Nat} {h c0 z : Int} (hM : yy_MR m 1 s) (hW : sg_W s 0) (h9 : s 1 ≤ 9999) (hr : r < 5) (hc : 0 ≤ c0 ∧ c0 ≤ 35) (hh : 0 ≤ h ∧ h ≤ s 1) (hQ : Q ((some (.inl (z)), (yy_W (m) t)))) : ∀ (k i : Nat) (b : Int), i + k = 6 → sg_ks s r c0 h k i b = z → xm_EQ (xm_old sc) xm_sta (xm_X (xm_old sc) xm_mt (d + 3)) xm_c122 22 [some (.inr (.inl (some 0))), some (.inl ((r : Int))), some (.inl (c0)), some (.inl (h)), some (.inl (b)), some (.inl ((i : Int)))] [] (yy_W (m) t) Q
  | 0, i, b, hk, hz => by
    have hz' : b = z := hz
    refine xb_122_22 ?_
    rw [if_neg (by omega), hz']
    exact hQ
  | k + 1, i, b, hk, hz => by
    rw [sg_ks_s] at hz
    refine xb_122_22 ?_
    rw [if_pos (by omega), zr_0_0, oc_419 (d := d) hM hW h9 hr (by omega) hc hh, xm_w_id (by omega) (by omega), show (i : Int) + 1 = ((i + 1 : Nat) : Int) from rfl]
    by_cases g : sg_ft s r i c0 h = true
    · rw [if_pos g] at hz
      rw [zz_t g]
      exact l_122 hM hW h9 hr hc hh hQ k (i + 1) _ (by omega) hz
    · rw [if_neg g] at hz
      rw [zz_f g]
      exact l_122 hM hW h9 hr hc hh hQ k (i + 1) _ (by omega) hz
set_option maxRecDepth 20000 in
theorem c_122g {sc : List Int} {d : Nat} {t : xm_W} {m : Nat → Nat → Int} {r : Nat} {h c0 : Int} (hr5 : r < 5) (hc : 0 ≤ c0 ∧ c0 ≤ 35) (hh : 0 ≤ h ∧ h ≤ m 75 1) (hI : yy_I t m) (hr : (r : Int) ≤ m 75 0 - 1) : xm_X (xm_old sc) xm_mt (d + 4) 122 [.inr (.inl (some 0)), .inl ((r : Int)), .inl (c0), .inl (h)] (yy_W (m) t) = some (some (.inl (sg_ks (m 75) r c0 h 6 0 0)), (yy_W (m) t)) := by
  obtain ⟨⟨e0, e3, e1, e2⟩, hR⟩ := yy_I_0 hI
  have b0 := hR.1
  refine xm_X_of (M := xm_m122) rfl ⟨xm_EQ.eq (xb_122_0 ?_), rfl, rfl, Nat.le_of_ble_eq_true rfl, yy_hd rfl (by decide)⟩
  rw [oc_141 (d := d + 1) (by omega) (by omega), zz_t (by omega), oc_143 (d := d + 1), zz_t hc, zr_0_0, zf_1_2, e1, oc_142 (d := d + 2), zz_t hh]
  exact l_122 (d := d) (s := m 75) hI.2.1.1 hI.1.1 hI.1.2.1 hr5 hc hh rfl 6 0 0 rfl rfl
set_option maxRecDepth 20000 in
theorem oc_122g {F : Int → xm_W → Prop} {sc : List Int} {d : Nat} {t : xm_W} {m : Nat → Nat → Int} {r : Nat} {h c0 : Int} (hr5 : r < 5) (hc : 0 ≤ c0 ∧ c0 ≤ 35) (hh : 0 ≤ h ∧ h ≤ m 75 1) (hI : yy_I t m) (hr : (r : Int) ≤ m 75 0 - 1) : xm_Oi (xm_X (xm_old sc) xm_mt (d + 4) 122 [.inr (.inl (some 0)), .inl ((r : Int)), .inl (c0), .inl (h)] (yy_W (m) t)) F = F (sg_ks (m 75) r c0 h 6 0 0) (yy_W (m) t) := congrArg (fun x => xm_Oi x F) (c_122g hr5 hc hh hI hr)
set_option maxRecDepth 20000 in
theorem l_1176 {sc : List Int} {d : Nat} {t : xm_W} {s : Nat → Int} {Q : Option xm_V × xm_W → Prop} {r : Nat} {h c0 z : Int} {m0 : Nat → Nat → Int} (hW : sg_W s 0) (h9 : s 1 ≤ 9999) (hr : r < 5) (hc : 0 ≤ c0 ∧ c0 ≤ 35) (hh : 0 ≤ h ∧ h ≤ s 1) (hQ : ∀ m', (∀ c, c ≠ 75 → c ≠ 80 → c ≠ 81 → m' c = m0 c) → m' 75 = s → Q ((some (.inl (z)), (yy_W (m') t)))) : ∀ (k i : Nat) (b : Int) (m : Nat → Nat → Int), i + k = 6 → (∀ c, c ≠ 75 → c ≠ 80 → c ≠ 81 → m c = m0 c) → m 75 = s → xm_or b 0 = b → sg_ks s r c0 h k i b = z → xm_EQ (xm_old sc) xm_sta (xm_X (xm_old sc) xm_mt (d + 6)) xm_c1176 23 [some (.inr (.inl (some 74))), some (.inl ((r : Int))), some (.inl (c0)), some (.inl (h)), some (.inl (b)), some (.inl ((i : Int)))] [] (yy_W (m) t) Q
  | 0, i, b, m, hk, hF, h75, hb, hz => by
    have hz' : b = z := hz
    refine xb_1176_23 ?_
    rw [if_neg (by omega), hz']
    exact hQ m hF h75
  | k + 1, i, b, m, hk, hF, h75, hb, hz => by
    rw [sg_ks_s] at hz
    obtain ⟨m2, x2, f2, q2⟩ := c_1175 (sc := sc) (d := d) (t := t) (m := m) (s := s) (r := r) (kd := (i : Int)) (c0 := c0) (h := h) h75 hW h9 hr (by omega) hc hh
    have hF2 : ∀ c, c ≠ 75 → c ≠ 80 → c ≠ 81 → m2 c = m0 c := fun c c1 c2 c3 => by rw [f2 c c1 c2 c3]; exact hF c c1 c2 c3
    refine xb_1176_23 ?_
    rw [if_pos (by omega), x2, xm_Oi_some, xm_w_id (by omega) (by omega), show (i : Int) + 1 = ((i + 1 : Nat) : Int) from rfl]
    by_cases g : sg_ft s r i c0 h = true
    · rw [if_pos g] at hz
      rw [zz_t g]
      exact l_1176 hW h9 hr hc hh hQ k (i + 1) _ m2 (by omega) hF2 q2 sp_or0 hz
    · rw [if_neg g] at hz
      rw [zz_f g, hb]
      exact l_1176 hW h9 hr hc hh hQ k (i + 1) _ m2 (by omega) hF2 q2 hb hz
set_option maxRecDepth 20000 in
theorem c_1176g {sc : List Int} {d : Nat} {t : xm_W} {m : Nat → Nat → Int} {r : Nat} {h c0 : Int} (hr5 : r < 5) (hc : 0 ≤ c0 ∧ c0 ≤ 35) (hh : 0 ≤ h ∧ h ≤ m 75 1) (hW : sg_W (m 75) 0) (h9 : m 75 1 ≤ 9999) (hr : (r : Int) ≤ m 75 0 - 1) : ∃ m', xm_X (xm_old sc) xm_mt (d + 7) 1176 [.inr (.inl (some 74)), .inl ((r : Int)), .inl (c0), .inl (h)] (yy_W m t) = some (some (.inl (sg_ks (m 75) r c0 h 6 0 0)), yy_W m' t) ∧ (∀ c, c ≠ 75 → c ≠ 80 → c ≠ 81 → m' c = m c) ∧ m' 75 = m 75 := by
  have key : ∀ {Q : Option xm_V × xm_W → Prop}, (∀ m', ((∀ c, c ≠ 75 → c ≠ 80 → c ≠ 81 → m' c = m c) ∧ m' 75 = m 75) → Q (some (.inl (sg_ks (m 75) r c0 h 6 0 0)), yy_W m' t)) → xm_EQ (xm_old sc) xm_sta (xm_X (xm_old sc) xm_mt (d + 6)) xm_m1176.2.2.2.2.2.2.2 0 (xm_loc xm_m1176.2.2.1 [.inr (.inl (some 74)), .inl ((r : Int)), .inl (c0), .inl (h)]) [] (yy_W m t) Q := by
    intro Q hQ
    have b0 := hW.1.1
    refine xb_1176_0 ?_
    rw [oc_1109 (d := d + 4) (by omega) (by omega), zz_t (by omega), oc_1108 (d := d + 4), zz_t hc, zr_74_0, zi_75, zy_at (by decide) (by decide), show (1 : Int).toNat = 1 from rfl, oc_1103 (d := d + 5), zz_t hh]
    exact l_1176 (d := d) (s := m 75) (m0 := m) hW h9 hr5 hc hh (fun m' a b => hQ m' ⟨a, b⟩) 6 0 0 m rfl (fun _ _ _ _ => rfl) rfl rfl rfl
  obtain ⟨q, h1, m', h2, h3⟩ := yx_of (y := 1176) (M := xm_m1176) (sc := sc) (d := d + 6) (as := [.inr (.inl (some 74)), .inl ((r : Int)), .inl (c0), .inl (h)]) (w := yy_W m t) (Q := fun q => ∃ m', q = (some (.inl (sg_ks (m 75) r c0 h 6 0 0)), yy_W m' t) ∧ ((∀ c, c ≠ 75 → c ≠ 80 → c ≠ 81 → m' c = m c) ∧ m' 75 = m 75)) rfl (key fun m' h => ⟨m', rfl, h⟩) (fun q ⟨m', h, _⟩ => by rw [h]; rfl) rfl (Nat.le_of_ble_eq_true rfl) (yy_hd rfl (by decide))
  exact ⟨m', by rw [h1, h2], h3⟩
set_option maxRecDepth 20000 in
theorem a_122 {sc : List Int} {t : xm_W} {m : Nat → Nat → Int} {x1 x2 x3 : Int} (hI : yy_I t m) : yy_A sc t m 122 1176 [.inl x1, .inl x2, .inl x3] true := by
  by_cases h : (0 ≤ x1 ∧ x1 ≤ m 1 4 - 1) ∧ (0 ≤ x2 ∧ x2 ≤ 35) ∧ (0 ≤ x3 ∧ x3 ≤ m 1 2)
  · obtain ⟨⟨e0, e3, e1, e2⟩, hR⟩ := yy_I_0 hI
    have b0 := hR.1
    obtain ⟨r, rfl⟩ : ∃ r : Nat, x1 = r := ⟨x1.toNat, by omega⟩
    have hr5 : r < 5 := by omega
    have hh : 0 ≤ x3 ∧ x3 ≤ m 75 1 := by omega
    have X1 := c_122g (sc := sc) (d := 96) (t := t) (m := m) (r := r) (h := x3) hr5 h.2.1 hh hI (by omega)
    obtain ⟨m2, X2, f2, q2⟩ := c_1176g (sc := sc) (d := 93) (t := t) (m := m) (r := r) (h := x3) hr5 h.2.1 hh hI.1.1 hI.1.2.1 (by omega)
    refine yy_Ao X1 X2 (yy_I_n (fun c hc => ?_) hI) ?_ rfl
    · by_cases e : c = 75
      · subst e; exact q2
      · unfold yy_no at hc
        exact f2 c e (by omega) (by omega)
    · exact f2 0 (by decide) (by decide) (by decide)
  · exact r_122 hI h
end
section
/-! REST: the greatest divisor, both sides -/
def sg_eu : Nat → Int → Int → Int
  | 0, x, _ => x
  | n + 1, x, y => if y = 0 then x else sg_eu n y (x % y)
def sg_es : Nat → Int → Int → Prop
  | 0, _, y => y = 0
  | n + 1, x, y => y = 0 ∨ sg_es n y (x % y)
set_option maxRecDepth 20000 in
theorem sg_half {y r : Int} (hr : 0 < r) (h : r ≤ y) : 2 * (y % r) < y := by
  have q1 : 1 ≤ y / r := Int.le_ediv_of_mul_le hr (by omega)
  have q2 : r * 1 ≤ r * (y / r) := Int.mul_le_mul_of_nonneg_left q1 (by omega)
  have q3 := Int.mul_ediv_add_emod y r
  have q4 := Int.emod_lt_of_pos y hr
  omega
set_option maxRecDepth 20000 in
theorem sg_es_b : ∀ (k : Nat) (x y : Int), 0 ≤ y → y < 2 ^ k → sg_es (2 * k) x y
  | 0, x, y, h0, h1 => by
    have : (2 : Int) ^ 0 = 1 := rfl
    show y = 0
    omega
  | k + 1, x, y, h0, h1 => by
    show y = 0 ∨ sg_es (2 * k + 1) y (x % y)
    by_cases g : y = 0
    · exact Or.inl g
    · refine Or.inr ?_
      show x % y = 0 ∨ sg_es (2 * k) (x % y) (y % (x % y))
      have r0 := Int.emod_nonneg x g
      have r1 := Int.emod_lt_of_pos x (show 0 < y by omega)
      by_cases g2 : x % y = 0
      · exact Or.inl g2
      · refine Or.inr (sg_es_b k _ _ (Int.emod_nonneg _ g2) ?_)
        have hh := sg_half (y := y) (r := x % y) (by omega) (by omega)
        have p : (2 : Int) ^ (k + 1) = 2 ^ k * 2 := Int.pow_succ 2 k
        omega
set_option maxRecDepth 20000 in
theorem sg_eu_b {B : Int} : ∀ (n : Nat) (x y : Int), 0 ≤ x ∧ x ≤ B → 0 ≤ y ∧ y ≤ B → 0 ≤ sg_eu n x y ∧ sg_eu n x y ≤ B
  | 0, x, y, hx, hy => hx
  | n + 1, x, y, hx, hy => by
    show 0 ≤ (if y = 0 then x else sg_eu n y (x % y)) ∧ (if y = 0 then x else sg_eu n y (x % y)) ≤ B
    by_cases g : y = 0
    · rw [if_pos g]; exact hx
    · rw [if_neg g]
      have r0 := Int.emod_nonneg x g
      have r1 := Int.emod_lt_of_pos x (show 0 < y by omega)
      exact sg_eu_b n y (x % y) hy (by omega)
set_option maxRecDepth 20000 in
theorem sg_eu_0 : ∀ (n : Nat) (x y : Int), sg_es n x y → (x ≠ 0 ∨ y ≠ 0) → sg_eu n x y ≠ 0
  | 0, x, y, hs, h => by
    have : y = 0 := hs
    show x ≠ 0
    omega
  | n + 1, x, y, hs, h => by
    show (if y = 0 then x else sg_eu n y (x % y)) ≠ 0
    by_cases g : y = 0
    · rw [if_pos g]; omega
    · rw [if_neg g]
      exact sg_eu_0 n y (x % y) (hs.resolve_left g) (Or.inl g)
set_option maxRecDepth 20000 in
theorem l_204 {sc : List Int} {d : Nat} {w : xm_W} {Q : Option xm_V × xm_W → Prop} {x1 y1 z : Int} (hQ : Q ((some (.inl (z)), (w)))) : ∀ (n i : Nat) (x y : Int) (u : Option xm_V), i + n ≤ 100 → 0 ≤ x → 0 ≤ y → sg_es n x y → (if sg_eu n x y = 0 then 1 else sg_eu n x y) = z → xm_EQ (xm_old sc) xm_sta (xm_X (xm_old sc) xm_mt (d)) xm_c204 6 [some (.inl (x1)), some (.inl (y1)), some (.inl (x)), some (.inl (y)), some (.inl ((i : Int))), u] [] (w) Q
  | 0, i, x, y, u, hn, hx, hy, hs, hz => by
    have y0 : y = 0 := hs
    have hz' : (if x = 0 then (1 : Int) else x) = z := hz
    refine xb_204_6 ?_
    by_cases g : x = 0
    · rw [if_pos g] at hz'
      by_cases gi : (i : Int) < 100
      · rw [if_pos gi, if_pos y0, if_pos g, hz']; exact hQ
      · rw [if_neg gi, if_pos g, hz']; exact hQ
    · rw [if_neg g] at hz'
      by_cases gi : (i : Int) < 100
      · rw [if_pos gi, if_pos y0, if_neg g, hz']; exact hQ
      · rw [if_neg gi, if_neg g, hz']; exact hQ
  | n + 1, i, x, y, u, hn, hx, hy, hs, hz => by
    have e : sg_eu (n + 1) x y = if y = 0 then x else sg_eu n y (x % y) := rfl
    rw [e] at hz
    refine xb_204_6 ?_
    rw [if_pos (by omega)]
    by_cases g : y = 0
    · rw [if_pos g] at hz
      rw [if_pos g]
      by_cases g2 : x = 0
      · rw [if_pos g2] at hz
        rw [if_pos g2, hz]; exact hQ
      · rw [if_neg g2] at hz
        rw [if_neg g2, hz]; exact hQ
    · rw [if_neg g] at hz
      rw [if_neg g, tmod_pos hx, xm_w_id (by omega) (by omega), show (i : Int) + 1 = ((i + 1 : Nat) : Int) from rfl]
      exact ⟨g, l_204 hQ n (i + 1) y (x % y) _ (by omega) hy (Int.emod_nonneg x g) (hs.resolve_left g) hz⟩
set_option maxRecDepth 20000 in
theorem c_204 {sc : List Int} {d : Nat} {w : xm_W} {x y : Int} (hx : 0 ≤ x) (hy : 0 ≤ y ∧ y < 4096) : xm_X (xm_old sc) xm_mt (d + 1) 204 [.inl (x), .inl (y)] (w) = some (some (.inl (if sg_eu 24 x y = 0 then 1 else sg_eu 24 x y)), (w)) := by
  refine xm_X_of (M := xm_m204) rfl ⟨xm_EQ.eq (xb_204_0 ?_), rfl, rfl, Nat.le_of_ble_eq_true rfl, xw_hd0⟩
  exact l_204 (d := d) rfl 24 0 x y none (by decide) hx hy.1 (sg_es_b 12 x y hy.1 hy.2) rfl
set_option maxRecDepth 20000 in
theorem oc_204 {F : Int → xm_W → Prop} {sc : List Int} {d : Nat} {w : xm_W} {x y : Int} (hx : 0 ≤ x) (hy : 0 ≤ y ∧ y < 4096) : xm_Oi (xm_X (xm_old sc) xm_mt (d + 1) 204 [.inl (x), .inl (y)] (w)) F = F (if sg_eu 24 x y = 0 then 1 else sg_eu 24 x y) (w) := congrArg (fun x => xm_Oi x F) (c_204 hx hy)
set_option maxRecDepth 20000 in
theorem l_1181 {sc : List Int} {d : Nat} {w : xm_W} {Q : Option xm_V × xm_W → Prop} {x1 y1 z : Int} (hQ : Q ((some (.inl (z)), (w)))) : ∀ (n : Nat) (x y : Int) (u : Option xm_V), 0 ≤ x → 0 ≤ y → sg_es n x y → sg_eu n x y = z → xm_EQ (xm_old sc) xm_sta (xm_X (xm_old sc) xm_mt (d)) xm_c1181 14 [some (.inl (x1)), some (.inl (y1)), some (.inl (x)), some (.inl (y)), u] [] (w) Q
  | 0, x, y, u, hx, hy, hs, hz => by
    have y0 : y = 0 := hs
    have hz' : x = z := hz
    refine xb_1181_14 ?_
    rw [if_pos y0, hz']; exact hQ
  | n + 1, x, y, u, hx, hy, hs, hz => by
    have e : sg_eu (n + 1) x y = if y = 0 then x else sg_eu n y (x % y) := rfl
    rw [e] at hz
    refine xb_1181_14 ?_
    by_cases g : y = 0
    · rw [if_pos g] at hz
      rw [if_pos g, hz]; exact hQ
    · rw [if_neg g] at hz
      rw [if_neg g, tmod_pos hx]
      exact ⟨g, l_1181 hQ n y (x % y) _ hy (Int.emod_nonneg x g) (hs.resolve_left g) hz⟩
def sg_ab (x : Int) : Int := if 0 ≤ x then x else -x
set_option maxRecDepth 20000 in
theorem sg_ab_b {x B : Int} (h : -B ≤ x ∧ x ≤ B) : 0 ≤ sg_ab x ∧ sg_ab x ≤ B := by unfold sg_ab; split <;> omega
def sg_gc (a b : Int) : Int := sg_eu 24 (sg_ab a) (sg_ab b)
set_option maxRecDepth 20000 in
theorem c_1181 {sc : List Int} {d : Nat} {w : xm_W} {x y : Int} (hx : -2000000 ≤ x ∧ x ≤ 2000000) (hy : -4000 ≤ y ∧ y ≤ 4000) : xm_X (xm_old sc) xm_mt (d + 1) 1181 [.inl (x), .inl (y)] (w) = some (some (.inl (sg_gc x y)), (w)) := by
  have ax := sg_ab_b hx
  have ay := sg_ab_b hy
  refine xm_X_of (M := xm_m1181) rfl ⟨xm_EQ.eq (xb_1181_0 ?_), rfl, rfl, Nat.le_of_ble_eq_true rfl, xw_hd0⟩
  have key := l_1181 (sc := sc) (d := d) (w := w) (x1 := x) (y1 := y) (z := sg_gc x y) (Q := fun q => (some (.inl (sg_gc x y)), w) = q) rfl 24 (sg_ab x) (sg_ab y) none ax.1 ay.1 (sg_es_b 12 _ _ ay.1 (by omega)) rfl
  by_cases g1 : x < 0
  · have e1 : sg_ab x = -x := by unfold sg_ab; rw [if_neg (by omega)]
    rw [if_pos g1, xm_w_id (z := -x) (by omega) (by omega)]
    rw [e1] at key
    by_cases g2 : y < 0
    · have e2 : sg_ab y = -y := by unfold sg_ab; rw [if_neg (by omega)]
      rw [e2] at key
      rw [if_pos g2, xm_w_id (z := -y) (by omega) (by omega)]; exact key
    · have e2 : sg_ab y = y := by unfold sg_ab; rw [if_pos (by omega)]
      rw [e2] at key
      rw [if_neg g2]; exact key
  · have e1 : sg_ab x = x := by unfold sg_ab; rw [if_pos (by omega)]
    rw [if_neg g1]
    rw [e1] at key
    by_cases g2 : y < 0
    · have e2 : sg_ab y = -y := by unfold sg_ab; rw [if_neg (by omega)]
      rw [e2] at key
      rw [if_pos g2, xm_w_id (z := -y) (by omega) (by omega)]; exact key
    · have e2 : sg_ab y = y := by unfold sg_ab; rw [if_pos (by omega)]
      rw [e2] at key
      rw [if_neg g2]; exact key
set_option maxRecDepth 20000 in
theorem oc_1181 {F : Int → xm_W → Prop} {sc : List Int} {d : Nat} {w : xm_W} {x y : Int} (hx : -2000000 ≤ x ∧ x ≤ 2000000) (hy : -4000 ≤ y ∧ y ≤ 4000) : xm_Oi (xm_X (xm_old sc) xm_mt (d + 1) 1181 [.inl (x), .inl (y)] (w)) F = F (sg_gc x y) (w) := congrArg (fun x => xm_Oi x F) (c_1181 hx hy)
set_option maxRecDepth 20000 in
theorem sg_gc_b {a b : Int} (ha : -2000000 ≤ a ∧ a ≤ 2000000) (hb : -4000 ≤ b ∧ b ≤ 4000) (h0 : b ≠ 0) : 0 < sg_gc a b ∧ sg_gc a b ≤ 2000000 := by
  have ax := sg_ab_b ha
  have ay := sg_ab_b hb
  have y0 : sg_ab b ≠ 0 := by unfold sg_ab; split <;> omega
  have e1 := sg_eu_b (B := 2000000) 24 (sg_ab a) (sg_ab b) ax (by omega)
  have e2 := sg_eu_0 24 (sg_ab a) (sg_ab b) (sg_es_b 12 _ _ ay.1 (by omega)) (Or.inr y0)
  unfold sg_gc
  omega
def sg_lo (a b x : Int) : Int := xm_w (x.tdiv (if b < 0 then -(sg_gc a b) else sg_gc a b))
set_option maxRecDepth 20000 in
theorem c_1184 {sc : List Int} {d : Nat} {w : xm_W} {a b i : Int} (ha : -2000000 ≤ a ∧ a ≤ 2000000) (hb : -4000 ≤ b ∧ b ≤ 4000) (h0 : b ≠ 0) : xm_X (xm_old sc) xm_mt (d + 2) 1184 [.inl (a), .inl (b), .inl (i)] (w) = some (some (.inl (sg_lo a b (if i = 0 then a else b))), (w)) := by
  have G := sg_gc_b ha hb h0
  refine xm_X_of (M := xm_m1184) rfl ⟨xm_EQ.eq (xb_1184_0 ?_), rfl, rfl, Nat.le_of_ble_eq_true rfl, xw_hd0⟩
  rw [oc_1181 (d := d) ha hb]
  unfold sg_lo
  by_cases g : b < 0
  · rw [if_pos g, if_pos g, xm_w_id (z := -(sg_gc a b)) (by omega) (by omega)]
    by_cases gi : i = 0
    · rw [if_pos gi, if_pos gi]; exact ⟨by omega, rfl⟩
    · rw [if_neg gi, if_neg gi]; exact ⟨by omega, rfl⟩
  · rw [if_neg g, if_neg g]
    by_cases gi : i = 0
    · rw [if_pos gi, if_pos gi]; exact ⟨by omega, rfl⟩
    · rw [if_neg gi, if_neg gi]; exact ⟨by omega, rfl⟩
set_option maxRecDepth 20000 in
theorem oc_1184 {F : Int → xm_W → Prop} {sc : List Int} {d : Nat} {w : xm_W} {a b i : Int} (ha : -2000000 ≤ a ∧ a ≤ 2000000) (hb : -4000 ≤ b ∧ b ≤ 4000) (h0 : b ≠ 0) : xm_Oi (xm_X (xm_old sc) xm_mt (d + 2) 1184 [.inl (a), .inl (b), .inl (i)] (w)) F = F (sg_lo a b (if i = 0 then a else b)) (w) := congrArg (fun x => xm_Oi x F) (c_1184 ha hb h0)
end
section
/-! REST: both sides -/
set_option maxRecDepth 20000 in
theorem ite_mi {x y : Int} : (if y < x then y else x) = min x y := by split <;> omega
set_option maxRecDepth 20000 in
theorem ite_ma {x y : Int} : (if x < y then y else x) = max x y := by split <;> omega
def sg_su (a b c e : Int) : Int := max (min a b) (min c e)
def sg_mm (a b c e : Int) : Int := min (max a c) (max b e)
def sg_be (a b c e : Int) : Int := a - b - c + e
def sg_wo (a b c e : Int) : Int := a * e - b * c
def sg_r9 (x : Int) : Prop := -999 ≤ x ∧ x ≤ 999
set_option maxRecDepth 20000 in
theorem sg_be0 {a b c e : Int} (h : ¬ sg_su a b c e = sg_mm a b c e) : sg_be a b c e ≠ 0 := by
  unfold sg_su sg_mm at h
  unfold sg_be
  intro h0
  apply h
  omega
set_option maxRecDepth 20000 in
theorem sg_mb {a d : Int} (h1 : sg_r9 a) (h2 : sg_r9 d) : -998001 ≤ a * d ∧ a * d ≤ 998001 := by
  unfold sg_r9 at h1 h2
  have := Nat.mul_le_mul (show a.natAbs ≤ 999 by omega) (show d.natAbs ≤ 999 by omega)
  rw [← Int.natAbs_mul] at this
  omega
set_option maxRecDepth 20000 in
theorem sg_abw {x : Int} (h : -2147483647 ≤ x ∧ x ≤ 2147483647) : (if 0 ≤ x then x else xm_w (0 - x)) = sg_ab x := by
  unfold sg_ab
  by_cases g : 0 ≤ x
  · rw [if_pos g, if_pos g]
  · rw [if_neg g, if_neg g, xm_w_id (by omega) (by omega)]; omega
set_option maxRecDepth 20000 in
theorem c_204g {sc : List Int} {d : Nat} {w : xm_W} {x y : Int} (hx : -2000000 ≤ x ∧ x ≤ 2000000) (hy : -4000 ≤ y ∧ y ≤ 4000) (h0 : y ≠ 0) : xm_X (xm_old sc) xm_mt (d + 1) 204 [.inl (sg_ab x), .inl (sg_ab y)] (w) = some (some (.inl (sg_gc x y)), (w)) := by
  have ax := sg_ab_b hx
  have ay := sg_ab_b hy
  have G := (sg_gc_b hx hy h0).1
  rw [c_204 (sc := sc) (d := d) (w := w) ax.1 (by omega), if_neg (show ¬ sg_eu 24 (sg_ab x) (sg_ab y) = 0 from fun e => by unfold sg_gc at G; omega)]
  rfl
set_option maxRecDepth 20000 in
theorem oc_204g {F : Int → xm_W → Prop} {sc : List Int} {d : Nat} {w : xm_W} {x y : Int} (hx : -2000000 ≤ x ∧ x ≤ 2000000) (hy : -4000 ≤ y ∧ y ≤ 4000) (h0 : y ≠ 0) : xm_Oi (xm_X (xm_old sc) xm_mt (d + 1) 204 [.inl (sg_ab x), .inl (sg_ab y)] (w)) F = F (sg_gc x y) (w) := congrArg (fun x => xm_Oi x F) (c_204g hx hy h0)
set_option maxRecDepth 20000 in
theorem sg_lo_n {a b x : Int} (h : b < 0) : xm_w ((-1 * x).tdiv (sg_gc a b)) = sg_lo a b x := by
  unfold sg_lo
  rw [if_pos h, Int.tdiv_neg, show -1 * x = -x by omega, Int.neg_tdiv]
set_option maxRecDepth 20000 in
theorem sg_lo_p {a b x : Int} (h : ¬ b < 0) : xm_w ((1 * x).tdiv (sg_gc a b)) = sg_lo a b x := by
  unfold sg_lo
  rw [if_neg h, Int.one_mul]
set_option maxRecDepth 20000 in
theorem l_202 {sc : List Int} {d : Nat} {t : xm_W} {m : Nat → Nat → Int} {Q : Option xm_V × xm_W → Prop} {r : Nat} {a b c e su be t0 : Int} {u8 u9 u10 u11 : Option xm_V} (ra : sg_r9 a) (rb : sg_r9 b) (rc : sg_r9 c) (re : sg_r9 e) (hbe : be = sg_be a b c e) (h0 : be ≠ 0) (ht : (be < 0 ∧ t0 = -1) ∨ (¬ be < 0 ∧ t0 = 1)) (hQ : ∀ m', (∀ k, k ≠ 63 → m' k = m k) → m' 63 0 = m 63 0 → m' 63 1 = sg_lo (a - b) be (a - b) → m' 63 2 = sg_lo (a - b) be be → m' 63 3 = sg_lo (sg_wo a b c e) be (sg_wo a b c e) → m' 63 4 = sg_lo (sg_wo a b c e) be be → Q ((none, (yy_W (m') t)))) : xm_EQ (xm_old sc) xm_sta (xm_X (xm_old sc) xm_mt (d + 1)) xm_c202 63 [some (.inr (.inl (some 63))), some (.inr (.inl (some (r + 1)))), some (.inl (a)), some (.inl (b)), some (.inl (c)), some (.inl (e)), some (.inl (su)), some (.inl (be)), u8, u9, u10, u11] [.inl (t0)] (yy_W (m) t) Q := by
  have m1 := sg_mb ra re
  have m2 := sg_mb rb rc
  have r1 : -4000 ≤ be ∧ be ≤ 4000 := by unfold sg_be at hbe; unfold sg_r9 at ra rb rc re; omega
  have r2 : -2000000 ≤ a - b ∧ a - b ≤ 2000000 := by unfold sg_r9 at ra rb; omega
  have r3 : -2000000 ≤ sg_wo a b c e ∧ sg_wo a b c e ≤ 2000000 := by unfold sg_wo; omega
  have G1 := (sg_gc_b r2 r1 h0).1
  have G2 := (sg_gc_b r3 r1 h0).1
  have T : ∀ (f : Int → Int → Int) , (∀ x, -2000000 ≤ x ∧ x ≤ 2000000 → f x 0 = f x 0) := fun _ _ _ => rfl
  have V : ∀ x y : Int, -2000000 ≤ x ∧ x ≤ 2000000 → xm_w ((xm_w (t0 * x)).tdiv (sg_gc y be)) = sg_lo y be x := by
    intro x y hx
    rcases ht with ⟨g, e⟩ | ⟨g, e⟩
    · rw [e, xm_w_id (z := -1 * x) (by omega) (by omega)]; exact sg_lo_n g
    · rw [e, xm_w_id (z := 1 * x) (by omega) (by omega)]; exact sg_lo_p g
  clear T
  have V1 := V (a - b) (a - b) r2
  have V2 := V be (a - b) (by omega)
  have V3 := V (sg_wo a b c e) (sg_wo a b c e) r3
  have V4 := V be (sg_wo a b c e) (by omega)
  have ew : xm_w (xm_w (a * e) - xm_w (b * c)) = sg_wo a b c e := by
    unfold sg_wo
    rw [xm_w_id (z := a * e) (by omega) (by omega), xm_w_id (z := b * c) (by omega) (by omega), xm_w_id (by omega) (by omega)]
  have ea : xm_w (a - b) = a - b := xm_w_id (by omega) (by omega)
  have n1 : sg_gc (a - b) be ≠ 0 := by
    clear V V1 V2 V3 V4 ew ea
    omega
  have n2 : sg_gc (sg_wo a b c e) be ≠ 0 := by
    clear V V1 V2 V3 V4 ew ea
    omega
  refine xb_202_63 ?_
  rw [ea, sg_abw (x := a - b) (by clear V V1 V2 V3 V4 ew ea; omega), sg_abw (x := be) (by clear V V1 V2 V3 V4 ew ea; omega), oc_204g (d := d) r2 r1 h0]
  refine ⟨n1, ?_⟩
  rw [V1, zs_63_1]
  refine ⟨n1, ?_⟩
  rw [V2, zs_63_2, ew, sg_abw (x := sg_wo a b c e) (by clear V V1 V2 V3 V4 ew ea; omega), oc_204g (d := d) r3 r1 h0]
  refine ⟨n2, ?_⟩
  rw [V3, zs_63_3]
  refine ⟨n2, ?_⟩
  rw [V4, zs_63_4]
  refine hQ _ (fun k hk => by rw [yy_s_ne hk, yy_s_ne hk, yy_s_ne hk, yy_s_ne hk]) ?_ ?_ ?_ ?_ ?_
  · rw [yy_s_eq, yy_u_ne (by decide), yy_s_eq, yy_u_ne (by decide), yy_s_eq, yy_u_ne (by decide), yy_s_eq, yy_u_ne (by decide)]
  · rw [yy_s_eq, yy_u_ne (by decide), yy_s_eq, yy_u_ne (by decide), yy_s_eq, yy_u_ne (by decide), yy_s_eq, yy_u_eq]
  · rw [yy_s_eq, yy_u_ne (by decide), yy_s_eq, yy_u_ne (by decide), yy_s_eq, yy_u_eq]
  · rw [yy_s_eq, yy_u_ne (by decide), yy_s_eq, yy_u_eq]
  · rw [yy_s_eq, yy_u_eq]
def sg_bg (f : Nat → Int) (a b c e : Int) : Prop := (sg_su a b c e = sg_mm a b c e → f 0 = 1 ∧ f 3 = sg_su a b c e ∧ f 4 = 1) ∧ (¬ sg_su a b c e = sg_mm a b c e → f 0 = 0 ∧ f 1 = sg_lo (a - b) (sg_be a b c e) (a - b) ∧ f 2 = sg_lo (a - b) (sg_be a b c e) (sg_be a b c e) ∧ f 3 = sg_lo (sg_wo a b c e) (sg_be a b c e) (sg_wo a b c e) ∧ f 4 = sg_lo (sg_wo a b c e) (sg_be a b c e) (sg_be a b c e))
set_option maxRecDepth 20000 in
theorem c_202 {sc : List Int} {d : Nat} {t : xm_W} {m : Nat → Nat → Int} {r : Nat} {a b c e : Int} (hr : yy_sh r) (ha : m (r + 1) 0 = a) (hb : m (r + 1) 1 = b) (hc : m (r + 1) 2 = c) (he : m (r + 1) 3 = e) (ra : sg_r9 a) (rb : sg_r9 b) (rc : sg_r9 c) (re : sg_r9 e) : ∃ m', xm_X (xm_old sc) xm_mt (d + 2) 202 [.inr (.inl (some 63)), .inr (.inl (some (r + 1)))] (yy_W m t) = some (none, yy_W m' t) ∧ (∀ k, k ≠ 63 → m' k = m k) ∧ sg_bg (m' 63) a b c e := by
  have key : ∀ {Q : Option xm_V × xm_W → Prop}, (∀ m', ((∀ k, k ≠ 63 → m' k = m k) ∧ sg_bg (m' 63) a b c e) → Q (none, yy_W m' t)) → xm_EQ (xm_old sc) xm_sta (xm_X (xm_old sc) xm_mt (d + 1)) xm_m202.2.2.2.2.2.2.2 0 (xm_loc xm_m202.2.2.1 [.inr (.inl (some 63)), .inr (.inl (some (r + 1)))]) [] (yy_W m t) Q := by
    intro Q hQ
    have q1 : -999 ≤ a ∧ a ≤ 999 := ra
    have q2 : -999 ≤ b ∧ b ≤ 999 := rb
    have q3 : -999 ≤ c ∧ c ≤ 999 := rc
    have q4 : -999 ≤ e ∧ e ≤ 999 := re
    refine xb_202_0 ?_
    rw [hi_1 hr, zy_at (by decide) (by decide), show (0 : Int).toNat = 0 from rfl, ha, hi_1 hr, zy_at (by decide) (by decide), show (1 : Int).toNat = 1 from rfl, hb, hi_1 hr, zy_at (by decide) (by decide), show (2 : Int).toNat = 2 from rfl, hc, hi_1 hr, zy_at (by decide) (by decide), show (3 : Int).toNat = 3 from rfl, he]
    rw [ite_mi (x := a) (y := b), ite_mi (x := c) (y := e), ite_ma (x := min a b) (y := min c e), ite_ma (x := b) (y := e), ite_ma (x := a) (y := c), ite_mi (x := max a c) (y := max b e)]
    rw [xm_w_id (z := a - b) (by omega) (by omega), xm_w_id (z := a - b - c) (by omega) (by omega), xm_w_id (z := a - b - c + e) (by omega) (by omega)]
    by_cases g : max (min a b) (min c e) = min (max a c) (max b e)
    · rw [if_pos g, zs_63_0 rfl, zf_63_0, yy_s_eq, yy_u_eq, if_neg (by decide), zs_63_3, zs_63_4]
      refine hQ _ ⟨fun k hk => by rw [yy_s_ne hk, yy_s_ne hk, yy_s_ne hk], ⟨fun _ => ⟨?_, ?_, ?_⟩, fun x => absurd g x⟩⟩
      · rw [yy_s_eq, yy_u_ne (by decide), yy_s_eq, yy_u_ne (by decide), yy_s_eq, yy_u_eq]
      · rw [yy_s_eq, yy_u_ne (by decide), yy_s_eq, yy_u_eq]; rfl
      · rw [yy_s_eq, yy_u_eq]
    · have b0 : ¬ a - b - c + e = 0 := sg_be0 g
      rw [if_neg g, zs_63_0 rfl, zf_63_0, yy_s_eq, yy_u_eq, if_pos rfl, if_neg b0]
      have fin : ∀ m', (∀ k, k ≠ 63 → m' k = yy_s m 63 0 0 k) → m' 63 0 = yy_s m 63 0 0 63 0 → m' 63 1 = sg_lo (a - b) (sg_be a b c e) (a - b) → m' 63 2 = sg_lo (a - b) (sg_be a b c e) (sg_be a b c e) → m' 63 3 = sg_lo (sg_wo a b c e) (sg_be a b c e) (sg_wo a b c e) → m' 63 4 = sg_lo (sg_wo a b c e) (sg_be a b c e) (sg_be a b c e) → Q ((none, (yy_W (m') t))) := fun m' f f0 f1 f2 f3 f4 => hQ m' ⟨fun k hk => by rw [f k hk, yy_s_ne hk], ⟨fun x => absurd x g, fun _ => ⟨by rw [f0, yy_s_eq, yy_u_eq], f1, f2, f3, f4⟩⟩⟩
      by_cases gn : a - b - c + e < 0
      · rw [if_pos gn]
        exact l_202 (d := d) (be := sg_be a b c e) ra rb rc re rfl b0 (Or.inl ⟨gn, rfl⟩) fin
      · rw [if_neg gn]
        exact l_202 (d := d) (be := sg_be a b c e) ra rb rc re rfl b0 (Or.inr ⟨gn, rfl⟩) fin
  obtain ⟨q, h1, m', h2, h3⟩ := yx_of (y := 202) (M := xm_m202) (sc := sc) (d := d + 1) (as := [.inr (.inl (some 63)), .inr (.inl (some (r + 1)))]) (w := yy_W m t) (Q := fun q => ∃ m', q = (none, yy_W m' t) ∧ ((∀ k, k ≠ 63 → m' k = m k) ∧ sg_bg (m' 63) a b c e)) rfl (key fun m' h => ⟨m', rfl, h⟩) (fun q ⟨m', h, _⟩ => by rw [h]; rfl) rfl (Nat.le_of_ble_eq_true rfl) (yy_hd rfl (by decide))
  exact ⟨m', by rw [h1, h2], h3⟩
set_option maxRecDepth 20000 in
theorem c_203 {sc : List Int} {d : Nat} {t : xm_W} {m : Nat → Nat → Int} {y : Int} : xm_X (xm_old sc) xm_mt (d + 1) 203 [.inr (.inl (some 63)), .inl (y)] (yy_W (m) t) = some (some (.inl (if y = 0 then (if m 63 0 = 0 then 0 else 1) else if y = 1 then m 63 1 else if y = 2 then m 63 2 else if y = 3 then m 63 3 else m 63 4)), (yy_W (m) t)) := by
  refine xm_X_of (M := xm_m203) rfl ⟨xm_EQ.eq (xb_203_0 ?_), rfl, rfl, Nat.le_of_ble_eq_true rfl, yy_hd rfl (by decide)⟩
  by_cases g0 : y = 0
  · rw [if_pos g0, if_pos g0, zf_63_0]
    by_cases g : m 63 0 = 0
    · rw [if_pos g, if_pos g]
    · rw [if_neg g, if_neg g]
  · rw [if_neg g0, if_neg g0]
    by_cases g1 : y = 1
    · rw [if_pos g1, if_pos g1, zf_63_1]
    · rw [if_neg g1, if_neg g1]
      by_cases g2 : y = 2
      · rw [if_pos g2, if_pos g2, zf_63_2]
      · rw [if_neg g2, if_neg g2]
        by_cases g3 : y = 3
        · rw [if_pos g3, if_pos g3, zf_63_3]
        · rw [if_neg g3, if_neg g3, zf_63_4]
set_option maxRecDepth 20000 in
theorem oc_203 {F : Int → xm_W → Prop} {sc : List Int} {d : Nat} {t : xm_W} {m : Nat → Nat → Int} {y : Int} : xm_Oi (xm_X (xm_old sc) xm_mt (d + 1) 203 [.inr (.inl (some 63)), .inl (y)] (yy_W (m) t)) F = F (if y = 0 then (if m 63 0 = 0 then 0 else 1) else if y = 1 then m 63 1 else if y = 2 then m 63 2 else if y = 3 then m 63 3 else m 63 4) (yy_W (m) t) := congrArg (fun x => xm_Oi x F) (c_203)
end
section
/-! REST: the act -/
def sg_an (a b c e x : Int) : Int := if x = 0 then (if sg_su a b c e = sg_mm a b c e then 1 else 0) else if sg_su a b c e = sg_mm a b c e then (if x < 3 then -1000000002 else if x = 3 then sg_su a b c e else 1) else if x = 1 then sg_lo (a - b) (sg_be a b c e) (a - b) else if x = 2 then sg_lo (a - b) (sg_be a b c e) (sg_be a b c e) else if x = 3 then sg_lo (sg_wo a b c e) (sg_be a b c e) (sg_wo a b c e) else sg_lo (sg_wo a b c e) (sg_be a b c e) (sg_be a b c e)
def sg_r4 (a b c e : Int) : Bool := decide (((-999 ≤ a ∧ a ≤ 999) ∧ (-999 ≤ b ∧ b ≤ 999)) ∧ ((-999 ≤ c ∧ c ≤ 999) ∧ (-999 ≤ e ∧ e ≤ 999)))
set_option maxRecDepth 20000 in
theorem l_125 {sc : List Int} {d : Nat} {t : xm_W} {m : Nat → Nat → Int} {Q : Option xm_V × xm_W → Prop} {sh : Nat} {x2 : Int} {nu : Nat → Int} (hsh : sh < 4) (hnu : m (67 + 2 * sh) = nu) (hG : (∀ j, j < 4 → sg_r9 (nu j)) → xm_EQ (xm_old sc) xm_sta (xm_X (xm_old sc) xm_mt (d + 1)) xm_c125 30 [some (.inr (.inl (some 0))), some (.inl ((sh : Int))), some (.inl (x2)), some (.inr (.inl (some (66 + 2 * sh)))), some (.inl ((4 : Int)))] [] (yy_W (m) t) Q) (hB : ∀ j, j < 4 → ¬ sg_r9 (nu j) → Q ((some (.inl (-1000000001)), (yy_W (yy_e m 1) t)))) : ∀ (k i : Nat), i + k = 4 → (∀ j, j < i → sg_r9 (nu j)) → xm_EQ (xm_old sc) xm_sta (xm_X (xm_old sc) xm_mt (d + 1)) xm_c125 30 [some (.inr (.inl (some 0))), some (.inl ((sh : Int))), some (.inl (x2)), some (.inr (.inl (some (66 + 2 * sh)))), some (.inl ((i : Int)))] [] (yy_W (m) t) Q
  | 0, i, hk, hj => by
    obtain rfl : i = 4 := by omega
    exact hG hj
  | k + 1, i, hk, hj => by
    have hs := yy_shn hsh
    refine xb_125_30 ?_
    rw [if_pos (by omega), xm_O_some, hr_2 hs, hi_1 hs, zy_at (by omega) (by omega), Int.toNat_natCast, show 66 + 2 * sh + 1 = 67 + 2 * sh by omega, hnu, oc_142 (d := d)]
    by_cases g : -999 ≤ nu i ∧ nu i ≤ 999
    · rw [zz_t g, xm_w_id (by omega) (by omega), show (i : Int) + 1 = ((i + 1 : Nat) : Int) from rfl]
      refine l_125 hsh hnu hG hB k (i + 1) (by omega) (fun j hj' => ?_)
      by_cases e : j = i
      · subst e; exact g
      · exact hj j (by omega)
    · rw [zz_f g, oc_139 (d := d) (by decide) (by decide)]
      exact hB i (by omega) g
set_option maxRecDepth 20000 in
theorem c_125g {sc : List Int} {d : Nat} {t : xm_W} {m : Nat → Nat → Int} {i : Nat} {x2 a b c e : Int} (hi4 : i < 4) (h2 : 0 ≤ x2 ∧ x2 ≤ 4) (hS : yy_SH m) (g : ¬ m 83 i = 0) (g4 : 4 ≤ m 84 i) (ha : m (67 + 2 * i) 0 = a) (hb : m (67 + 2 * i) 1 = b) (hc : m (67 + 2 * i) 2 = c) (he : m (67 + 2 * i) 3 = e) : ∃ m', xm_X (xm_old sc) xm_mt (d + 5) 125 [.inr (.inl (some 0)), .inl ((i : Int)), .inl (x2)] (yy_W m t) = some (some (.inl (if sg_r4 a b c e = true then sg_an a b c e x2 else -1000000001)), yy_W m' t) ∧ ∀ k, k ≠ 63 → k ≠ 65 → m' k = m k := by
  have key : ∀ {Q : Option xm_V × xm_W → Prop}, (∀ m', (∀ k, k ≠ 63 → k ≠ 65 → m' k = m k) → Q (some (.inl (if sg_r4 a b c e = true then sg_an a b c e x2 else -1000000001)), yy_W m' t)) → xm_EQ (xm_old sc) xm_sta (xm_X (xm_old sc) xm_mt (d + 4)) xm_m125.2.2.2.2.2.2.2 0 (xm_loc xm_m125.2.2.1 [.inr (.inl (some 0)), .inl ((i : Int)), .inl (x2)]) [] (yy_W m t) Q := by
    intro Q hQ
    obtain ⟨s1, s2, s3, s4, s5⟩ := hS i hi4
    have hs := yy_shn hi4
    have ei : ((i : Int)).toNat = i := Int.toNat_natCast i
    refine xb_125_0 ?_
    rw [oc_147 (d := d + 2), zz_t (by omega), oc_142 (d := d + 3), zz_t h2, zr_0_9, zq_64, zq_sh (by omega) (by omega), ei, oc_702 (d := d + 3) hs, zz_f (by rw [s1]; exact g), xm_O_some, hf_1 hs, s3, if_neg (by omega)]
    refine l_125 (d := d + 3) (nu := m (67 + 2 * i)) hi4 rfl (fun R => ?_) (fun j hj hb' => ?_) 4 0 rfl (fun j hj => absurd hj (by omega))
    · have ra : sg_r9 a := by rw [← ha]; exact R 0 (by decide)
      have rb : sg_r9 b := by rw [← hb]; exact R 1 (by decide)
      have rc : sg_r9 c := by rw [← hc]; exact R 2 (by decide)
      have re : sg_r9 e := by rw [← he]; exact R 3 (by decide)
      rw [if_pos (show sg_r4 a b c e = true from decide_eq_true ⟨⟨ra, rb⟩, ⟨rc, re⟩⟩)] at hQ
      have e67 : 66 + 2 * i + 1 = 67 + 2 * i := by omega
      obtain ⟨m1, x, f1, p1, p2⟩ := c_202 (sc := sc) (d := d + 2) (t := t) (m := m) (r := 66 + 2 * i) hs (by rw [e67]; exact ha) (by rw [e67]; exact hb) (by rw [e67]; exact hc) (by rw [e67]; exact he) ra rb rc re
      refine xb_125_30 ?_
      rw [if_neg (by decide), zr_0_8, xm_O_some, hr_2 hs, x, xm_Ov_some, zr_0_8, zf_63_0]
      unfold sg_an at hQ
      have F : ∀ k, k ≠ 63 → k ≠ 65 → m1 k = m k := fun k k1 _ => f1 k k1
      have E : ∀ k, k ≠ 63 → k ≠ 65 → yy_e m1 2 k = m k := fun k k1 k2 => by rw [yy_e75 k2]; exact f1 k k1
      by_cases gp : sg_su a b c e = sg_mm a b c e
      · obtain ⟨v0, v3, v4⟩ := p1 gp
        rw [if_pos gp, if_pos gp] at hQ
        rw [v0, if_neg (by decide)]
        by_cases y0 : x2 = 0
        · rw [if_pos y0] at hQ
          rw [if_neg (by omega), if_neg (by omega), zr_0_8, oc_203 (d := d + 3), if_pos y0, v0, if_neg (by decide)]
          exact hQ m1 F
        · rw [if_neg y0] at hQ
          by_cases y1 : x2 < 3
          · rw [if_pos y1] at hQ
            by_cases y2 : x2 = 1
            · rw [if_pos y2, oc_139 (d := d + 3) (by decide) (by decide)]
              exact hQ _ E
            · rw [if_neg y2, if_pos (by omega), oc_139 (d := d + 3) (by decide) (by decide)]
              exact hQ _ E
          · rw [if_neg y1] at hQ
            rw [if_neg (by omega), if_neg (by omega), zr_0_8, oc_203 (d := d + 3), if_neg y0, if_neg (by omega), if_neg (by omega)]
            by_cases y3 : x2 = 3
            · rw [if_pos y3] at hQ
              rw [if_pos y3, v3]
              exact hQ m1 F
            · rw [if_neg y3] at hQ
              rw [if_neg y3, v4]
              exact hQ m1 F
      · obtain ⟨v0, v1, v2, v3, v4⟩ := p2 gp
        rw [if_neg gp, if_neg gp] at hQ
        rw [v0, if_pos rfl, zr_0_8, oc_203 (d := d + 3)]
        by_cases y0 : x2 = 0
        · rw [if_pos y0] at hQ
          rw [if_pos y0, v0, if_pos rfl]
          exact hQ m1 F
        · rw [if_neg y0] at hQ
          rw [if_neg y0]
          by_cases y1 : x2 = 1
          · rw [if_pos y1] at hQ
            rw [if_pos y1, v1]
            exact hQ m1 F
          · rw [if_neg y1] at hQ
            rw [if_neg y1]
            by_cases y2 : x2 = 2
            · rw [if_pos y2] at hQ
              rw [if_pos y2, v2]
              exact hQ m1 F
            · rw [if_neg y2] at hQ
              rw [if_neg y2]
              by_cases y3 : x2 = 3
              · rw [if_pos y3] at hQ
                rw [if_pos y3, v3]
                exact hQ m1 F
              · rw [if_neg y3] at hQ
                rw [if_neg y3, v4]
                exact hQ m1 F
    · have nr : ¬ sg_r4 a b c e = true := by
        intro h
        obtain ⟨⟨ra, rb⟩, rc, re⟩ := of_decide_eq_true h
        apply hb'
        rcases (show j = 0 ∨ j = 1 ∨ j = 2 ∨ j = 3 by omega) with z | z | z | z <;> subst z
        · rw [ha]; exact ra
        · rw [hb]; exact rb
        · rw [hc]; exact rc
        · rw [he]; exact re
      rw [if_neg nr] at hQ
      exact hQ _ (fun k _ k2 => yy_e75 k2)
  obtain ⟨q, h1, m', h2, h3⟩ := yx_of (y := 125) (M := xm_m125) (sc := sc) (d := d + 4) (as := [.inr (.inl (some 0)), .inl ((i : Int)), .inl (x2)]) (w := yy_W m t) (Q := fun q => ∃ m', q = (some (.inl (if sg_r4 a b c e = true then sg_an a b c e x2 else -1000000001)), yy_W m' t) ∧ (∀ k, k ≠ 63 → k ≠ 65 → m' k = m k)) rfl (key fun m' h => ⟨m', rfl, h⟩) (fun q ⟨m', h, _⟩ => by rw [h]; rfl) rfl (Nat.le_of_ble_eq_true rfl) (yy_hd rfl (by decide))
  exact ⟨m', by rw [h1, h2], h3⟩
set_option maxRecDepth 20000 in
theorem c_1182 {sc : List Int} {d : Nat} {w : xm_W} {x y : Int} : xm_X (xm_old sc) xm_mt (d + 1) 1182 [.inl (x), .inl (y)] (w) = some (some (.inl (min x y)), (w)) := by
  refine xm_X_of (M := xm_m1182) rfl ⟨xm_EQ.eq (xb_1182_0 ?_), rfl, rfl, Nat.le_of_ble_eq_true rfl, xw_hd0⟩
  by_cases g : x < y
  · rw [if_pos g, show min x y = x by omega]
  · rw [if_neg g, show min x y = y by omega]
set_option maxRecDepth 20000 in
theorem oc_1182 {F : Int → xm_W → Prop} {sc : List Int} {d : Nat} {w : xm_W} {x y : Int} : xm_Oi (xm_X (xm_old sc) xm_mt (d + 1) 1182 [.inl (x), .inl (y)] (w)) F = F (min x y) (w) := congrArg (fun x => xm_Oi x F) (c_1182)
set_option maxRecDepth 20000 in
theorem c_1183 {sc : List Int} {d : Nat} {w : xm_W} {x y : Int} : xm_X (xm_old sc) xm_mt (d + 1) 1183 [.inl (x), .inl (y)] (w) = some (some (.inl (max x y)), (w)) := by
  refine xm_X_of (M := xm_m1183) rfl ⟨xm_EQ.eq (xb_1183_0 ?_), rfl, rfl, Nat.le_of_ble_eq_true rfl, xw_hd0⟩
  by_cases g : y < x
  · rw [if_pos g, show max x y = x by omega]
  · rw [if_neg g, show max x y = y by omega]
set_option maxRecDepth 20000 in
theorem oc_1183 {F : Int → xm_W → Prop} {sc : List Int} {d : Nat} {w : xm_W} {x y : Int} : xm_Oi (xm_X (xm_old sc) xm_mt (d + 1) 1183 [.inl (x), .inl (y)] (w)) F = F (max x y) (w) := congrArg (fun x => xm_Oi x F) (c_1183)
set_option maxRecDepth 20000 in
theorem c_1185g {sc : List Int} {d : Nat} {t : xm_W} {m : Nat → Nat → Int} {i : Nat} {x2 a b c e : Int} (hi4 : i < 4) (h2 : 0 ≤ x2 ∧ x2 ≤ 4) (g : ¬ m 83 i = 0) (g4 : 4 ≤ m 84 i) (ha : m 85 (24 * i) = a) (hb : m 85 (24 * i + 1) = b) (hc : m 85 (24 * i + 2) = c) (he : m 85 (24 * i + 3) = e) : ∃ m', xm_X (xm_old sc) xm_mt (d + 4) 1185 [.inr (.inl (some 74)), .inl ((i : Int)), .inl (x2)] (yy_W m t) = some (some (.inl (if sg_r4 a b c e = true then sg_an a b c e x2 else -1000000001)), yy_W m' t) ∧ ∀ k, k ≠ 78 → m' k = m k := by
  have key : ∀ {Q : Option xm_V × xm_W → Prop}, (∀ m', (∀ k, k ≠ 78 → m' k = m k) → Q (some (.inl (if sg_r4 a b c e = true then sg_an a b c e x2 else -1000000001)), yy_W m' t)) → xm_EQ (xm_old sc) xm_sta (xm_X (xm_old sc) xm_mt (d + 3)) xm_m1185.2.2.2.2.2.2.2 0 (xm_loc xm_m1185.2.2.1 [.inr (.inl (some 74)), .inl ((i : Int)), .inl (x2)]) [] (yy_W m t) Q := by
    intro Q hQ
    have E : ∀ q k, k ≠ 78 → yy_f m q k = m k := fun q k hk => yy_s_ne hk
    refine xb_1185_0 ?_
    rw [oc_1196 (d := d + 1), zz_t (by omega), oc_1103 (d := d + 2), zz_t h2, zr_74_18, zi_83, zy_at (by omega) (by omega), Int.toNat_natCast, if_neg g, zr_74_19, zi_84, zy_at (by omega) (by omega), Int.toNat_natCast, if_neg (by omega), zr_74_20, zi_85, xm_w_id (z := 24 * (i : Int)) (by omega) (by omega), zy_at (by omega) (by omega), show (24 * (i : Int)).toNat = 24 * i by omega, ha, zr_74_20, zi_85, xm_w_id (z := 24 * (i : Int) + 1) (by omega) (by omega), zy_at (by omega) (by omega), show (24 * (i : Int) + 1).toNat = 24 * i + 1 by omega, hb, zr_74_20, zi_85, xm_w_id (z := 24 * (i : Int) + 2) (by omega) (by omega), zy_at (by omega) (by omega), show (24 * (i : Int) + 2).toNat = 24 * i + 2 by omega, hc, zr_74_20, zi_85, xm_w_id (z := 24 * (i : Int) + 3) (by omega) (by omega), zy_at (by omega) (by omega), show (24 * (i : Int) + 3).toNat = 24 * i + 3 by omega, he, oc_1103 (d := d + 2)]
    by_cases ra : -999 ≤ a ∧ a ≤ 999
    · by_cases rb : -999 ≤ b ∧ b ≤ 999
      · by_cases rc : -999 ≤ c ∧ c ≤ 999
        · by_cases re : -999 ≤ e ∧ e ≤ 999
          · rw [if_pos (show sg_r4 a b c e = true from decide_eq_true ⟨⟨ra, rb⟩, ⟨rc, re⟩⟩)] at hQ
            have m1 := sg_mb ra re
            have m2 := sg_mb rb rc
            rw [zz_t ra, oc_1103 (d := d + 2), zz_t rb, oc_1103 (d := d + 2), zz_t rc, oc_1103 (d := d + 2), zz_t re, oc_1182 (d := d + 2), oc_1182 (d := d + 2), oc_1183 (d := d + 2), oc_1183 (d := d + 2), oc_1183 (d := d + 2), oc_1182 (d := d + 2)]
            have hx : sg_an a b c e x2 = sg_an a b c e x2 := rfl
            unfold sg_an at hQ
            by_cases gp : max (min a b) (min c e) = min (max a c) (max b e)
            · have gp' : sg_su a b c e = sg_mm a b c e := gp
              rw [if_pos gp', if_pos gp'] at hQ
              rw [if_pos gp]
              refine xb_1185_101 ?_
              by_cases y0 : x2 = 0
              · rw [if_pos y0] at hQ
                rw [if_pos y0, if_neg (by decide)]
                exact hQ m (fun _ _ => rfl)
              · rw [if_neg y0] at hQ
                rw [if_neg y0]
                by_cases y1 : x2 < 3
                · rw [if_pos y1] at hQ
                  rw [if_pos y1, if_neg (by decide), oc_1102 (d := d + 2) (by decide) (by decide)]
                  exact hQ _ (E _)
                · rw [if_neg y1] at hQ
                  rw [if_neg y1, if_neg (by decide)]
                  by_cases y3 : x2 = 3
                  · rw [if_pos y3] at hQ
                    rw [if_pos y3]
                    exact hQ m (fun _ _ => rfl)
                  · rw [if_neg y3] at hQ
                    rw [if_neg y3]
                    exact hQ m (fun _ _ => rfl)
            · have gp' : ¬ sg_su a b c e = sg_mm a b c e := gp
              have b0 := sg_be0 gp'
              have r1 : -4000 ≤ sg_be a b c e ∧ sg_be a b c e ≤ 4000 := by unfold sg_be; omega
              have r2 : -2000000 ≤ a - b ∧ a - b ≤ 2000000 := by omega
              have r3 : -2000000 ≤ sg_wo a b c e ∧ sg_wo a b c e ≤ 2000000 := by unfold sg_wo; omega
              rw [if_neg gp', if_neg gp'] at hQ
              rw [if_neg gp]
              refine xb_1185_101 ?_
              rw [xm_w_id (z := a - b) (by omega) (by omega), xm_w_id (z := a - b + e) (by omega) (by omega), xm_w_id (z := a - b + e - c) (by omega) (by omega), xm_w_id (z := a * e) (by omega) (by omega), xm_w_id (z := b * c) (by omega) (by omega), xm_w_id (z := a * e - b * c) (by omega) (by omega), show a - b + e - c = sg_be a b c e by unfold sg_be; omega, show a * e - b * c = sg_wo a b c e from rfl]
              by_cases y0 : x2 = 0
              · rw [if_pos y0] at hQ
                rw [if_pos y0, if_pos rfl]
                exact hQ m (fun _ _ => rfl)
              · rw [if_neg y0] at hQ
                rw [if_neg y0]
                by_cases y1 : x2 = 1
                · rw [if_pos y1] at hQ
                  rw [if_pos (by omega), if_pos rfl, if_pos rfl, if_pos (by omega), if_neg (by omega), oc_1184 (d := d + 1) r2 r1 b0, if_pos rfl]
                  exact hQ m (fun _ _ => rfl)
                · rw [if_neg y1] at hQ
                  by_cases y2 : x2 = 2
                  · rw [if_pos y2] at hQ
                    rw [if_pos (by omega), if_pos rfl, if_pos rfl, if_pos (by omega), if_pos y2, oc_1184 (d := d + 1) r2 r1 b0, if_neg (by decide)]
                    exact hQ m (fun _ _ => rfl)
                  · rw [if_neg y2] at hQ
                    rw [if_neg (by omega), if_pos rfl, if_neg (by omega)]
                    by_cases y3 : x2 = 3
                    · rw [if_pos y3] at hQ
                      rw [if_neg (by omega), oc_1184 (d := d + 1) r3 r1 b0, if_pos rfl]
                      exact hQ m (fun _ _ => rfl)
                    · rw [if_neg y3] at hQ
                      rw [if_pos (by omega), oc_1184 (d := d + 1) r3 r1 b0, if_neg (by decide)]
                      exact hQ m (fun _ _ => rfl)
          · rw [if_neg (show ¬ sg_r4 a b c e = true from fun h => re (of_decide_eq_true h).2.2)] at hQ
            rw [zz_t ra, oc_1103 (d := d + 2), zz_t rb, oc_1103 (d := d + 2), zz_t rc, oc_1103 (d := d + 2), zz_f re, oc_1102 (d := d + 2) (by decide) (by decide)]
            exact hQ _ (E _)
        · rw [if_neg (show ¬ sg_r4 a b c e = true from fun h => rc (of_decide_eq_true h).2.1)] at hQ
          rw [zz_t ra, oc_1103 (d := d + 2), zz_t rb, oc_1103 (d := d + 2), zz_f rc, oc_1102 (d := d + 2) (by decide) (by decide)]
          exact hQ _ (E _)
      · rw [if_neg (show ¬ sg_r4 a b c e = true from fun h => rb (of_decide_eq_true h).1.2)] at hQ
        rw [zz_t ra, oc_1103 (d := d + 2), zz_f rb, oc_1102 (d := d + 2) (by decide) (by decide)]
        exact hQ _ (E _)
    · rw [if_neg (show ¬ sg_r4 a b c e = true from fun h => ra (of_decide_eq_true h).1.1)] at hQ
      rw [zz_f ra, oc_1102 (d := d + 2) (by decide) (by decide)]
      exact hQ _ (E _)
  obtain ⟨q, h1, m', h2, h3⟩ := yx_of (y := 1185) (M := xm_m1185) (sc := sc) (d := d + 3) (as := [.inr (.inl (some 74)), .inl ((i : Int)), .inl (x2)]) (w := yy_W m t) (Q := fun q => ∃ m', q = (some (.inl (if sg_r4 a b c e = true then sg_an a b c e x2 else -1000000001)), yy_W m' t) ∧ (∀ k, k ≠ 78 → m' k = m k)) rfl (key fun m' h => ⟨m', rfl, h⟩) (fun q ⟨m', h, _⟩ => by rw [h]; rfl) rfl (Nat.le_of_ble_eq_true rfl) (yy_hd rfl (by decide))
  exact ⟨m', by rw [h1, h2], h3⟩
set_option maxRecDepth 20000 in
theorem a_125 {sc : List Int} {t : xm_W} {m : Nat → Nat → Int} {x1 x2 : Int} (hI : yy_I t m) : yy_A sc t m 125 1185 [.inl x1, .inl x2] true := by
  by_cases h : (0 ≤ x1 ∧ x1 ≤ 3) ∧ (0 ≤ x2 ∧ x2 ≤ 4)
  · obtain ⟨i, rfl⟩ : ∃ i : Nat, x1 = i := ⟨x1.toNat, by omega⟩
    have hi4 : i < 4 := by omega
    obtain ⟨s1, s2, s3, s4, s5⟩ := hI.2.2.2.2.1 i hi4
    have hs := yy_shn hi4
    have ei : ((i : Int)).toNat = i := Int.toNat_natCast i
    have f : ∀ c, c ≠ 65 → yy_e m 2 c = m c := fun c hc => yy_e75 hc
    by_cases g : m 83 i = 0
    · exact yy_Ao (g_125 (d := 96) h.1 h.2 (by rw [ei, s1]; exact g)) (g_1185 (d := 96) h.1 h.2 (by rw [ei, f 83 (by decide)]; exact g)) (yy_I_ef hI) yy_ef0 rfl
    · by_cases g4 : 4 ≤ m 84 i
      · obtain ⟨m1, X1, f1⟩ := c_125g (sc := sc) (d := 95) (t := t) (m := m) (i := i) (x2 := x2) hi4 h.2 hI.2.2.2.2.1 g g4 rfl rfl rfl rfl
        have v0 := (s5 0 (by decide)).1
        have v1 := (s5 1 (by decide)).1
        have v2 := (s5 2 (by decide)).1
        have v3 := (s5 3 (by decide)).1
        have e85 : m1 85 = m 85 := f1 85 (by decide) (by decide)
        obtain ⟨m2, X2, f2⟩ := c_1185g (sc := sc) (d := 96) (t := t) (m := m1) (i := i) (x2 := x2) (a := m (67 + 2 * i) 0) (b := m (67 + 2 * i) 1) (c := m (67 + 2 * i) 2) (e := m (67 + 2 * i) 3) hi4 h.2 (by rw [f1 83 (by decide) (by decide)]; exact g) (by rw [f1 84 (by decide) (by decide)]; exact g4) (by rw [e85, v0]; rfl) (by rw [e85, v1]) (by rw [e85, v2]) (by rw [e85, v3])
        refine yy_Ao X1 X2 (yy_I_n (fun c hc => ?_) hI) ?_ rfl
        · unfold yy_no at hc
          rw [f2 c (by omega), f1 c (by omega) (by omega)]
        · rw [f2 0 (by decide), f1 0 (by decide) (by decide)]
      · have X1 : xm_X (xm_old sc) xm_mt (99 + 1) 125 [.inr (.inl (some 0)), .inl (i : Int), .inl x2] (yy_W m t) = some (some (.inl (-1000000002)), yy_W (yy_e m 2) t) := by
          refine xm_X_of (M := xm_m125) rfl ⟨xm_EQ.eq (xb_125_0 ?_), rfl, rfl, Nat.le_of_ble_eq_true rfl, yy_hd rfl (by decide)⟩
          rw [oc_147 (d := 97), zz_t h.1, oc_142 (d := 98), zz_t h.2, zr_0_9, zq_64, zq_sh (by omega) (by omega), ei, oc_702 (d := 98) hs, zz_f (by rw [s1]; exact g), xm_O_some, hf_1 hs, s3, if_pos (by omega), oc_139 (d := 98) (by decide) (by decide)]
          rfl
        have X2 : xm_X (xm_old sc) xm_mt (99 + 1) 1185 [.inr (.inl (some 74)), .inl (i : Int), .inl x2] (yy_W (yy_e m 2) t) = some (some (.inl (-1000000002)), yy_W (yy_f (yy_e m 2) 2) t) := by
          refine xm_X_of (M := xm_m1185) rfl ⟨xm_EQ.eq (xb_1185_0 ?_), rfl, rfl, Nat.le_of_ble_eq_true rfl, yy_hd rfl (by decide)⟩
          rw [oc_1196 (d := 97), zz_t h.1, oc_1103 (d := 98), zz_t h.2, zr_74_18, zi_83, zy_at (by omega) (by omega), ei, f 83 (by decide), if_neg g, zr_74_19, zi_84, zy_at (by omega) (by omega), ei, f 84 (by decide), if_pos (by omega), oc_1102 (d := 98) (by decide) (by decide)]
          rfl
        exact yy_Ao X1 X2 (yy_I_ef hI) yy_ef0 rfl
  · exact r_125 hI h
end
section
/-! VOICES: tables and bodies of the class -/
set_option maxRecDepth 20000 in
theorem zz_sb {sc : List Int} {t : xm_W} {m : Nat → Nat → Int} {F : List Int → Prop} (ht : t.length < 900000) : xm_O (xm_ints (xm_old sc) (yy_W m t) 1000001) F = F xm_st1 := by
  rw [xo_bodies (by rw [yy_W_len]; omega)]; rfl
set_option maxRecDepth 20000 in
theorem l_805h {sc : List Int} {d : Nat} {t : xm_W} {m : Nat → Nat → Int} {Q : Option xm_V × xm_W → Prop} {x0 v a b i : Int} (ht : t.length < 900000) (ha : 0 ≤ a ∧ a ≤ 6) (hv : 0 ≤ v ∧ v ≤ 3) (hi : i < 7) (hb : xm_at xm_st1 (a * 4 + v) = some b) (h0 : b ≠ 0) (hQ : Q ((some (.inl (a)), (yy_W (m) t)))) : xm_EQ (xm_old sc) xm_sta (xm_X (xm_old sc) xm_mt (d)) xm_c805 4 [some (.inl (x0)), some (.inl (v)), some (.inl (a)), some (.inl (i))] [] (yy_W (m) t) Q := by
  refine xb_805_4 ?_
  rw [if_pos hi, if_neg (by omega), zz_sb ht, xm_w2 (by omega) (by omega) (by omega) (by omega), hb, xm_O_some, if_neg h0]
  exact hQ
set_option maxRecDepth 20000 in
theorem l_805u {sc : List Int} {d : Nat} {t : xm_W} {m : Nat → Nat → Int} {Q : Option xm_V × xm_W → Prop} {x0 v a p i : Int} (ht : t.length < 900000) (ha : 0 ≤ a ∧ a ≤ 6) (hv : 0 ≤ v ∧ v ≤ 3) (hi : 0 ≤ i ∧ i < 7) (hb : xm_at xm_st1 (a * 4 + v) = some 0) (hp : xm_at xm_st0 a = some p) (hQ : xm_EQ (xm_old sc) xm_sta (xm_X (xm_old sc) xm_mt (d)) xm_c805 4 [some (.inl (x0)), some (.inl (v)), some (.inl (p)), some (.inl (i + 1))] [] (yy_W (m) t) Q) : xm_EQ (xm_old sc) xm_sta (xm_X (xm_old sc) xm_mt (d)) xm_c805 4 [some (.inl (x0)), some (.inl (v)), some (.inl (a)), some (.inl (i))] [] (yy_W (m) t) Q := by
  refine xb_805_4 ?_
  rw [if_pos hi.2, if_neg (by omega), zz_sb ht, xm_w2 (by omega) (by omega) (by omega) (by omega), hb, xm_O_some, if_pos rfl, zz_st ht, hp, xm_O_some, xm_w_id (by omega) (by omega)]
  exact hQ
def sp_ho (a v : Int) : Int := if v = 0 then (if a = 1 ∨ a = 4 ∨ a = 6 then a else 0) else if v = 1 then (if a = 2 ∨ a = 5 ∨ a = 6 then a else 0) else if v = 2 then (if a = 3 ∨ a = 4 then a else 0) else (if a = 1 ∨ a = 4 then 1 else 0)
set_option maxRecDepth 20000 in
theorem c_805 {sc : List Int} {d : Nat} {t : xm_W} {m : Nat → Nat → Int} {a v : Int} (ht : t.length < 900000) (ha : 0 ≤ a ∧ a ≤ 6) (hv : 0 ≤ v ∧ v ≤ 3) : xm_X (xm_old sc) xm_mt (d + 1) 805 [.inl (a), .inl (v)] (yy_W (m) t) = some (some (.inl (sp_ho a v)), (yy_W (m) t)) := by
  refine xm_X_of (M := xm_m805) rfl ⟨xm_EQ.eq (xb_805_0 ?_), rfl, rfl, Nat.le_of_ble_eq_true rfl, xw_hd0⟩
  rcases (show a = 0 ∨ a = 1 ∨ a = 2 ∨ a = 3 ∨ a = 4 ∨ a = 5 ∨ a = 6 by omega) with z | z | z | z | z | z | z <;> subst z
  · rcases (show v = 0 ∨ v = 1 ∨ v = 2 ∨ v = 3 by omega) with z | z | z | z <;> subst z
    · exact l_805h (a := 0) (v := 0) (i := 0) (b := 10) ht (by decide) (by decide) (by decide) rfl (by decide) rfl
    · exact l_805h (a := 0) (v := 1) (i := 0) (b := 11) ht (by decide) (by decide) (by decide) rfl (by decide) rfl
    · exact l_805h (a := 0) (v := 2) (i := 0) (b := 12) ht (by decide) (by decide) (by decide) rfl (by decide) rfl
    · exact l_805h (a := 0) (v := 3) (i := 0) (b := 13) ht (by decide) (by decide) (by decide) rfl (by decide) rfl
  · rcases (show v = 0 ∨ v = 1 ∨ v = 2 ∨ v = 3 by omega) with z | z | z | z <;> subst z
    · exact l_805h (a := 1) (v := 0) (i := 0) (b := 20) ht (by decide) (by decide) (by decide) rfl (by decide) rfl
    · refine l_805u (a := 1) (v := 1) (i := 0) ht (by decide) (by decide) (by decide) rfl rfl ?_
      exact l_805h (a := 0) (v := 1) (i := 1) (b := 11) ht (by decide) (by decide) (by decide) rfl (by decide) rfl
    · refine l_805u (a := 1) (v := 2) (i := 0) ht (by decide) (by decide) (by decide) rfl rfl ?_
      exact l_805h (a := 0) (v := 2) (i := 1) (b := 12) ht (by decide) (by decide) (by decide) rfl (by decide) rfl
    · exact l_805h (a := 1) (v := 3) (i := 0) (b := 21) ht (by decide) (by decide) (by decide) rfl (by decide) rfl
  · rcases (show v = 0 ∨ v = 1 ∨ v = 2 ∨ v = 3 by omega) with z | z | z | z <;> subst z
    · refine l_805u (a := 2) (v := 0) (i := 0) ht (by decide) (by decide) (by decide) rfl rfl ?_
      exact l_805h (a := 0) (v := 0) (i := 1) (b := 10) ht (by decide) (by decide) (by decide) rfl (by decide) rfl
    · exact l_805h (a := 2) (v := 1) (i := 0) (b := 30) ht (by decide) (by decide) (by decide) rfl (by decide) rfl
    · refine l_805u (a := 2) (v := 2) (i := 0) ht (by decide) (by decide) (by decide) rfl rfl ?_
      exact l_805h (a := 0) (v := 2) (i := 1) (b := 12) ht (by decide) (by decide) (by decide) rfl (by decide) rfl
    · refine l_805u (a := 2) (v := 3) (i := 0) ht (by decide) (by decide) (by decide) rfl rfl ?_
      exact l_805h (a := 0) (v := 3) (i := 1) (b := 13) ht (by decide) (by decide) (by decide) rfl (by decide) rfl
  · rcases (show v = 0 ∨ v = 1 ∨ v = 2 ∨ v = 3 by omega) with z | z | z | z <;> subst z
    · refine l_805u (a := 3) (v := 0) (i := 0) ht (by decide) (by decide) (by decide) rfl rfl ?_
      exact l_805h (a := 0) (v := 0) (i := 1) (b := 10) ht (by decide) (by decide) (by decide) rfl (by decide) rfl
    · refine l_805u (a := 3) (v := 1) (i := 0) ht (by decide) (by decide) (by decide) rfl rfl ?_
      exact l_805h (a := 0) (v := 1) (i := 1) (b := 11) ht (by decide) (by decide) (by decide) rfl (by decide) rfl
    · exact l_805h (a := 3) (v := 2) (i := 0) (b := 40) ht (by decide) (by decide) (by decide) rfl (by decide) rfl
    · refine l_805u (a := 3) (v := 3) (i := 0) ht (by decide) (by decide) (by decide) rfl rfl ?_
      exact l_805h (a := 0) (v := 3) (i := 1) (b := 13) ht (by decide) (by decide) (by decide) rfl (by decide) rfl
  · rcases (show v = 0 ∨ v = 1 ∨ v = 2 ∨ v = 3 by omega) with z | z | z | z <;> subst z
    · exact l_805h (a := 4) (v := 0) (i := 0) (b := 50) ht (by decide) (by decide) (by decide) rfl (by decide) rfl
    · refine l_805u (a := 4) (v := 1) (i := 0) ht (by decide) (by decide) (by decide) rfl rfl ?_
      refine l_805u (a := 1) (v := 1) (i := 1) ht (by decide) (by decide) (by decide) rfl rfl ?_
      exact l_805h (a := 0) (v := 1) (i := 2) (b := 11) ht (by decide) (by decide) (by decide) rfl (by decide) rfl
    · exact l_805h (a := 4) (v := 2) (i := 0) (b := 51) ht (by decide) (by decide) (by decide) rfl (by decide) rfl
    · refine l_805u (a := 4) (v := 3) (i := 0) ht (by decide) (by decide) (by decide) rfl rfl ?_
      exact l_805h (a := 1) (v := 3) (i := 1) (b := 21) ht (by decide) (by decide) (by decide) rfl (by decide) rfl
  · rcases (show v = 0 ∨ v = 1 ∨ v = 2 ∨ v = 3 by omega) with z | z | z | z <;> subst z
    · refine l_805u (a := 5) (v := 0) (i := 0) ht (by decide) (by decide) (by decide) rfl rfl ?_
      refine l_805u (a := 2) (v := 0) (i := 1) ht (by decide) (by decide) (by decide) rfl rfl ?_
      exact l_805h (a := 0) (v := 0) (i := 2) (b := 10) ht (by decide) (by decide) (by decide) rfl (by decide) rfl
    · exact l_805h (a := 5) (v := 1) (i := 0) (b := 60) ht (by decide) (by decide) (by decide) rfl (by decide) rfl
    · refine l_805u (a := 5) (v := 2) (i := 0) ht (by decide) (by decide) (by decide) rfl rfl ?_
      refine l_805u (a := 2) (v := 2) (i := 1) ht (by decide) (by decide) (by decide) rfl rfl ?_
      exact l_805h (a := 0) (v := 2) (i := 2) (b := 12) ht (by decide) (by decide) (by decide) rfl (by decide) rfl
    · refine l_805u (a := 5) (v := 3) (i := 0) ht (by decide) (by decide) (by decide) rfl rfl ?_
      refine l_805u (a := 2) (v := 3) (i := 1) ht (by decide) (by decide) (by decide) rfl rfl ?_
      exact l_805h (a := 0) (v := 3) (i := 2) (b := 13) ht (by decide) (by decide) (by decide) rfl (by decide) rfl
  · rcases (show v = 0 ∨ v = 1 ∨ v = 2 ∨ v = 3 by omega) with z | z | z | z <;> subst z
    · exact l_805h (a := 6) (v := 0) (i := 0) (b := 70) ht (by decide) (by decide) (by decide) rfl (by decide) rfl
    · exact l_805h (a := 6) (v := 1) (i := 0) (b := 71) ht (by decide) (by decide) (by decide) rfl (by decide) rfl
    · refine l_805u (a := 6) (v := 2) (i := 0) ht (by decide) (by decide) (by decide) rfl rfl ?_
      exact l_805h (a := 0) (v := 2) (i := 1) (b := 12) ht (by decide) (by decide) (by decide) rfl (by decide) rfl
    · refine l_805u (a := 6) (v := 3) (i := 0) ht (by decide) (by decide) (by decide) rfl rfl ?_
      exact l_805h (a := 0) (v := 3) (i := 1) (b := 13) ht (by decide) (by decide) (by decide) rfl (by decide) rfl
set_option maxRecDepth 20000 in
theorem oc_805 {F : Int → xm_W → Prop} {sc : List Int} {d : Nat} {t : xm_W} {m : Nat → Nat → Int} {a v : Int} (ht : t.length < 900000) (ha : 0 ≤ a ∧ a ≤ 6) (hv : 0 ≤ v ∧ v ≤ 3) : xm_Oi (xm_X (xm_old sc) xm_mt (d + 1) 805 [.inl (a), .inl (v)] (yy_W (m) t)) F = F (sp_ho a v) (yy_W (m) t) := congrArg (fun x => xm_Oi x F) (c_805 ht ha hv)
def yy_VF (m m' : Nat → Nat → Int) : Prop := (∀ c, c ≠ 61 → c ≠ 62 → m' c = m c) ∧ (∀ q, q ≠ 1 → m' 61 q = m 61 q) ∧ (0 ≤ m' 61 1 ∧ m' 61 1 ≤ 30)
set_option maxRecDepth 20000 in
theorem yy_VF_tr {m m' m'' : Nat → Nat → Int} (h : yy_VF m m') (h' : yy_VF m' m'') : yy_VF m m'' := ⟨fun c a b => by rw [h'.1 c a b, h.1 c a b], fun q a => by rw [h'.2.1 q a, h.2.1 q a], h'.2.2⟩
set_option maxRecDepth 20000 in
theorem c_806 {sc : List Int} {d : Nat} {t : xm_W} {m : Nat → Nat → Int} {b : Int} (h : 0 ≤ m 61 1 ∧ m 61 1 ≤ 30) : ∃ m', xm_X (xm_old sc) xm_mt (d + 1) 806 [.inr (.inl (some 61)), .inl (b)] (yy_W m t) = some (none, yy_W m' t) ∧ yy_VF m m' := by
  have key : ∀ {Q : Option xm_V × xm_W → Prop}, (∀ m', (yy_VF m m') → Q (none, yy_W m' t)) → xm_EQ (xm_old sc) xm_sta (xm_X (xm_old sc) xm_mt (d)) xm_m806.2.2.2.2.2.2.2 0 (xm_loc xm_m806.2.2.1 [.inr (.inl (some 61)), .inl (b)]) [] (yy_W m t) Q := by
    intro Q hQ
    refine xb_806_0 ?_
    rw [zf_61_1]
    by_cases g : m 61 1 < 30
    · rw [if_pos g, zr_61_0, zf_61_1, zt_62 (by omega) (by omega), zf_61_1, yy_s_ne (by decide), zs_61_1, xm_w_id (by omega) (by omega)]
      exact hQ _ ⟨fun c a b => by rw [yy_s_ne a, yy_s_ne b], fun q a => by rw [yy_s_eq, yy_u_ne a, yy_s_ne (by decide)], by rw [yy_s_eq, yy_u_eq]; omega⟩
    · rw [if_neg g]
      exact hQ m ⟨fun _ _ _ => rfl, fun _ _ => rfl, h⟩
  obtain ⟨q, h1, m', h2, h3⟩ := yx_of (y := 806) (M := xm_m806) (sc := sc) (d := d) (as := [.inr (.inl (some 61)), .inl (b)]) (w := yy_W m t) (Q := fun q => ∃ m', q = (none, yy_W m' t) ∧ (yy_VF m m')) rfl (key fun m' h => ⟨m', rfl, h⟩) (fun q ⟨m', h, _⟩ => by rw [h]; rfl) rfl (Nat.le_of_ble_eq_true rfl) (yy_hd rfl (by decide))
  exact ⟨m', by rw [h1, h2], h3⟩
set_option maxRecDepth 20000 in
theorem c_803 {sc : List Int} {d : Nat} {t : xm_W} {m : Nat → Nat → Int} {fr v x dp h b p z : Int} (ht : t.length < 900000) (hf : 0 ≤ fr ∧ fr ≤ 6) (hv : 0 ≤ v ∧ v ≤ 3) (hd : 0 ≤ dp ∧ dp ≤ 40) (ho : sp_ho fr v = h) (h0 : 0 ≤ h ∧ h ≤ 6) (hb : xm_at xm_st1 (h * 4 + v) = some b) (hp : xm_at xm_st0 h = some p) (h61 : 0 ≤ m 61 1 ∧ m 61 1 ≤ 30) (hw : ∀ m1, yy_VF m m1 → ∃ m2, xm_X (xm_old sc) xm_mt (d + 1) 804 [.inr (.inl (some 61)), .inl (b), .inl (p), .inl (x), .inl (dp + 1)] (yy_W (m1) t) = some (some (.inl (z)), (yy_W (m2) t)) ∧ yy_VF m1 m2) : ∃ m', xm_X (xm_old sc) xm_mt (d + 2) 803 [.inr (.inl (some 61)), .inl (fr), .inl (v), .inl (x), .inl (dp)] (yy_W m t) = some (some (.inl (z)), yy_W m' t) ∧ yy_VF m m' := by
  have key : ∀ {Q : Option xm_V × xm_W → Prop}, (∀ m', (yy_VF m m') → Q (some (.inl (z)), yy_W m' t)) → xm_EQ (xm_old sc) xm_sta (xm_X (xm_old sc) xm_mt (d + 1)) xm_m803.2.2.2.2.2.2.2 0 (xm_loc xm_m803.2.2.1 [.inr (.inl (some 61)), .inl (fr), .inl (v), .inl (x), .inl (dp)]) [] (yy_W m t) Q := by
    intro Q hQ
    refine xb_803_0 ?_
    rw [oc_805 (d := d) ht hf hv, ho, if_neg (by omega), if_neg (by omega), zz_sb ht, xm_w2 (by omega) (by omega) (by omega) (by omega), hb, xm_O_some]
    obtain ⟨m1, e, f1⟩ := c_806 (sc := sc) (d := d) (t := t) (m := m) (b := b) h61
    obtain ⟨m2, e2, f2⟩ := hw m1 f1
    rw [e, xm_Ov_some, zz_st ht, hp, xm_O_some, xm_w_id (by omega) (by omega), e2, xm_Oi_some]
    exact hQ m2 (yy_VF_tr f1 f2)
  obtain ⟨q, h1, m', h2, h3⟩ := yx_of (y := 803) (M := xm_m803) (sc := sc) (d := d + 1) (as := [.inr (.inl (some 61)), .inl (fr), .inl (v), .inl (x), .inl (dp)]) (w := yy_W m t) (Q := fun q => ∃ m', q = (some (.inl (z)), yy_W m' t) ∧ (yy_VF m m')) rfl (key fun m' h => ⟨m', rfl, h⟩) (fun q ⟨m', h, _⟩ => by rw [h]; rfl) rfl (Nat.le_of_ble_eq_true rfl) (yy_hd rfl (by decide))
  exact ⟨m', by rw [h1, h2], h3⟩
end
section
/-! VOICES: what the class's bodies give -/
set_option maxRecDepth 20000 in
theorem yy_VF_rf {m : Nat → Nat → Int} (h : 0 ≤ m 61 1 ∧ m 61 1 ≤ 30) : yy_VF m m := ⟨fun _ _ _ => rfl, fun _ _ => rfl, h⟩
def yy_say (sc : List Int) (t : xm_W) (n : Nat) (B K M k fr v x z : Int) : Prop := ∀ (d : Nat) (m : Nat → Nat → Int) (dp : Int), m 61 2 = K → m 61 3 = M → m 61 4 = k → 0 ≤ dp ∧ dp ≤ B → (0 ≤ m 61 1 ∧ m 61 1 ≤ 30) → ∃ m', xm_X (xm_old sc) xm_mt (d + n) 803 [.inr (.inl (some 61)), .inl (fr), .inl (v), .inl (x), .inl (dp)] (yy_W (m) t) = some (some (.inl (z)), (yy_W (m') t)) ∧ yy_VF m m'
def yy_bo (sc : List Int) (t : xm_W) (n : Nat) (B K M k b p x z : Int) : Prop := ∀ (d : Nat) (m : Nat → Nat → Int) (dp : Int), m 61 2 = K → m 61 3 = M → m 61 4 = k → 0 ≤ dp ∧ dp ≤ B → (0 ≤ m 61 1 ∧ m 61 1 ≤ 30) → ∃ m', xm_X (xm_old sc) xm_mt (d + n) 804 [.inr (.inl (some 61)), .inl (b), .inl (p), .inl (x), .inl (dp)] (yy_W (m) t) = some (some (.inl (z)), (yy_W (m') t)) ∧ yy_VF m m'
set_option maxRecDepth 20000 in
theorem yy_say_up {sc : List Int} {t : xm_W} {n n' : Nat} {B B' K M k fr v x z : Int} (hn : n ≤ n') (hB : B' ≤ B) (h : yy_say sc t n B K M k fr v x z) : yy_say sc t n' B' K M k fr v x z := fun d m dp a b c e f => by
  obtain ⟨j, rfl⟩ : ∃ j, n' = n + j := ⟨n' - n, by omega⟩
  have := h (d + j) m dp a b c (by omega) f
  rw [show d + (n + j) = d + j + n by omega]
  exact this
set_option maxRecDepth 20000 in
theorem yy_say_bo {sc : List Int} {t : xm_W} {n : Nat} {B K M k fr v x z h b p : Int} (ht : t.length < 900000) (hf : 0 ≤ fr ∧ fr ≤ 6) (hv : 0 ≤ v ∧ v ≤ 3) (ho : sp_ho fr v = h) (h0 : 0 ≤ h ∧ h ≤ 6) (hb : xm_at xm_st1 (h * 4 + v) = some b) (hp : xm_at xm_st0 h = some p) (hB : B ≤ 40) (w : yy_bo sc t (n + 1) B K M k b p x z) : yy_say sc t (n + 2) (B - 1) K M k fr v x z := fun d m dp a1 a2 a3 e f => by
  obtain ⟨m', x', g⟩ := c_803 (sc := sc) (d := d + n) (t := t) (m := m) (x := x) (dp := dp) (z := z) ht hf hv (by omega) ho h0 hb hp f (fun m1 f1 => w d m1 (dp + 1) (by rw [f1.2.1 2 (by decide)]; exact a1) (by rw [f1.2.1 3 (by decide)]; exact a2) (by rw [f1.2.1 4 (by decide)]; exact a3) (by omega) f1.2.2)
  exact ⟨m', x', g⟩
set_option maxRecDepth 20000 in
theorem yy_bo10 {sc : List Int} {t : xm_W} {B K M k p x : Int} : yy_bo sc t 1 B K M k 10 p x (xm_w (x + k)) := fun d m dp a1 a2 a3 e f => by
  refine ⟨m, ?_, yy_VF_rf f⟩
  refine xm_X_of (M := xm_m804) rfl ⟨xm_EQ.eq (xb_804_0 ?_), rfl, rfl, Nat.le_of_ble_eq_true rfl, yy_hd rfl (by decide)⟩
  rw [if_pos rfl, zf_61_4, a3]
set_option maxRecDepth 20000 in
theorem yy_bo11 {sc : List Int} {t : xm_W} {n : Nat} {B K M k p x z : Int} (h : yy_say sc t n B K M k K 0 x z) : yy_bo sc t (n + 1) B K M k 11 p x (xm_w (z * 2)) := fun d m dp a1 a2 a3 e f => by
  obtain ⟨m', x', g⟩ := h d m dp a1 a2 a3 e f
  refine ⟨m', ?_, g⟩
  show xm_X (xm_old sc) xm_mt (d + n + 1) 804 [.inr (.inl (some 61)), .inl (11), .inl (p), .inl (x), .inl (dp)] (yy_W (m) t) = _
  refine xm_X_of (M := xm_m804) rfl ⟨xm_EQ.eq (xb_804_0 ?_), rfl, rfl, Nat.le_of_ble_eq_true rfl, yy_hd rfl (by decide)⟩
  rw [if_neg (by decide), if_pos rfl, zf_61_2, a1, x', xm_Oi_some]
set_option maxRecDepth 20000 in
theorem yy_bo12 {sc : List Int} {t : xm_W} {n : Nat} {B K M k p x z : Int} (h : yy_say sc t n B K M k K 1 x z) : yy_bo sc t (n + 1) B K M k 12 p x (xm_w (z - M)) := fun d m dp a1 a2 a3 e f => by
  obtain ⟨m', x', g⟩ := h d m dp a1 a2 a3 e f
  refine ⟨m', ?_, g⟩
  show xm_X (xm_old sc) xm_mt (d + n + 1) 804 [.inr (.inl (some 61)), .inl (12), .inl (p), .inl (x), .inl (dp)] (yy_W (m) t) = _
  refine xm_X_of (M := xm_m804) rfl ⟨xm_EQ.eq (xb_804_0 ?_), rfl, rfl, Nat.le_of_ble_eq_true rfl, yy_hd rfl (by decide)⟩
  rw [if_neg (by decide), if_neg (by decide), if_pos rfl, zf_61_2, a1, x', xm_Oi_some, zf_61_3, g.2.1 3 (by decide), a2]
set_option maxRecDepth 20000 in
theorem yy_bo13 {sc : List Int} {t : xm_W} {B K M k p x : Int} (hM : 0 ≤ M ∧ M ≤ 9) (hk : 0 ≤ k ∧ k ≤ 4) (hne : ¬ M = k) : yy_bo sc t 1 B K M k 13 p x (xm_w (x.tdiv (M - k))) := fun d m dp a1 a2 a3 e f => by
  refine ⟨m, ?_, yy_VF_rf f⟩
  refine xm_X_of (M := xm_m804) rfl ⟨xm_EQ.eq (xb_804_0 ?_), rfl, rfl, Nat.le_of_ble_eq_true rfl, yy_hd rfl (by decide)⟩
  rw [if_neg (by decide), if_neg (by decide), if_neg (by decide), if_pos rfl, zf_61_3, zf_61_4, a2, a3, if_neg hne, zf_61_3, zf_61_4, a2, a3, xm_w_id (z := M - k) (by omega) (by omega)]
  exact ⟨by omega, rfl⟩
set_option maxRecDepth 20000 in
theorem yy_bo20 {sc : List Int} {t : xm_W} {n : Nat} {B K M k p x z : Int} (h : yy_say sc t n B K M k p 0 x z) : yy_bo sc t (n + 1) B K M k 20 p x (xm_w (z - 7)) := fun d m dp a1 a2 a3 e f => by
  obtain ⟨m', x', g⟩ := h d m dp a1 a2 a3 e f
  refine ⟨m', ?_, g⟩
  show xm_X (xm_old sc) xm_mt (d + n + 1) 804 [.inr (.inl (some 61)), .inl (20), .inl (p), .inl (x), .inl (dp)] (yy_W (m) t) = _
  refine xm_X_of (M := xm_m804) rfl ⟨xm_EQ.eq (xb_804_0 ?_), rfl, rfl, Nat.le_of_ble_eq_true rfl, yy_hd rfl (by decide)⟩
  rw [if_neg (by decide), if_neg (by decide), if_neg (by decide), if_neg (by decide), if_pos rfl, x', xm_Oi_some]
set_option maxRecDepth 20000 in
theorem yy_bo21 {sc : List Int} {t : xm_W} {n : Nat} {B K M k p x z z2 : Int} (h : yy_say sc t n B K M k p 3 x z) (h2 : yy_say sc t n B K M k K 1 1 z2) : yy_bo sc t (n + 1) B K M k 21 p x (xm_w (z + z2)) := fun d m dp a1 a2 a3 e f => by
  obtain ⟨m', x', g⟩ := h d m dp a1 a2 a3 e f
  obtain ⟨m2, x2, g2⟩ := h2 d m' dp (by rw [g.2.1 2 (by decide)]; exact a1) (by rw [g.2.1 3 (by decide)]; exact a2) (by rw [g.2.1 4 (by decide)]; exact a3) e g.2.2
  refine ⟨m2, ?_, yy_VF_tr g g2⟩
  show xm_X (xm_old sc) xm_mt (d + n + 1) 804 [.inr (.inl (some 61)), .inl (21), .inl (p), .inl (x), .inl (dp)] (yy_W (m) t) = _
  refine xm_X_of (M := xm_m804) rfl ⟨xm_EQ.eq (xb_804_0 ?_), rfl, rfl, Nat.le_of_ble_eq_true rfl, yy_hd rfl (by decide)⟩
  rw [if_neg (by decide), if_neg (by decide), if_neg (by decide), if_neg (by decide), if_neg (by decide), if_pos rfl, x', xm_Oi_some, zf_61_2, g.2.1 2 (by decide), a1, x2, xm_Oi_some]
set_option maxRecDepth 20000 in
theorem yy_bo30 {sc : List Int} {t : xm_W} {n : Nat} {B K M k p x z : Int} (h : yy_say sc t n B K M k p 1 x z) : yy_bo sc t (n + 1) B K M k 30 p x (xm_w (0 - z)) := fun d m dp a1 a2 a3 e f => by
  obtain ⟨m', x', g⟩ := h d m dp a1 a2 a3 e f
  refine ⟨m', ?_, g⟩
  show xm_X (xm_old sc) xm_mt (d + n + 1) 804 [.inr (.inl (some 61)), .inl (30), .inl (p), .inl (x), .inl (dp)] (yy_W (m) t) = _
  refine xm_X_of (M := xm_m804) rfl ⟨xm_EQ.eq (xb_804_0 ?_), rfl, rfl, Nat.le_of_ble_eq_true rfl, yy_hd rfl (by decide)⟩
  rw [if_neg (by decide), if_neg (by decide), if_neg (by decide), if_neg (by decide), if_neg (by decide), if_neg (by decide), if_pos rfl, x', xm_Oi_some]
set_option maxRecDepth 20000 in
theorem yy_bo40 {sc : List Int} {t : xm_W} {n : Nat} {B K M k p x z : Int} (h : yy_say sc t n B K M k p 2 (xm_w (x.tdiv 2)) z) : yy_bo sc t (n + 1) B K M k 40 p x (z) := fun d m dp a1 a2 a3 e f => by
  obtain ⟨m', x', g⟩ := h d m dp a1 a2 a3 e f
  refine ⟨m', ?_, g⟩
  show xm_X (xm_old sc) xm_mt (d + n + 1) 804 [.inr (.inl (some 61)), .inl (40), .inl (p), .inl (x), .inl (dp)] (yy_W (m) t) = _
  refine xm_X_of (M := xm_m804) rfl ⟨xm_EQ.eq (xb_804_0 ?_), rfl, rfl, Nat.le_of_ble_eq_true rfl, yy_hd rfl (by decide)⟩
  rw [if_neg (by decide), if_neg (by decide), if_neg (by decide), if_neg (by decide), if_neg (by decide), if_neg (by decide), if_neg (by decide), if_pos rfl]
  refine ⟨by decide, ?_⟩
  rw [x', xm_Oi_some]
set_option maxRecDepth 20000 in
theorem yy_bo50 {sc : List Int} {t : xm_W} {n : Nat} {B K M k p x z : Int} (h : yy_say sc t n B K M k p 0 x z) : yy_bo sc t (n + 1) B K M k 50 p x (xm_w (z * 3)) := fun d m dp a1 a2 a3 e f => by
  obtain ⟨m', x', g⟩ := h d m dp a1 a2 a3 e f
  refine ⟨m', ?_, g⟩
  show xm_X (xm_old sc) xm_mt (d + n + 1) 804 [.inr (.inl (some 61)), .inl (50), .inl (p), .inl (x), .inl (dp)] (yy_W (m) t) = _
  refine xm_X_of (M := xm_m804) rfl ⟨xm_EQ.eq (xb_804_0 ?_), rfl, rfl, Nat.le_of_ble_eq_true rfl, yy_hd rfl (by decide)⟩
  rw [if_neg (by decide), if_neg (by decide), if_neg (by decide), if_neg (by decide), if_neg (by decide), if_neg (by decide), if_neg (by decide), if_neg (by decide), if_pos rfl, x', xm_Oi_some]
set_option maxRecDepth 20000 in
theorem yy_bo51 {sc : List Int} {t : xm_W} {n : Nat} {B K M k p x z : Int} (h : yy_say sc t n B K M k p 2 x z) : yy_bo sc t (n + 1) B K M k 51 p x (xm_xor z k) := fun d m dp a1 a2 a3 e f => by
  obtain ⟨m', x', g⟩ := h d m dp a1 a2 a3 e f
  refine ⟨m', ?_, g⟩
  show xm_X (xm_old sc) xm_mt (d + n + 1) 804 [.inr (.inl (some 61)), .inl (51), .inl (p), .inl (x), .inl (dp)] (yy_W (m) t) = _
  refine xm_X_of (M := xm_m804) rfl ⟨xm_EQ.eq (xb_804_0 ?_), rfl, rfl, Nat.le_of_ble_eq_true rfl, yy_hd rfl (by decide)⟩
  rw [if_neg (by decide), if_neg (by decide), if_neg (by decide), if_neg (by decide), if_neg (by decide), if_neg (by decide), if_neg (by decide), if_neg (by decide), if_neg (by decide), if_pos rfl, x', xm_Oi_some, zf_61_4, g.2.1 4 (by decide), a3]
set_option maxRecDepth 20000 in
theorem yy_bo60 {sc : List Int} {t : xm_W} {n : Nat} {B K M k p x z : Int} (h : yy_say sc t n B K M k p 1 (xm_w (x + 1)) z) : yy_bo sc t (n + 1) B K M k 60 p x (z) := fun d m dp a1 a2 a3 e f => by
  obtain ⟨m', x', g⟩ := h d m dp a1 a2 a3 e f
  refine ⟨m', ?_, g⟩
  show xm_X (xm_old sc) xm_mt (d + n + 1) 804 [.inr (.inl (some 61)), .inl (60), .inl (p), .inl (x), .inl (dp)] (yy_W (m) t) = _
  refine xm_X_of (M := xm_m804) rfl ⟨xm_EQ.eq (xb_804_0 ?_), rfl, rfl, Nat.le_of_ble_eq_true rfl, yy_hd rfl (by decide)⟩
  rw [if_neg (by decide), if_neg (by decide), if_neg (by decide), if_neg (by decide), if_neg (by decide), if_neg (by decide), if_neg (by decide), if_neg (by decide), if_neg (by decide), if_neg (by decide), if_pos rfl, x', xm_Oi_some]
set_option maxRecDepth 20000 in
theorem yy_bo70 {sc : List Int} {t : xm_W} {B K M k p x : Int} : yy_bo sc t 1 B K M k 70 p x (5) := fun d m dp a1 a2 a3 e f => by
  refine ⟨m, ?_, yy_VF_rf f⟩
  refine xm_X_of (M := xm_m804) rfl ⟨xm_EQ.eq (xb_804_0 ?_), rfl, rfl, Nat.le_of_ble_eq_true rfl, yy_hd rfl (by decide)⟩
  rw [if_neg (by decide), if_neg (by decide), if_neg (by decide), if_neg (by decide), if_neg (by decide), if_neg (by decide), if_neg (by decide), if_neg (by decide), if_neg (by decide), if_neg (by decide), if_neg (by decide), if_pos rfl]
set_option maxRecDepth 20000 in
theorem yy_bo71 {sc : List Int} {t : xm_W} {n : Nat} {B K M k p x z : Int} (h : yy_say sc t n B K M k p 1 x z) : yy_bo sc t (n + 1) B K M k 71 p x (xm_w (z + M)) := fun d m dp a1 a2 a3 e f => by
  obtain ⟨m', x', g⟩ := h d m dp a1 a2 a3 e f
  refine ⟨m', ?_, g⟩
  show xm_X (xm_old sc) xm_mt (d + n + 1) 804 [.inr (.inl (some 61)), .inl (71), .inl (p), .inl (x), .inl (dp)] (yy_W (m) t) = _
  refine xm_X_of (M := xm_m804) rfl ⟨xm_EQ.eq (xb_804_0 ?_), rfl, rfl, Nat.le_of_ble_eq_true rfl, yy_hd rfl (by decide)⟩
  rw [if_neg (by decide), if_neg (by decide), if_neg (by decide), if_neg (by decide), if_neg (by decide), if_neg (by decide), if_neg (by decide), if_neg (by decide), if_neg (by decide), if_neg (by decide), if_neg (by decide), if_neg (by decide), x', xm_Oi_some, zf_61_3, g.2.1 3 (by decide), a2]
def sp_vr (k fr x : Int) : Int := if fr = 1 then xm_w (xm_w (x + k) - 7) else if fr = 4 then xm_w (xm_w (xm_w (x + k) - 7) * 3) else if fr = 6 then 5 else xm_w (x + k)
def sp_vs (k K M fr x : Int) : Int := if fr = 2 then xm_w (0 - xm_w (sp_vr k K x * 2)) else if fr = 5 then xm_w (0 - xm_w (sp_vr k K (xm_w (x + 1)) * 2)) else if fr = 6 then xm_w (xm_w (sp_vr k K x * 2) + M) else xm_w (sp_vr k K x * 2)
def sp_vk (k K M fr x : Int) : Int := if fr = 3 then xm_w (sp_vs k K M K (xm_w (x.tdiv 2)) - M) else if fr = 4 then xm_xor (xm_w (sp_vs k K M K x - M)) k else xm_w (sp_vs k K M K x - M)
def sp_vp (k K M fr x : Int) : Int := if fr = 1 ∨ fr = 4 then xm_w (xm_w (x.tdiv (M - k)) + sp_vs k K M K 1) else xm_w (x.tdiv (M - k))
set_option maxRecDepth 20000 in
theorem yy_r0 {sc : List Int} {t : xm_W} {K M k x : Int} (ht : t.length < 900000) : yy_say sc t 2 39 K M k 0 0 x (xm_w (x + k)) := yy_say_bo (n := 0) (B := 40) (h := 0) (b := 10) (p := -1) ht (by decide) (by decide) rfl (by decide) rfl rfl (by decide) (yy_bo10)
set_option maxRecDepth 20000 in
theorem yy_r1 {sc : List Int} {t : xm_W} {K M k x : Int} (ht : t.length < 900000) : yy_say sc t 4 38 K M k 1 0 x (xm_w (xm_w (x + k) - 7)) := yy_say_bo (n := 2) (B := 39) (h := 1) (b := 20) (p := 0) ht (by decide) (by decide) rfl (by decide) rfl rfl (by decide) (yy_bo20 (yy_r0 ht))
set_option maxRecDepth 20000 in
theorem yy_rv {sc : List Int} {t : xm_W} {K M k fr x : Int} (ht : t.length < 900000) (hf : 0 ≤ fr ∧ fr ≤ 6) : yy_say sc t 6 37 K M k fr 0 x (sp_vr k fr x) := by
  rcases (show fr = 0 ∨ fr = 1 ∨ fr = 2 ∨ fr = 3 ∨ fr = 4 ∨ fr = 5 ∨ fr = 6 by omega) with q | q | q | q | q | q | q <;> subst q
  · rw [show sp_vr k 0 x = xm_w (x + k) by unfold sp_vr; rw [if_neg (by decide), if_neg (by decide), if_neg (by decide)]]
    exact yy_say_up (by decide) (by decide) (yy_say_bo (n := 0) (B := 40) (h := 0) (b := 10) (p := -1) ht (by decide) (by decide) rfl (by decide) rfl rfl (by decide) (yy_bo10))
  · rw [show sp_vr k 1 x = xm_w (xm_w (x + k) - 7) by unfold sp_vr; rw [if_pos rfl]]
    exact yy_say_up (by decide) (by decide) (yy_r1 ht)
  · rw [show sp_vr k 2 x = xm_w (x + k) by unfold sp_vr; rw [if_neg (by decide), if_neg (by decide), if_neg (by decide)]]
    exact yy_say_up (by decide) (by decide) (yy_say_bo (n := 0) (B := 40) (h := 0) (b := 10) (p := -1) ht (by decide) (by decide) rfl (by decide) rfl rfl (by decide) (yy_bo10))
  · rw [show sp_vr k 3 x = xm_w (x + k) by unfold sp_vr; rw [if_neg (by decide), if_neg (by decide), if_neg (by decide)]]
    exact yy_say_up (by decide) (by decide) (yy_say_bo (n := 0) (B := 40) (h := 0) (b := 10) (p := -1) ht (by decide) (by decide) rfl (by decide) rfl rfl (by decide) (yy_bo10))
  · rw [show sp_vr k 4 x = xm_w (xm_w (xm_w (x + k) - 7) * 3) by unfold sp_vr; rw [if_neg (by decide), if_pos rfl]]
    exact yy_say_up (by decide) (by decide) (yy_say_bo (n := 4) (B := 38) (h := 4) (b := 50) (p := 1) ht (by decide) (by decide) rfl (by decide) rfl rfl (by decide) (yy_bo50 (yy_r1 ht)))
  · rw [show sp_vr k 5 x = xm_w (x + k) by unfold sp_vr; rw [if_neg (by decide), if_neg (by decide), if_neg (by decide)]]
    exact yy_say_up (by decide) (by decide) (yy_say_bo (n := 0) (B := 40) (h := 0) (b := 10) (p := -1) ht (by decide) (by decide) rfl (by decide) rfl rfl (by decide) (yy_bo10))
  · rw [show sp_vr k 6 x = 5 by unfold sp_vr; rw [if_neg (by decide), if_neg (by decide), if_pos rfl]]
    exact yy_say_up (by decide) (by decide) (yy_say_bo (n := 0) (B := 40) (h := 6) (b := 70) (p := 0) ht (by decide) (by decide) rfl (by decide) rfl rfl (by decide) (yy_bo70))
set_option maxRecDepth 20000 in
theorem yy_s0 {sc : List Int} {t : xm_W} {K M k x : Int} (ht : t.length < 900000) (hK : 0 ≤ K ∧ K ≤ 6) : yy_say sc t 8 36 K M k 0 1 x (xm_w (sp_vr k K x * 2)) := yy_say_bo (n := 6) (B := 37) (h := 0) (b := 11) (p := -1) ht (by decide) (by decide) rfl (by decide) rfl rfl (by decide) (yy_bo11 (yy_rv ht hK))
set_option maxRecDepth 20000 in
theorem yy_s2 {sc : List Int} {t : xm_W} {K M k x : Int} (ht : t.length < 900000) (hK : 0 ≤ K ∧ K ≤ 6) : yy_say sc t 10 35 K M k 2 1 x (xm_w (0 - xm_w (sp_vr k K x * 2))) := yy_say_bo (n := 8) (B := 36) (h := 2) (b := 30) (p := 0) ht (by decide) (by decide) rfl (by decide) rfl rfl (by decide) (yy_bo30 (yy_s0 ht hK))
set_option maxRecDepth 20000 in
theorem yy_sv {sc : List Int} {t : xm_W} {K M k fr x : Int} (ht : t.length < 900000) (hK : 0 ≤ K ∧ K ≤ 6) (hf : 0 ≤ fr ∧ fr ≤ 6) : yy_say sc t 12 34 K M k fr 1 x (sp_vs k K M fr x) := by
  rcases (show fr = 0 ∨ fr = 1 ∨ fr = 2 ∨ fr = 3 ∨ fr = 4 ∨ fr = 5 ∨ fr = 6 by omega) with q | q | q | q | q | q | q <;> subst q
  · rw [show sp_vs k K M 0 x = xm_w (sp_vr k K x * 2) by unfold sp_vs; rw [if_neg (by decide), if_neg (by decide), if_neg (by decide)]]
    exact yy_say_up (by decide) (by decide) (yy_say_bo (n := 6) (B := 37) (h := 0) (b := 11) (p := -1) ht (by decide) (by decide) rfl (by decide) rfl rfl (by decide) (yy_bo11 (yy_rv ht hK)))
  · rw [show sp_vs k K M 1 x = xm_w (sp_vr k K x * 2) by unfold sp_vs; rw [if_neg (by decide), if_neg (by decide), if_neg (by decide)]]
    exact yy_say_up (by decide) (by decide) (yy_say_bo (n := 6) (B := 37) (h := 0) (b := 11) (p := -1) ht (by decide) (by decide) rfl (by decide) rfl rfl (by decide) (yy_bo11 (yy_rv ht hK)))
  · rw [show sp_vs k K M 2 x = xm_w (0 - xm_w (sp_vr k K x * 2)) by unfold sp_vs; rw [if_pos rfl]]
    exact yy_say_up (by decide) (by decide) (yy_s2 ht hK)
  · rw [show sp_vs k K M 3 x = xm_w (sp_vr k K x * 2) by unfold sp_vs; rw [if_neg (by decide), if_neg (by decide), if_neg (by decide)]]
    exact yy_say_up (by decide) (by decide) (yy_say_bo (n := 6) (B := 37) (h := 0) (b := 11) (p := -1) ht (by decide) (by decide) rfl (by decide) rfl rfl (by decide) (yy_bo11 (yy_rv ht hK)))
  · rw [show sp_vs k K M 4 x = xm_w (sp_vr k K x * 2) by unfold sp_vs; rw [if_neg (by decide), if_neg (by decide), if_neg (by decide)]]
    exact yy_say_up (by decide) (by decide) (yy_say_bo (n := 6) (B := 37) (h := 0) (b := 11) (p := -1) ht (by decide) (by decide) rfl (by decide) rfl rfl (by decide) (yy_bo11 (yy_rv ht hK)))
  · rw [show sp_vs k K M 5 x = xm_w (0 - xm_w (sp_vr k K (xm_w (x + 1)) * 2)) by unfold sp_vs; rw [if_neg (by decide), if_pos rfl]]
    exact yy_say_up (by decide) (by decide) (yy_say_bo (n := 10) (B := 35) (h := 5) (b := 60) (p := 2) ht (by decide) (by decide) rfl (by decide) rfl rfl (by decide) (yy_bo60 (yy_s2 ht hK)))
  · rw [show sp_vs k K M 6 x = xm_w (xm_w (sp_vr k K x * 2) + M) by unfold sp_vs; rw [if_neg (by decide), if_neg (by decide), if_pos rfl]]
    exact yy_say_up (by decide) (by decide) (yy_say_bo (n := 8) (B := 36) (h := 6) (b := 71) (p := 0) ht (by decide) (by decide) rfl (by decide) rfl rfl (by decide) (yy_bo71 (yy_s0 ht hK)))
set_option maxRecDepth 20000 in
theorem yy_k0 {sc : List Int} {t : xm_W} {K M k x : Int} (ht : t.length < 900000) (hK : 0 ≤ K ∧ K ≤ 6) : yy_say sc t 14 33 K M k 0 2 x (xm_w (sp_vs k K M K x - M)) := yy_say_bo (n := 12) (B := 34) (h := 0) (b := 12) (p := -1) ht (by decide) (by decide) rfl (by decide) rfl rfl (by decide) (yy_bo12 (yy_sv ht hK hK))
set_option maxRecDepth 20000 in
theorem yy_k1 {sc : List Int} {t : xm_W} {K M k x : Int} (ht : t.length < 900000) (hK : 0 ≤ K ∧ K ≤ 6) : yy_say sc t 14 33 K M k 1 2 x (xm_w (sp_vs k K M K x - M)) := yy_say_bo (n := 12) (B := 34) (h := 0) (b := 12) (p := -1) ht (by decide) (by decide) rfl (by decide) rfl rfl (by decide) (yy_bo12 (yy_sv ht hK hK))
set_option maxRecDepth 20000 in
theorem yy_kv {sc : List Int} {t : xm_W} {K M k fr x : Int} (ht : t.length < 900000) (hK : 0 ≤ K ∧ K ≤ 6) (hf : 0 ≤ fr ∧ fr ≤ 6) : yy_say sc t 16 32 K M k fr 2 x (sp_vk k K M fr x) := by
  rcases (show fr = 0 ∨ fr = 1 ∨ fr = 2 ∨ fr = 3 ∨ fr = 4 ∨ fr = 5 ∨ fr = 6 by omega) with q | q | q | q | q | q | q <;> subst q
  · rw [show sp_vk k K M 0 x = xm_w (sp_vs k K M K x - M) by unfold sp_vk; rw [if_neg (by decide), if_neg (by decide)]]
    exact yy_say_up (by decide) (by decide) (yy_say_bo (n := 12) (B := 34) (h := 0) (b := 12) (p := -1) ht (by decide) (by decide) rfl (by decide) rfl rfl (by decide) (yy_bo12 (yy_sv ht hK hK)))
  · rw [show sp_vk k K M 1 x = xm_w (sp_vs k K M K x - M) by unfold sp_vk; rw [if_neg (by decide), if_neg (by decide)]]
    exact yy_say_up (by decide) (by decide) (yy_say_bo (n := 12) (B := 34) (h := 0) (b := 12) (p := -1) ht (by decide) (by decide) rfl (by decide) rfl rfl (by decide) (yy_bo12 (yy_sv ht hK hK)))
  · rw [show sp_vk k K M 2 x = xm_w (sp_vs k K M K x - M) by unfold sp_vk; rw [if_neg (by decide), if_neg (by decide)]]
    exact yy_say_up (by decide) (by decide) (yy_say_bo (n := 12) (B := 34) (h := 0) (b := 12) (p := -1) ht (by decide) (by decide) rfl (by decide) rfl rfl (by decide) (yy_bo12 (yy_sv ht hK hK)))
  · rw [show sp_vk k K M 3 x = xm_w (sp_vs k K M K (xm_w (x.tdiv 2)) - M) by unfold sp_vk; rw [if_pos rfl]]
    exact yy_say_up (by decide) (by decide) (yy_say_bo (n := 14) (B := 33) (h := 3) (b := 40) (p := 0) ht (by decide) (by decide) rfl (by decide) rfl rfl (by decide) (yy_bo40 (yy_k0 ht hK)))
  · rw [show sp_vk k K M 4 x = xm_xor (xm_w (sp_vs k K M K x - M)) k by unfold sp_vk; rw [if_neg (by decide), if_pos rfl]]
    exact yy_say_up (by decide) (by decide) (yy_say_bo (n := 14) (B := 33) (h := 4) (b := 51) (p := 1) ht (by decide) (by decide) rfl (by decide) rfl rfl (by decide) (yy_bo51 (yy_k1 ht hK)))
  · rw [show sp_vk k K M 5 x = xm_w (sp_vs k K M K x - M) by unfold sp_vk; rw [if_neg (by decide), if_neg (by decide)]]
    exact yy_say_up (by decide) (by decide) (yy_say_bo (n := 12) (B := 34) (h := 0) (b := 12) (p := -1) ht (by decide) (by decide) rfl (by decide) rfl rfl (by decide) (yy_bo12 (yy_sv ht hK hK)))
  · rw [show sp_vk k K M 6 x = xm_w (sp_vs k K M K x - M) by unfold sp_vk; rw [if_neg (by decide), if_neg (by decide)]]
    exact yy_say_up (by decide) (by decide) (yy_say_bo (n := 12) (B := 34) (h := 0) (b := 12) (p := -1) ht (by decide) (by decide) rfl (by decide) rfl rfl (by decide) (yy_bo12 (yy_sv ht hK hK)))
set_option maxRecDepth 20000 in
theorem yy_p0 {sc : List Int} {t : xm_W} {K M k x : Int} (ht : t.length < 900000) (hM : 0 ≤ M ∧ M ≤ 9) (hk : 0 ≤ k ∧ k ≤ 4) (hne : ¬ M = k) : yy_say sc t 2 39 K M k 0 3 x (xm_w (x.tdiv (M - k))) := yy_say_bo (n := 0) (B := 40) (h := 0) (b := 13) (p := -1) ht (by decide) (by decide) rfl (by decide) rfl rfl (by decide) (yy_bo13 hM hk hne)
set_option maxRecDepth 20000 in
theorem yy_pv {sc : List Int} {t : xm_W} {K M k fr x : Int} (ht : t.length < 900000) (hK : 0 ≤ K ∧ K ≤ 6) (hf : 0 ≤ fr ∧ fr ≤ 6) (hM : 0 ≤ M ∧ M ≤ 9) (hk : 0 ≤ k ∧ k ≤ 4) (hne : ¬ M = k) : yy_say sc t 16 32 K M k fr 3 x (sp_vp k K M fr x) := by
  rcases (show fr = 0 ∨ fr = 1 ∨ fr = 2 ∨ fr = 3 ∨ fr = 4 ∨ fr = 5 ∨ fr = 6 by omega) with q | q | q | q | q | q | q <;> subst q
  · rw [show sp_vp k K M 0 x = xm_w (x.tdiv (M - k)) by unfold sp_vp; rw [if_neg (by decide)]]
    exact yy_say_up (by decide) (by decide) (yy_say_bo (n := 0) (B := 40) (h := 0) (b := 13) (p := -1) ht (by decide) (by decide) rfl (by decide) rfl rfl (by decide) (yy_bo13 hM hk hne))
  · rw [show sp_vp k K M 1 x = xm_w (xm_w (x.tdiv (M - k)) + sp_vs k K M K 1) by unfold sp_vp; rw [if_pos (by decide)]]
    exact yy_say_up (by decide) (by decide) (yy_say_bo (n := 12) (B := 34) (h := 1) (b := 21) (p := 0) ht (by decide) (by decide) rfl (by decide) rfl rfl (by decide) (yy_bo21 (yy_say_up (by decide) (by decide) (yy_p0 ht hM hk hne)) (yy_sv ht hK hK)))
  · rw [show sp_vp k K M 2 x = xm_w (x.tdiv (M - k)) by unfold sp_vp; rw [if_neg (by decide)]]
    exact yy_say_up (by decide) (by decide) (yy_say_bo (n := 0) (B := 40) (h := 0) (b := 13) (p := -1) ht (by decide) (by decide) rfl (by decide) rfl rfl (by decide) (yy_bo13 hM hk hne))
  · rw [show sp_vp k K M 3 x = xm_w (x.tdiv (M - k)) by unfold sp_vp; rw [if_neg (by decide)]]
    exact yy_say_up (by decide) (by decide) (yy_say_bo (n := 0) (B := 40) (h := 0) (b := 13) (p := -1) ht (by decide) (by decide) rfl (by decide) rfl rfl (by decide) (yy_bo13 hM hk hne))
  · rw [show sp_vp k K M 4 x = xm_w (xm_w (x.tdiv (M - k)) + sp_vs k K M K 1) by unfold sp_vp; rw [if_pos (by decide)]]
    exact yy_say_up (by decide) (by decide) (yy_say_bo (n := 12) (B := 34) (h := 1) (b := 21) (p := 0) ht (by decide) (by decide) rfl (by decide) rfl rfl (by decide) (yy_bo21 (yy_say_up (by decide) (by decide) (yy_p0 ht hM hk hne)) (yy_sv ht hK hK)))
  · rw [show sp_vp k K M 5 x = xm_w (x.tdiv (M - k)) by unfold sp_vp; rw [if_neg (by decide)]]
    exact yy_say_up (by decide) (by decide) (yy_say_bo (n := 0) (B := 40) (h := 0) (b := 13) (p := -1) ht (by decide) (by decide) rfl (by decide) rfl rfl (by decide) (yy_bo13 hM hk hne))
  · rw [show sp_vp k K M 6 x = xm_w (x.tdiv (M - k)) by unfold sp_vp; rw [if_neg (by decide)]]
    exact yy_say_up (by decide) (by decide) (yy_say_bo (n := 0) (B := 40) (h := 0) (b := 13) (p := -1) ht (by decide) (by decide) rfl (by decide) rfl rfl (by decide) (yy_bo13 hM hk hne))
end
section
/-! VOICES: the reference -/
def yy_VR (m m' : Nat → Nat → Int) : Prop := (∀ c, c ≠ 74 → c ≠ 82 → m' c = m c) ∧ (∀ q, q ≠ 15 → m' 74 q = m 74 q) ∧ (0 ≤ m' 74 15 ∧ m' 74 15 ≤ 30)
set_option maxRecDepth 20000 in
theorem yy_VR_tr {m m' m'' : Nat → Nat → Int} (h : yy_VR m m') (h' : yy_VR m' m'') : yy_VR m m'' := ⟨fun c a b => by rw [h'.1 c a b, h.1 c a b], fun q a => by rw [h'.2.1 q a, h.2.1 q a], h'.2.2⟩
def yy_vq (K M k : Int) (m : Nat → Nat → Int) : Prop := (0 ≤ k ∧ k < 5) ∧ m 74 16 = k ∧ m 75 (44 + 18 * k + 0).toNat = K ∧ m 75 (44 + 18 * k + 1).toNat = M ∧ m 74 17 = 0 ∧ (0 ≤ m 74 15 ∧ m 74 15 ≤ 30)
set_option maxRecDepth 20000 in
theorem yy_vq_r {K M k : Int} {m m' : Nat → Nat → Int} (h : yy_vq K M k m) (f : yy_VR m m') : yy_vq K M k m' := ⟨h.1, by rw [f.2.1 16 (by decide)]; exact h.2.1, by rw [f.1 75 (by decide) (by decide)]; exact h.2.2.1, by rw [f.1 75 (by decide) (by decide)]; exact h.2.2.2.1, by rw [f.2.1 17 (by decide)]; exact h.2.2.2.2.1, f.2.2⟩
set_option maxRecDepth 20000 in
theorem c_1186 {sc : List Int} {d : Nat} {t : xm_W} {m : Nat → Nat → Int} {b : Int} (h : 0 ≤ m 74 15 ∧ m 74 15 ≤ 30) : ∃ m', xm_X (xm_old sc) xm_mt (d + 1) 1186 [.inr (.inl (some 74)), .inl (b)] (yy_W m t) = some (none, yy_W m' t) ∧ yy_VR m m' := by
  have key : ∀ {Q : Option xm_V × xm_W → Prop}, (∀ m', (yy_VR m m') → Q (none, yy_W m' t)) → xm_EQ (xm_old sc) xm_sta (xm_X (xm_old sc) xm_mt (d)) xm_m1186.2.2.2.2.2.2.2 0 (xm_loc xm_m1186.2.2.1 [.inr (.inl (some 74)), .inl (b)]) [] (yy_W m t) Q := by
    intro Q hQ
    refine xb_1186_0 ?_
    rw [zf_74_15]
    by_cases g : m 74 15 < 30
    · rw [if_pos g, zr_74_14, zf_74_15, zt_82 (by omega) (by omega), zf_74_15, yy_s_ne (by decide), zs_74_15, xm_w_id (by omega) (by omega)]
      exact hQ _ ⟨fun c a b => by rw [yy_s_ne a, yy_s_ne b], fun q a => by rw [yy_s_eq, yy_u_ne a, yy_s_ne (by decide)], by rw [yy_s_eq, yy_u_eq]; omega⟩
    · rw [if_neg g]
      exact hQ m ⟨fun _ _ _ => rfl, fun _ _ => rfl, h⟩
  obtain ⟨q, h1, m', h2, h3⟩ := yx_of (y := 1186) (M := xm_m1186) (sc := sc) (d := d) (as := [.inr (.inl (some 74)), .inl (b)]) (w := yy_W m t) (Q := fun q => ∃ m', q = (none, yy_W m' t) ∧ (yy_VR m m')) rfl (key fun m' h => ⟨m', rfl, h⟩) (fun q ⟨m', h, _⟩ => by rw [h]; rfl) rfl (Nat.le_of_ble_eq_true rfl) (yy_hd rfl (by decide))
  exact ⟨m', by rw [h1, h2], h3⟩
def sp_ab (a : Int) : Int := if a = 4 then 1 else if a = 5 then 2 else 0
set_option maxRecDepth 20000 in
theorem c_1187 {sc : List Int} {d : Nat} {t : xm_W} {m : Nat → Nat → Int} {a b : Int} (h : sp_ab a = b) : xm_X (xm_old sc) xm_mt (d + 1) 1187 [.inl (a)] (yy_W (m) t) = some (some (.inl (b)), (yy_W (m) t)) := by
  refine xm_X_of (M := xm_m1187) rfl ⟨xm_EQ.eq (xb_1187_0 ?_), rfl, rfl, Nat.le_of_ble_eq_true rfl, xw_hd0⟩
  unfold sp_ab at h
  by_cases h4 : a = 4
  · rw [if_pos h4] at h; rw [if_pos h4, h]
  · rw [if_neg h4] at h; rw [if_neg h4]
    by_cases h5 : a = 5
    · rw [if_pos h5] at h; rw [if_pos h5, h]
    · rw [if_neg h5] at h; rw [if_neg h5, h]
set_option maxRecDepth 20000 in
theorem oc_1187 {F : Int → xm_W → Prop} {sc : List Int} {d : Nat} {t : xm_W} {m : Nat → Nat → Int} {a b : Int} (h : sp_ab a = b) : xm_Oi (xm_X (xm_old sc) xm_mt (d + 1) 1187 [.inl (a)] (yy_W (m) t)) F = F (b) (yy_W (m) t) := congrArg (fun x => xm_Oi x F) (c_1187 h)
set_option maxRecDepth 20000 in
theorem c_1188 {sc : List Int} {d : Nat} {t : xm_W} {m : Nat → Nat → Int} {K M k : Int} (h : yy_vq K M k m) : xm_X (xm_old sc) xm_mt (d + 2) 1188 [.inr (.inl (some 74))] (yy_W (m) t) = some (some (.inl (K)), (yy_W (m) t)) := by
  refine xm_X_of (M := xm_m1188) rfl ⟨xm_EQ.eq (xb_1188_0 ?_), rfl, rfl, Nat.le_of_ble_eq_true rfl, yy_hd rfl (by decide)⟩
  obtain ⟨h1, h2, h3, -⟩ := h
  rw [zf_74_16, h2, oc_1110 (d := d) h1.1 h1.2 (by decide) (by decide), h3]
set_option maxRecDepth 20000 in
theorem oc_1188 {F : Int → xm_W → Prop} {sc : List Int} {d : Nat} {t : xm_W} {m : Nat → Nat → Int} {K M k : Int} (h : yy_vq K M k m) : xm_Oi (xm_X (xm_old sc) xm_mt (d + 2) 1188 [.inr (.inl (some 74))] (yy_W (m) t)) F = F (K) (yy_W (m) t) := congrArg (fun x => xm_Oi x F) (c_1188 h)
set_option maxRecDepth 20000 in
theorem c_1189 {sc : List Int} {d : Nat} {t : xm_W} {m : Nat → Nat → Int} {K M k : Int} (h : yy_vq K M k m) : xm_X (xm_old sc) xm_mt (d + 2) 1189 [.inr (.inl (some 74))] (yy_W (m) t) = some (some (.inl (M)), (yy_W (m) t)) := by
  refine xm_X_of (M := xm_m1189) rfl ⟨xm_EQ.eq (xb_1189_0 ?_), rfl, rfl, Nat.le_of_ble_eq_true rfl, yy_hd rfl (by decide)⟩
  obtain ⟨h1, h2, -, h3, -⟩ := h
  rw [zf_74_16, h2, oc_1110 (d := d) h1.1 h1.2 (by decide) (by decide), h3]
set_option maxRecDepth 20000 in
theorem oc_1189 {F : Int → xm_W → Prop} {sc : List Int} {d : Nat} {t : xm_W} {m : Nat → Nat → Int} {K M k : Int} (h : yy_vq K M k m) : xm_Oi (xm_X (xm_old sc) xm_mt (d + 2) 1189 [.inr (.inl (some 74))] (yy_W (m) t)) F = F (M) (yy_W (m) t) := congrArg (fun x => xm_Oi x F) (c_1189 h)
def yy_rb (sc : List Int) (t : xm_W) (n : Nat) (me : Nat) (K M k fr x z : Int) : Prop := ∀ (d : Nat) (m : Nat → Nat → Int), yy_vq K M k m → ∃ m', xm_X (xm_old sc) xm_mt (d + n) me [.inr (.inl (some 74)), .inl fr, .inl x] (yy_W m t) = some (some (.inl (z)), (yy_W (m') t)) ∧ yy_VR m m'
set_option maxRecDepth 20000 in
theorem yy_rb_up {sc : List Int} {t : xm_W} {n n' me : Nat} {K M k fr x z : Int} (hn : n ≤ n') (h : yy_rb sc t n me K M k fr x z) : yy_rb sc t n' me K M k fr x z := fun d m a => by
  obtain ⟨j, rfl⟩ : ∃ j, n' = n + j := ⟨n' - n, by omega⟩
  have := h (d + j) m a
  rw [show d + (n + j) = d + j + n by omega]
  exact this
set_option maxRecDepth 20000 in
theorem y90_0 {sc : List Int} {t : xm_W} {K M k x : Int} : yy_rb sc t 2 1190 K M k 0 x (xm_w (x + k)) := fun d m h => by
  obtain ⟨m1, e1, f1⟩ := c_1186 (sc := sc) (d := d) (t := t) (m := m) (b := 10) h.2.2.2.2.2
  refine ⟨m1, ?_, f1⟩
  show xm_X (xm_old sc) xm_mt (d + 1 + 1) 1190 [.inr (.inl (some 74)), .inl (0), .inl (x)] (yy_W (m) t) = _
  refine xm_X_of (M := xm_m1190) rfl ⟨xm_EQ.eq (xb_1190_0 ?_), rfl, rfl, Nat.le_of_ble_eq_true rfl, yy_hd rfl (by decide)⟩
  rw [if_pos rfl, e1, xm_Ov_some, zf_74_16, f1.2.1 16 (by decide), h.2.1]
set_option maxRecDepth 20000 in
theorem y90_p {sc : List Int} {t : xm_W} {n : Nat} {K M k fr b x z : Int} (hf : fr = 2 ∨ fr = 3 ∨ fr = 5) (hb : sp_ab fr = b) (h : yy_rb sc t (n + 1) 1190 K M k b x z) : yy_rb sc t (n + 2) 1190 K M k fr x z := fun d m a => by
  obtain ⟨m1, e1, f1⟩ := h d m a
  refine ⟨m1, ?_, f1⟩
  show xm_X (xm_old sc) xm_mt (d + n + 1 + 1) 1190 [.inr (.inl (some 74)), .inl (fr), .inl (x)] (yy_W (m) t) = _
  refine xm_X_of (M := xm_m1190) rfl ⟨xm_EQ.eq (xb_1190_0 ?_), rfl, rfl, Nat.le_of_ble_eq_true rfl, yy_hd rfl (by decide)⟩
  rcases hf with q | q | q <;> subst q
  · rw [if_neg (by decide), if_neg (by decide), if_pos rfl, oc_1187 (d := d + n) hb]; erw [e1]; rw [xm_Oi_some]
  · rw [if_neg (by decide), if_neg (by decide), if_neg (by decide), if_pos rfl, oc_1187 (d := d + n) hb]; erw [e1]; rw [xm_Oi_some]
  · rw [if_neg (by decide), if_neg (by decide), if_neg (by decide), if_neg (by decide), if_neg (by decide), if_pos rfl, oc_1187 (d := d + n) hb]; erw [e1]; rw [xm_Oi_some]
set_option maxRecDepth 20000 in
theorem y90_1 {sc : List Int} {t : xm_W} {K M k x : Int} : yy_rb sc t 3 1190 K M k 1 x (xm_w (xm_w (x + k) - 7)) := fun d m h => by
  obtain ⟨m1, e1, f1⟩ := c_1186 (sc := sc) (d := d + 1) (t := t) (m := m) (b := 20) h.2.2.2.2.2
  obtain ⟨m2, e2, f2⟩ := y90_0 (sc := sc) (t := t) (x := x) d m1 (yy_vq_r h f1)
  refine ⟨m2, ?_, yy_VR_tr f1 f2⟩
  show xm_X (xm_old sc) xm_mt (d + 2 + 1) 1190 [.inr (.inl (some 74)), .inl (1), .inl (x)] (yy_W (m) t) = _
  refine xm_X_of (M := xm_m1190) rfl ⟨xm_EQ.eq (xb_1190_0 ?_), rfl, rfl, Nat.le_of_ble_eq_true rfl, yy_hd rfl (by decide)⟩
  rw [if_neg (by decide), if_pos rfl, e1, xm_Ov_some, oc_1187 (d := d + 1) (a := 1) (b := 0) rfl]; erw [e2]; rw [xm_Oi_some]
set_option maxRecDepth 20000 in
theorem y90_4 {sc : List Int} {t : xm_W} {K M k x : Int} : yy_rb sc t 4 1190 K M k 4 x (xm_w (xm_w (xm_w (x + k) - 7) * 3)) := fun d m h => by
  obtain ⟨m1, e1, f1⟩ := c_1186 (sc := sc) (d := d + 2) (t := t) (m := m) (b := 50) h.2.2.2.2.2
  obtain ⟨m2, e2, f2⟩ := y90_1 (sc := sc) (t := t) (x := x) d m1 (yy_vq_r h f1)
  refine ⟨m2, ?_, yy_VR_tr f1 f2⟩
  show xm_X (xm_old sc) xm_mt (d + 3 + 1) 1190 [.inr (.inl (some 74)), .inl (4), .inl (x)] (yy_W (m) t) = _
  refine xm_X_of (M := xm_m1190) rfl ⟨xm_EQ.eq (xb_1190_0 ?_), rfl, rfl, Nat.le_of_ble_eq_true rfl, yy_hd rfl (by decide)⟩
  rw [if_neg (by decide), if_neg (by decide), if_neg (by decide), if_neg (by decide), if_pos rfl, e1, xm_Ov_some, oc_1187 (d := d + 2) (a := 4) (b := 1) rfl]; erw [e2]; rw [xm_Oi_some]
set_option maxRecDepth 20000 in
theorem y90_6 {sc : List Int} {t : xm_W} {K M k x : Int} : yy_rb sc t 2 1190 K M k 6 x 5 := fun d m h => by
  obtain ⟨m1, e1, f1⟩ := c_1186 (sc := sc) (d := d) (t := t) (m := m) (b := 70) h.2.2.2.2.2
  refine ⟨m1, ?_, f1⟩
  show xm_X (xm_old sc) xm_mt (d + 1 + 1) 1190 [.inr (.inl (some 74)), .inl (6), .inl (x)] (yy_W (m) t) = _
  refine xm_X_of (M := xm_m1190) rfl ⟨xm_EQ.eq (xb_1190_0 ?_), rfl, rfl, Nat.le_of_ble_eq_true rfl, yy_hd rfl (by decide)⟩
  rw [if_neg (by decide), if_neg (by decide), if_neg (by decide), if_neg (by decide), if_neg (by decide), if_neg (by decide), if_pos rfl, e1, xm_Ov_some]
set_option maxRecDepth 20000 in
theorem y90 {sc : List Int} {t : xm_W} {K M k fr x : Int} (hf : 0 ≤ fr ∧ fr ≤ 6) : yy_rb sc t 4 1190 K M k fr x (sp_vr k fr x) := by
  unfold sp_vr
  rcases (show fr = 0 ∨ fr = 1 ∨ fr = 2 ∨ fr = 3 ∨ fr = 4 ∨ fr = 5 ∨ fr = 6 by omega) with q | q | q | q | q | q | q <;> subst q
  · rw [if_neg (by decide), if_neg (by decide), if_neg (by decide)]; exact yy_rb_up (by decide) y90_0
  · rw [if_pos rfl]; exact yy_rb_up (by decide) y90_1
  · rw [if_neg (by decide), if_neg (by decide), if_neg (by decide)]; exact yy_rb_up (by decide) (y90_p (n := 1) (b := 0) (by omega) rfl y90_0)
  · rw [if_neg (by decide), if_neg (by decide), if_neg (by decide)]; exact yy_rb_up (by decide) (y90_p (n := 1) (b := 0) (by omega) rfl y90_0)
  · rw [if_neg (by decide), if_pos rfl]; exact y90_4
  · rw [if_neg (by decide), if_neg (by decide), if_neg (by decide)]; exact y90_p (n := 2) (b := 2) (by omega) rfl (y90_p (n := 1) (b := 0) (by omega) rfl y90_0)
  · rw [if_neg (by decide), if_neg (by decide), if_pos rfl]; exact yy_rb_up (by decide) y90_6
set_option maxRecDepth 20000 in
theorem y91_0 {sc : List Int} {t : xm_W} {K M k x : Int} (hK : 0 ≤ K ∧ K ≤ 6) : yy_rb sc t 5 1191 K M k 0 x (xm_w (sp_vr k K x * 2)) := fun d m h => by
  obtain ⟨m1, e1, f1⟩ := c_1186 (sc := sc) (d := d + 3) (t := t) (m := m) (b := 11) h.2.2.2.2.2
  obtain ⟨m2, e2, f2⟩ := y90 (sc := sc) (t := t) (x := x) hK d m1 (yy_vq_r h f1)
  refine ⟨m2, ?_, yy_VR_tr f1 f2⟩
  show xm_X (xm_old sc) xm_mt (d + 4 + 1) 1191 [.inr (.inl (some 74)), .inl (0), .inl (x)] (yy_W (m) t) = _
  refine xm_X_of (M := xm_m1191) rfl ⟨xm_EQ.eq (xb_1191_0 ?_), rfl, rfl, Nat.le_of_ble_eq_true rfl, yy_hd rfl (by decide)⟩
  rw [if_pos rfl, e1, xm_Ov_some, oc_1188 (d := d + 2) (yy_vq_r h f1)]; erw [e2]; rw [xm_Oi_some]
set_option maxRecDepth 20000 in
theorem y91_p {sc : List Int} {t : xm_W} {n : Nat} {K M k fr b x z : Int} (hf : fr = 1 ∨ fr = 3 ∨ fr = 4) (hb : sp_ab fr = b) (h : yy_rb sc t (n + 1) 1191 K M k b x z) : yy_rb sc t (n + 2) 1191 K M k fr x z := fun d m a => by
  obtain ⟨m1, e1, f1⟩ := h d m a
  refine ⟨m1, ?_, f1⟩
  show xm_X (xm_old sc) xm_mt (d + n + 1 + 1) 1191 [.inr (.inl (some 74)), .inl (fr), .inl (x)] (yy_W (m) t) = _
  refine xm_X_of (M := xm_m1191) rfl ⟨xm_EQ.eq (xb_1191_0 ?_), rfl, rfl, Nat.le_of_ble_eq_true rfl, yy_hd rfl (by decide)⟩
  rcases hf with q | q | q <;> subst q
  · rw [if_neg (by decide), if_pos rfl, oc_1187 (d := d + n) hb]; erw [e1]; rw [xm_Oi_some]
  · rw [if_neg (by decide), if_neg (by decide), if_neg (by decide), if_pos rfl, oc_1187 (d := d + n) hb]; erw [e1]; rw [xm_Oi_some]
  · rw [if_neg (by decide), if_neg (by decide), if_neg (by decide), if_neg (by decide), if_pos rfl, oc_1187 (d := d + n) hb]; erw [e1]; rw [xm_Oi_some]
set_option maxRecDepth 20000 in
theorem y91_2 {sc : List Int} {t : xm_W} {K M k x : Int} (hK : 0 ≤ K ∧ K ≤ 6) : yy_rb sc t 6 1191 K M k 2 x (xm_w (0 - xm_w (sp_vr k K x * 2))) := fun d m h => by
  obtain ⟨m1, e1, f1⟩ := c_1186 (sc := sc) (d := d + 4) (t := t) (m := m) (b := 30) h.2.2.2.2.2
  obtain ⟨m2, e2, f2⟩ := y91_0 (sc := sc) (t := t) (x := x) hK d m1 (yy_vq_r h f1)
  refine ⟨m2, ?_, yy_VR_tr f1 f2⟩
  show xm_X (xm_old sc) xm_mt (d + 5 + 1) 1191 [.inr (.inl (some 74)), .inl (2), .inl (x)] (yy_W (m) t) = _
  refine xm_X_of (M := xm_m1191) rfl ⟨xm_EQ.eq (xb_1191_0 ?_), rfl, rfl, Nat.le_of_ble_eq_true rfl, yy_hd rfl (by decide)⟩
  rw [if_neg (by decide), if_neg (by decide), if_pos rfl, e1, xm_Ov_some, oc_1187 (d := d + 4) (a := 2) (b := 0) rfl]; erw [e2]; rw [xm_Oi_some]
set_option maxRecDepth 20000 in
theorem y91_5 {sc : List Int} {t : xm_W} {K M k x : Int} (hK : 0 ≤ K ∧ K ≤ 6) : yy_rb sc t 7 1191 K M k 5 x (xm_w (0 - xm_w (sp_vr k K (xm_w (x + 1)) * 2))) := fun d m h => by
  obtain ⟨m1, e1, f1⟩ := c_1186 (sc := sc) (d := d + 5) (t := t) (m := m) (b := 60) h.2.2.2.2.2
  obtain ⟨m2, e2, f2⟩ := y91_2 (sc := sc) (t := t) (x := xm_w (x + 1)) hK d m1 (yy_vq_r h f1)
  refine ⟨m2, ?_, yy_VR_tr f1 f2⟩
  show xm_X (xm_old sc) xm_mt (d + 6 + 1) 1191 [.inr (.inl (some 74)), .inl (5), .inl (x)] (yy_W (m) t) = _
  refine xm_X_of (M := xm_m1191) rfl ⟨xm_EQ.eq (xb_1191_0 ?_), rfl, rfl, Nat.le_of_ble_eq_true rfl, yy_hd rfl (by decide)⟩
  rw [if_neg (by decide), if_neg (by decide), if_neg (by decide), if_neg (by decide), if_neg (by decide), if_pos rfl, e1, xm_Ov_some, oc_1187 (d := d + 5) (a := 5) (b := 2) rfl]; erw [e2]; rw [xm_Oi_some]
set_option maxRecDepth 20000 in
theorem y91_6 {sc : List Int} {t : xm_W} {K M k x : Int} (hK : 0 ≤ K ∧ K ≤ 6) : yy_rb sc t 6 1191 K M k 6 x (xm_w (xm_w (sp_vr k K x * 2) + M)) := fun d m h => by
  obtain ⟨m1, e1, f1⟩ := c_1186 (sc := sc) (d := d + 4) (t := t) (m := m) (b := 71) h.2.2.2.2.2
  obtain ⟨m2, e2, f2⟩ := y91_0 (sc := sc) (t := t) (x := x) hK d m1 (yy_vq_r h f1)
  refine ⟨m2, ?_, yy_VR_tr f1 f2⟩
  show xm_X (xm_old sc) xm_mt (d + 5 + 1) 1191 [.inr (.inl (some 74)), .inl (6), .inl (x)] (yy_W (m) t) = _
  refine xm_X_of (M := xm_m1191) rfl ⟨xm_EQ.eq (xb_1191_0 ?_), rfl, rfl, Nat.le_of_ble_eq_true rfl, yy_hd rfl (by decide)⟩
  rw [if_neg (by decide), if_neg (by decide), if_neg (by decide), if_neg (by decide), if_neg (by decide), if_neg (by decide), if_pos rfl, e1, xm_Ov_some, oc_1187 (d := d + 4) (a := 6) (b := 0) rfl]; erw [e2]; rw [xm_Oi_some, oc_1189 (d := d + 3) (yy_vq_r (yy_vq_r h f1) f2)]
set_option maxRecDepth 20000 in
theorem y91 {sc : List Int} {t : xm_W} {K M k fr x : Int} (hK : 0 ≤ K ∧ K ≤ 6) (hf : 0 ≤ fr ∧ fr ≤ 6) : yy_rb sc t 7 1191 K M k fr x (sp_vs k K M fr x) := by
  unfold sp_vs
  rcases (show fr = 0 ∨ fr = 1 ∨ fr = 2 ∨ fr = 3 ∨ fr = 4 ∨ fr = 5 ∨ fr = 6 by omega) with q | q | q | q | q | q | q <;> subst q
  · rw [if_neg (by decide), if_neg (by decide), if_neg (by decide)]; exact yy_rb_up (by decide) (y91_0 hK)
  · rw [if_neg (by decide), if_neg (by decide), if_neg (by decide)]; exact yy_rb_up (by decide) (y91_p (n := 4) (b := 0) (by omega) rfl (y91_0 hK))
  · rw [if_pos rfl]; exact yy_rb_up (by decide) (y91_2 hK)
  · rw [if_neg (by decide), if_neg (by decide), if_neg (by decide)]; exact yy_rb_up (by decide) (y91_p (n := 4) (b := 0) (by omega) rfl (y91_0 hK))
  · rw [if_neg (by decide), if_neg (by decide), if_neg (by decide)]; exact y91_p (n := 5) (b := 1) (by omega) rfl (y91_p (n := 4) (b := 0) (by omega) rfl (y91_0 hK))
  · rw [if_neg (by decide), if_pos rfl]; exact y91_5 hK
  · rw [if_neg (by decide), if_neg (by decide), if_pos rfl]; exact yy_rb_up (by decide) (y91_6 hK)
set_option maxRecDepth 20000 in
theorem y92_0 {sc : List Int} {t : xm_W} {K M k x : Int} (hK : 0 ≤ K ∧ K ≤ 6) : yy_rb sc t 8 1192 K M k 0 x (xm_w (sp_vs k K M K x - M)) := fun d m h => by
  obtain ⟨m1, e1, f1⟩ := c_1186 (sc := sc) (d := d + 6) (t := t) (m := m) (b := 12) h.2.2.2.2.2
  obtain ⟨m2, e2, f2⟩ := y91 (sc := sc) (t := t) (x := x) hK hK d m1 (yy_vq_r h f1)
  refine ⟨m2, ?_, yy_VR_tr f1 f2⟩
  show xm_X (xm_old sc) xm_mt (d + 7 + 1) 1192 [.inr (.inl (some 74)), .inl (0), .inl (x)] (yy_W (m) t) = _
  refine xm_X_of (M := xm_m1192) rfl ⟨xm_EQ.eq (xb_1192_0 ?_), rfl, rfl, Nat.le_of_ble_eq_true rfl, yy_hd rfl (by decide)⟩
  rw [if_pos rfl, e1, xm_Ov_some, oc_1188 (d := d + 5) (yy_vq_r h f1)]; erw [e2]; rw [xm_Oi_some, oc_1189 (d := d + 5) (yy_vq_r (yy_vq_r h f1) f2)]
set_option maxRecDepth 20000 in
theorem y92_p {sc : List Int} {t : xm_W} {n : Nat} {K M k fr b x z : Int} (hf : fr = 1 ∨ fr = 2 ∨ fr = 5 ∨ fr = 6) (hb : sp_ab fr = b) (h : yy_rb sc t (n + 1) 1192 K M k b x z) : yy_rb sc t (n + 2) 1192 K M k fr x z := fun d m a => by
  obtain ⟨m1, e1, f1⟩ := h d m a
  refine ⟨m1, ?_, f1⟩
  show xm_X (xm_old sc) xm_mt (d + n + 1 + 1) 1192 [.inr (.inl (some 74)), .inl (fr), .inl (x)] (yy_W (m) t) = _
  refine xm_X_of (M := xm_m1192) rfl ⟨xm_EQ.eq (xb_1192_0 ?_), rfl, rfl, Nat.le_of_ble_eq_true rfl, yy_hd rfl (by decide)⟩
  rcases hf with q | q | q | q <;> subst q
  · rw [if_neg (by decide), if_pos rfl, oc_1187 (d := d + n) hb]; erw [e1]; rw [xm_Oi_some]
  · rw [if_neg (by decide), if_neg (by decide), if_pos rfl, oc_1187 (d := d + n) hb]; erw [e1]; rw [xm_Oi_some]
  · rw [if_neg (by decide), if_neg (by decide), if_neg (by decide), if_neg (by decide), if_neg (by decide), oc_1187 (d := d + n) hb]; erw [e1]; rw [xm_Oi_some]
  · rw [if_neg (by decide), if_neg (by decide), if_neg (by decide), if_neg (by decide), if_neg (by decide), oc_1187 (d := d + n) hb]; erw [e1]; rw [xm_Oi_some]
set_option maxRecDepth 20000 in
theorem y92_3 {sc : List Int} {t : xm_W} {K M k x : Int} (hK : 0 ≤ K ∧ K ≤ 6) : yy_rb sc t 9 1192 K M k 3 x (xm_w (sp_vs k K M K (xm_w (x.tdiv 2)) - M)) := fun d m h => by
  obtain ⟨m1, e1, f1⟩ := c_1186 (sc := sc) (d := d + 7) (t := t) (m := m) (b := 40) h.2.2.2.2.2
  obtain ⟨m2, e2, f2⟩ := y92_0 (sc := sc) (t := t) (x := xm_w (x.tdiv 2)) hK d m1 (yy_vq_r h f1)
  refine ⟨m2, ?_, yy_VR_tr f1 f2⟩
  show xm_X (xm_old sc) xm_mt (d + 8 + 1) 1192 [.inr (.inl (some 74)), .inl (3), .inl (x)] (yy_W (m) t) = _
  refine xm_X_of (M := xm_m1192) rfl ⟨xm_EQ.eq (xb_1192_0 ?_), rfl, rfl, Nat.le_of_ble_eq_true rfl, yy_hd rfl (by decide)⟩
  rw [if_neg (by decide), if_neg (by decide), if_neg (by decide), if_pos rfl, e1, xm_Ov_some, oc_1187 (d := d + 7) (a := 3) (b := 0) rfl]
  refine ⟨by decide, ?_⟩
  erw [e2]; rw [xm_Oi_some]
set_option maxRecDepth 20000 in
theorem y92_4 {sc : List Int} {t : xm_W} {K M k x : Int} (hK : 0 ≤ K ∧ K ≤ 6) : yy_rb sc t 10 1192 K M k 4 x (xm_xor (xm_w (sp_vs k K M K x - M)) k) := fun d m h => by
  obtain ⟨m1, e1, f1⟩ := c_1186 (sc := sc) (d := d + 8) (t := t) (m := m) (b := 51) h.2.2.2.2.2
  obtain ⟨m2, e2, f2⟩ := (y92_p (sc := sc) (t := t) (K := K) (M := M) (k := k) (n := 7) (fr := 1) (b := 0) (x := x) (by omega) rfl (y92_0 hK)) d m1 (yy_vq_r h f1)
  refine ⟨m2, ?_, yy_VR_tr f1 f2⟩
  show xm_X (xm_old sc) xm_mt (d + 9 + 1) 1192 [.inr (.inl (some 74)), .inl (4), .inl (x)] (yy_W (m) t) = _
  refine xm_X_of (M := xm_m1192) rfl ⟨xm_EQ.eq (xb_1192_0 ?_), rfl, rfl, Nat.le_of_ble_eq_true rfl, yy_hd rfl (by decide)⟩
  rw [if_neg (by decide), if_neg (by decide), if_neg (by decide), if_neg (by decide), if_pos rfl, e1, xm_Ov_some, oc_1187 (d := d + 8) (a := 4) (b := 1) rfl]; erw [e2]; rw [xm_Oi_some, zf_74_16, f2.2.1 16 (by decide), f1.2.1 16 (by decide), h.2.1]
set_option maxRecDepth 20000 in
theorem y92 {sc : List Int} {t : xm_W} {K M k fr x : Int} (hK : 0 ≤ K ∧ K ≤ 6) (hf : 0 ≤ fr ∧ fr ≤ 6) : yy_rb sc t 10 1192 K M k fr x (sp_vk k K M fr x) := by
  unfold sp_vk
  rcases (show fr = 0 ∨ fr = 1 ∨ fr = 2 ∨ fr = 3 ∨ fr = 4 ∨ fr = 5 ∨ fr = 6 by omega) with q | q | q | q | q | q | q <;> subst q
  · rw [if_neg (by decide), if_neg (by decide)]; exact yy_rb_up (by decide) (y92_0 hK)
  · rw [if_neg (by decide), if_neg (by decide)]; exact yy_rb_up (by decide) (y92_p (n := 7) (b := 0) (by omega) rfl (y92_0 hK))
  · rw [if_neg (by decide), if_neg (by decide)]; exact yy_rb_up (by decide) (y92_p (n := 7) (b := 0) (by omega) rfl (y92_0 hK))
  · rw [if_pos rfl]; exact yy_rb_up (by decide) (y92_3 hK)
  · rw [if_neg (by decide), if_pos rfl]; exact y92_4 hK
  · rw [if_neg (by decide), if_neg (by decide)]; exact y92_p (n := 8) (b := 2) (by omega) rfl (y92_p (n := 7) (b := 0) (by omega) rfl (y92_0 hK))
  · rw [if_neg (by decide), if_neg (by decide)]; exact yy_rb_up (by decide) (y92_p (n := 7) (b := 0) (by omega) rfl (y92_0 hK))
set_option maxRecDepth 20000 in
theorem y93_0 {sc : List Int} {t : xm_W} {K M k x : Int} (hM : 0 ≤ M ∧ M ≤ 9) (hne : ¬ M = k) : yy_rb sc t 3 1193 K M k 0 x (xm_w (x.tdiv (M - k))) := fun d m h => by
  obtain ⟨m1, e1, f1⟩ := c_1186 (sc := sc) (d := d + 1) (t := t) (m := m) (b := 13) h.2.2.2.2.2
  have h1 := yy_vq_r h f1
  obtain ⟨hk, a1, a2, a3, a4, a5⟩ := id h1
  have f2 : yy_VR m1 (yy_s m1 74 17 0) := ⟨fun c a b => by rw [yy_s_ne a], fun q a => by
    by_cases e : q = 17
    · subst e; rw [yy_s_eq, yy_u_eq]; exact a4.symm
    · rw [yy_s_eq, yy_u_ne e], by rw [yy_s_eq, yy_u_ne (by decide)]; exact a5⟩
  refine ⟨_, ?_, yy_VR_tr f1 f2⟩
  show xm_X (xm_old sc) xm_mt (d + 2 + 1) 1193 [.inr (.inl (some 74)), .inl (0), .inl (x)] (yy_W (m) t) = _
  refine xm_X_of (M := xm_m1193) rfl ⟨xm_EQ.eq (xb_1193_0 ?_), rfl, rfl, Nat.le_of_ble_eq_true rfl, yy_hd rfl (by decide)⟩
  rw [if_pos rfl, e1, xm_Ov_some, oc_1189 (d := d) h1, zf_74_16, a1, xm_w_id (z := M - k) (by omega) (by omega), if_neg (by omega), zs_74_17 rfl, if_neg (by omega)]
  by_cases g : M - k = -1
  · rw [if_pos g, g, Int.tdiv_neg, Int.tdiv_one]
  · rw [if_neg g]; exact ⟨by omega, rfl⟩
set_option maxRecDepth 20000 in
theorem y93_p {sc : List Int} {t : xm_W} {n : Nat} {K M k fr b x z : Int} (hf : 2 ≤ fr) (hb : sp_ab fr = b) (h : yy_rb sc t (n + 1) 1193 K M k b x z) : yy_rb sc t (n + 2) 1193 K M k fr x z := fun d m a => by
  obtain ⟨m1, e1, f1⟩ := h d m a
  refine ⟨m1, ?_, f1⟩
  show xm_X (xm_old sc) xm_mt (d + n + 1 + 1) 1193 [.inr (.inl (some 74)), .inl (fr), .inl (x)] (yy_W (m) t) = _
  refine xm_X_of (M := xm_m1193) rfl ⟨xm_EQ.eq (xb_1193_0 ?_), rfl, rfl, Nat.le_of_ble_eq_true rfl, yy_hd rfl (by decide)⟩
  rw [if_neg (by omega), if_neg (by omega), oc_1187 (d := d + n) hb]; erw [e1]; rw [xm_Oi_some]
set_option maxRecDepth 20000 in
theorem y93_1 {sc : List Int} {t : xm_W} {K M k x : Int} (hK : 0 ≤ K ∧ K ≤ 6) (hM : 0 ≤ M ∧ M ≤ 9) (hne : ¬ M = k) : yy_rb sc t 8 1193 K M k 1 x (xm_w (xm_w (x.tdiv (M - k)) + sp_vs k K M K 1)) := fun d m h => by
  obtain ⟨m1, e1, f1⟩ := c_1186 (sc := sc) (d := d + 6) (t := t) (m := m) (b := 21) h.2.2.2.2.2
  obtain ⟨m2, e2, f2⟩ := (yy_rb_up (n' := 7) (by decide) (y93_0 (sc := sc) (t := t) (K := K) (x := x) hM hne)) d m1 (yy_vq_r h f1)
  have h2 := yy_vq_r (yy_vq_r h f1) f2
  obtain ⟨m3, e3, f3⟩ := y91 (sc := sc) (t := t) (x := 1) hK hK d m2 h2
  refine ⟨m3, ?_, yy_VR_tr f1 (yy_VR_tr f2 f3)⟩
  show xm_X (xm_old sc) xm_mt (d + 7 + 1) 1193 [.inr (.inl (some 74)), .inl (1), .inl (x)] (yy_W (m) t) = _
  refine xm_X_of (M := xm_m1193) rfl ⟨xm_EQ.eq (xb_1193_0 ?_), rfl, rfl, Nat.le_of_ble_eq_true rfl, yy_hd rfl (by decide)⟩
  rw [if_neg (by decide), if_pos rfl, e1, xm_Ov_some, oc_1187 (d := d + 6) (a := 1) (b := 0) rfl]; erw [e2]; rw [xm_Oi_some, zf_74_17, if_pos h2.2.2.2.2.1, oc_1188 (d := d + 5) h2]; erw [e3]; rw [xm_Oi_some]
set_option maxRecDepth 20000 in
theorem y93 {sc : List Int} {t : xm_W} {K M k fr x : Int} (hK : 0 ≤ K ∧ K ≤ 6) (hf : 0 ≤ fr ∧ fr ≤ 6) (hM : 0 ≤ M ∧ M ≤ 9) (hne : ¬ M = k) : yy_rb sc t 9 1193 K M k fr x (sp_vp k K M fr x) := by
  unfold sp_vp
  rcases (show fr = 0 ∨ fr = 1 ∨ fr = 2 ∨ fr = 3 ∨ fr = 4 ∨ fr = 5 ∨ fr = 6 by omega) with q | q | q | q | q | q | q <;> subst q
  · rw [if_neg (by decide)]; exact yy_rb_up (by decide) (y93_0 hM hne)
  · rw [if_pos (by decide)]; exact yy_rb_up (by decide) (y93_1 hK hM hne)
  · rw [if_neg (by decide)]; exact yy_rb_up (by decide) (y93_p (n := 2) (b := 0) (by decide) rfl (y93_0 hM hne))
  · rw [if_neg (by decide)]; exact yy_rb_up (by decide) (y93_p (n := 2) (b := 0) (by decide) rfl (y93_0 hM hne))
  · rw [if_pos (by decide)]; exact y93_p (n := 7) (b := 1) (by decide) rfl (y93_1 hK hM hne)
  · rw [if_neg (by decide)]; exact yy_rb_up (by decide) (y93_p (n := 3) (b := 2) (by decide) rfl (y93_p (n := 2) (b := 0) (by decide) rfl (y93_0 hM hne)))
  · rw [if_neg (by decide)]; exact yy_rb_up (by decide) (y93_p (n := 2) (b := 0) (by decide) rfl (y93_0 hM hne))
/- parted -/
def yy_VP (m m' : Nat → Nat → Int) : Prop := (∀ c, c ≠ 74 → c ≠ 82 → m' c = m c) ∧ (∀ q, q ≠ 15 → q ≠ 17 → m' 74 q = m 74 q) ∧ (0 ≤ m' 74 15 ∧ m' 74 15 ≤ 30) ∧ m' 74 17 = 1
def yy_pb (sc : List Int) (t : xm_W) (n : Nat) (K M k fr x : Int) : Prop := ∀ (d : Nat) (m : Nat → Nat → Int), yy_vq K M k m → ∃ m', xm_X (xm_old sc) xm_mt (d + n) 1193 [.inr (.inl (some 74)), .inl (fr), .inl (x)] (yy_W (m) t) = some (some (.inl (0)), (yy_W (m') t)) ∧ yy_VP m m'
set_option maxRecDepth 20000 in
theorem yy_pb_up {sc : List Int} {t : xm_W} {n n' : Nat} {K M k fr x : Int} (hn : n ≤ n') (h : yy_pb sc t n K M k fr x) : yy_pb sc t n' K M k fr x := fun d m a => by
  obtain ⟨j, rfl⟩ : ∃ j, n' = n + j := ⟨n' - n, by omega⟩
  have := h (d + j) m a
  rw [show d + (n + j) = d + j + n by omega]
  exact this
set_option maxRecDepth 20000 in
theorem yy_VRP {m m' m'' : Nat → Nat → Int} (h : yy_VR m m') (h' : yy_VP m' m'') : yy_VP m m'' := ⟨fun c a b => by rw [h'.1 c a b, h.1 c a b], fun q a b => by rw [h'.2.1 q a b, h.2.1 q a], h'.2.2⟩
set_option maxRecDepth 20000 in
theorem yp_0 {sc : List Int} {t : xm_W} {K M k x : Int} (hM : 0 ≤ M ∧ M ≤ 9) (hne : M = k) : yy_pb sc t 3 K M k 0 x := fun d m h => by
  obtain ⟨m1, e1, f1⟩ := c_1186 (sc := sc) (d := d + 1) (t := t) (m := m) (b := 13) h.2.2.2.2.2
  have h1 := yy_vq_r h f1
  obtain ⟨hk, a1, a2, a3, a4, a5⟩ := id h1
  have f2 : yy_VP m1 (yy_s m1 74 17 1) := ⟨fun c a b => by rw [yy_s_ne a], fun q a e => by rw [yy_s_eq, yy_u_ne e], by rw [yy_s_eq, yy_u_ne (by decide)]; exact a5, by rw [yy_s_eq, yy_u_eq]⟩
  refine ⟨_, ?_, yy_VRP f1 f2⟩
  show xm_X (xm_old sc) xm_mt (d + 2 + 1) 1193 [.inr (.inl (some 74)), .inl (0), .inl (x)] (yy_W (m) t) = _
  refine xm_X_of (M := xm_m1193) rfl ⟨xm_EQ.eq (xb_1193_0 ?_), rfl, rfl, Nat.le_of_ble_eq_true rfl, yy_hd rfl (by decide)⟩
  rw [if_pos rfl, e1, xm_Ov_some, oc_1189 (d := d) h1, zf_74_16, a1, xm_w_id (z := M - k) (by omega) (by omega), if_pos (by omega), zs_74_17 rfl, if_pos (by omega)]
set_option maxRecDepth 20000 in
theorem yp_p {sc : List Int} {t : xm_W} {n : Nat} {K M k fr b x : Int} (hf : 2 ≤ fr) (hb : sp_ab fr = b) (h : yy_pb sc t (n + 1) K M k b x) : yy_pb sc t (n + 2) K M k fr x := fun d m a => by
  obtain ⟨m1, e1, f1⟩ := h d m a
  refine ⟨m1, ?_, f1⟩
  show xm_X (xm_old sc) xm_mt (d + n + 1 + 1) 1193 [.inr (.inl (some 74)), .inl (fr), .inl (x)] (yy_W (m) t) = _
  refine xm_X_of (M := xm_m1193) rfl ⟨xm_EQ.eq (xb_1193_0 ?_), rfl, rfl, Nat.le_of_ble_eq_true rfl, yy_hd rfl (by decide)⟩
  rw [if_neg (by omega), if_neg (by omega), oc_1187 (d := d + n) hb]; erw [e1]; rw [xm_Oi_some]
set_option maxRecDepth 20000 in
theorem yp_1 {sc : List Int} {t : xm_W} {K M k x : Int} (hM : 0 ≤ M ∧ M ≤ 9) (hne : M = k) : yy_pb sc t 4 K M k 1 x := fun d m h => by
  obtain ⟨m1, e1, f1⟩ := c_1186 (sc := sc) (d := d + 2) (t := t) (m := m) (b := 21) h.2.2.2.2.2
  obtain ⟨m2, e2, f2⟩ := (yp_0 (sc := sc) (t := t) (K := K) (x := x) hM hne) d m1 (yy_vq_r h f1)
  refine ⟨m2, ?_, yy_VRP f1 f2⟩
  show xm_X (xm_old sc) xm_mt (d + 3 + 1) 1193 [.inr (.inl (some 74)), .inl (1), .inl (x)] (yy_W (m) t) = _
  refine xm_X_of (M := xm_m1193) rfl ⟨xm_EQ.eq (xb_1193_0 ?_), rfl, rfl, Nat.le_of_ble_eq_true rfl, yy_hd rfl (by decide)⟩
  rw [if_neg (by decide), if_pos rfl, e1, xm_Ov_some, oc_1187 (d := d + 2) (a := 1) (b := 0) rfl]; erw [e2]; rw [xm_Oi_some, zf_74_17, if_neg (by rw [f2.2.2.2]; decide)]
set_option maxRecDepth 20000 in
theorem yp {sc : List Int} {t : xm_W} {K M k fr x : Int} (hf : 0 ≤ fr ∧ fr ≤ 6) (hM : 0 ≤ M ∧ M ≤ 9) (hne : M = k) : yy_pb sc t 5 K M k fr x := by
  rcases (show fr = 0 ∨ fr = 1 ∨ fr = 2 ∨ fr = 3 ∨ fr = 4 ∨ fr = 5 ∨ fr = 6 by omega) with q | q | q | q | q | q | q <;> subst q
  · exact yy_pb_up (by decide) (yp_0 hM hne)
  · exact yy_pb_up (by decide) (yp_1 hM hne)
  · exact yy_pb_up (by decide) (yp_p (n := 2) (b := 0) (by decide) rfl (yp_0 hM hne))
  · exact yy_pb_up (by decide) (yp_p (n := 2) (b := 0) (by decide) rfl (yp_0 hM hne))
  · exact yp_p (n := 3) (b := 1) (by decide) rfl (yp_1 hM hne)
  · exact yp_p (n := 3) (b := 2) (by decide) rfl (yp_p (n := 2) (b := 0) (by decide) rfl (yp_0 hM hne))
  · exact yy_pb_up (by decide) (yp_p (n := 2) (b := 0) (by decide) rfl (yp_0 hM hne))
end
section
/-! VOICES: both sides -/
def sp_vo (v k K M x : Int) : Int := if v = 0 then sp_vr k K x else if v = 1 then sp_vs k K M K x else if v = 2 then sp_vk k K M K x else sp_vp k K M K x
set_option maxRecDepth 20000 in
theorem yy_sayv {sc : List Int} {t : xm_W} {K M k v x : Int} (ht : t.length < 900000) (hK : 0 ≤ K ∧ K ≤ 6) (hM : 0 ≤ M ∧ M ≤ 9) (hk : 0 ≤ k ∧ k ≤ 4) (hv : 0 ≤ v ∧ v ≤ 3) (hne : v = 3 → ¬ M = k) : yy_say sc t 16 30 K M k K v x (sp_vo v k K M x) := by
  unfold sp_vo
  rcases (show v = 0 ∨ v = 1 ∨ v = 2 ∨ v = 3 by omega) with q | q | q | q <;> subst q
  · rw [if_pos rfl]; exact yy_say_up (by decide) (by decide) (yy_rv ht hK)
  · rw [if_neg (by decide), if_pos rfl]; exact yy_say_up (by decide) (by decide) (yy_sv ht hK hK)
  · rw [if_neg (by decide), if_neg (by decide), if_pos rfl]; exact yy_say_up (by decide) (by decide) (yy_kv ht hK hK)
  · rw [if_neg (by decide), if_neg (by decide), if_neg (by decide)]; exact yy_say_up (by decide) (by decide) (yy_pv ht hK hK hM hk (hne rfl))
set_option maxRecDepth 20000 in
theorem c_802 {sc : List Int} {d : Nat} {t : xm_W} {m : Nat → Nat → Int} {r : Nat} {k v x z : Int} (hq : yy_rd r) (h61 : r ≠ 61) (h : yy_say sc t 16 30 (m r 0) (m r 1) k (m r 0) v x z) : ∃ m', xm_X (xm_old sc) xm_mt (d + 17) 802 [.inr (.inl (some 61)), .inr (.inl (some r)), .inl (k), .inl (v), .inl (x)] (yy_W m t) = some (some (.inl (z)), yy_W m' t) ∧ (∀ c, c ≠ 61 → c ≠ 62 → m' c = m c) ∧ (0 ≤ m' 61 1 ∧ m' 61 1 ≤ 30) := by
  have key : ∀ {Q : Option xm_V × xm_W → Prop}, (∀ m', ((∀ c, c ≠ 61 → c ≠ 62 → m' c = m c) ∧ (0 ≤ m' 61 1 ∧ m' 61 1 ≤ 30)) → Q (some (.inl (z)), yy_W m' t)) → xm_EQ (xm_old sc) xm_sta (xm_X (xm_old sc) xm_mt (d + 16)) xm_m802.2.2.2.2.2.2.2 0 (xm_loc xm_m802.2.2.1 [.inr (.inl (some 61)), .inr (.inl (some r)), .inl (k), .inl (v), .inl (x)]) [] (yy_W m t) Q := by
    intro Q hQ
    refine xb_802_0 ?_
    obtain ⟨m1, e, f1, f2, f3⟩ := h d (yy_s (yy_s (yy_s (yy_s m 61 2 (m r 0)) 61 3 (m r 1)) 61 4 k) 61 1 0) 0 (by simp (disch := first | omega | (unfold xm_w; omega)) only [↓zy_at, xm_O_some, xm_Oi_some, xm_Ov_some, xm_Oq_some, ↓reduceIte, ↓zz_t, ↓zz_f, ↓zi_t, ↓zi_f, eq_self, yy_d_0, Int.reduceEq, Int.reduceLT, Int.reduceLE, Int.reduceNe, Int.reduceToNat, Int.reduceAdd, Int.reduceSub, Int.reduceMul, Int.reduceNeg, Nat.reduceAdd, Nat.reduceMul, Nat.reduceSub, Nat.reduceEqDiff, Nat.reduceLT, ne_eq, not_false_eq_true, not_true_eq_false, true_and, and_true, and_self, yy_s_eq, yy_s_ne, yy_c_eq, yy_c_ne, yy_u_eq, yy_u_ne, xm_w_id, yy_at, tdiv_pos, tmod_pos]) (by simp (disch := first | omega | (unfold xm_w; omega)) only [↓zy_at, xm_O_some, xm_Oi_some, xm_Ov_some, xm_Oq_some, ↓reduceIte, ↓zz_t, ↓zz_f, ↓zi_t, ↓zi_f, eq_self, yy_d_0, Int.reduceEq, Int.reduceLT, Int.reduceLE, Int.reduceNe, Int.reduceToNat, Int.reduceAdd, Int.reduceSub, Int.reduceMul, Int.reduceNeg, Nat.reduceAdd, Nat.reduceMul, Nat.reduceSub, Nat.reduceEqDiff, Nat.reduceLT, ne_eq, not_false_eq_true, not_true_eq_false, true_and, and_true, and_self, yy_s_eq, yy_s_ne, yy_c_eq, yy_c_ne, yy_u_eq, yy_u_ne, xm_w_id, yy_at, tdiv_pos, tmod_pos]) (by simp (disch := first | omega | (unfold xm_w; omega)) only [↓zy_at, xm_O_some, xm_Oi_some, xm_Ov_some, xm_Oq_some, ↓reduceIte, ↓zz_t, ↓zz_f, ↓zi_t, ↓zi_f, eq_self, yy_d_0, Int.reduceEq, Int.reduceLT, Int.reduceLE, Int.reduceNe, Int.reduceToNat, Int.reduceAdd, Int.reduceSub, Int.reduceMul, Int.reduceNeg, Nat.reduceAdd, Nat.reduceMul, Nat.reduceSub, Nat.reduceEqDiff, Nat.reduceLT, ne_eq, not_false_eq_true, not_true_eq_false, true_and, and_true, and_self, yy_s_eq, yy_s_ne, yy_c_eq, yy_c_ne, yy_u_eq, yy_u_ne, xm_w_id, yy_at, tdiv_pos, tmod_pos]) (by decide) (by simp (disch := first | omega | (unfold xm_w; omega)) only [↓zy_at, xm_O_some, xm_Oi_some, xm_Ov_some, xm_Oq_some, ↓reduceIte, ↓zz_t, ↓zz_f, ↓zi_t, ↓zi_f, eq_self, yy_d_0, Int.reduceEq, Int.reduceLT, Int.reduceLE, Int.reduceNe, Int.reduceToNat, Int.reduceAdd, Int.reduceSub, Int.reduceMul, Int.reduceNeg, Nat.reduceAdd, Nat.reduceMul, Nat.reduceSub, Nat.reduceEqDiff, Nat.reduceLT, ne_eq, not_false_eq_true, not_true_eq_false, true_and, and_true, and_self, yy_s_eq, yy_s_ne, yy_c_eq, yy_c_ne, yy_u_eq, yy_u_ne, xm_w_id, yy_at, tdiv_pos, tmod_pos])
    rw [gf_0 hq, zs_61_2, gf_1 hq, yy_s_ne h61, zs_61_3, zs_61_4, zs_61_1, zf_61_2]
    rw [show yy_s (yy_s (yy_s (yy_s m 61 2 (m r 0)) 61 3 (m r 1)) 61 4 k) 61 1 0 61 2 = m r 0 by simp (disch := first | omega | (unfold xm_w; omega)) only [↓zy_at, xm_O_some, xm_Oi_some, xm_Ov_some, xm_Oq_some, ↓reduceIte, ↓zz_t, ↓zz_f, ↓zi_t, ↓zi_f, eq_self, yy_d_0, Int.reduceEq, Int.reduceLT, Int.reduceLE, Int.reduceNe, Int.reduceToNat, Int.reduceAdd, Int.reduceSub, Int.reduceMul, Int.reduceNeg, Nat.reduceAdd, Nat.reduceMul, Nat.reduceSub, Nat.reduceEqDiff, Nat.reduceLT, ne_eq, not_false_eq_true, not_true_eq_false, true_and, and_true, and_self, yy_s_eq, yy_s_ne, yy_c_eq, yy_c_ne, yy_u_eq, yy_u_ne, xm_w_id, yy_at, tdiv_pos, tmod_pos], e, xm_Oi_some]
    exact hQ m1 ⟨fun c a b => by rw [f1 c a b, yy_s_ne a, yy_s_ne a, yy_s_ne a, yy_s_ne a], f3⟩
  obtain ⟨q, h1, m', h2, h3⟩ := yx_of (y := 802) (M := xm_m802) (sc := sc) (d := d + 16) (as := [.inr (.inl (some 61)), .inr (.inl (some r)), .inl (k), .inl (v), .inl (x)]) (w := yy_W m t) (Q := fun q => ∃ m', q = (some (.inl (z)), yy_W m' t) ∧ ((∀ c, c ≠ 61 → c ≠ 62 → m' c = m c) ∧ (0 ≤ m' 61 1 ∧ m' 61 1 ≤ 30))) rfl (key fun m' h => ⟨m', rfl, h⟩) (fun q ⟨m', h, _⟩ => by rw [h]; rfl) rfl (Nat.le_of_ble_eq_true rfl) (yy_hd rfl (by decide))
  exact ⟨m', by rw [h1, h2], h3⟩
set_option maxRecDepth 20000 in
theorem c_1194 {sc : List Int} {d : Nat} {t : xm_W} {m : Nat → Nat → Int} {r : Nat} {v x : Int} (hr : r < 5) (h0 : 0 ≤ m 75 0) (h1 : m 75 0 ≤ 5) (h : (r : Int) ≤ m 75 0 - 1) (hv : 0 ≤ v ∧ v ≤ 3) (hK : 0 ≤ m 75 (44 + 18 * r) ∧ m 75 (44 + 18 * r) ≤ 6) (hM : 0 ≤ m 75 (45 + 18 * r) ∧ m 75 (45 + 18 * r) ≤ 9) (hne : v = 3 → ¬ m 75 (45 + 18 * r) = r) : ∃ m', xm_X (xm_old sc) xm_mt (d + 12) 1194 [.inr (.inl (some 74)), .inl ((r : Int)), .inl (v), .inl (x)] (yy_W m t) = some (some (.inl (sp_vo v r (m 75 (44 + 18 * r)) (m 75 (45 + 18 * r)) x)), yy_W m' t) ∧ (∀ c, c ≠ 74 → c ≠ 82 → m' c = m c) ∧ (∀ q, q ≠ 15 → q ≠ 16 → q ≠ 17 → m' 74 q = m 74 q) ∧ (0 ≤ m' 74 15 ∧ m' 74 15 ≤ 30) := by
  have key : ∀ {Q : Option xm_V × xm_W → Prop}, (∀ m', ((∀ c, c ≠ 74 → c ≠ 82 → m' c = m c) ∧ (∀ q, q ≠ 15 → q ≠ 16 → q ≠ 17 → m' 74 q = m 74 q) ∧ (0 ≤ m' 74 15 ∧ m' 74 15 ≤ 30)) → Q (some (.inl (sp_vo v r (m 75 (44 + 18 * r)) (m 75 (45 + 18 * r)) x)), yy_W m' t)) → xm_EQ (xm_old sc) xm_sta (xm_X (xm_old sc) xm_mt (d + 11)) xm_m1194.2.2.2.2.2.2.2 0 (xm_loc xm_m1194.2.2.1 [.inr (.inl (some 74)), .inl ((r : Int)), .inl (v), .inl (x)]) [] (yy_W m t) Q := by
    intro Q hQ
    refine xb_1194_0 ?_
    rw [oc_1109 (d := d + 9) h0 h1, zz_t ⟨by omega, by omega⟩, oc_1103 (d := d + 10), zz_t hv, zs_74_15, zs_74_16, zs_74_17 rfl]
    have e75 : yy_s (yy_s (yy_s m 74 15 0) 74 16 (r : Int)) 74 17 0 75 = m 75 := by simp (disch := first | omega | (unfold xm_w; omega)) only [↓zy_at, xm_O_some, xm_Oi_some, xm_Ov_some, xm_Oq_some, ↓reduceIte, ↓zz_t, ↓zz_f, ↓zi_t, ↓zi_f, eq_self, yy_d_0, Int.reduceEq, Int.reduceLT, Int.reduceLE, Int.reduceNe, Int.reduceToNat, Int.reduceAdd, Int.reduceSub, Int.reduceMul, Int.reduceNeg, Nat.reduceAdd, Nat.reduceMul, Nat.reduceSub, Nat.reduceEqDiff, Nat.reduceLT, ne_eq, not_false_eq_true, not_true_eq_false, true_and, and_true, and_self, yy_s_eq, yy_s_ne, yy_c_eq, yy_c_ne, yy_u_eq, yy_u_ne, xm_w_id, yy_at, tdiv_pos, tmod_pos]
    have hm : yy_vq (m 75 (44 + 18 * r)) (m 75 (45 + 18 * r)) r (yy_s (yy_s (yy_s m 74 15 0) 74 16 (r : Int)) 74 17 0) := ⟨by omega, by simp (disch := first | omega | (unfold xm_w; omega)) only [↓zy_at, xm_O_some, xm_Oi_some, xm_Ov_some, xm_Oq_some, ↓reduceIte, ↓zz_t, ↓zz_f, ↓zi_t, ↓zi_f, eq_self, yy_d_0, Int.reduceEq, Int.reduceLT, Int.reduceLE, Int.reduceNe, Int.reduceToNat, Int.reduceAdd, Int.reduceSub, Int.reduceMul, Int.reduceNeg, Nat.reduceAdd, Nat.reduceMul, Nat.reduceSub, Nat.reduceEqDiff, Nat.reduceLT, ne_eq, not_false_eq_true, not_true_eq_false, true_and, and_true, and_self, yy_s_eq, yy_s_ne, yy_c_eq, yy_c_ne, yy_u_eq, yy_u_ne, xm_w_id, yy_at, tdiv_pos, tmod_pos], by rw [e75, show (44 + 18 * (r : Int) + 0).toNat = 44 + 18 * r by omega], by rw [e75, show (44 + 18 * (r : Int) + 1).toNat = 45 + 18 * r by omega], by simp (disch := first | omega | (unfold xm_w; omega)) only [↓zy_at, xm_O_some, xm_Oi_some, xm_Ov_some, xm_Oq_some, ↓reduceIte, ↓zz_t, ↓zz_f, ↓zi_t, ↓zi_f, eq_self, yy_d_0, Int.reduceEq, Int.reduceLT, Int.reduceLE, Int.reduceNe, Int.reduceToNat, Int.reduceAdd, Int.reduceSub, Int.reduceMul, Int.reduceNeg, Nat.reduceAdd, Nat.reduceMul, Nat.reduceSub, Nat.reduceEqDiff, Nat.reduceLT, ne_eq, not_false_eq_true, not_true_eq_false, true_and, and_true, and_self, yy_s_eq, yy_s_ne, yy_c_eq, yy_c_ne, yy_u_eq, yy_u_ne, xm_w_id, yy_at, tdiv_pos, tmod_pos], by simp (disch := first | omega | (unfold xm_w; omega)) only [↓zy_at, xm_O_some, xm_Oi_some, xm_Ov_some, xm_Oq_some, ↓reduceIte, ↓zz_t, ↓zz_f, ↓zi_t, ↓zi_f, eq_self, yy_d_0, Int.reduceEq, Int.reduceLT, Int.reduceLE, Int.reduceNe, Int.reduceToNat, Int.reduceAdd, Int.reduceSub, Int.reduceMul, Int.reduceNeg, Nat.reduceAdd, Nat.reduceMul, Nat.reduceSub, Nat.reduceEqDiff, Nat.reduceLT, ne_eq, not_false_eq_true, not_true_eq_false, true_and, and_true, and_self, yy_s_eq, yy_s_ne, yy_c_eq, yy_c_ne, yy_u_eq, yy_u_ne, xm_w_id, yy_at, tdiv_pos, tmod_pos]⟩
    generalize e1 : yy_s (yy_s (yy_s m 74 15 0) 74 16 (r : Int)) 74 17 0 = m1 at hm e75
    have g1 : ∀ c, c ≠ 74 → m1 c = m c := fun c hc => by rw [← e1, yy_s_ne hc, yy_s_ne hc, yy_s_ne hc]
    have g2 : ∀ q, q ≠ 15 → q ≠ 16 → q ≠ 17 → m1 74 q = m 74 q := fun q a b c => by rw [← e1, yy_s_eq, yy_u_ne c, yy_s_eq, yy_u_ne b, yy_s_eq, yy_u_ne a]
    have fin : ∀ m', yy_VR m1 m' → ((∀ c, c ≠ 74 → c ≠ 82 → m' c = m c) ∧ (∀ q, q ≠ 15 → q ≠ 16 → q ≠ 17 → m' 74 q = m 74 q) ∧ (0 ≤ m' 74 15 ∧ m' 74 15 ≤ 30)) ∧ m' 74 17 = 0 := fun m' f => ⟨⟨fun c a b => by rw [f.1 c a b, g1 c a], fun q a b c => by rw [f.2.1 q a, g2 q a b c], f.2.2⟩, by rw [f.2.1 17 (by decide)]; exact hm.2.2.2.2.1⟩
    rw [oc_1188 (d := d + 9) hm]
    revert hQ
    unfold sp_vo
    intro hQ
    rcases (show v = 0 ∨ v = 1 ∨ v = 2 ∨ v = 3 by omega) with q | q | q | q <;> subst q
    · obtain ⟨m', e, f⟩ := (yy_rb_up (n' := 11) (by decide) (y90 (sc := sc) (t := t) (x := x) hK)) d m1 hm
      rw [if_pos rfl] at hQ
      rw [if_pos rfl]; erw [e]; rw [xm_Oi_some, zf_74_17, if_pos (fin m' f).2]
      exact hQ m' (fin m' f).1
    · obtain ⟨m', e, f⟩ := (yy_rb_up (n' := 11) (by decide) (y91 (sc := sc) (t := t) (x := x) hK hK)) d m1 hm
      rw [if_neg (by decide), if_pos rfl] at hQ
      rw [if_neg (by decide), if_pos rfl]; erw [e]; rw [xm_Oi_some, zf_74_17, if_pos (fin m' f).2]
      exact hQ m' (fin m' f).1
    · obtain ⟨m', e, f⟩ := (yy_rb_up (n' := 11) (by decide) (y92 (sc := sc) (t := t) (x := x) hK hK)) d m1 hm
      rw [if_neg (by decide), if_neg (by decide), if_pos rfl] at hQ
      rw [if_neg (by decide), if_neg (by decide), if_pos rfl]; erw [e]; rw [xm_Oi_some, zf_74_17, if_pos (fin m' f).2]
      exact hQ m' (fin m' f).1
    · obtain ⟨m', e, f⟩ := (yy_rb_up (n' := 11) (by decide) (y93 (sc := sc) (t := t) (x := x) hK hK hM (hne rfl))) d m1 hm
      rw [if_neg (by decide), if_neg (by decide), if_neg (by decide)] at hQ
      rw [if_neg (by decide), if_neg (by decide), if_neg (by decide)]; erw [e]; rw [xm_Oi_some, zf_74_17, if_pos (fin m' f).2]
      exact hQ m' (fin m' f).1
  obtain ⟨q, h1, m', h2, h3⟩ := yx_of (y := 1194) (M := xm_m1194) (sc := sc) (d := d + 11) (as := [.inr (.inl (some 74)), .inl ((r : Int)), .inl (v), .inl (x)]) (w := yy_W m t) (Q := fun q => ∃ m', q = (some (.inl (sp_vo v r (m 75 (44 + 18 * r)) (m 75 (45 + 18 * r)) x)), yy_W m' t) ∧ ((∀ c, c ≠ 74 → c ≠ 82 → m' c = m c) ∧ (∀ q, q ≠ 15 → q ≠ 16 → q ≠ 17 → m' 74 q = m 74 q) ∧ (0 ≤ m' 74 15 ∧ m' 74 15 ≤ 30))) rfl (key fun m' h => ⟨m', rfl, h⟩) (fun q ⟨m', h, _⟩ => by rw [h]; rfl) rfl (Nat.le_of_ble_eq_true rfl) (yy_hd rfl (by decide))
  exact ⟨m', by rw [h1, h2], h3⟩
set_option maxRecDepth 20000 in
theorem c_1194p {sc : List Int} {d : Nat} {t : xm_W} {m : Nat → Nat → Int} {r : Nat} {x : Int} (hr : r < 5) (h0 : 0 ≤ m 75 0) (h1 : m 75 0 ≤ 5) (h : (r : Int) ≤ m 75 0 - 1) (hK : 0 ≤ m 75 (44 + 18 * r) ∧ m 75 (44 + 18 * r) ≤ 6) (hM : 0 ≤ m 75 (45 + 18 * r) ∧ m 75 (45 + 18 * r) ≤ 9) (hne : m 75 (45 + 18 * r) = r) : ∃ m', xm_X (xm_old sc) xm_mt (d + 12) 1194 [.inr (.inl (some 74)), .inl ((r : Int)), .inl (3), .inl (x)] (yy_W m t) = some (some (.inl (-1000000006)), yy_W m' t) ∧ (∀ c, c ≠ 74 → c ≠ 82 → c ≠ 78 → m' c = m c) ∧ (∀ q, q ≠ 15 → q ≠ 16 → q ≠ 17 → m' 74 q = m 74 q) ∧ (0 ≤ m' 74 15 ∧ m' 74 15 ≤ 30) := by
  have key : ∀ {Q : Option xm_V × xm_W → Prop}, (∀ m', ((∀ c, c ≠ 74 → c ≠ 82 → c ≠ 78 → m' c = m c) ∧ (∀ q, q ≠ 15 → q ≠ 16 → q ≠ 17 → m' 74 q = m 74 q) ∧ (0 ≤ m' 74 15 ∧ m' 74 15 ≤ 30)) → Q (some (.inl (-1000000006)), yy_W m' t)) → xm_EQ (xm_old sc) xm_sta (xm_X (xm_old sc) xm_mt (d + 11)) xm_m1194.2.2.2.2.2.2.2 0 (xm_loc xm_m1194.2.2.1 [.inr (.inl (some 74)), .inl ((r : Int)), .inl (3), .inl (x)]) [] (yy_W m t) Q := by
    intro Q hQ
    refine xb_1194_0 ?_
    rw [oc_1109 (d := d + 9) h0 h1, zz_t ⟨by omega, by omega⟩, oc_1103 (d := d + 10), zz_t ⟨by decide, by decide⟩, zs_74_15, zs_74_16, zs_74_17 rfl]
    have e75 : yy_s (yy_s (yy_s m 74 15 0) 74 16 (r : Int)) 74 17 0 75 = m 75 := by simp (disch := first | omega | (unfold xm_w; omega)) only [↓zy_at, xm_O_some, xm_Oi_some, xm_Ov_some, xm_Oq_some, ↓reduceIte, ↓zz_t, ↓zz_f, ↓zi_t, ↓zi_f, eq_self, yy_d_0, Int.reduceEq, Int.reduceLT, Int.reduceLE, Int.reduceNe, Int.reduceToNat, Int.reduceAdd, Int.reduceSub, Int.reduceMul, Int.reduceNeg, Nat.reduceAdd, Nat.reduceMul, Nat.reduceSub, Nat.reduceEqDiff, Nat.reduceLT, ne_eq, not_false_eq_true, not_true_eq_false, true_and, and_true, and_self, yy_s_eq, yy_s_ne, yy_c_eq, yy_c_ne, yy_u_eq, yy_u_ne, xm_w_id, yy_at, tdiv_pos, tmod_pos]
    have hm : yy_vq (m 75 (44 + 18 * r)) (m 75 (45 + 18 * r)) r (yy_s (yy_s (yy_s m 74 15 0) 74 16 (r : Int)) 74 17 0) := ⟨by omega, by simp (disch := first | omega | (unfold xm_w; omega)) only [↓zy_at, xm_O_some, xm_Oi_some, xm_Ov_some, xm_Oq_some, ↓reduceIte, ↓zz_t, ↓zz_f, ↓zi_t, ↓zi_f, eq_self, yy_d_0, Int.reduceEq, Int.reduceLT, Int.reduceLE, Int.reduceNe, Int.reduceToNat, Int.reduceAdd, Int.reduceSub, Int.reduceMul, Int.reduceNeg, Nat.reduceAdd, Nat.reduceMul, Nat.reduceSub, Nat.reduceEqDiff, Nat.reduceLT, ne_eq, not_false_eq_true, not_true_eq_false, true_and, and_true, and_self, yy_s_eq, yy_s_ne, yy_c_eq, yy_c_ne, yy_u_eq, yy_u_ne, xm_w_id, yy_at, tdiv_pos, tmod_pos], by rw [e75, show (44 + 18 * (r : Int) + 0).toNat = 44 + 18 * r by omega], by rw [e75, show (44 + 18 * (r : Int) + 1).toNat = 45 + 18 * r by omega], by simp (disch := first | omega | (unfold xm_w; omega)) only [↓zy_at, xm_O_some, xm_Oi_some, xm_Ov_some, xm_Oq_some, ↓reduceIte, ↓zz_t, ↓zz_f, ↓zi_t, ↓zi_f, eq_self, yy_d_0, Int.reduceEq, Int.reduceLT, Int.reduceLE, Int.reduceNe, Int.reduceToNat, Int.reduceAdd, Int.reduceSub, Int.reduceMul, Int.reduceNeg, Nat.reduceAdd, Nat.reduceMul, Nat.reduceSub, Nat.reduceEqDiff, Nat.reduceLT, ne_eq, not_false_eq_true, not_true_eq_false, true_and, and_true, and_self, yy_s_eq, yy_s_ne, yy_c_eq, yy_c_ne, yy_u_eq, yy_u_ne, xm_w_id, yy_at, tdiv_pos, tmod_pos], by simp (disch := first | omega | (unfold xm_w; omega)) only [↓zy_at, xm_O_some, xm_Oi_some, xm_Ov_some, xm_Oq_some, ↓reduceIte, ↓zz_t, ↓zz_f, ↓zi_t, ↓zi_f, eq_self, yy_d_0, Int.reduceEq, Int.reduceLT, Int.reduceLE, Int.reduceNe, Int.reduceToNat, Int.reduceAdd, Int.reduceSub, Int.reduceMul, Int.reduceNeg, Nat.reduceAdd, Nat.reduceMul, Nat.reduceSub, Nat.reduceEqDiff, Nat.reduceLT, ne_eq, not_false_eq_true, not_true_eq_false, true_and, and_true, and_self, yy_s_eq, yy_s_ne, yy_c_eq, yy_c_ne, yy_u_eq, yy_u_ne, xm_w_id, yy_at, tdiv_pos, tmod_pos]⟩
    generalize e1 : yy_s (yy_s (yy_s m 74 15 0) 74 16 (r : Int)) 74 17 0 = m1 at hm e75
    have g1 : ∀ c, c ≠ 74 → m1 c = m c := fun c hc => by rw [← e1, yy_s_ne hc, yy_s_ne hc, yy_s_ne hc]
    have g2 : ∀ q, q ≠ 15 → q ≠ 16 → q ≠ 17 → m1 74 q = m 74 q := fun q a b c => by rw [← e1, yy_s_eq, yy_u_ne c, yy_s_eq, yy_u_ne b, yy_s_eq, yy_u_ne a]
    rw [oc_1188 (d := d + 9) hm]
    obtain ⟨m', e, f⟩ := (yy_pb_up (n' := 11) (by decide) (yp (sc := sc) (t := t) (x := x) hK hM hne)) d m1 hm
    rw [if_neg (by decide), if_neg (by decide), if_neg (by decide)]; erw [e]; rw [xm_Oi_some, zf_74_17, if_neg (by rw [f.2.2.2]; decide), oc_1102 (d := d + 10) (by decide) (by decide)]
    refine hQ (yy_f m' 6) ⟨fun c a b k => ?_, fun q a b c => ?_, ?_⟩
    · unfold yy_f; rw [yy_s_ne k, f.1 c a b, g1 c a]
    · unfold yy_f; rw [yy_s_ne (by decide), f.2.1 q a c, g2 q a b c]
    · unfold yy_f; rw [yy_s_ne (by decide)]; exact f.2.2.1
  obtain ⟨q, h1, m', h2, h3⟩ := yx_of (y := 1194) (M := xm_m1194) (sc := sc) (d := d + 11) (as := [.inr (.inl (some 74)), .inl ((r : Int)), .inl (3), .inl (x)]) (w := yy_W m t) (Q := fun q => ∃ m', q = (some (.inl (-1000000006)), yy_W m' t) ∧ ((∀ c, c ≠ 74 → c ≠ 82 → c ≠ 78 → m' c = m c) ∧ (∀ q, q ≠ 15 → q ≠ 16 → q ≠ 17 → m' 74 q = m 74 q) ∧ (0 ≤ m' 74 15 ∧ m' 74 15 ≤ 30))) rfl (key fun m' h => ⟨m', rfl, h⟩) (fun q ⟨m', h, _⟩ => by rw [h]; rfl) rfl (Nat.le_of_ble_eq_true rfl) (yy_hd rfl (by decide))
  exact ⟨m', by rw [h1, h2], h3⟩
set_option maxRecDepth 20000 in
theorem a_126 {sc : List Int} {t : xm_W} {m : Nat → Nat → Int} {x1 x2 x3 : Int} (ht : t.length < 900000) (hI : yy_I t m) : yy_A sc t m 126 1194 [.inl x1, .inl x2, .inl x3] true := by
  by_cases h : 0 ≤ x1 ∧ x1 ≤ m 1 4 - 1
  · by_cases hv : 0 ≤ x2 ∧ x2 ≤ 3
    · obtain ⟨⟨e0, e3, e1, e2⟩, hR⟩ := yy_I_0 hI
      obtain ⟨a0, a1, a2, a3, a4, a5⟩ := id hR
      obtain ⟨r, rfl⟩ : ∃ r : Nat, x1 = r := ⟨x1.toNat, by omega⟩
      have hr5 : r < 5 := by omega
      obtain ⟨b0, b1, b2, b3, b4, b5, b6⟩ := a5 r hr5
      have g7 := hI.2.1.1.2.2.2.2.2.2
      have hq := yy_rdn8 hr5
      have er : ((r : Int)).toNat = r := Int.toNat_natCast r
      have f0 : m (8 + 2 * r) 0 = m 75 (44 + 18 * r) := (g7 r hr5).1 0 (by decide)
      have f1 : m (8 + 2 * r) 1 = m 75 (45 + 18 * r) := by rw [(g7 r hr5).1 1 (by decide)]; congr 1; omega
      have s3 := hI.2.2.2.2.2
      by_cases hp : x2 = 3 ∧ m 75 (45 + 18 * r) = r
      · obtain ⟨rfl, hp⟩ := hp
        have X1 : xm_X (xm_old sc) xm_mt (99 + 1) 126 [.inr (.inl (some 0)), .inl (r : Int), .inl 3, .inl x3] (yy_W m t) = some (some (.inl (-1000000006)), yy_W (yy_e m 6) t) := by
          refine xm_X_of (M := xm_m126) rfl ⟨xm_EQ.eq (xb_126_0 ?_), rfl, rfl, Nat.le_of_ble_eq_true rfl, yy_hd rfl (by decide)⟩
          rw [oc_141 (d := 97) (by omega) (by omega), zz_t h, oc_142 (d := 98), zz_t hv, if_pos rfl, zr_0_0, zr_1_3, zq_3, zq_r1 (by omega) (by omega), er, xm_O_some, gf_1 hq, f1, if_pos hp, oc_139 (d := 98) (by decide) (by decide)]
          rfl
        have f : ∀ c, c ≠ 65 → yy_e m 6 c = m c := fun c hc => yy_e75 hc
        have e75 := f 75 (by decide)
        obtain ⟨m2, X2, k1, k2, k3⟩ := c_1194p (sc := sc) (d := 88) (t := t) (m := yy_e m 6) (r := r) (x := x3) hr5 (by rw [e75]; omega) (by rw [e75]; omega) (by rw [e75]; omega) (by rw [e75]; exact b0) (by rw [e75]; exact b1) (by rw [e75]; exact hp)
        refine yy_Ao X1 X2 (yy_I_no (fun c hc hn c1 c2 => ?_) ?_ ?_ ?_ k3 hI) ?_ rfl
        · unfold yy_no at hn; rw [k1 c c2 (by omega) (by omega), f c (by omega)]
        · rw [k1 61 (by decide) (by decide) (by decide), f 61 (by decide)]; exact s3.2.1
        · rw [k2 3 (by decide) (by decide) (by decide), f 74 (by decide)]
        · rw [k2 4 (by decide) (by decide) (by decide), f 74 (by decide)]
        · rw [k1 0 (by decide) (by decide) (by decide), f 0 (by decide)]
      · have hs := yy_sayv (sc := sc) (t := t) (K := m (8 + 2 * r) 0) (M := m (8 + 2 * r) 1) (k := r) (v := x2) (x := x3) ht (by rw [f0]; exact b0) (by rw [f1]; exact b1) (by omega) hv (by rw [f1]; omega)
        obtain ⟨m1, e, k1, k2⟩ := c_802 (sc := sc) (d := 82) (t := t) (m := m) hq (by omega) hs
        have X1 : xm_X (xm_old sc) xm_mt (99 + 1) 126 [.inr (.inl (some 0)), .inl (r : Int), .inl x2, .inl x3] (yy_W m t) = some (some (.inl (sp_vo x2 r (m (8 + 2 * r) 0) (m (8 + 2 * r) 1) x3)), yy_W m1 t) := by
          refine xm_X_of (M := xm_m126) rfl ⟨xm_EQ.eq (xb_126_0 ?_), rfl, rfl, Nat.le_of_ble_eq_true rfl, yy_hd rfl (by decide)⟩
          rw [oc_141 (d := 97) (by omega) (by omega), zz_t h, oc_142 (d := 98), zz_t hv]
          by_cases h3 : x2 = 3
          · rw [if_pos h3, zr_0_0, zr_1_3, zq_3, zq_r1 (by omega) (by omega), er, xm_O_some, gf_1 hq, f1, if_neg (by omega), zr_0_7, zr_0_0, zr_1_3, zq_3, zq_r1 (by omega) (by omega), er]
            erw [e]; rw [xm_Oi_some, f1]
          · rw [if_neg h3, zr_0_7, zr_0_0, zr_1_3, zq_3, zq_r1 (by omega) (by omega), er]
            erw [e]; rw [xm_Oi_some]
        have e75 : m1 75 = m 75 := k1 75 (by decide) (by decide)
        have e74 : m1 74 = m 74 := k1 74 (by decide) (by decide)
        obtain ⟨m2, X2, p1, p2, p3⟩ := c_1194 (sc := sc) (d := 88) (t := t) (m := m1) (r := r) (v := x2) (x := x3) hr5 (by rw [e75]; omega) (by rw [e75]; omega) (by rw [e75]; omega) hv (by rw [e75]; exact b0) (by rw [e75]; exact b1) (by rw [e75]; omega)
        refine yy_Ao X1 X2 (yy_I_no (fun c hc hn c1 c2 => ?_) ?_ ?_ ?_ p3 hI) ?_ (by rw [f0, f1, e75])
        · unfold yy_no at hn; rw [p1 c c2 (by omega), k1 c c1 (by omega)]
        · rw [p1 61 (by decide) (by decide)]; exact k2
        · rw [p2 3 (by decide) (by decide) (by decide), e74]
        · rw [p2 4 (by decide) (by decide) (by decide), e74]
        · rw [p1 0 (by decide) (by decide), k1 0 (by decide) (by decide)]
    · exact r_126 hI (fun g => hv g.2)
  · exact r_126 hI (fun g => h g.1)
end
section
/-! NAMES of the texts: String.indexOf -/
set_option maxRecDepth 20000 in
theorem zo_get {sc : List Int} {t : xm_W} {m : Nat → Nat → Int} (k : Nat) (ht : t.length < 900000) : xm_get (xm_old sc) (yy_W m t) (1000000 + k) = (xm_old sc)[k]? := xo_get (by rw [yy_W_len]; omega)
set_option maxRecDepth 20000 in
theorem c_1504 {sc : List Int} {d : Nat} {t : xm_W} {m : Nat → Nat → Int} {x : Int} (h : 0 ≤ x ∧ x ≤ 255) : xm_X (xm_old sc) xm_mt (d + 1) 1504 [.inl (x)] (yy_W (m) t) = some (some (.inl (1)), (yy_W (m) t)) := by
  refine xm_X_of (M := xm_m1504) rfl ⟨xm_EQ.eq (xb_1504_0 ?_), rfl, rfl, Nat.le_of_ble_eq_true rfl, xw_hd0⟩
  rw [if_neg (by omega), if_neg (by omega)]
set_option maxRecDepth 20000 in
theorem oc_1504 {F : Int → xm_W → Prop} {sc : List Int} {d : Nat} {t : xm_W} {m : Nat → Nat → Int} {x : Int} (h : 0 ≤ x ∧ x ≤ 255) : xm_Oi (xm_X (xm_old sc) xm_mt (d + 1) 1504 [.inl (x)] (yy_W (m) t)) F = F (1) (yy_W (m) t) := congrArg (fun x => xm_Oi x F) (c_1504 h)
def tp_ix0 (z : Int) : Int := if z = 119 then 0 else if z = 115 then 1 else if z = 109 then 2 else if z = 103 then 3 else -1
section
variable {sc : List Int} {t : xm_W} {m : Nat → Nat → Int}
set_option maxRecDepth 20000 in
theorem zo_fr0 {F : Nat → Prop} (ht : t.length < 900000) : xm_O (xm_fr (xm_old sc) (yy_W m t) 1000003 98 0) F = F 1000006 := by
  have h := zo_get (sc := sc) (m := m) 3 ht
  unfold xm_fr xm_fld
  rw [show (1000003 : Nat) = 1000000 + 3 from rfl, h]; rfl
set_option maxRecDepth 20000 in
theorem zo_fi0 {F : Int → Prop} (ht : t.length < 900000) : xm_O (xm_fi (xm_old sc) (yy_W m t) 1000003 98 1) F = F 0 := by
  have h := zo_get (sc := sc) (m := m) 3 ht
  unfold xm_fi xm_fld
  rw [show (1000003 : Nat) = 1000000 + 3 from rfl, h]; rfl
set_option maxRecDepth 20000 in
theorem zo_len0 {F : Nat → Prop} (ht : t.length < 900000) : xm_O (xm_len (xm_old sc) (yy_W m t) 1000006) F = F 4 := by
  have h := zo_get (sc := sc) (m := m) 6 ht
  unfold xm_len
  rw [show (1000006 : Nat) = 1000000 + 6 from rfl, h]; rfl
set_option maxRecDepth 20000 in
theorem zo_b0_0 {F : Int → Prop} (ht : t.length < 900000) : xm_O (xm_byt (xm_old sc) (yy_W m t) 1000006 0) F = F 119 := by
  have h := zo_get (sc := sc) (m := m) 6 ht
  unfold xm_byt
  rw [show (1000006 : Nat) = 1000000 + 6 from rfl, h]; rfl
set_option maxRecDepth 20000 in
theorem zo_b0_1 {F : Int → Prop} (ht : t.length < 900000) : xm_O (xm_byt (xm_old sc) (yy_W m t) 1000006 1) F = F 115 := by
  have h := zo_get (sc := sc) (m := m) 6 ht
  unfold xm_byt
  rw [show (1000006 : Nat) = 1000000 + 6 from rfl, h]; rfl
set_option maxRecDepth 20000 in
theorem zo_b0_2 {F : Int → Prop} (ht : t.length < 900000) : xm_O (xm_byt (xm_old sc) (yy_W m t) 1000006 2) F = F 109 := by
  have h := zo_get (sc := sc) (m := m) 6 ht
  unfold xm_byt
  rw [show (1000006 : Nat) = 1000000 + 6 from rfl, h]; rfl
set_option maxRecDepth 20000 in
theorem zo_b0_3 {F : Int → Prop} (ht : t.length < 900000) : xm_O (xm_byt (xm_old sc) (yy_W m t) 1000006 3) F = F 103 := by
  have h := zo_get (sc := sc) (m := m) 6 ht
  unfold xm_byt
  rw [show (1000006 : Nat) = 1000000 + 6 from rfl, h]; rfl
set_option maxRecDepth 20000 in
theorem zo_hd0 {as : List xm_V} (ht : t.length < 900000) : xm_hd (xm_old sc) (yy_W m t) 99 (.inr (.inl (some 1000003)) :: as) := fun _ => ⟨1000003, rfl, fun _ => ⟨_, zo_get (sc := sc) (m := m) 3 ht⟩⟩
end
set_option maxRecDepth 20000 in
theorem c_1552_0 {sc : List Int} {d : Nat} {t : xm_W} {m : Nat → Nat → Int} (ht : t.length < 900000) : xm_X (xm_old sc) xm_mt (d + 1) 1552 [.inr (.inl (some 1000003))] (yy_W (m) t) = some (some (.inl (0)), (yy_W (m) t)) := by
  refine xm_X_of (M := xm_m1552) rfl ⟨xm_EQ.eq (xb_1552_0 ?_), rfl, rfl, Nat.le_of_ble_eq_true rfl, zo_hd0 ht⟩
  rw [if_neg (by decide), zo_fi0 ht]
set_option maxRecDepth 20000 in
theorem oc_1552_0 {F : Int → xm_W → Prop} {sc : List Int} {d : Nat} {t : xm_W} {m : Nat → Nat → Int} (ht : t.length < 900000) : xm_Oi (xm_X (xm_old sc) xm_mt (d + 1) 1552 [.inr (.inl (some 1000003))] (yy_W (m) t)) F = F (0) (yy_W (m) t) := congrArg (fun x => xm_Oi x F) (c_1552_0 ht)
set_option maxRecDepth 20000 in
theorem c_1554_0 {sc : List Int} {d : Nat} {t : xm_W} {m : Nat → Nat → Int} (ht : t.length < 900000) : xm_X (xm_old sc) xm_mt (d + 1) 1554 [.inr (.inl (some 1000003))] (yy_W (m) t) = some (some (.inl (1)), (yy_W (m) t)) := by
  refine xm_X_of (M := xm_m1554) rfl ⟨xm_EQ.eq (xb_1554_0 ?_), rfl, rfl, Nat.le_of_ble_eq_true rfl, zo_hd0 ht⟩
  rw [if_neg (by decide), zo_fi0 ht, if_pos rfl]
set_option maxRecDepth 20000 in
theorem oc_1554_0 {F : Int → xm_W → Prop} {sc : List Int} {d : Nat} {t : xm_W} {m : Nat → Nat → Int} (ht : t.length < 900000) : xm_Oi (xm_X (xm_old sc) xm_mt (d + 1) 1554 [.inr (.inl (some 1000003))] (yy_W (m) t)) F = F (1) (yy_W (m) t) := congrArg (fun x => xm_Oi x F) (c_1554_0 ht)
set_option maxRecDepth 20000 in
theorem c_1454_0 {sc : List Int} {d : Nat} {t : xm_W} {m : Nat → Nat → Int} (ht : t.length < 900000) : xm_X (xm_old sc) xm_mt (d + 2) 1454 [.inr (.inl (some 1000003))] (yy_W (m) t) = some (some (.inl (4)), (yy_W (m) t)) := by
  refine xm_X_of (M := xm_m1454) rfl ⟨xm_EQ.eq (xb_1454_0 ?_), rfl, rfl, Nat.le_of_ble_eq_true rfl, zo_hd0 ht⟩
  rw [zo_fr0 ht, zo_len0 ht, oc_1552_0 (d := d) ht]
  rfl
set_option maxRecDepth 20000 in
theorem oc_1454_0 {F : Int → xm_W → Prop} {sc : List Int} {d : Nat} {t : xm_W} {m : Nat → Nat → Int} (ht : t.length < 900000) : xm_Oi (xm_X (xm_old sc) xm_mt (d + 2) 1454 [.inr (.inl (some 1000003))] (yy_W (m) t)) F = F (4) (yy_W (m) t) := congrArg (fun x => xm_Oi x F) (c_1454_0 ht)
set_option maxRecDepth 20000 in
theorem c_1523_0 {sc : List Int} {d : Nat} {t : xm_W} {m : Nat → Nat → Int} {z : Int} (ht : t.length < 900000) (hz : 0 ≤ z ∧ z ≤ 255) : xm_X (xm_old sc) xm_mt (d + 1) 1523 [.inr (.inl (some 1000006)), .inl (z), .inl (0), .inl (4)] (yy_W (m) t) = some (some (.inl (tp_ix0 z)), (yy_W (m) t)) := by
  refine xm_X_of (M := xm_m1523) rfl ⟨xm_EQ.eq (xb_1523_0 ?_), rfl, rfl, Nat.le_of_ble_eq_true rfl, xw_hd0⟩
  rcases (show z = 119 ∨ z = 115 ∨ z = 109 ∨ z = 103 ∨ (z ≠ 119 ∧ z ≠ 115 ∧ z ≠ 109 ∧ z ≠ 103) by omega) with h | h | h | h | h
  · subst h
    refine xb_1523_5 ?_
    rw [if_pos (by decide), zo_b0_0 ht, if_pos (by decide)]
    rfl
  · subst h
    refine xb_1523_5 ?_
    rw [if_pos (by decide), zo_b0_0 ht, if_neg (by decide)]
    rw [show xm_w ((0 : Int) + 1) = 1 by decide]
    refine xb_1523_5 ?_
    rw [if_pos (by decide), zo_b0_1 ht, if_pos (by decide)]
    rfl
  · subst h
    refine xb_1523_5 ?_
    rw [if_pos (by decide), zo_b0_0 ht, if_neg (by decide)]
    rw [show xm_w ((0 : Int) + 1) = 1 by decide]
    refine xb_1523_5 ?_
    rw [if_pos (by decide), zo_b0_1 ht, if_neg (by decide)]
    rw [show xm_w ((1 : Int) + 1) = 2 by decide]
    refine xb_1523_5 ?_
    rw [if_pos (by decide), zo_b0_2 ht, if_pos (by decide)]
    rfl
  · subst h
    refine xb_1523_5 ?_
    rw [if_pos (by decide), zo_b0_0 ht, if_neg (by decide)]
    rw [show xm_w ((0 : Int) + 1) = 1 by decide]
    refine xb_1523_5 ?_
    rw [if_pos (by decide), zo_b0_1 ht, if_neg (by decide)]
    rw [show xm_w ((1 : Int) + 1) = 2 by decide]
    refine xb_1523_5 ?_
    rw [if_pos (by decide), zo_b0_2 ht, if_neg (by decide)]
    rw [show xm_w ((2 : Int) + 1) = 3 by decide]
    refine xb_1523_5 ?_
    rw [if_pos (by decide), zo_b0_3 ht, if_pos (by decide)]
    rfl
  · have hb : ¬ ((119 : Int) = xm_b z) ∧ ¬ ((115 : Int) = xm_b z) ∧ ¬ ((109 : Int) = xm_b z) ∧ ¬ ((103 : Int) = xm_b z) := by unfold xm_b; omega
    have e : tp_ix0 z = -1 := by unfold tp_ix0; rw [if_neg h.1, if_neg h.2.1, if_neg h.2.2.1, if_neg h.2.2.2]
    refine xb_1523_5 ?_
    rw [if_pos (by decide), zo_b0_0 ht, if_neg hb.1]
    rw [show xm_w ((0 : Int) + 1) = 1 by decide]
    refine xb_1523_5 ?_
    rw [if_pos (by decide), zo_b0_1 ht, if_neg hb.2.1]
    rw [show xm_w ((1 : Int) + 1) = 2 by decide]
    refine xb_1523_5 ?_
    rw [if_pos (by decide), zo_b0_2 ht, if_neg hb.2.2.1]
    rw [show xm_w ((2 : Int) + 1) = 3 by decide]
    refine xb_1523_5 ?_
    rw [if_pos (by decide), zo_b0_3 ht, if_neg hb.2.2.2]
    rw [show xm_w ((3 : Int) + 1) = 4 by decide]
    refine xb_1523_5 ?_
    rw [if_neg (by decide), e]
set_option maxRecDepth 20000 in
theorem oc_1523_0 {F : Int → xm_W → Prop} {sc : List Int} {d : Nat} {t : xm_W} {m : Nat → Nat → Int} {z : Int} (ht : t.length < 900000) (hz : 0 ≤ z ∧ z ≤ 255) : xm_Oi (xm_X (xm_old sc) xm_mt (d + 1) 1523 [.inr (.inl (some 1000006)), .inl (z), .inl (0), .inl (4)] (yy_W (m) t)) F = F (tp_ix0 z) (yy_W (m) t) := congrArg (fun x => xm_Oi x F) (c_1523_0 ht hz)
set_option maxRecDepth 20000 in
theorem c_1522_0 {sc : List Int} {d : Nat} {t : xm_W} {m : Nat → Nat → Int} {z : Int} (ht : t.length < 900000) (hz : 0 ≤ z ∧ z ≤ 255) : xm_X (xm_old sc) xm_mt (d + 2) 1522 [.inr (.inl (some 1000006)), .inl (z), .inl (0), .inl (4)] (yy_W (m) t) = some (some (.inl (tp_ix0 z)), (yy_W (m) t)) := by
  refine xm_X_of (M := xm_m1522) rfl ⟨xm_EQ.eq (xb_1522_0 ?_), rfl, rfl, Nat.le_of_ble_eq_true rfl, xw_hd0⟩
  rw [oc_1504 (d := d) hz, if_neg (by decide), zo_len0 ht]
  show (if (0 : Int) < 4 then _ else _)
  rw [if_pos (by decide)]
  exact (show xm_Oi (xm_X (xm_old sc) xm_mt (d + 1) 1523 [.inr (.inl (some 1000006)), .inl (z), .inl (0), .inl (4)] (yy_W (m) t)) _ by rw [oc_1523_0 (d := d) ht hz])
set_option maxRecDepth 20000 in
theorem oc_1522_0 {F : Int → xm_W → Prop} {sc : List Int} {d : Nat} {t : xm_W} {m : Nat → Nat → Int} {z : Int} (ht : t.length < 900000) (hz : 0 ≤ z ∧ z ≤ 255) : xm_Oi (xm_X (xm_old sc) xm_mt (d + 2) 1522 [.inr (.inl (some 1000006)), .inl (z), .inl (0), .inl (4)] (yy_W (m) t)) F = F (tp_ix0 z) (yy_W (m) t) := congrArg (fun x => xm_Oi x F) (c_1522_0 ht hz)
set_option maxRecDepth 20000 in
theorem c_1480_0 {sc : List Int} {d : Nat} {t : xm_W} {m : Nat → Nat → Int} {z : Int} (ht : t.length < 900000) (hz : 0 ≤ z ∧ z ≤ 255) : xm_X (xm_old sc) xm_mt (d + 3) 1480 [.inr (.inl (some 1000003)), .inl (z), .inl (0)] (yy_W (m) t) = some (some (.inl (tp_ix0 z)), (yy_W (m) t)) := by
  refine xm_X_of (M := xm_m1480) rfl ⟨xm_EQ.eq (xb_1480_0 ?_), rfl, rfl, Nat.le_of_ble_eq_true rfl, zo_hd0 ht⟩
  rw [oc_1554_0 (d := d + 1) ht, if_neg (by decide), zo_fr0 ht, oc_1454_0 (d := d) ht, oc_1522_0 (d := d) ht hz]
set_option maxRecDepth 20000 in
theorem oc_1480_0 {F : Int → xm_W → Prop} {sc : List Int} {d : Nat} {t : xm_W} {m : Nat → Nat → Int} {z : Int} (ht : t.length < 900000) (hz : 0 ≤ z ∧ z ≤ 255) : xm_Oi (xm_X (xm_old sc) xm_mt (d + 3) 1480 [.inr (.inl (some 1000003)), .inl (z), .inl (0)] (yy_W (m) t)) F = F (tp_ix0 z) (yy_W (m) t) := congrArg (fun x => xm_Oi x F) (c_1480_0 ht hz)
set_option maxRecDepth 20000 in
theorem c_1479_0 {sc : List Int} {d : Nat} {t : xm_W} {m : Nat → Nat → Int} {z : Int} (ht : t.length < 900000) (hz : 0 ≤ z ∧ z ≤ 255) : xm_X (xm_old sc) xm_mt (d + 4) 1479 [.inr (.inl (some 1000003)), .inl (z)] (yy_W (m) t) = some (some (.inl (tp_ix0 z)), (yy_W (m) t)) := by
  refine xm_X_of (M := xm_m1479) rfl ⟨xm_EQ.eq (xb_1479_0 ?_), rfl, rfl, Nat.le_of_ble_eq_true rfl, zo_hd0 ht⟩
  rw [oc_1480_0 (d := d) ht hz]
set_option maxRecDepth 20000 in
theorem oc_1479_0 {F : Int → xm_W → Prop} {sc : List Int} {d : Nat} {t : xm_W} {m : Nat → Nat → Int} {z : Int} (ht : t.length < 900000) (hz : 0 ≤ z ∧ z ≤ 255) : xm_Oi (xm_X (xm_old sc) xm_mt (d + 4) 1479 [.inr (.inl (some 1000003)), .inl (z)] (yy_W (m) t)) F = F (tp_ix0 z) (yy_W (m) t) := congrArg (fun x => xm_Oi x F) (c_1479_0 ht hz)
def tp_ix1 (z : Int) : Int := if z = 110 then 0 else if z = 100 then 1 else if z = 97 then 2 else -1
section
variable {sc : List Int} {t : xm_W} {m : Nat → Nat → Int}
set_option maxRecDepth 20000 in
theorem zo_fr1 {F : Nat → Prop} (ht : t.length < 900000) : xm_O (xm_fr (xm_old sc) (yy_W m t) 1000004 98 0) F = F 1000007 := by
  have h := zo_get (sc := sc) (m := m) 4 ht
  unfold xm_fr xm_fld
  rw [show (1000004 : Nat) = 1000000 + 4 from rfl, h]; rfl
set_option maxRecDepth 20000 in
theorem zo_fi1 {F : Int → Prop} (ht : t.length < 900000) : xm_O (xm_fi (xm_old sc) (yy_W m t) 1000004 98 1) F = F 0 := by
  have h := zo_get (sc := sc) (m := m) 4 ht
  unfold xm_fi xm_fld
  rw [show (1000004 : Nat) = 1000000 + 4 from rfl, h]; rfl
set_option maxRecDepth 20000 in
theorem zo_len1 {F : Nat → Prop} (ht : t.length < 900000) : xm_O (xm_len (xm_old sc) (yy_W m t) 1000007) F = F 3 := by
  have h := zo_get (sc := sc) (m := m) 7 ht
  unfold xm_len
  rw [show (1000007 : Nat) = 1000000 + 7 from rfl, h]; rfl
set_option maxRecDepth 20000 in
theorem zo_b1_0 {F : Int → Prop} (ht : t.length < 900000) : xm_O (xm_byt (xm_old sc) (yy_W m t) 1000007 0) F = F 110 := by
  have h := zo_get (sc := sc) (m := m) 7 ht
  unfold xm_byt
  rw [show (1000007 : Nat) = 1000000 + 7 from rfl, h]; rfl
set_option maxRecDepth 20000 in
theorem zo_b1_1 {F : Int → Prop} (ht : t.length < 900000) : xm_O (xm_byt (xm_old sc) (yy_W m t) 1000007 1) F = F 100 := by
  have h := zo_get (sc := sc) (m := m) 7 ht
  unfold xm_byt
  rw [show (1000007 : Nat) = 1000000 + 7 from rfl, h]; rfl
set_option maxRecDepth 20000 in
theorem zo_b1_2 {F : Int → Prop} (ht : t.length < 900000) : xm_O (xm_byt (xm_old sc) (yy_W m t) 1000007 2) F = F 97 := by
  have h := zo_get (sc := sc) (m := m) 7 ht
  unfold xm_byt
  rw [show (1000007 : Nat) = 1000000 + 7 from rfl, h]; rfl
set_option maxRecDepth 20000 in
theorem zo_hd1 {as : List xm_V} (ht : t.length < 900000) : xm_hd (xm_old sc) (yy_W m t) 99 (.inr (.inl (some 1000004)) :: as) := fun _ => ⟨1000004, rfl, fun _ => ⟨_, zo_get (sc := sc) (m := m) 4 ht⟩⟩
end
set_option maxRecDepth 20000 in
theorem c_1552_1 {sc : List Int} {d : Nat} {t : xm_W} {m : Nat → Nat → Int} (ht : t.length < 900000) : xm_X (xm_old sc) xm_mt (d + 1) 1552 [.inr (.inl (some 1000004))] (yy_W (m) t) = some (some (.inl (0)), (yy_W (m) t)) := by
  refine xm_X_of (M := xm_m1552) rfl ⟨xm_EQ.eq (xb_1552_0 ?_), rfl, rfl, Nat.le_of_ble_eq_true rfl, zo_hd1 ht⟩
  rw [if_neg (by decide), zo_fi1 ht]
set_option maxRecDepth 20000 in
theorem oc_1552_1 {F : Int → xm_W → Prop} {sc : List Int} {d : Nat} {t : xm_W} {m : Nat → Nat → Int} (ht : t.length < 900000) : xm_Oi (xm_X (xm_old sc) xm_mt (d + 1) 1552 [.inr (.inl (some 1000004))] (yy_W (m) t)) F = F (0) (yy_W (m) t) := congrArg (fun x => xm_Oi x F) (c_1552_1 ht)
set_option maxRecDepth 20000 in
theorem c_1554_1 {sc : List Int} {d : Nat} {t : xm_W} {m : Nat → Nat → Int} (ht : t.length < 900000) : xm_X (xm_old sc) xm_mt (d + 1) 1554 [.inr (.inl (some 1000004))] (yy_W (m) t) = some (some (.inl (1)), (yy_W (m) t)) := by
  refine xm_X_of (M := xm_m1554) rfl ⟨xm_EQ.eq (xb_1554_0 ?_), rfl, rfl, Nat.le_of_ble_eq_true rfl, zo_hd1 ht⟩
  rw [if_neg (by decide), zo_fi1 ht, if_pos rfl]
set_option maxRecDepth 20000 in
theorem oc_1554_1 {F : Int → xm_W → Prop} {sc : List Int} {d : Nat} {t : xm_W} {m : Nat → Nat → Int} (ht : t.length < 900000) : xm_Oi (xm_X (xm_old sc) xm_mt (d + 1) 1554 [.inr (.inl (some 1000004))] (yy_W (m) t)) F = F (1) (yy_W (m) t) := congrArg (fun x => xm_Oi x F) (c_1554_1 ht)
set_option maxRecDepth 20000 in
theorem c_1454_1 {sc : List Int} {d : Nat} {t : xm_W} {m : Nat → Nat → Int} (ht : t.length < 900000) : xm_X (xm_old sc) xm_mt (d + 2) 1454 [.inr (.inl (some 1000004))] (yy_W (m) t) = some (some (.inl (3)), (yy_W (m) t)) := by
  refine xm_X_of (M := xm_m1454) rfl ⟨xm_EQ.eq (xb_1454_0 ?_), rfl, rfl, Nat.le_of_ble_eq_true rfl, zo_hd1 ht⟩
  rw [zo_fr1 ht, zo_len1 ht, oc_1552_1 (d := d) ht]
  rfl
set_option maxRecDepth 20000 in
theorem oc_1454_1 {F : Int → xm_W → Prop} {sc : List Int} {d : Nat} {t : xm_W} {m : Nat → Nat → Int} (ht : t.length < 900000) : xm_Oi (xm_X (xm_old sc) xm_mt (d + 2) 1454 [.inr (.inl (some 1000004))] (yy_W (m) t)) F = F (3) (yy_W (m) t) := congrArg (fun x => xm_Oi x F) (c_1454_1 ht)
set_option maxRecDepth 20000 in
theorem c_1523_1 {sc : List Int} {d : Nat} {t : xm_W} {m : Nat → Nat → Int} {z : Int} (ht : t.length < 900000) (hz : 0 ≤ z ∧ z ≤ 255) : xm_X (xm_old sc) xm_mt (d + 1) 1523 [.inr (.inl (some 1000007)), .inl (z), .inl (0), .inl (3)] (yy_W (m) t) = some (some (.inl (tp_ix1 z)), (yy_W (m) t)) := by
  refine xm_X_of (M := xm_m1523) rfl ⟨xm_EQ.eq (xb_1523_0 ?_), rfl, rfl, Nat.le_of_ble_eq_true rfl, xw_hd0⟩
  rcases (show z = 110 ∨ z = 100 ∨ z = 97 ∨ (z ≠ 110 ∧ z ≠ 100 ∧ z ≠ 97) by omega) with h | h | h | h
  · subst h
    refine xb_1523_5 ?_
    rw [if_pos (by decide), zo_b1_0 ht, if_pos (by decide)]
    rfl
  · subst h
    refine xb_1523_5 ?_
    rw [if_pos (by decide), zo_b1_0 ht, if_neg (by decide)]
    rw [show xm_w ((0 : Int) + 1) = 1 by decide]
    refine xb_1523_5 ?_
    rw [if_pos (by decide), zo_b1_1 ht, if_pos (by decide)]
    rfl
  · subst h
    refine xb_1523_5 ?_
    rw [if_pos (by decide), zo_b1_0 ht, if_neg (by decide)]
    rw [show xm_w ((0 : Int) + 1) = 1 by decide]
    refine xb_1523_5 ?_
    rw [if_pos (by decide), zo_b1_1 ht, if_neg (by decide)]
    rw [show xm_w ((1 : Int) + 1) = 2 by decide]
    refine xb_1523_5 ?_
    rw [if_pos (by decide), zo_b1_2 ht, if_pos (by decide)]
    rfl
  · have hb : ¬ ((110 : Int) = xm_b z) ∧ ¬ ((100 : Int) = xm_b z) ∧ ¬ ((97 : Int) = xm_b z) := by unfold xm_b; omega
    have e : tp_ix1 z = -1 := by unfold tp_ix1; rw [if_neg h.1, if_neg h.2.1, if_neg h.2.2]
    refine xb_1523_5 ?_
    rw [if_pos (by decide), zo_b1_0 ht, if_neg hb.1]
    rw [show xm_w ((0 : Int) + 1) = 1 by decide]
    refine xb_1523_5 ?_
    rw [if_pos (by decide), zo_b1_1 ht, if_neg hb.2.1]
    rw [show xm_w ((1 : Int) + 1) = 2 by decide]
    refine xb_1523_5 ?_
    rw [if_pos (by decide), zo_b1_2 ht, if_neg hb.2.2]
    rw [show xm_w ((2 : Int) + 1) = 3 by decide]
    refine xb_1523_5 ?_
    rw [if_neg (by decide), e]
set_option maxRecDepth 20000 in
theorem oc_1523_1 {F : Int → xm_W → Prop} {sc : List Int} {d : Nat} {t : xm_W} {m : Nat → Nat → Int} {z : Int} (ht : t.length < 900000) (hz : 0 ≤ z ∧ z ≤ 255) : xm_Oi (xm_X (xm_old sc) xm_mt (d + 1) 1523 [.inr (.inl (some 1000007)), .inl (z), .inl (0), .inl (3)] (yy_W (m) t)) F = F (tp_ix1 z) (yy_W (m) t) := congrArg (fun x => xm_Oi x F) (c_1523_1 ht hz)
set_option maxRecDepth 20000 in
theorem c_1522_1 {sc : List Int} {d : Nat} {t : xm_W} {m : Nat → Nat → Int} {z : Int} (ht : t.length < 900000) (hz : 0 ≤ z ∧ z ≤ 255) : xm_X (xm_old sc) xm_mt (d + 2) 1522 [.inr (.inl (some 1000007)), .inl (z), .inl (0), .inl (3)] (yy_W (m) t) = some (some (.inl (tp_ix1 z)), (yy_W (m) t)) := by
  refine xm_X_of (M := xm_m1522) rfl ⟨xm_EQ.eq (xb_1522_0 ?_), rfl, rfl, Nat.le_of_ble_eq_true rfl, xw_hd0⟩
  rw [oc_1504 (d := d) hz, if_neg (by decide), zo_len1 ht]
  show (if (0 : Int) < 3 then _ else _)
  rw [if_pos (by decide)]
  exact (show xm_Oi (xm_X (xm_old sc) xm_mt (d + 1) 1523 [.inr (.inl (some 1000007)), .inl (z), .inl (0), .inl (3)] (yy_W (m) t)) _ by rw [oc_1523_1 (d := d) ht hz])
set_option maxRecDepth 20000 in
theorem oc_1522_1 {F : Int → xm_W → Prop} {sc : List Int} {d : Nat} {t : xm_W} {m : Nat → Nat → Int} {z : Int} (ht : t.length < 900000) (hz : 0 ≤ z ∧ z ≤ 255) : xm_Oi (xm_X (xm_old sc) xm_mt (d + 2) 1522 [.inr (.inl (some 1000007)), .inl (z), .inl (0), .inl (3)] (yy_W (m) t)) F = F (tp_ix1 z) (yy_W (m) t) := congrArg (fun x => xm_Oi x F) (c_1522_1 ht hz)
set_option maxRecDepth 20000 in
theorem c_1480_1 {sc : List Int} {d : Nat} {t : xm_W} {m : Nat → Nat → Int} {z : Int} (ht : t.length < 900000) (hz : 0 ≤ z ∧ z ≤ 255) : xm_X (xm_old sc) xm_mt (d + 3) 1480 [.inr (.inl (some 1000004)), .inl (z), .inl (0)] (yy_W (m) t) = some (some (.inl (tp_ix1 z)), (yy_W (m) t)) := by
  refine xm_X_of (M := xm_m1480) rfl ⟨xm_EQ.eq (xb_1480_0 ?_), rfl, rfl, Nat.le_of_ble_eq_true rfl, zo_hd1 ht⟩
  rw [oc_1554_1 (d := d + 1) ht, if_neg (by decide), zo_fr1 ht, oc_1454_1 (d := d) ht, oc_1522_1 (d := d) ht hz]
set_option maxRecDepth 20000 in
theorem oc_1480_1 {F : Int → xm_W → Prop} {sc : List Int} {d : Nat} {t : xm_W} {m : Nat → Nat → Int} {z : Int} (ht : t.length < 900000) (hz : 0 ≤ z ∧ z ≤ 255) : xm_Oi (xm_X (xm_old sc) xm_mt (d + 3) 1480 [.inr (.inl (some 1000004)), .inl (z), .inl (0)] (yy_W (m) t)) F = F (tp_ix1 z) (yy_W (m) t) := congrArg (fun x => xm_Oi x F) (c_1480_1 ht hz)
set_option maxRecDepth 20000 in
theorem c_1479_1 {sc : List Int} {d : Nat} {t : xm_W} {m : Nat → Nat → Int} {z : Int} (ht : t.length < 900000) (hz : 0 ≤ z ∧ z ≤ 255) : xm_X (xm_old sc) xm_mt (d + 4) 1479 [.inr (.inl (some 1000004)), .inl (z)] (yy_W (m) t) = some (some (.inl (tp_ix1 z)), (yy_W (m) t)) := by
  refine xm_X_of (M := xm_m1479) rfl ⟨xm_EQ.eq (xb_1479_0 ?_), rfl, rfl, Nat.le_of_ble_eq_true rfl, zo_hd1 ht⟩
  rw [oc_1480_1 (d := d) ht hz]
set_option maxRecDepth 20000 in
theorem oc_1479_1 {F : Int → xm_W → Prop} {sc : List Int} {d : Nat} {t : xm_W} {m : Nat → Nat → Int} {z : Int} (ht : t.length < 900000) (hz : 0 ≤ z ∧ z ≤ 255) : xm_Oi (xm_X (xm_old sc) xm_mt (d + 4) 1479 [.inr (.inl (some 1000004)), .inl (z)] (yy_W (m) t)) F = F (tp_ix1 z) (yy_W (m) t) := congrArg (fun x => xm_Oi x F) (c_1479_1 ht hz)
end
section
/-! TEXTS read: what both sides come to; the class -/
def tp_d (g : Nat → Int × Int) : Nat → Int
  | 0 => 0
  | k + 1 => tp_d g k + (if (g k).1 = 0 ∨ (g k).1 = 1 then 1 else if (g k).1 = 2 then 0 else -1)
set_option maxRecDepth 20000 in
theorem tp_d_eq {g g' : Nat → Int × Int} : ∀ k, (∀ j, j < k → g' j = g j) → tp_d g' k = tp_d g k
  | 0, _ => rfl
  | k + 1, h => by unfold tp_d; rw [tp_d_eq k (fun j hj => h j (by omega)), h k (by omega)]
def tp_tok (u : Nat) (g : Nat → Int × Int) (k : Nat) : Prop := ((g k).1 = 0 ∧ 0 ≤ (g k).2 ∧ (g k).2 ≤ 9999) ∨ ((g k).1 = 1 ∧ sg_nm u (g k).2) ∨ ((g k).1 = 2 ∧ 1 ≤ tp_d g k) ∨ ((g k).1 = 3 ∧ 2 ≤ tp_d g k ∧ sp_sign (g k).2)
def tp_sg (u : Nat) (x : Int × Int) : Int := if x.1 = 0 then x.2 else if x.1 = 1 then -1 - sg_ix u x.2 else if x.1 = 2 then -43 else -10 - x.2
def tp_u (g : Nat → Int × Int) (c : Nat) (x : Int × Int) : Nat → Int × Int := fun k => if k = c then x else g k
set_option maxRecDepth 20000 in
theorem tp_u_eq {g : Nat → Int × Int} {c : Nat} {x : Int × Int} : tp_u g c x c = x := if_pos rfl
set_option maxRecDepth 20000 in
theorem tp_u_ne {g : Nat → Int × Int} {c k : Nat} {x : Int × Int} (h : k ≠ c) : tp_u g c x k = g k := if_neg h
def tp_cs (u n : Nat) (T : Nat → Int) (p c : Nat) (g : Nat → Int × Int) (m : Nat → Nat → Int) : Prop := m 58 0 = 37 ∧ m 58 1 = n ∧ m 58 2 = 1000004 + u ∧ m 58 3 = p ∧ m 58 5 = c ∧ (∀ j, j < 60 → m 36 j = T j) ∧ ∀ j, j < c → m 60 j = tp_sg u (g j)
def tp_fc (m m' : Nat → Nat → Int) : Prop := ∀ x, x ≠ 58 → x ≠ 60 → m' x = m x
def tp_co (u n : Nat) (T : Nat → Int) (ok : Int) (p c : Nat) (g : Nat → Int × Int) (m m' : Nat → Nat → Int) : Prop := tp_fc m m' ∧ m' 58 3 = p ∧ (ok = 1 → tp_cs u n T p c g m')
def tp_C (sc : List Int) (t : xm_W) (u n : Nat) (T : Nat → Int) (N me : Nat) (as : List xm_V) (p c : Nat) (g : Nat → Int × Int) (ok : Int) (p' c' : Nat) (g' : Nat → Int × Int) : Prop := ∀ (d : Nat) (m : Nat → Nat → Int), tp_cs u n T p c g m → ∃ m', xm_X (xm_old sc) xm_mt (d + N) me as (yy_W m t) = some (some (.inl ok), yy_W m' t) ∧ tp_co u n T ok p' c' g' m m'
def tp_CE (sc : List Int) (t : xm_W) (u n : Nat) (T : Nat → Int) (N : Nat) (l k : Int) (p c : Nat) (g : Nat → Int × Int) (ok : Int) (p' c' : Nat) (g' : Nat → Int × Int) : Prop := ∀ (d : Nat) (m : Nat → Nat → Int) (v : Option xm_V) (Q : Option xm_V × xm_W → Prop), tp_cs u n T p c g m → (∀ m', tp_co u n T ok p' c' g' m m' → Q ((some (.inl (ok)), (yy_W (m') t)))) → xm_EQ (xm_old sc) xm_sta (xm_X (xm_old sc) xm_mt (d + N)) xm_c504 16 [some (.inr (.inl (some 58))), some (.inl (l)), some (.inl (k)), v] [] (yy_W (m) t) Q
set_option maxRecDepth 20000 in
theorem tp_C_up {sc : List Int} {t : xm_W} {u n : Nat} {T : Nat → Int} {N N' me : Nat} {as : List xm_V} {p c : Nat} {g : Nat → Int × Int} {ok : Int} {p' c' : Nat} {g' : Nat → Int × Int} (hn : N ≤ N') (h : tp_C sc t u n T N me as p c g ok p' c' g') : tp_C sc t u n T N' me as p c g ok p' c' g' := fun d m a => by
  obtain ⟨j, rfl⟩ : ∃ j, N' = N + j := ⟨N' - N, by omega⟩
  have := h (d + j) m a
  rw [show d + (N + j) = d + j + N by omega]
  exact this
set_option maxRecDepth 20000 in
theorem tp_fc_tr {m m' m'' : Nat → Nat → Int} (h : tp_fc m m') (h' : tp_fc m' m'') : tp_fc m m'' := fun x a b => by rw [h' x a b, h x a b]
set_option maxRecDepth 20000 in
theorem tp_co_tr {u n : Nat} {T : Nat → Int} {ok : Int} {p c : Nat} {g : Nat → Int × Int} {m m' m'' : Nat → Nat → Int} (h : tp_fc m m') (h' : tp_co u n T ok p c g m' m'') : tp_co u n T ok p c g m m'' := ⟨tp_fc_tr h h'.1, h'.2⟩
set_option maxRecDepth 20000 in
theorem tp_co_1 {u n : Nat} {T : Nat → Int} {p c : Nat} {g : Nat → Int × Int} {m m' : Nat → Nat → Int} (h : tp_fc m m') (h' : tp_cs u n T p c g m') : tp_co u n T 1 p c g m m' := ⟨h, h'.2.2.2.1, fun _ => h'⟩
set_option maxRecDepth 20000 in
theorem tp_co_0 {u n : Nat} {T : Nat → Int} {p c : Nat} {g : Nat → Int × Int} {m m' : Nat → Nat → Int} (h : tp_fc m m') (h' : m' 58 3 = p) : tp_co u n T 0 p c g m m' := ⟨h, h', fun e => absurd e (by decide)⟩
set_option maxRecDepth 20000 in
theorem tp_cs_mv {u n : Nat} {T : Nat → Int} {p c : Nat} {g : Nat → Int × Int} {m : Nat → Nat → Int} (h : tp_cs u n T p c g m) : tp_cs u n T (p + 1) c g (yy_s m 58 3 ((p : Int) + 1)) := by
  obtain ⟨a0, a1, a2, a3, a4, a5, a6⟩ := h
  exact ⟨by simp (disch := first | omega | (unfold xm_w; omega)) only [↓zy_at, xm_O_some, xm_Oi_some, xm_Ov_some, xm_Oq_some, ↓reduceIte, ↓zz_t, ↓zz_f, ↓zi_t, ↓zi_f, eq_self, yy_d_0, Int.reduceEq, Int.reduceLT, Int.reduceLE, Int.reduceNe, Int.reduceToNat, Int.reduceAdd, Int.reduceSub, Int.reduceMul, Int.reduceNeg, Nat.reduceAdd, Nat.reduceMul, Nat.reduceSub, Nat.reduceEqDiff, Nat.reduceLT, ne_eq, not_false_eq_true, not_true_eq_false, true_and, and_true, and_self, yy_s_eq, yy_s_ne, yy_c_eq, yy_c_ne, yy_u_eq, yy_u_ne, xm_w_id, yy_at, tdiv_pos, tmod_pos, a0], by simp (disch := first | omega | (unfold xm_w; omega)) only [↓zy_at, xm_O_some, xm_Oi_some, xm_Ov_some, xm_Oq_some, ↓reduceIte, ↓zz_t, ↓zz_f, ↓zi_t, ↓zi_f, eq_self, yy_d_0, Int.reduceEq, Int.reduceLT, Int.reduceLE, Int.reduceNe, Int.reduceToNat, Int.reduceAdd, Int.reduceSub, Int.reduceMul, Int.reduceNeg, Nat.reduceAdd, Nat.reduceMul, Nat.reduceSub, Nat.reduceEqDiff, Nat.reduceLT, ne_eq, not_false_eq_true, not_true_eq_false, true_and, and_true, and_self, yy_s_eq, yy_s_ne, yy_c_eq, yy_c_ne, yy_u_eq, yy_u_ne, xm_w_id, yy_at, tdiv_pos, tmod_pos, a1], by simp (disch := first | omega | (unfold xm_w; omega)) only [↓zy_at, xm_O_some, xm_Oi_some, xm_Ov_some, xm_Oq_some, ↓reduceIte, ↓zz_t, ↓zz_f, ↓zi_t, ↓zi_f, eq_self, yy_d_0, Int.reduceEq, Int.reduceLT, Int.reduceLE, Int.reduceNe, Int.reduceToNat, Int.reduceAdd, Int.reduceSub, Int.reduceMul, Int.reduceNeg, Nat.reduceAdd, Nat.reduceMul, Nat.reduceSub, Nat.reduceEqDiff, Nat.reduceLT, ne_eq, not_false_eq_true, not_true_eq_false, true_and, and_true, and_self, yy_s_eq, yy_s_ne, yy_c_eq, yy_c_ne, yy_u_eq, yy_u_ne, xm_w_id, yy_at, tdiv_pos, tmod_pos, a2], by rw [yy_s_eq, yy_u_eq]; omega, by simp (disch := first | omega | (unfold xm_w; omega)) only [↓zy_at, xm_O_some, xm_Oi_some, xm_Ov_some, xm_Oq_some, ↓reduceIte, ↓zz_t, ↓zz_f, ↓zi_t, ↓zi_f, eq_self, yy_d_0, Int.reduceEq, Int.reduceLT, Int.reduceLE, Int.reduceNe, Int.reduceToNat, Int.reduceAdd, Int.reduceSub, Int.reduceMul, Int.reduceNeg, Nat.reduceAdd, Nat.reduceMul, Nat.reduceSub, Nat.reduceEqDiff, Nat.reduceLT, ne_eq, not_false_eq_true, not_true_eq_false, true_and, and_true, and_self, yy_s_eq, yy_s_ne, yy_c_eq, yy_c_ne, yy_u_eq, yy_u_ne, xm_w_id, yy_at, tdiv_pos, tmod_pos, a4], fun j hj => by rw [yy_s_ne (by decide)]; exact a5 j hj, fun j hj => by rw [yy_s_ne (by decide)]; exact a6 j hj⟩
set_option maxRecDepth 20000 in
theorem tp_cs_em {u n : Nat} {T : Nat → Int} {p c : Nat} {g : Nat → Int × Int} {m : Nat → Nat → Int} {x : Int × Int} {v : Int} (h : tp_cs u n T p c g m) (hv : v = tp_sg u x) : tp_cs u n T p (c + 1) (tp_u g c x) (yy_s (yy_s m 60 c v) 58 5 ((c : Int) + 1)) := by
  obtain ⟨a0, a1, a2, a3, a4, a5, a6⟩ := h
  refine ⟨by simp (disch := first | omega | (unfold xm_w; omega)) only [↓zy_at, xm_O_some, xm_Oi_some, xm_Ov_some, xm_Oq_some, ↓reduceIte, ↓zz_t, ↓zz_f, ↓zi_t, ↓zi_f, eq_self, yy_d_0, Int.reduceEq, Int.reduceLT, Int.reduceLE, Int.reduceNe, Int.reduceToNat, Int.reduceAdd, Int.reduceSub, Int.reduceMul, Int.reduceNeg, Nat.reduceAdd, Nat.reduceMul, Nat.reduceSub, Nat.reduceEqDiff, Nat.reduceLT, ne_eq, not_false_eq_true, not_true_eq_false, true_and, and_true, and_self, yy_s_eq, yy_s_ne, yy_c_eq, yy_c_ne, yy_u_eq, yy_u_ne, xm_w_id, yy_at, tdiv_pos, tmod_pos, a0], by simp (disch := first | omega | (unfold xm_w; omega)) only [↓zy_at, xm_O_some, xm_Oi_some, xm_Ov_some, xm_Oq_some, ↓reduceIte, ↓zz_t, ↓zz_f, ↓zi_t, ↓zi_f, eq_self, yy_d_0, Int.reduceEq, Int.reduceLT, Int.reduceLE, Int.reduceNe, Int.reduceToNat, Int.reduceAdd, Int.reduceSub, Int.reduceMul, Int.reduceNeg, Nat.reduceAdd, Nat.reduceMul, Nat.reduceSub, Nat.reduceEqDiff, Nat.reduceLT, ne_eq, not_false_eq_true, not_true_eq_false, true_and, and_true, and_self, yy_s_eq, yy_s_ne, yy_c_eq, yy_c_ne, yy_u_eq, yy_u_ne, xm_w_id, yy_at, tdiv_pos, tmod_pos, a1], by simp (disch := first | omega | (unfold xm_w; omega)) only [↓zy_at, xm_O_some, xm_Oi_some, xm_Ov_some, xm_Oq_some, ↓reduceIte, ↓zz_t, ↓zz_f, ↓zi_t, ↓zi_f, eq_self, yy_d_0, Int.reduceEq, Int.reduceLT, Int.reduceLE, Int.reduceNe, Int.reduceToNat, Int.reduceAdd, Int.reduceSub, Int.reduceMul, Int.reduceNeg, Nat.reduceAdd, Nat.reduceMul, Nat.reduceSub, Nat.reduceEqDiff, Nat.reduceLT, ne_eq, not_false_eq_true, not_true_eq_false, true_and, and_true, and_self, yy_s_eq, yy_s_ne, yy_c_eq, yy_c_ne, yy_u_eq, yy_u_ne, xm_w_id, yy_at, tdiv_pos, tmod_pos, a2], by simp (disch := first | omega | (unfold xm_w; omega)) only [↓zy_at, xm_O_some, xm_Oi_some, xm_Ov_some, xm_Oq_some, ↓reduceIte, ↓zz_t, ↓zz_f, ↓zi_t, ↓zi_f, eq_self, yy_d_0, Int.reduceEq, Int.reduceLT, Int.reduceLE, Int.reduceNe, Int.reduceToNat, Int.reduceAdd, Int.reduceSub, Int.reduceMul, Int.reduceNeg, Nat.reduceAdd, Nat.reduceMul, Nat.reduceSub, Nat.reduceEqDiff, Nat.reduceLT, ne_eq, not_false_eq_true, not_true_eq_false, true_and, and_true, and_self, yy_s_eq, yy_s_ne, yy_c_eq, yy_c_ne, yy_u_eq, yy_u_ne, xm_w_id, yy_at, tdiv_pos, tmod_pos, a3], by rw [yy_s_eq, yy_u_eq]; omega, fun j hj => by rw [yy_s_ne (by decide), yy_s_ne (by decide)]; exact a5 j hj, fun j hj => ?_⟩
  rw [yy_s_ne (by decide), yy_s_eq]
  by_cases e : j = c
  · subst e; rw [yy_u_eq, tp_u_eq, hv]
  · rw [yy_u_ne e, tp_u_ne e]; exact a6 j (by omega)
set_option maxRecDepth 20000 in
theorem tp_fc_mv {m : Nat → Nat → Int} {v : Int} {k : Nat} : tp_fc m (yy_s m 58 k v) := fun x a _ => yy_s_ne a
set_option maxRecDepth 20000 in
theorem tp_fc_em {m : Nat → Nat → Int} {v v' : Int} {k k' : Nat} : tp_fc m (yy_s (yy_s m 60 k v) 58 k' v') := fun x a b => by rw [yy_s_ne a, yy_s_ne b]
section
variable {o : xm_W} {t : xm_W} {m : Nat → Nat → Int} {F : Nat → Prop}
set_option maxRecDepth 20000 in
theorem zx_58_0 (h : m 58 0 = 37) : xm_O (xm_fr o (yy_W m t) 58 3 0) F = F 36 := by
  have e : (yy_W m t)[58]? = some (.inr (.inr (3, yy_vs (m 58) 0 [1, 0, 1, 0, 62, 0]))) := (yy_get rfl).trans rfl
  rw [xw_fr (j := 36) e (by show (some (Sum.inr (Sum.inl (yy_d (m 58 0)))) : Option xm_V) = _; rw [h]; rfl)]; rfl
set_option maxRecDepth 20000 in
theorem zx_58_2 {u : Nat} (h : m 58 2 = 1000004 + u) : xm_O (xm_fr o (yy_W m t) 58 3 2) F = F (1000003 + u) := by
  have e : (yy_W m t)[58]? = some (.inr (.inr (3, yy_vs (m 58) 0 [1, 0, 1, 0, 62, 0]))) := (yy_get rfl).trans rfl
  rw [xw_fr (j := 1000003 + u) e (by show (some (Sum.inr (Sum.inl (yy_d (m 58 2)))) : Option xm_V) = _; rw [h]; unfold yy_d; rw [if_neg (by omega), show (1000004 + (u : Int) - 1).toNat = 1000003 + u by omega])]; rfl
end
def tp_ix (u : Nat) (z : Int) : Int := if u = 0 then tp_ix0 z else tp_ix1 z
set_option maxRecDepth 20000 in
theorem tp_ix_t {u : Nat} {z : Int} (h : sg_nm u z) : tp_ix u z = sg_ix u z := by
  unfold sg_nm at h
  unfold tp_ix sg_ix
  by_cases e : u = 0
  · rw [if_pos e] at h; rw [if_pos e, if_pos e]
    unfold tp_ix0
    rcases h with h | h | h | h <;> subst h <;> rfl
  · rw [if_neg e] at h; rw [if_neg e, if_neg e]
    unfold tp_ix1
    rcases h with h | h | h <;> subst h <;> rfl
set_option maxRecDepth 20000 in
theorem tp_ix_f {u : Nat} {z : Int} (h : ¬ sg_nm u z) : tp_ix u z = -1 := by
  unfold sg_nm at h
  unfold tp_ix
  by_cases e : u = 0
  · rw [if_pos e] at h; rw [if_pos e]
    unfold tp_ix0
    rw [if_neg (by omega), if_neg (by omega), if_neg (by omega), if_neg (by omega)]
  · rw [if_neg e] at h; rw [if_neg e]
    unfold tp_ix1
    rw [if_neg (by omega), if_neg (by omega), if_neg (by omega)]
set_option maxRecDepth 20000 in
theorem c_1479 {sc : List Int} {d : Nat} {t : xm_W} {m : Nat → Nat → Int} {u : Nat} {z : Int} (ht : t.length < 900000) (hu : u < 2) (hz : 0 ≤ z ∧ z ≤ 255) : xm_X (xm_old sc) xm_mt (d + 4) 1479 [.inr (.inl (some (1000003 + u))), .inl (z)] (yy_W (m) t) = some (some (.inl (tp_ix u z)), (yy_W (m) t)) := by
  rcases (show u = 0 ∨ u = 1 by omega) with e | e <;> subst e
  · exact c_1479_0 ht hz
  · exact c_1479_1 ht hz
set_option maxRecDepth 20000 in
theorem oc_1479 {F : Int → xm_W → Prop} {sc : List Int} {d : Nat} {t : xm_W} {m : Nat → Nat → Int} {u : Nat} {z : Int} (ht : t.length < 900000) (hu : u < 2) (hz : 0 ≤ z ∧ z ≤ 255) : xm_Oi (xm_X (xm_old sc) xm_mt (d + 4) 1479 [.inr (.inl (some (1000003 + u))), .inl (z)] (yy_W (m) t)) F = F (tp_ix u z) (yy_W (m) t) := congrArg (fun x => xm_Oi x F) (c_1479 ht hu hz)
set_option maxRecDepth 20000 in
theorem c_509 {sc : List Int} {d : Nat} {t : xm_W} {m : Nat → Nat → Int} {c : Nat} {v : Int} (h : m 58 5 = c) (hc : c < 60) : xm_X (xm_old sc) xm_mt (d + 1) 509 [.inr (.inl (some 58)), .inl (v)] (yy_W (m) t) = some (none, (yy_W (yy_s (yy_s m 60 c v) 58 5 ((c : Int) + 1)) t)) := by
  refine xm_X_of (M := xm_m509) rfl ⟨xm_EQ.eq (xb_509_0 ?_), rfl, rfl, Nat.le_of_ble_eq_true rfl, yy_hd rfl (by decide)⟩
  rw [zf_58_5, h, if_pos (by omega), zr_58_4, zf_58_5, h, zt_60 (by omega) (by omega), zf_58_5, yy_s_ne (by decide), h, zs_58_5, xm_w_id (by omega) (by omega), Int.toNat_natCast]
set_option maxRecDepth 20000 in
theorem oc_509 {F : xm_W → Prop} {sc : List Int} {d : Nat} {t : xm_W} {m : Nat → Nat → Int} {c : Nat} {v : Int} (h : m 58 5 = c) (hc : c < 60) : xm_Ov (xm_X (xm_old sc) xm_mt (d + 1) 509 [.inr (.inl (some 58)), .inl (v)] (yy_W (m) t)) F = F (yy_W (yy_s (yy_s m 60 c v) 58 5 ((c : Int) + 1)) t) := congrArg (fun x => xm_Ov x F) (c_509 h hc)
set_option maxRecDepth 20000 in
theorem c_510 {sc : List Int} {d : Nat} {x : Int} {w : xm_W} : xm_X (xm_old sc) xm_mt (d + 1) 510 [.inl x] w = some (some (.inl (if 48 ≤ x ∧ x ≤ 57 then 1 else 0)), w) := by
  by_cases h : 48 ≤ x ∧ x ≤ 57
  · rw [if_pos h]
    refine xm_X_of (M := xm_m510) rfl ⟨xm_EQ.eq (xb_510_0 ?_), rfl, rfl, Nat.le_of_ble_eq_true rfl, xw_hd0⟩
    rw [if_neg (by omega), if_neg (by omega)]
  · rw [if_neg h]
    refine xm_X_of (M := xm_m510) rfl ⟨xm_EQ.eq (xb_510_0 ?_), rfl, rfl, Nat.le_of_ble_eq_true rfl, xw_hd0⟩
    by_cases g : x < 48
    · rw [if_pos g]
    · rw [if_neg g, if_pos (by omega)]
set_option maxRecDepth 20000 in
theorem oc_510 {F : Int → xm_W → Prop} {sc : List Int} {d : Nat} {x : Int} {w : xm_W} : xm_Oi (xm_X (xm_old sc) xm_mt (d + 1) 510 [.inl x] w) F = F (if 48 ≤ x ∧ x ≤ 57 then 1 else 0) (w) := congrArg (fun x => xm_Oi x F) (c_510)
def tp_lv (x : Int) : Int := if x = 37 then 4 else if x = 38 then 1 else if x = 42 then 4 else if x = 43 then 3 else if x = 45 then 3 else if x = 47 then 4 else if x = 60 then 2 else if x = 61 then 2 else if x = 62 then 2 else if x = 124 then 0 else -1
set_option maxRecDepth 20000 in
theorem c_511 {sc : List Int} {d : Nat} {x : Int} {w : xm_W} : xm_X (xm_old sc) xm_mt (d + 1) 511 [.inl x] w = some (some (.inl (tp_lv x)), w) := by
  refine xm_X_of (M := xm_m511) rfl ⟨xm_EQ.eq (xb_511_0 ?_), rfl, rfl, Nat.le_of_ble_eq_true rfl, xw_hd0⟩
  unfold tp_lv
  by_cases h37 : x = 37
  · rw [if_pos h37, if_pos h37]
  rw [if_neg h37, if_neg h37]
  by_cases h38 : x = 38
  · rw [if_pos h38, if_pos h38]
  rw [if_neg h38, if_neg h38]
  by_cases h42 : x = 42
  · rw [if_pos h42, if_pos h42]
  rw [if_neg h42, if_neg h42]
  by_cases h43 : x = 43
  · rw [if_pos h43, if_pos h43]
  rw [if_neg h43, if_neg h43]
  by_cases h45 : x = 45
  · rw [if_pos h45, if_pos h45]
  rw [if_neg h45, if_neg h45]
  by_cases h47 : x = 47
  · rw [if_pos h47, if_pos h47]
  rw [if_neg h47, if_neg h47]
  by_cases h60 : x = 60
  · rw [if_pos h60, if_pos h60]
  rw [if_neg h60, if_neg h60]
  by_cases h61 : x = 61
  · rw [if_pos h61, if_pos h61]
  rw [if_neg h61, if_neg h61]
  by_cases h62 : x = 62
  · rw [if_pos h62, if_pos h62]
  rw [if_neg h62, if_neg h62]
  by_cases h124 : x = 124
  · rw [if_pos h124, if_pos h124]
  rw [if_neg h124, if_neg h124]
/- the tape -/
set_option maxRecDepth 20000 in
theorem oc_511 {F : Int → xm_W → Prop} {sc : List Int} {d : Nat} {x : Int} {w : xm_W} : xm_Oi (xm_X (xm_old sc) xm_mt (d + 1) 511 [.inl x] w) F = F (tp_lv x) (w) := congrArg (fun x => xm_Oi x F) (c_511)
def tp_T (n : Nat) (T : Nat → Int) : Prop := n ≤ 60 ∧ ∀ j, j < 60 → 0 ≤ T j ∧ T j ≤ 255
set_option maxRecDepth 20000 in
theorem tp_end {sc : List Int} {t : xm_W} {u n : Nat} {T : Nat → Int} {p c : Nat} {g : Nat → Int × Int} {k : Int} (h : n ≤ p) : tp_C sc t u n T 1 505 [.inr (.inl (some 58)), .inl k] p c g 0 p c g := fun d m hs => by
  obtain ⟨a0, a1, a2, a3, a4, a5, a6⟩ := id hs
  exact ⟨m, c_505e (by omega), tp_co_0 (fun _ _ _ => rfl) a3⟩
set_option maxRecDepth 20000 in
theorem tp_nam {sc : List Int} {t : xm_W} {u n : Nat} {T : Nat → Int} {p c : Nat} {g : Nat → Int × Int} {k : Int} (ht : t.length < 900000) (hu : u < 2) (hT : tp_T n T) (hp : p < n) (hc : c ≤ p) (hz : sg_nm u (T p)) : tp_C sc t u n T 5 505 [.inr (.inl (some 58)), .inl k] p c g 1 (p + 1) (c + 1) (tp_u g c (1, T p)) := fun d m hs => by
  obtain ⟨a0, a1, a2, a3, a4, a5, a6⟩ := id hs
  have hn := hT.1
  have hb := hT.2 p (by omega)
  have hv : -1 - sg_ix u (T p) = tp_sg u (1, T p) := by
    unfold tp_sg; rw [if_neg (by show ¬ (1 : Int) = 0; decide), if_pos (show (1 : Int) = 1 from rfl)]
  have hx := sg_ix_b (u := u) (v := T p)
  refine ⟨yy_s (yy_s (yy_s m 58 3 ((p : Int) + 1)) 60 c (-1 - sg_ix u (T p))) 58 5 ((c : Int) + 1), ?_, tp_co_1 (tp_fc_tr tp_fc_mv tp_fc_em) (tp_cs_em (tp_cs_mv hs) hv)⟩
  show xm_X (xm_old sc) xm_mt (d + 4 + 1) 505 [.inr (.inl (some 58)), .inl (k)] (yy_W (m) t) = _
  refine xm_X_of (M := xm_m505) rfl ⟨xm_EQ.eq (xb_505_0 ?_), rfl, rfl, Nat.le_of_ble_eq_true rfl, yy_hd rfl (by decide)⟩
  have e1 : m 36 ((p : Int)).toNat = T p := by rw [Int.toNat_natCast]; exact a5 p (by omega)
  have nd : ¬ (48 ≤ T p ∧ T p ≤ 57) := by unfold sg_nm at hz; split at hz <;> omega
  rw [zf_58_3, zf_58_1, a1, a3, if_pos (by omega), zx_58_0 a0, zf_58_3, a3, zi_36, zy_at (by omega) (by omega), e1, oc_510 (d := d + 3), zz_f nd, zx_58_2 a2, show T p % 65536 = T p by omega, oc_1479 (d := d) ht hu hb, tp_ix_t hz, if_neg (by omega), zf_58_3, a3, zs_58_3, xm_w_id (z := (p : Int) + 1) (by omega) (by omega), xm_w_id (z := -1 - sg_ix u (T p)) (by omega) (by omega), oc_509 (d := d + 3) (c := c) (by simp (disch := first | omega | (unfold xm_w; omega)) only [↓zy_at, xm_O_some, xm_Oi_some, xm_Ov_some, xm_Oq_some, ↓reduceIte, ↓zz_t, ↓zz_f, ↓zi_t, ↓zi_f, eq_self, yy_d_0, Int.reduceEq, Int.reduceLT, Int.reduceLE, Int.reduceNe, Int.reduceToNat, Int.reduceAdd, Int.reduceSub, Int.reduceMul, Int.reduceNeg, Nat.reduceAdd, Nat.reduceMul, Nat.reduceSub, Nat.reduceEqDiff, Nat.reduceLT, ne_eq, not_false_eq_true, not_true_eq_false, true_and, and_true, and_self, yy_s_eq, yy_s_ne, yy_c_eq, yy_c_ne, yy_u_eq, yy_u_ne, xm_w_id, yy_at, tdiv_pos, tmod_pos, a4]) (by omega)]
def tp_B (f : Nat) : Int := if f = 0 then 9999 else if f = 1 then 999 else if f = 2 then 99 else if f = 3 then 9 else 0
set_option maxRecDepth 20000 in
theorem tp_B_s {f : Nat} {v z : Int} (hf : f + 1 ≤ 4) (hv : 0 ≤ v ∧ v ≤ tp_B (f + 1)) (hz : 48 ≤ z ∧ z ≤ 57) : 0 ≤ 10 * v + z - 48 ∧ 10 * v + z - 48 ≤ tp_B f := by
  rcases (show f = 0 ∨ f = 1 ∨ f = 2 ∨ f = 3 by omega) with e | e | e | e <;> subst e <;> unfold tp_B at * <;> simp at hv ⊢ <;> omega
set_option maxRecDepth 20000 in
theorem tp_B_b {f : Nat} {v : Int} (hv : 0 ≤ v ∧ v ≤ tp_B f) : 0 ≤ v ∧ v ≤ 9999 := by
  unfold tp_B at hv; repeat' split at hv
  all_goals omega
def tp_nu (n : Nat) (T : Nat → Int) : Nat → Nat → Int → Int × Nat
  | 0, p, v => (v, p)
  | f + 1, p, v => if p < n ∧ 48 ≤ T p ∧ T p ≤ 57 then tp_nu n T f (p + 1) (10 * v + T p - 48) else (v, p)
set_option maxRecDepth 20000 in
theorem tp_nu_b {n : Nat} {T : Nat → Int} : ∀ (f p : Nat) (v : Int), f ≤ 4 → p ≤ n → (0 ≤ v ∧ v ≤ tp_B f) → (0 ≤ (tp_nu n T f p v).1 ∧ (tp_nu n T f p v).1 ≤ 9999) ∧ p ≤ (tp_nu n T f p v).2 ∧ (tp_nu n T f p v).2 ≤ n
  | 0, p, v, _, hp, hv => ⟨tp_B_b hv, Nat.le_refl p, hp⟩
  | f + 1, p, v, hf, hp, hv => by
    unfold tp_nu
    by_cases h : p < n ∧ 48 ≤ T p ∧ T p ≤ 57
    · rw [if_pos h]
      have := tp_nu_b (n := n) (T := T) f (p + 1) (10 * v + T p - 48) (by omega) (by omega) (tp_B_s hf hv h.2)
      exact ⟨this.1, by omega, this.2.2⟩
    · rw [if_neg h]; exact ⟨tp_B_b hv, Nat.le_refl p, hp⟩
set_option maxRecDepth 20000 in
theorem l_508 {sc : List Int} {d : Nat} {t : xm_W} {u n : Nat} {T : Nat → Int} {c : Nat} {g : Nat → Int × Int} {Q : Option xm_V × xm_W → Prop} (hT : tp_T n T) (hc : c < 60) : ∀ (f p : Nat) (v i : Int) (m : Nat → Nat → Int), (0 ≤ i ∧ i + f = 4) → (0 ≤ v ∧ v ≤ tp_B f) → p ≤ n → tp_cs u n T p c g m → (∀ m', tp_co u n T 1 (tp_nu n T f p v).2 (c + 1) (tp_u g c (0, (tp_nu n T f p v).1)) m m' → Q ((none, (yy_W (m') t)))) → xm_EQ (xm_old sc) xm_sta (xm_X (xm_old sc) xm_mt (d + 1)) xm_c508 4 [some (.inr (.inl (some 58))), some (.inl (v)), some (.inl (i))] [] (yy_W (m) t) Q
  | 0, p, v, i, m, hi, hv, hp, hs, hQ => by
    obtain ⟨a0, a1, a2, a3, a4, a5, a6⟩ := id hs
    refine xb_508_4 ?_
    rw [if_neg (by omega), oc_509 (d := d) (c := c) a4 hc]
    exact hQ _ (tp_co_1 tp_fc_em (tp_cs_em hs (by unfold tp_sg; rw [if_pos rfl]; rfl)))
  | f + 1, p, v, i, m, hi, hv, hp, hs, hQ => by
    obtain ⟨a0, a1, a2, a3, a4, a5, a6⟩ := id hs
    have hn := hT.1
    have hem := fun v => tp_cs_em (x := (0, v)) (v := v) hs (by unfold tp_sg; rw [if_pos rfl])
    refine xb_508_4 ?_
    rw [if_pos (by omega), zf_58_3, zf_58_1, a1, a3]
    by_cases h1 : p < n
    · have e1 : m 36 ((p : Int)).toNat = T p := by rw [Int.toNat_natCast]; exact a5 p (by omega)
      rw [if_pos (by omega), zx_58_0 a0, zf_58_3, a3, zi_36, zy_at (by omega) (by omega), e1, oc_510 (d := d)]
      by_cases h : 48 ≤ T p ∧ T p ≤ 57
      · have e : tp_nu n T (f + 1) p v = tp_nu n T f (p + 1) (10 * v + T p - 48) := by
          conv => lhs; unfold tp_nu
          rw [if_pos ⟨h1, h⟩]
        have hB := tp_B_s (by omega) hv h
        have hb := tp_B_b hB
        have hb2 := tp_B_b hv
        rw [e] at hQ
        rw [zz_t h, zx_58_0 a0, zf_58_3, a3, zi_36, zy_at (by omega) (by omega), e1, zf_58_3, a3, zs_58_3, xm_w_id (z := (p : Int) + 1) (by omega) (by omega), xm_w_id (z := i + 1) (by omega) (by omega), xm_w_id (z := v * 10) (by omega) (by omega), xm_w_id (z := v * 10 + T p) (by omega) (by omega), xm_w_id (z := v * 10 + T p - 48) (by omega) (by omega), show v * 10 + T p - 48 = 10 * v + T p - 48 by omega]
        exact l_508 hT hc f (p + 1) _ (i + 1) _ (by omega) hB (by omega) (tp_cs_mv hs) fun m' h => hQ m' (tp_co_tr tp_fc_mv h)
      · have e : tp_nu n T (f + 1) p v = (v, p) := by
          conv => lhs; unfold tp_nu
          rw [if_neg (fun g => h g.2)]
        rw [e] at hQ
        rw [zz_f h, oc_509 (d := d) (c := c) a4 hc]
        exact hQ _ (tp_co_1 tp_fc_em (hem v))
    · have e : tp_nu n T (f + 1) p v = (v, p) := by
        conv => lhs; unfold tp_nu
        rw [if_neg (fun g => h1 g.1)]
      rw [e] at hQ
      rw [if_neg (by omega), oc_509 (d := d) (c := c) a4 hc]
      exact hQ _ (tp_co_1 tp_fc_em (hem v))
set_option maxRecDepth 20000 in
theorem c_508 {sc : List Int} {d : Nat} {t : xm_W} {m : Nat → Nat → Int} {u n : Nat} {T : Nat → Int} {p c : Nat} {g : Nat → Int × Int} (hT : tp_T n T) (hc : c < 60) (hp : p ≤ n) (hs : tp_cs u n T p c g m) : ∃ m', xm_X (xm_old sc) xm_mt (d + 2) 508 [.inr (.inl (some 58))] (yy_W m t) = some (none, yy_W m' t) ∧ tp_co u n T 1 (tp_nu n T 4 p 0).2 (c + 1) (tp_u g c (0, (tp_nu n T 4 p 0).1)) m m' := by
  have key : ∀ {Q : Option xm_V × xm_W → Prop}, (∀ m', (tp_co u n T 1 (tp_nu n T 4 p 0).2 (c + 1) (tp_u g c (0, (tp_nu n T 4 p 0).1)) m m') → Q (none, yy_W m' t)) → xm_EQ (xm_old sc) xm_sta (xm_X (xm_old sc) xm_mt (d + 1)) xm_m508.2.2.2.2.2.2.2 0 (xm_loc xm_m508.2.2.1 [.inr (.inl (some 58))]) [] (yy_W m t) Q := by
    intro Q hQ
    refine xb_508_0 ?_
    exact l_508 (d := d) hT hc 4 p 0 0 m (by decide) (by decide) hp hs hQ
  obtain ⟨q, h1, m', h2, h3⟩ := yx_of (y := 508) (M := xm_m508) (sc := sc) (d := d + 1) (as := [.inr (.inl (some 58))]) (w := yy_W m t) (Q := fun q => ∃ m', q = (none, yy_W m' t) ∧ (tp_co u n T 1 (tp_nu n T 4 p 0).2 (c + 1) (tp_u g c (0, (tp_nu n T 4 p 0).1)) m m')) rfl (key fun m' h => ⟨m', rfl, h⟩) (fun q ⟨m', h, _⟩ => by rw [h]; rfl) rfl (Nat.le_of_ble_eq_true rfl) (yy_hd rfl (by decide))
  exact ⟨m', by rw [h1, h2], h3⟩
set_option maxRecDepth 20000 in
theorem tp_num {sc : List Int} {t : xm_W} {u n : Nat} {T : Nat → Int} {p c : Nat} {g : Nat → Int × Int} {k : Int} (hT : tp_T n T) (hp : p < n) (hc : c ≤ p) (hz : 48 ≤ T p ∧ T p ≤ 57) : tp_C sc t u n T 3 505 [.inr (.inl (some 58)), .inl k] p c g 1 (tp_nu n T 4 p 0).2 (c + 1) (tp_u g c (0, (tp_nu n T 4 p 0).1)) := fun d m hs => by
  obtain ⟨a0, a1, a2, a3, a4, a5, a6⟩ := id hs
  have hn := hT.1
  obtain ⟨m', e, ho⟩ := c_508 (sc := sc) (d := d) (t := t) hT (by omega) (by omega) hs
  refine ⟨m', ?_, ho⟩
  show xm_X (xm_old sc) xm_mt (d + 2 + 1) 505 [.inr (.inl (some 58)), .inl (k)] (yy_W (m) t) = _
  refine xm_X_of (M := xm_m505) rfl ⟨xm_EQ.eq (xb_505_0 ?_), rfl, rfl, Nat.le_of_ble_eq_true rfl, yy_hd rfl (by decide)⟩
  have e1 : m 36 ((p : Int)).toNat = T p := by rw [Int.toNat_natCast]; exact a5 p (by omega)
  rw [zf_58_3, zf_58_1, a1, a3, if_pos (by omega), zx_58_0 a0, zf_58_3, a3, zi_36, zy_at (by omega) (by omega), e1, oc_510 (d := d + 1), zz_t hz, e, xm_Ov_some]
set_option maxRecDepth 20000 in
theorem tp_bad {sc : List Int} {t : xm_W} {u n : Nat} {T : Nat → Int} {p c : Nat} {g : Nat → Int × Int} {k : Int} (ht : t.length < 900000) (hu : u < 2) (hT : tp_T n T) (hp : p < n) (hz : ¬ sg_nm u (T p)) (hd : ¬ (48 ≤ T p ∧ T p ≤ 57)) (h : (T p ≠ 33 ∧ T p ≠ 40) ∨ 5 ≤ k) : tp_C sc t u n T 5 505 [.inr (.inl (some 58)), .inl k] p c g 0 p c g := fun d m hs => by
  obtain ⟨a0, a1, a2, a3, a4, a5, a6⟩ := id hs
  have hn := hT.1
  have hb := hT.2 p (by omega)
  refine ⟨m, ?_, tp_co_0 (fun _ _ _ => rfl) a3⟩
  show xm_X (xm_old sc) xm_mt (d + 4 + 1) 505 [.inr (.inl (some 58)), .inl (k)] (yy_W (m) t) = _
  refine xm_X_of (M := xm_m505) rfl ⟨xm_EQ.eq (xb_505_0 ?_), rfl, rfl, Nat.le_of_ble_eq_true rfl, yy_hd rfl (by decide)⟩
  have e1 : m 36 ((p : Int)).toNat = T p := by rw [Int.toNat_natCast]; exact a5 p (by omega)
  rw [zf_58_3, zf_58_1, a1, a3, if_pos (by omega), zx_58_0 a0, zf_58_3, a3, zi_36, zy_at (by omega) (by omega), e1, oc_510 (d := d + 3), zz_f hd, zx_58_2 a2, show T p % 65536 = T p by omega, oc_1479 (d := d) ht hu hb, tp_ix_f hz, if_pos (by decide)]
  by_cases h3 : T p = 33
  · rw [if_pos h3, if_neg (by omega)]
  · rw [if_neg h3]
    by_cases h4 : T p = 40
    · rw [if_pos h4, if_neg (by omega)]
    · rw [if_neg h4]
set_option maxRecDepth 20000 in
theorem tp_not {sc : List Int} {t : xm_W} {u n : Nat} {T : Nat → Int} {N p c p1 c1 : Nat} {g g1 : Nat → Int × Int} {k ok : Int} (ht : t.length < 900000) (hu : u < 2) (hT : tp_T n T) (hp : p < n) (hz : T p = 33) (hk : 0 ≤ k ∧ k < 5) (hc : ok = 1 → c1 < 60) (hok : ok = 0 ∨ ok = 1) (w : tp_C sc t u n T (N + 3) 505 [.inr (.inl (some 58)), .inl (k + 1)] (p + 1) c g ok p1 c1 g1) : tp_C sc t u n T (N + 5) 505 [.inr (.inl (some 58)), .inl k] p c g ok p1 (c1 + 1) (tp_u g1 c1 (2, 0)) := fun d m hs => by
  obtain ⟨a0, a1, a2, a3, a4, a5, a6⟩ := id hs
  have hn := hT.1
  have hb := hT.2 p (by omega)
  have nz : ¬ sg_nm u (T p) := by unfold sg_nm; split <;> omega
  obtain ⟨m1, e, f1, f2, f3⟩ := w d _ (tp_cs_mv hs)
  rw [show d + (N + 3) = d + N + 3 by omega] at e
  have X6 : ∃ m', xm_X (xm_old sc) xm_mt (d + N + 3 + 1) 506 [.inr (.inl (some 58)), .inl (k + 1)] (yy_W (yy_s m 58 3 ((p : Int) + 1)) t) = some (some (.inl (ok)), (yy_W (m') t)) ∧ tp_co u n T ok p1 (c1 + 1) (tp_u g1 c1 (2, 0)) m m' := by
    rcases hok with q | q <;> subst q
    · refine ⟨m1, ?_, tp_co_0 (tp_fc_tr tp_fc_mv f1) f2⟩
      refine xm_X_of (M := xm_m506) rfl ⟨xm_EQ.eq (xb_506_0 ?_), rfl, rfl, Nat.le_of_ble_eq_true rfl, yy_hd rfl (by decide)⟩
      rw [e, xm_Oi_some, if_pos rfl]
    · have hs1 := f3 rfl
      refine ⟨_, ?_, tp_co_1 (tp_fc_tr (tp_fc_tr tp_fc_mv f1) tp_fc_em) (tp_cs_em (x := (2, 0)) (v := -43) hs1 rfl)⟩
      refine xm_X_of (M := xm_m506) rfl ⟨xm_EQ.eq (xb_506_0 ?_), rfl, rfl, Nat.le_of_ble_eq_true rfl, yy_hd rfl (by decide)⟩
      rw [e, xm_Oi_some, if_neg (by decide), oc_509 (d := d + N + 2) (c := c1) hs1.2.2.2.2.1 (hc rfl)]
  obtain ⟨m', e6, ho⟩ := X6
  refine ⟨m', ?_, ho⟩
  show xm_X (xm_old sc) xm_mt (d + N + 4 + 1) 505 [.inr (.inl (some 58)), .inl (k)] (yy_W (m) t) = _
  refine xm_X_of (M := xm_m505) rfl ⟨xm_EQ.eq (xb_505_0 ?_), ?_, rfl, Nat.le_of_ble_eq_true rfl, yy_hd rfl (by decide)⟩
  rotate_left
  · rcases hok with q | q <;> subst q <;> rfl
  have e1 : m 36 ((p : Int)).toNat = T p := by rw [Int.toNat_natCast]; exact a5 p (by omega)
  rw [zf_58_3, zf_58_1, a1, a3, if_pos (by omega), zx_58_0 a0, zf_58_3, a3, zi_36, zy_at (by omega) (by omega), e1, oc_510 (d := d + N + 3), zz_f (by omega), zx_58_2 a2, show T p % 65536 = T p by omega, oc_1479 (d := d + N) ht hu hb, tp_ix_f nz, if_pos (by decide), if_pos hz, if_pos hk.2, zf_58_3, a3, zs_58_3, if_pos hz, xm_w_id (z := (p : Int) + 1) (by omega) (by omega), xm_w_id (z := k + 1) (by omega) (by omega), e6, xm_Oi_some]
set_option maxRecDepth 20000 in
theorem tp_opn {sc : List Int} {t : xm_W} {u n : Nat} {T : Nat → Int} {N p c p1 c1 : Nat} {g g1 : Nat → Int × Int} {k ok : Int} (ht : t.length < 900000) (hu : u < 2) (hT : tp_T n T) (hp : p < n) (hz : T p = 40) (hk : 0 ≤ k ∧ k < 5) (hp1 : p1 ≤ n) (hok : ok = 0 ∨ ok = 1) (w : tp_C sc t u n T (N + 3) 504 [.inr (.inl (some 58)), .inl 0, .inl (k + 1)] (p + 1) c g ok p1 c1 g1) : tp_C sc t u n T (N + 5) 505 [.inr (.inl (some 58)), .inl k] p c g (if ok = 1 ∧ p1 < n ∧ T p1 = 41 then 1 else 0) (if ok = 1 ∧ p1 < n ∧ T p1 = 41 then p1 + 1 else p1) c1 g1 := fun d m hs => by
  obtain ⟨a0, a1, a2, a3, a4, a5, a6⟩ := id hs
  have hn := hT.1
  have hb := hT.2 p (by omega)
  have nz : ¬ sg_nm u (T p) := by unfold sg_nm; split <;> omega
  obtain ⟨m1, e, f1, f2, f3⟩ := w d _ (tp_cs_mv hs)
  rw [show d + (N + 3) = d + N + 3 by omega] at e
  have X7 : ∃ m', xm_X (xm_old sc) xm_mt (d + N + 3 + 1) 507 [.inr (.inl (some 58)), .inl (k + 1)] (yy_W (yy_s m 58 3 ((p : Int) + 1)) t) = some (some (.inl (if ok = 1 ∧ p1 < n ∧ T p1 = 41 then 1 else 0)), (yy_W (m') t)) ∧ tp_co u n T (if ok = 1 ∧ p1 < n ∧ T p1 = 41 then 1 else 0) (if ok = 1 ∧ p1 < n ∧ T p1 = 41 then p1 + 1 else p1) c1 g1 m m' := by
    rcases hok with q | q <;> subst q
    · rw [if_neg (fun h => absurd h.1 (by decide)), if_neg (fun h => absurd h.1 (by decide))]
      refine ⟨m1, ?_, tp_co_0 (tp_fc_tr tp_fc_mv f1) f2⟩
      refine xm_X_of (M := xm_m507) rfl ⟨xm_EQ.eq (xb_507_0 ?_), rfl, rfl, Nat.le_of_ble_eq_true rfl, yy_hd rfl (by decide)⟩
      rw [e, xm_Oi_some, if_pos rfl]
    · have hs1 := f3 rfl
      obtain ⟨b0, b1, b2, b3, b4, b5, b6⟩ := id hs1
      by_cases h1 : p1 < n
      · have e2 : m1 36 ((p1 : Int)).toNat = T p1 := by rw [Int.toNat_natCast]; exact b5 p1 (by omega)
        by_cases h2 : T p1 = 41
        · rw [if_pos ⟨rfl, h1, h2⟩, if_pos ⟨rfl, h1, h2⟩]
          refine ⟨_, ?_, tp_co_1 (tp_fc_tr (tp_fc_tr tp_fc_mv f1) tp_fc_mv) (tp_cs_mv hs1)⟩
          refine xm_X_of (M := xm_m507) rfl ⟨xm_EQ.eq (xb_507_0 ?_), rfl, rfl, Nat.le_of_ble_eq_true rfl, yy_hd rfl (by decide)⟩
          rw [e, xm_Oi_some, if_neg (by decide), zf_58_3, zf_58_1, b1, b3, if_pos (by omega), zx_58_0 b0, zf_58_3, b3, zi_36, zy_at (by omega) (by omega), e2, if_pos h2, zf_58_3, b3, zs_58_3, xm_w_id (z := (p1 : Int) + 1) (by omega) (by omega)]
        · rw [if_neg (fun h => h2 h.2.2), if_neg (fun h => h2 h.2.2)]
          refine ⟨m1, ?_, tp_co_0 (tp_fc_tr tp_fc_mv f1) f2⟩
          refine xm_X_of (M := xm_m507) rfl ⟨xm_EQ.eq (xb_507_0 ?_), rfl, rfl, Nat.le_of_ble_eq_true rfl, yy_hd rfl (by decide)⟩
          rw [e, xm_Oi_some, if_neg (by decide), zf_58_3, zf_58_1, b1, b3, if_pos (by omega), zx_58_0 b0, zf_58_3, b3, zi_36, zy_at (by omega) (by omega), e2, if_neg h2]
      · rw [if_neg (fun h => h1 h.2.1), if_neg (fun h => h1 h.2.1)]
        refine ⟨m1, ?_, tp_co_0 (tp_fc_tr tp_fc_mv f1) f2⟩
        refine xm_X_of (M := xm_m507) rfl ⟨xm_EQ.eq (xb_507_0 ?_), rfl, rfl, Nat.le_of_ble_eq_true rfl, yy_hd rfl (by decide)⟩
        rw [e, xm_Oi_some, if_neg (by decide), zf_58_3, zf_58_1, b1, b3, if_neg (by omega)]
  obtain ⟨m', e6, ho⟩ := X7
  refine ⟨m', ?_, ho⟩
  show xm_X (xm_old sc) xm_mt (d + N + 4 + 1) 505 [.inr (.inl (some 58)), .inl (k)] (yy_W (m) t) = _
  refine xm_X_of (M := xm_m505) rfl ⟨xm_EQ.eq (xb_505_0 ?_), ?_, rfl, Nat.le_of_ble_eq_true rfl, yy_hd rfl (by decide)⟩
  rotate_left
  · split <;> rfl
  have e1 : m 36 ((p : Int)).toNat = T p := by rw [Int.toNat_natCast]; exact a5 p (by omega)
  have n33 : ¬ T p = 33 := by omega
  rw [zf_58_3, zf_58_1, a1, a3, if_pos (by omega), zx_58_0 a0, zf_58_3, a3, zi_36, zy_at (by omega) (by omega), e1, oc_510 (d := d + N + 3), zz_f (by omega), zx_58_2 a2, show T p % 65536 = T p by omega, oc_1479 (d := d + N) ht hu hb, tp_ix_f nz, if_pos (by decide), if_neg n33, if_pos hz, if_pos hk.2, zf_58_3, a3, zs_58_3, if_neg n33, xm_w_id (z := (p : Int) + 1) (by omega) (by omega), xm_w_id (z := k + 1) (by omega) (by omega), e6, xm_Oi_some]
/- the levels -/
set_option maxRecDepth 20000 in
theorem tp_5 {sc : List Int} {t : xm_W} {u n : Nat} {T : Nat → Int} {N p c p1 c1 : Nat} {g g1 : Nat → Int × Int} {k ok : Int} (hok : ok = 0 ∨ ok = 1) (w : tp_C sc t u n T N 505 [.inr (.inl (some 58)), .inl k] p c g ok p1 c1 g1) : tp_C sc t u n T (N + 1) 504 [.inr (.inl (some 58)), .inl 5, .inl k] p c g ok p1 c1 g1 := fun d m hs => by
  obtain ⟨m1, e, ho⟩ := w d m hs
  refine ⟨m1, ?_, ho⟩
  show xm_X (xm_old sc) xm_mt (d + N + 1) 504 [.inr (.inl (some 58)), .inl (5), .inl (k)] (yy_W (m) t) = _
  refine xm_X_of (M := xm_m504) rfl ⟨xm_EQ.eq (xb_504_0 ?_), ?_, rfl, Nat.le_of_ble_eq_true rfl, yy_hd rfl (by decide)⟩
  rotate_left
  · rcases hok with q | q <;> subst q <;> rfl
  rw [if_pos (by decide), e, xm_Oi_some]
set_option maxRecDepth 20000 in
theorem tp_l0 {sc : List Int} {t : xm_W} {u n : Nat} {T : Nat → Int} {N p c p1 c1 : Nat} {g g1 : Nat → Int × Int} {l k : Int} (hl : 0 ≤ l ∧ l ≤ 4) (w : tp_C sc t u n T N 504 [.inr (.inl (some 58)), .inl (l + 1), .inl k] p c g 0 p1 c1 g1) : tp_C sc t u n T (N + 1) 504 [.inr (.inl (some 58)), .inl l, .inl k] p c g 0 p1 c1 g1 := fun d m hs => by
  obtain ⟨m1, e, ho⟩ := w d m hs
  refine ⟨m1, ?_, ho⟩
  show xm_X (xm_old sc) xm_mt (d + N + 1) 504 [.inr (.inl (some 58)), .inl (l), .inl (k)] (yy_W (m) t) = _
  refine xm_X_of (M := xm_m504) rfl ⟨xm_EQ.eq (xb_504_0 ?_), rfl, rfl, Nat.le_of_ble_eq_true rfl, yy_hd rfl (by decide)⟩
  rw [if_neg (by omega), xm_w_id (z := l + 1) (by omega) (by omega), e, xm_Oi_some, if_pos rfl]
set_option maxRecDepth 20000 in
theorem tp_l1 {sc : List Int} {t : xm_W} {u n : Nat} {T : Nat → Int} {N p c p1 c1 p2 c2 : Nat} {g g1 g2 : Nat → Int × Int} {l k ok : Int} (hl : 0 ≤ l ∧ l ≤ 4) (hok : ok = 0 ∨ ok = 1) (w : tp_C sc t u n T N 504 [.inr (.inl (some 58)), .inl (l + 1), .inl k] p c g 1 p1 c1 g1) (w2 : tp_CE sc t u n T N l k p1 c1 g1 ok p2 c2 g2) : tp_C sc t u n T (N + 1) 504 [.inr (.inl (some 58)), .inl l, .inl k] p c g ok p2 c2 g2 := fun d m hs => by
  obtain ⟨m1, e, f1, f2, f3⟩ := w d m hs
  have key : ∀ {Q : Option xm_V × xm_W → Prop}, (∀ m', tp_co u n T ok p2 c2 g2 m m' → Q ((some (.inl (ok)), (yy_W (m') t)))) → xm_EQ (xm_old sc) xm_sta (xm_X (xm_old sc) xm_mt (d + N)) xm_m504.2.2.2.2.2.2.2 0 (xm_loc xm_m504.2.2.1 [.inr (.inl (some 58)), .inl l, .inl k]) [] (yy_W m t) Q := by
    intro Q hQ
    refine xb_504_0 ?_
    rw [if_neg (by omega), xm_w_id (z := l + 1) (by omega) (by omega), e, xm_Oi_some, if_neg (by decide)]
    exact w2 d m1 _ Q (f3 rfl) fun m' h => hQ m' (tp_co_tr f1 h)
  obtain ⟨q, h1, m', h2, h3⟩ := yx_of (y := 504) (M := xm_m504) (sc := sc) (d := d + N) (as := [.inr (.inl (some 58)), .inl l, .inl k]) (w := yy_W m t) (Q := fun q => ∃ m', q = ((some (.inl (ok)), (yy_W (m') t))) ∧ tp_co u n T ok p2 c2 g2 m m') rfl (key fun m' h => ⟨m', rfl, h⟩) (fun q ⟨m', h, _⟩ => by rw [h]; rcases hok with e | e <;> subst e <;> rfl) rfl (Nat.le_of_ble_eq_true rfl) (yy_hd rfl (by decide))
  exact ⟨m', by rw [show d + (N + 1) = d + N + 1 by omega, h1, h2], h3⟩
set_option maxRecDepth 20000 in
theorem tp_e_end {sc : List Int} {t : xm_W} {u n : Nat} {T : Nat → Int} {N p c : Nat} {g : Nat → Int × Int} {l k : Int} (hT : tp_T n T) (hp : p < n → tp_lv (T p) ≠ l) : tp_CE sc t u n T (N + 1) l k p c g 1 p c g := fun d m v Q hs hQ => by
  obtain ⟨a0, a1, a2, a3, a4, a5, a6⟩ := id hs
  have hn := hT.1
  have := hQ m (tp_co_1 (fun _ _ _ => rfl) hs)
  rw [show d + (N + 1) = d + N + 1 by omega]
  refine xb_504_16 ?_
  rw [zf_58_3, zf_58_1, a1, a3]
  by_cases h : p < n
  · have e1 : m 36 ((p : Int)).toNat = T p := by rw [Int.toNat_natCast]; exact a5 p (by omega)
    rw [if_pos (by omega), zx_58_0 a0, zf_58_3, a3, zi_36, zy_at (by omega) (by omega), e1, oc_511 (d := d + N), if_neg (hp h)]
    exact this
  · rw [if_neg (by omega)]; exact this
set_option maxRecDepth 20000 in
theorem tp_e_0 {sc : List Int} {t : xm_W} {u n : Nat} {T : Nat → Int} {N p c p1 c1 : Nat} {g g1 : Nat → Int × Int} {l k : Int} (hT : tp_T n T) (hp : p < n) (hl : tp_lv (T p) = l) (hl0 : 0 ≤ l ∧ l ≤ 4) (w : tp_C sc t u n T (N + 1) 504 [.inr (.inl (some 58)), .inl (l + 1), .inl k] (p + 1) c g 0 p1 c1 g1) : tp_CE sc t u n T (N + 1) l k p c g 0 p1 c1 g1 := fun d m v Q hs hQ => by
  obtain ⟨a0, a1, a2, a3, a4, a5, a6⟩ := id hs
  have hn := hT.1
  obtain ⟨m1, e, f1, f2, f3⟩ := w d _ (tp_cs_mv hs)
  rw [show d + (N + 1) = d + N + 1 by omega] at e
  have e1 : m 36 ((p : Int)).toNat = T p := by rw [Int.toNat_natCast]; exact a5 p (by omega)
  rw [show d + (N + 1) = d + N + 1 by omega]
  refine xb_504_16 ?_
  rw [zf_58_3, zf_58_1, a1, a3, if_pos (by omega), zx_58_0 a0, zf_58_3, a3, zi_36, zy_at (by omega) (by omega), e1, oc_511 (d := d + N), if_pos hl, zx_58_0 a0, zf_58_3, a3, zi_36, zy_at (by omega) (by omega), e1, zf_58_3, a3, zs_58_3, xm_w_id (z := (p : Int) + 1) (by omega) (by omega), xm_w_id (z := l + 1) (by omega) (by omega), e, xm_Oi_some, if_pos rfl]
  exact hQ m1 (tp_co_0 (tp_fc_tr tp_fc_mv f1) f2)
set_option maxRecDepth 20000 in
theorem tp_e_2 {sc : List Int} {t : xm_W} {u n : Nat} {T : Nat → Int} {N p c p1 c1 : Nat} {g g1 : Nat → Int × Int} {k : Int} (hT : tp_T n T) (hp : p < n) (hl : tp_lv (T p) = 2) (hc : c1 < 60) (w : tp_C sc t u n T (N + 1) 504 [.inr (.inl (some 58)), .inl 3, .inl k] (p + 1) c g 1 p1 c1 g1) : tp_CE sc t u n T (N + 1) 2 k p c g 1 p1 (c1 + 1) (tp_u g1 c1 (3, T p)) := fun d m v Q hs hQ => by
  obtain ⟨a0, a1, a2, a3, a4, a5, a6⟩ := id hs
  have hn := hT.1
  have hb := hT.2 p (by omega)
  obtain ⟨m1, e, f1, f2, f3⟩ := w d _ (tp_cs_mv hs)
  rw [show d + (N + 1) = d + N + 1 by omega] at e
  have hs1 := f3 rfl
  have e1 : m 36 ((p : Int)).toNat = T p := by rw [Int.toNat_natCast]; exact a5 p (by omega)
  rw [show d + (N + 1) = d + N + 1 by omega]
  refine xb_504_16 ?_
  rw [zf_58_3, zf_58_1, a1, a3, if_pos (by omega), zx_58_0 a0, zf_58_3, a3, zi_36, zy_at (by omega) (by omega), e1, oc_511 (d := d + N), if_pos hl, zx_58_0 a0, zf_58_3, a3, zi_36, zy_at (by omega) (by omega), e1, zf_58_3, a3, zs_58_3, xm_w_id (z := (p : Int) + 1) (by omega) (by omega), xm_w_id (z := 2 + 1) (by omega) (by omega)]
  erw [e]
  rw [xm_Oi_some, if_neg (by decide), xm_w_id (z := -10 - T p) (by omega) (by omega), oc_509 (d := d + N) (c := c1) hs1.2.2.2.2.1 hc, if_pos rfl]
  exact hQ _ (tp_co_1 (tp_fc_tr (tp_fc_tr tp_fc_mv f1) tp_fc_em) (tp_cs_em hs1 rfl))
set_option maxRecDepth 20000 in
theorem tp_e_1 {sc : List Int} {t : xm_W} {u n : Nat} {T : Nat → Int} {N p c p1 c1 p2 c2 : Nat} {g g1 g2 : Nat → Int × Int} {l k ok : Int} (hT : tp_T n T) (hp : p < n) (hl : tp_lv (T p) = l) (hl0 : 0 ≤ l ∧ l ≤ 4) (hl2 : l ≠ 2) (hc : c1 < 60) (w : tp_C sc t u n T (N + 1) 504 [.inr (.inl (some 58)), .inl (l + 1), .inl k] (p + 1) c g 1 p1 c1 g1) (w2 : tp_CE sc t u n T (N + 1) l k p1 (c1 + 1) (tp_u g1 c1 (3, T p)) ok p2 c2 g2) : tp_CE sc t u n T (N + 1) l k p c g ok p2 c2 g2 := fun d m v Q hs hQ => by
  obtain ⟨a0, a1, a2, a3, a4, a5, a6⟩ := id hs
  have hn := hT.1
  have hb := hT.2 p (by omega)
  obtain ⟨m1, e, f1, f2, f3⟩ := w d _ (tp_cs_mv hs)
  rw [show d + (N + 1) = d + N + 1 by omega] at e
  have hs1 := f3 rfl
  have e1 : m 36 ((p : Int)).toNat = T p := by rw [Int.toNat_natCast]; exact a5 p (by omega)
  rw [show d + (N + 1) = d + N + 1 by omega]
  refine xb_504_16 ?_
  rw [zf_58_3, zf_58_1, a1, a3, if_pos (by omega), zx_58_0 a0, zf_58_3, a3, zi_36, zy_at (by omega) (by omega), e1, oc_511 (d := d + N), if_pos hl, zx_58_0 a0, zf_58_3, a3, zi_36, zy_at (by omega) (by omega), e1, zf_58_3, a3, zs_58_3, xm_w_id (z := (p : Int) + 1) (by omega) (by omega), xm_w_id (z := l + 1) (by omega) (by omega), e, xm_Oi_some, if_neg (by decide), xm_w_id (z := -10 - T p) (by omega) (by omega), oc_509 (d := d + N) (c := c1) hs1.2.2.2.2.1 hc, if_neg hl2]
  exact w2 d _ _ Q (tp_cs_em hs1 rfl) fun m' h => hQ m' (tp_co_tr (tp_fc_tr (tp_fc_tr tp_fc_mv f1) tp_fc_em) h)
end
section
/-! TEXTS read: the reference -/
def tp_lk (n : Nat) (T : Nat → Int) (p : Nat) : Int := if p < n then T p else -1
def tp_ms (u n : Nat) (T : Nat → Int) (k : Int) (p c : Nat) (g : Nat → Int × Int) (m : Nat → Nat → Int) : Prop := m 75 4 = n ∧ (∀ j, j < 60 → m 75 (589 + j) = T j) ∧ m 74 6 = p ∧ m 74 7 = k ∧ m 74 8 = c ∧ m 74 9 = u ∧ ∀ j, j < c → m 79 (2 * j) = (g j).1 ∧ m 79 (2 * j + 1) = (g j).2
def tp_fm (m m' : Nat → Nat → Int) : Prop := (∀ x, x ≠ 74 → x ≠ 79 → m' x = m x) ∧ ∀ q, q ≠ 6 → q ≠ 7 → q ≠ 8 → m' 74 q = m 74 q
def tp_mo (u n : Nat) (T : Nat → Int) (k ok : Int) (p c : Nat) (g : Nat → Int × Int) (m m' : Nat → Nat → Int) : Prop := tp_fm m m' ∧ m' 74 6 = p ∧ (ok = 1 → tp_ms u n T k p c g m')
def tp_M (sc : List Int) (t : xm_W) (u n : Nat) (T : Nat → Int) (k : Int) (N me : Nat) (p c : Nat) (g : Nat → Int × Int) (ok : Int) (p' c' : Nat) (g' : Nat → Int × Int) : Prop := ∀ (d : Nat) (m : Nat → Nat → Int), tp_ms u n T k p c g m → ∃ m', xm_X (xm_old sc) xm_mt (d + N) me [.inr (.inl (some 74))] (yy_W m t) = some (some (.inl ok), yy_W m' t) ∧ tp_mo u n T k ok p' c' g' m m'
def tp_ME (sc : List Int) (t : xm_W) (u n : Nat) (T : Nat → Int) (k : Int) (N : Nat) (cd : List xm_I) (L : Option xm_V → List (Option xm_V)) (p c : Nat) (g : Nat → Int × Int) (ok : Int) (p' c' : Nat) (g' : Nat → Int × Int) : Prop := ∀ (d : Nat) (m : Nat → Nat → Int) (v : Option xm_V) (Q : Option xm_V × xm_W → Prop), tp_ms u n T k p c g m → (∀ m', tp_mo u n T k ok p' c' g' m m' → Q ((some (.inl (ok)), (yy_W (m') t)))) → xm_EQ (xm_old sc) xm_sta (xm_X (xm_old sc) xm_mt (d + N)) cd 5 (L v) [] (yy_W m t) Q
set_option maxRecDepth 20000 in
theorem tp_M_up {sc : List Int} {t : xm_W} {u n : Nat} {T : Nat → Int} {k : Int} {N N' me : Nat} {p c : Nat} {g : Nat → Int × Int} {ok : Int} {p' c' : Nat} {g' : Nat → Int × Int} (hn : N ≤ N') (h : tp_M sc t u n T k N me p c g ok p' c' g') : tp_M sc t u n T k N' me p c g ok p' c' g' := fun d m a => by
  obtain ⟨j, rfl⟩ : ∃ j, N' = N + j := ⟨N' - N, by omega⟩
  have := h (d + j) m a
  rw [show d + (N + j) = d + j + N by omega]
  exact this
set_option maxRecDepth 20000 in
theorem tp_fm_rf {m : Nat → Nat → Int} : tp_fm m m := ⟨fun _ _ _ => rfl, fun _ _ _ _ => rfl⟩
set_option maxRecDepth 20000 in
theorem tp_fm_tr {m m' m'' : Nat → Nat → Int} (h : tp_fm m m') (h' : tp_fm m' m'') : tp_fm m m'' := ⟨fun x a b => by rw [h'.1 x a b, h.1 x a b], fun q a b c => by rw [h'.2 q a b c, h.2 q a b c]⟩
set_option maxRecDepth 20000 in
theorem tp_mo_tr {u n : Nat} {T : Nat → Int} {k ok : Int} {p c : Nat} {g : Nat → Int × Int} {m m' m'' : Nat → Nat → Int} (h : tp_fm m m') (h' : tp_mo u n T k ok p c g m' m'') : tp_mo u n T k ok p c g m m'' := ⟨tp_fm_tr h h'.1, h'.2⟩
set_option maxRecDepth 20000 in
theorem tp_mo_1 {u n : Nat} {T : Nat → Int} {k : Int} {p c : Nat} {g : Nat → Int × Int} {m m' : Nat → Nat → Int} (h : tp_fm m m') (h' : tp_ms u n T k p c g m') : tp_mo u n T k 1 p c g m m' := ⟨h, h'.2.2.1, fun _ => h'⟩
set_option maxRecDepth 20000 in
theorem tp_mo_0 {u n : Nat} {T : Nat → Int} {k : Int} {p c : Nat} {g : Nat → Int × Int} {m m' : Nat → Nat → Int} (h : tp_fm m m') (h' : m' 74 6 = p) : tp_mo u n T k 0 p c g m m' := ⟨h, h', fun e => absurd e (by decide)⟩
set_option maxRecDepth 20000 in
theorem tp_ms_mv {u n : Nat} {T : Nat → Int} {k : Int} {p c : Nat} {g : Nat → Int × Int} {m : Nat → Nat → Int} (h : tp_ms u n T k p c g m) : tp_ms u n T k (p + 1) c g (yy_s m 74 6 ((p : Int) + 1)) := by
  obtain ⟨a0, a1, a2, a3, a4, a5, a6⟩ := h
  exact ⟨by simp (disch := first | omega | (unfold xm_w; omega)) only [↓zy_at, xm_O_some, xm_Oi_some, xm_Ov_some, xm_Oq_some, ↓reduceIte, ↓zz_t, ↓zz_f, ↓zi_t, ↓zi_f, eq_self, yy_d_0, Int.reduceEq, Int.reduceLT, Int.reduceLE, Int.reduceNe, Int.reduceToNat, Int.reduceAdd, Int.reduceSub, Int.reduceMul, Int.reduceNeg, Nat.reduceAdd, Nat.reduceMul, Nat.reduceSub, Nat.reduceEqDiff, Nat.reduceLT, ne_eq, not_false_eq_true, not_true_eq_false, true_and, and_true, and_self, yy_s_eq, yy_s_ne, yy_c_eq, yy_c_ne, yy_u_eq, yy_u_ne, xm_w_id, yy_at, tdiv_pos, tmod_pos, a0], fun j hj => by rw [yy_s_ne (by decide)]; exact a1 j hj, by rw [yy_s_eq, yy_u_eq]; omega, by simp (disch := first | omega | (unfold xm_w; omega)) only [↓zy_at, xm_O_some, xm_Oi_some, xm_Ov_some, xm_Oq_some, ↓reduceIte, ↓zz_t, ↓zz_f, ↓zi_t, ↓zi_f, eq_self, yy_d_0, Int.reduceEq, Int.reduceLT, Int.reduceLE, Int.reduceNe, Int.reduceToNat, Int.reduceAdd, Int.reduceSub, Int.reduceMul, Int.reduceNeg, Nat.reduceAdd, Nat.reduceMul, Nat.reduceSub, Nat.reduceEqDiff, Nat.reduceLT, ne_eq, not_false_eq_true, not_true_eq_false, true_and, and_true, and_self, yy_s_eq, yy_s_ne, yy_c_eq, yy_c_ne, yy_u_eq, yy_u_ne, xm_w_id, yy_at, tdiv_pos, tmod_pos, a3], by simp (disch := first | omega | (unfold xm_w; omega)) only [↓zy_at, xm_O_some, xm_Oi_some, xm_Ov_some, xm_Oq_some, ↓reduceIte, ↓zz_t, ↓zz_f, ↓zi_t, ↓zi_f, eq_self, yy_d_0, Int.reduceEq, Int.reduceLT, Int.reduceLE, Int.reduceNe, Int.reduceToNat, Int.reduceAdd, Int.reduceSub, Int.reduceMul, Int.reduceNeg, Nat.reduceAdd, Nat.reduceMul, Nat.reduceSub, Nat.reduceEqDiff, Nat.reduceLT, ne_eq, not_false_eq_true, not_true_eq_false, true_and, and_true, and_self, yy_s_eq, yy_s_ne, yy_c_eq, yy_c_ne, yy_u_eq, yy_u_ne, xm_w_id, yy_at, tdiv_pos, tmod_pos, a4], by simp (disch := first | omega | (unfold xm_w; omega)) only [↓zy_at, xm_O_some, xm_Oi_some, xm_Ov_some, xm_Oq_some, ↓reduceIte, ↓zz_t, ↓zz_f, ↓zi_t, ↓zi_f, eq_self, yy_d_0, Int.reduceEq, Int.reduceLT, Int.reduceLE, Int.reduceNe, Int.reduceToNat, Int.reduceAdd, Int.reduceSub, Int.reduceMul, Int.reduceNeg, Nat.reduceAdd, Nat.reduceMul, Nat.reduceSub, Nat.reduceEqDiff, Nat.reduceLT, ne_eq, not_false_eq_true, not_true_eq_false, true_and, and_true, and_self, yy_s_eq, yy_s_ne, yy_c_eq, yy_c_ne, yy_u_eq, yy_u_ne, xm_w_id, yy_at, tdiv_pos, tmod_pos, a5], fun j hj => by rw [yy_s_ne (by decide)]; exact a6 j hj⟩
set_option maxRecDepth 20000 in
theorem tp_ms_k {u n : Nat} {T : Nat → Int} {k k' : Int} {p c : Nat} {g : Nat → Int × Int} {m : Nat → Nat → Int} (h : tp_ms u n T k p c g m) : tp_ms u n T k' p c g (yy_s m 74 7 k') := by
  obtain ⟨a0, a1, a2, a3, a4, a5, a6⟩ := h
  exact ⟨by simp (disch := first | omega | (unfold xm_w; omega)) only [↓zy_at, xm_O_some, xm_Oi_some, xm_Ov_some, xm_Oq_some, ↓reduceIte, ↓zz_t, ↓zz_f, ↓zi_t, ↓zi_f, eq_self, yy_d_0, Int.reduceEq, Int.reduceLT, Int.reduceLE, Int.reduceNe, Int.reduceToNat, Int.reduceAdd, Int.reduceSub, Int.reduceMul, Int.reduceNeg, Nat.reduceAdd, Nat.reduceMul, Nat.reduceSub, Nat.reduceEqDiff, Nat.reduceLT, ne_eq, not_false_eq_true, not_true_eq_false, true_and, and_true, and_self, yy_s_eq, yy_s_ne, yy_c_eq, yy_c_ne, yy_u_eq, yy_u_ne, xm_w_id, yy_at, tdiv_pos, tmod_pos, a0], fun j hj => by rw [yy_s_ne (by decide)]; exact a1 j hj, by simp (disch := first | omega | (unfold xm_w; omega)) only [↓zy_at, xm_O_some, xm_Oi_some, xm_Ov_some, xm_Oq_some, ↓reduceIte, ↓zz_t, ↓zz_f, ↓zi_t, ↓zi_f, eq_self, yy_d_0, Int.reduceEq, Int.reduceLT, Int.reduceLE, Int.reduceNe, Int.reduceToNat, Int.reduceAdd, Int.reduceSub, Int.reduceMul, Int.reduceNeg, Nat.reduceAdd, Nat.reduceMul, Nat.reduceSub, Nat.reduceEqDiff, Nat.reduceLT, ne_eq, not_false_eq_true, not_true_eq_false, true_and, and_true, and_self, yy_s_eq, yy_s_ne, yy_c_eq, yy_c_ne, yy_u_eq, yy_u_ne, xm_w_id, yy_at, tdiv_pos, tmod_pos, a2], by simp (disch := first | omega | (unfold xm_w; omega)) only [↓zy_at, xm_O_some, xm_Oi_some, xm_Ov_some, xm_Oq_some, ↓reduceIte, ↓zz_t, ↓zz_f, ↓zi_t, ↓zi_f, eq_self, yy_d_0, Int.reduceEq, Int.reduceLT, Int.reduceLE, Int.reduceNe, Int.reduceToNat, Int.reduceAdd, Int.reduceSub, Int.reduceMul, Int.reduceNeg, Nat.reduceAdd, Nat.reduceMul, Nat.reduceSub, Nat.reduceEqDiff, Nat.reduceLT, ne_eq, not_false_eq_true, not_true_eq_false, true_and, and_true, and_self, yy_s_eq, yy_s_ne, yy_c_eq, yy_c_ne, yy_u_eq, yy_u_ne, xm_w_id, yy_at, tdiv_pos, tmod_pos], by simp (disch := first | omega | (unfold xm_w; omega)) only [↓zy_at, xm_O_some, xm_Oi_some, xm_Ov_some, xm_Oq_some, ↓reduceIte, ↓zz_t, ↓zz_f, ↓zi_t, ↓zi_f, eq_self, yy_d_0, Int.reduceEq, Int.reduceLT, Int.reduceLE, Int.reduceNe, Int.reduceToNat, Int.reduceAdd, Int.reduceSub, Int.reduceMul, Int.reduceNeg, Nat.reduceAdd, Nat.reduceMul, Nat.reduceSub, Nat.reduceEqDiff, Nat.reduceLT, ne_eq, not_false_eq_true, not_true_eq_false, true_and, and_true, and_self, yy_s_eq, yy_s_ne, yy_c_eq, yy_c_ne, yy_u_eq, yy_u_ne, xm_w_id, yy_at, tdiv_pos, tmod_pos, a4], by simp (disch := first | omega | (unfold xm_w; omega)) only [↓zy_at, xm_O_some, xm_Oi_some, xm_Ov_some, xm_Oq_some, ↓reduceIte, ↓zz_t, ↓zz_f, ↓zi_t, ↓zi_f, eq_self, yy_d_0, Int.reduceEq, Int.reduceLT, Int.reduceLE, Int.reduceNe, Int.reduceToNat, Int.reduceAdd, Int.reduceSub, Int.reduceMul, Int.reduceNeg, Nat.reduceAdd, Nat.reduceMul, Nat.reduceSub, Nat.reduceEqDiff, Nat.reduceLT, ne_eq, not_false_eq_true, not_true_eq_false, true_and, and_true, and_self, yy_s_eq, yy_s_ne, yy_c_eq, yy_c_ne, yy_u_eq, yy_u_ne, xm_w_id, yy_at, tdiv_pos, tmod_pos, a5], fun j hj => by rw [yy_s_ne (by decide)]; exact a6 j hj⟩
set_option maxRecDepth 20000 in
theorem tp_ms_em {u n : Nat} {T : Nat → Int} {k : Int} {p c : Nat} {g : Nat → Int × Int} {m : Nat → Nat → Int} {a b : Int} (h : tp_ms u n T k p c g m) : tp_ms u n T k p (c + 1) (tp_u g c (a, b)) (yy_s (yy_s (yy_s m 79 (2 * c) a) 79 (2 * c + 1) b) 74 8 ((c : Int) + 1)) := by
  obtain ⟨a0, a1, a2, a3, a4, a5, a6⟩ := h
  refine ⟨by simp (disch := first | omega | (unfold xm_w; omega)) only [↓zy_at, xm_O_some, xm_Oi_some, xm_Ov_some, xm_Oq_some, ↓reduceIte, ↓zz_t, ↓zz_f, ↓zi_t, ↓zi_f, eq_self, yy_d_0, Int.reduceEq, Int.reduceLT, Int.reduceLE, Int.reduceNe, Int.reduceToNat, Int.reduceAdd, Int.reduceSub, Int.reduceMul, Int.reduceNeg, Nat.reduceAdd, Nat.reduceMul, Nat.reduceSub, Nat.reduceEqDiff, Nat.reduceLT, ne_eq, not_false_eq_true, not_true_eq_false, true_and, and_true, and_self, yy_s_eq, yy_s_ne, yy_c_eq, yy_c_ne, yy_u_eq, yy_u_ne, xm_w_id, yy_at, tdiv_pos, tmod_pos, a0], fun j hj => by rw [yy_s_ne (by decide), yy_s_ne (by decide), yy_s_ne (by decide)]; exact a1 j hj, by simp (disch := first | omega | (unfold xm_w; omega)) only [↓zy_at, xm_O_some, xm_Oi_some, xm_Ov_some, xm_Oq_some, ↓reduceIte, ↓zz_t, ↓zz_f, ↓zi_t, ↓zi_f, eq_self, yy_d_0, Int.reduceEq, Int.reduceLT, Int.reduceLE, Int.reduceNe, Int.reduceToNat, Int.reduceAdd, Int.reduceSub, Int.reduceMul, Int.reduceNeg, Nat.reduceAdd, Nat.reduceMul, Nat.reduceSub, Nat.reduceEqDiff, Nat.reduceLT, ne_eq, not_false_eq_true, not_true_eq_false, true_and, and_true, and_self, yy_s_eq, yy_s_ne, yy_c_eq, yy_c_ne, yy_u_eq, yy_u_ne, xm_w_id, yy_at, tdiv_pos, tmod_pos, a2], by simp (disch := first | omega | (unfold xm_w; omega)) only [↓zy_at, xm_O_some, xm_Oi_some, xm_Ov_some, xm_Oq_some, ↓reduceIte, ↓zz_t, ↓zz_f, ↓zi_t, ↓zi_f, eq_self, yy_d_0, Int.reduceEq, Int.reduceLT, Int.reduceLE, Int.reduceNe, Int.reduceToNat, Int.reduceAdd, Int.reduceSub, Int.reduceMul, Int.reduceNeg, Nat.reduceAdd, Nat.reduceMul, Nat.reduceSub, Nat.reduceEqDiff, Nat.reduceLT, ne_eq, not_false_eq_true, not_true_eq_false, true_and, and_true, and_self, yy_s_eq, yy_s_ne, yy_c_eq, yy_c_ne, yy_u_eq, yy_u_ne, xm_w_id, yy_at, tdiv_pos, tmod_pos, a3], by rw [yy_s_eq, yy_u_eq]; omega, by simp (disch := first | omega | (unfold xm_w; omega)) only [↓zy_at, xm_O_some, xm_Oi_some, xm_Ov_some, xm_Oq_some, ↓reduceIte, ↓zz_t, ↓zz_f, ↓zi_t, ↓zi_f, eq_self, yy_d_0, Int.reduceEq, Int.reduceLT, Int.reduceLE, Int.reduceNe, Int.reduceToNat, Int.reduceAdd, Int.reduceSub, Int.reduceMul, Int.reduceNeg, Nat.reduceAdd, Nat.reduceMul, Nat.reduceSub, Nat.reduceEqDiff, Nat.reduceLT, ne_eq, not_false_eq_true, not_true_eq_false, true_and, and_true, and_self, yy_s_eq, yy_s_ne, yy_c_eq, yy_c_ne, yy_u_eq, yy_u_ne, xm_w_id, yy_at, tdiv_pos, tmod_pos, a5], fun j hj => ?_⟩
  rw [yy_s_ne (by decide), yy_s_eq, yy_s_eq]
  by_cases e : j = c
  · subst e; rw [tp_u_eq, yy_u_ne (show 2 * j ≠ 2 * j + 1 by omega), yy_u_eq, yy_u_eq]; exact ⟨rfl, rfl⟩
  · rw [tp_u_ne e, yy_u_ne (by omega), yy_u_ne (by omega), yy_u_ne (by omega), yy_u_ne (by omega)]; exact a6 j (by omega)
set_option maxRecDepth 20000 in
theorem tp_fm_mv {m : Nat → Nat → Int} {v : Int} : tp_fm m (yy_s m 74 6 v) := ⟨fun x a _ => yy_s_ne a, fun q a _ _ => by rw [yy_s_eq, yy_u_ne a]⟩
set_option maxRecDepth 20000 in
theorem tp_fm_k {m : Nat → Nat → Int} {v : Int} : tp_fm m (yy_s m 74 7 v) := ⟨fun x a _ => yy_s_ne a, fun q _ a _ => by rw [yy_s_eq, yy_u_ne a]⟩
set_option maxRecDepth 20000 in
theorem tp_fm_em {m : Nat → Nat → Int} {v a b : Int} {k k' : Nat} : tp_fm m (yy_s (yy_s (yy_s m 79 k a) 79 k' b) 74 8 v) := ⟨fun x a b => by rw [yy_s_ne a, yy_s_ne b, yy_s_ne b], fun q _ _ a => by rw [yy_s_eq, yy_u_ne a, yy_s_ne (by decide), yy_s_ne (by decide)]⟩
set_option maxRecDepth 20000 in
theorem c_1115 {sc : List Int} {d : Nat} {t : xm_W} {m : Nat → Nat → Int} {u n : Nat} {T : Nat → Int} {k : Int} {p c : Nat} {g : Nat → Int × Int} (hT : tp_T n T) (hs : tp_ms u n T k p c g m) : xm_X (xm_old sc) xm_mt (d + 1) 1115 [.inr (.inl (some 74))] (yy_W (m) t) = some (some (.inl (tp_lk n T p)), (yy_W (m) t)) := by
  obtain ⟨a0, a1, a2, a3, a4, a5, a6⟩ := id hs
  have hn := hT.1
  refine xm_X_of (M := xm_m1115) rfl ⟨xm_EQ.eq (xb_1115_0 ?_), rfl, rfl, Nat.le_of_ble_eq_true rfl, yy_hd rfl (by decide)⟩
  have e4 : m 75 ((4 : Int)).toNat = n := a0
  unfold tp_lk
  rw [zf_74_6, zr_74_0, zi_75, zy_at (by decide) (by decide), e4, a2]
  by_cases h : p < n
  · have e1 : m 75 (589 + (p : Int)).toNat = T p := by rw [show (589 + (p : Int)).toNat = 589 + p by omega]; exact a1 p (by omega)
    rw [if_pos (by omega), zr_74_0, zf_74_6, a2, zi_75, xm_w_id (by omega) (by omega), zy_at (by omega) (by omega), e1, if_pos h]
  · rw [if_neg (by omega), if_neg h]
set_option maxRecDepth 20000 in
theorem oc_1115 {F : Int → xm_W → Prop} {sc : List Int} {d : Nat} {t : xm_W} {m : Nat → Nat → Int} {u n : Nat} {T : Nat → Int} {k : Int} {p c : Nat} {g : Nat → Int × Int} (hT : tp_T n T) (hs : tp_ms u n T k p c g m) : xm_Oi (xm_X (xm_old sc) xm_mt (d + 1) 1115 [.inr (.inl (some 74))] (yy_W (m) t)) F = F (tp_lk n T p) (yy_W (m) t) := congrArg (fun x => xm_Oi x F) (c_1115 hT hs)
set_option maxRecDepth 20000 in
theorem c_1116t {sc : List Int} {d : Nat} {t : xm_W} {m : Nat → Nat → Int} {u : Nat} {z : Int} (h : m 74 9 = u) (hz : sg_nm u z) : xm_X (xm_old sc) xm_mt (d + 1) 1116 [.inr (.inl (some 74)), .inl (z)] (yy_W (m) t) = some (some (.inl (1)), (yy_W (m) t)) := by
  refine xm_X_of (M := xm_m1116) rfl ⟨xm_EQ.eq (xb_1116_0 ?_), rfl, rfl, Nat.le_of_ble_eq_true rfl, yy_hd rfl (by decide)⟩
  rw [zf_74_9, h]
  unfold sg_nm at hz
  by_cases e : u = 0
  · rw [if_pos e] at hz; rw [if_pos (by omega)]
    rcases hz with q | q | q | q <;> subst q <;> rfl
  · rw [if_neg e] at hz; rw [if_neg (by omega)]
    rcases hz with q | q | q <;> subst q <;> rfl
set_option maxRecDepth 20000 in
theorem oc_1116t {F : Int → xm_W → Prop} {sc : List Int} {d : Nat} {t : xm_W} {m : Nat → Nat → Int} {u : Nat} {z : Int} (h : m 74 9 = u) (hz : sg_nm u z) : xm_Oi (xm_X (xm_old sc) xm_mt (d + 1) 1116 [.inr (.inl (some 74)), .inl (z)] (yy_W (m) t)) F = F (1) (yy_W (m) t) := congrArg (fun x => xm_Oi x F) (c_1116t h hz)
set_option maxRecDepth 20000 in
theorem c_1116f {sc : List Int} {d : Nat} {t : xm_W} {m : Nat → Nat → Int} {u : Nat} {z : Int} (h : m 74 9 = u) (hz : ¬ sg_nm u z) : xm_X (xm_old sc) xm_mt (d + 1) 1116 [.inr (.inl (some 74)), .inl (z)] (yy_W (m) t) = some (some (.inl (0)), (yy_W (m) t)) := by
  refine xm_X_of (M := xm_m1116) rfl ⟨xm_EQ.eq (xb_1116_0 ?_), rfl, rfl, Nat.le_of_ble_eq_true rfl, yy_hd rfl (by decide)⟩
  rw [zf_74_9, h]
  unfold sg_nm at hz
  by_cases e : u = 0
  · rw [if_pos e] at hz; rw [if_pos (by omega), if_neg (by omega), if_neg (by omega), if_neg (by omega), if_neg (by omega)]
  · rw [if_neg e] at hz; rw [if_neg (by omega), if_neg (by omega), if_neg (by omega), if_neg (by omega)]
set_option maxRecDepth 20000 in
theorem oc_1116f {F : Int → xm_W → Prop} {sc : List Int} {d : Nat} {t : xm_W} {m : Nat → Nat → Int} {u : Nat} {z : Int} (h : m 74 9 = u) (hz : ¬ sg_nm u z) : xm_Oi (xm_X (xm_old sc) xm_mt (d + 1) 1116 [.inr (.inl (some 74)), .inl (z)] (yy_W (m) t)) F = F (0) (yy_W (m) t) := congrArg (fun x => xm_Oi x F) (c_1116f h hz)
set_option maxRecDepth 20000 in
theorem c_1117 {sc : List Int} {d : Nat} {t : xm_W} {m : Nat → Nat → Int} {c : Nat} {a b : Int} (h : m 74 8 = c) (hc : c < 60) : xm_X (xm_old sc) xm_mt (d + 1) 1117 [.inr (.inl (some 74)), .inl (a), .inl (b)] (yy_W (m) t) = some (none, (yy_W (yy_s (yy_s (yy_s m 79 (2 * c) a) 79 (2 * c + 1) b) 74 8 ((c : Int) + 1)) t)) := by
  refine xm_X_of (M := xm_m1117) rfl ⟨xm_EQ.eq (xb_1117_0 ?_), rfl, rfl, Nat.le_of_ble_eq_true rfl, yy_hd rfl (by decide)⟩
  rw [zr_74_10, zf_74_8, h, xm_w_id (z := 2 * (c : Int)) (by omega) (by omega), zt_79 (by omega) (by omega), show (2 * (c : Int)).toNat = 2 * c by omega, zr_74_10, zf_74_8, yy_s_ne (by decide), h, xm_w_id (z := 2 * (c : Int)) (by omega) (by omega), xm_w_id (z := 2 * (c : Int) + 1) (by omega) (by omega), zt_79 (by omega) (by omega), show (2 * (c : Int) + 1).toNat = 2 * c + 1 by omega, zf_74_8, yy_s_ne (by decide), yy_s_ne (by decide), h, xm_w_id (z := (c : Int) + 1) (by omega) (by omega), zs_74_8]
set_option maxRecDepth 20000 in
theorem oc_1117 {F : xm_W → Prop} {sc : List Int} {d : Nat} {t : xm_W} {m : Nat → Nat → Int} {c : Nat} {a b : Int} (h : m 74 8 = c) (hc : c < 60) : xm_Ov (xm_X (xm_old sc) xm_mt (d + 1) 1117 [.inr (.inl (some 74)), .inl (a), .inl (b)] (yy_W (m) t)) F = F (yy_W (yy_s (yy_s (yy_s m 79 (2 * c) a) 79 (2 * c + 1) b) 74 8 ((c : Int) + 1)) t) := congrArg (fun x => xm_Ov x F) (c_1117 h hc)
set_option maxRecDepth 20000 in
theorem tm_end {sc : List Int} {t : xm_W} {u n : Nat} {T : Nat → Int} {k : Int} {p c : Nat} {g : Nat → Int × Int} (hT : tp_T n T) (h : n ≤ p) : tp_M sc t u n T k 2 1124 p c g 0 p c g := fun d m hs => by
  obtain ⟨a0, a1, a2, a3, a4, a5, a6⟩ := id hs
  refine ⟨m, ?_, tp_mo_0 tp_fm_rf a2⟩
  show xm_X (xm_old sc) xm_mt (d + 1 + 1) 1124 [.inr (.inl (some 74))] (yy_W (m) t) = _
  refine xm_X_of (M := xm_m1124) rfl ⟨xm_EQ.eq (xb_1124_0 ?_), rfl, rfl, Nat.le_of_ble_eq_true rfl, yy_hd rfl (by decide)⟩
  have e : tp_lk n T p = -1 := if_neg (by omega)
  rw [oc_1115 (d := d) hT hs, e, oc_1116f (d := d) a5 (by unfold sg_nm; split <;> omega), if_pos rfl, oc_1103 (d := d), zz_f (by decide), if_neg (by decide), if_neg (by decide)]
set_option maxRecDepth 20000 in
theorem tm_nam {sc : List Int} {t : xm_W} {u n : Nat} {T : Nat → Int} {k : Int} {p c : Nat} {g : Nat → Int × Int} (hT : tp_T n T) (hp : p < n) (hc : c ≤ p) (hz : sg_nm u (T p)) : tp_M sc t u n T k 2 1124 p c g 1 (p + 1) (c + 1) (tp_u g c (1, T p)) := fun d m hs => by
  obtain ⟨a0, a1, a2, a3, a4, a5, a6⟩ := id hs
  have hn := hT.1
  refine ⟨_, ?_, tp_mo_1 (tp_fm_tr tp_fm_mv tp_fm_em) (tp_ms_em (a := 1) (b := T p) (tp_ms_mv hs))⟩
  show xm_X (xm_old sc) xm_mt (d + 1 + 1) 1124 [.inr (.inl (some 74))] (yy_W (m) t) = _
  refine xm_X_of (M := xm_m1124) rfl ⟨xm_EQ.eq (xb_1124_0 ?_), rfl, rfl, Nat.le_of_ble_eq_true rfl, yy_hd rfl (by decide)⟩
  have e : tp_lk n T p = T p := if_pos hp
  rw [oc_1115 (d := d) hT hs, e, oc_1116t (d := d) a5 hz, if_neg (by decide), zf_74_6, a2, zs_74_6, xm_w_id (z := (p : Int) + 1) (by omega) (by omega), oc_1117 (d := d) (c := c) (by simp (disch := first | omega | (unfold xm_w; omega)) only [↓zy_at, xm_O_some, xm_Oi_some, xm_Ov_some, xm_Oq_some, ↓reduceIte, ↓zz_t, ↓zz_f, ↓zi_t, ↓zi_f, eq_self, yy_d_0, Int.reduceEq, Int.reduceLT, Int.reduceLE, Int.reduceNe, Int.reduceToNat, Int.reduceAdd, Int.reduceSub, Int.reduceMul, Int.reduceNeg, Nat.reduceAdd, Nat.reduceMul, Nat.reduceSub, Nat.reduceEqDiff, Nat.reduceLT, ne_eq, not_false_eq_true, not_true_eq_false, true_and, and_true, and_self, yy_s_eq, yy_s_ne, yy_c_eq, yy_c_ne, yy_u_eq, yy_u_ne, xm_w_id, yy_at, tdiv_pos, tmod_pos, a4]) (by omega)]
set_option maxRecDepth 20000 in
theorem l_1124 {sc : List Int} {d : Nat} {t : xm_W} {u n : Nat} {T : Nat → Int} {k z0 : Int} {c : Nat} {g : Nat → Int × Int} {Q : Option xm_V × xm_W → Prop} (hT : tp_T n T) (hc : c < 60) : ∀ (f p : Nat) (v i : Int) (m : Nat → Nat → Int), (0 ≤ i ∧ i + f = 4) → (0 ≤ v ∧ v ≤ tp_B f) → p ≤ n → tp_ms u n T k p c g m → (∀ m', tp_mo u n T k 1 (tp_nu n T f p v).2 (c + 1) (tp_u g c (0, (tp_nu n T f p v).1)) m m' → Q ((some (.inl (1)), (yy_W (m') t)))) → xm_EQ (xm_old sc) xm_sta (xm_X (xm_old sc) xm_mt (d + 1)) xm_c1124 28 [some (.inr (.inl (some 74))), some (.inl (z0)), some (.inl (v)), some (.inl (i))] [] (yy_W (m) t) Q
  | 0, p, v, i, m, hi, hv, hp, hs, hQ => by
    obtain ⟨a0, a1, a2, a3, a4, a5, a6⟩ := id hs
    refine xb_1124_28 ?_
    rw [if_neg (by omega), oc_1117 (d := d) (c := c) a4 hc]
    exact hQ _ (tp_mo_1 tp_fm_em (tp_ms_em hs))
  | f + 1, p, v, i, m, hi, hv, hp, hs, hQ => by
    obtain ⟨a0, a1, a2, a3, a4, a5, a6⟩ := id hs
    have hn := hT.1
    refine xb_1124_28 ?_
    rw [if_pos (by omega), oc_1115 (d := d) hT hs, oc_1103 (d := d)]
    by_cases h : p < n ∧ 48 ≤ T p ∧ T p ≤ 57
    · have e : tp_nu n T (f + 1) p v = tp_nu n T f (p + 1) (10 * v + T p - 48) := by
        conv => lhs; unfold tp_nu
        rw [if_pos h]
      have hB := tp_B_s (by omega) hv h.2
      have hb := tp_B_b hB
      have hb2 := tp_B_b hv
      have el : tp_lk n T p = T p := if_pos h.1
      rw [e] at hQ
      rw [el, zz_t h.2, oc_1115 (d := d) hT hs, el, zf_74_6, a2, zs_74_6, xm_w_id (z := (p : Int) + 1) (by omega) (by omega), xm_w_id (z := i + 1) (by omega) (by omega), xm_w_id (z := 10 * v) (by omega) (by omega), xm_w_id (z := 10 * v + T p) (by omega) (by omega), xm_w_id (z := 10 * v + T p - 48) (by omega) (by omega)]
      exact l_1124 hT hc f (p + 1) _ (i + 1) _ (by omega) hB (by omega) (tp_ms_mv hs) fun m' h => hQ m' (tp_mo_tr tp_fm_mv h)
    · have e : tp_nu n T (f + 1) p v = (v, p) := by
        conv => lhs; unfold tp_nu
        rw [if_neg h]
      rw [e] at hQ
      have el : ¬ (48 ≤ tp_lk n T p ∧ tp_lk n T p ≤ 57) := by
        unfold tp_lk
        by_cases h1 : p < n
        · rw [if_pos h1]; exact fun g => h ⟨h1, g⟩
        · rw [if_neg h1]; decide
      rw [zz_f el, oc_1117 (d := d) (c := c) a4 hc]
      exact hQ _ (tp_mo_1 tp_fm_em (tp_ms_em hs))
set_option maxRecDepth 20000 in
theorem c_1124n {sc : List Int} {d : Nat} {t : xm_W} {m : Nat → Nat → Int} {u n : Nat} {T : Nat → Int} {k : Int} {p c : Nat} {g : Nat → Int × Int} (hT : tp_T n T) (hc : c < 60) (hp : p < n) (hz : 48 ≤ T p ∧ T p ≤ 57) (hs : tp_ms u n T k p c g m) : ∃ m', xm_X (xm_old sc) xm_mt (d + 2) 1124 [.inr (.inl (some 74))] (yy_W m t) = some (some (.inl (1)), yy_W m' t) ∧ tp_mo u n T k 1 (tp_nu n T 4 p 0).2 (c + 1) (tp_u g c (0, (tp_nu n T 4 p 0).1)) m m' := by
  have key : ∀ {Q : Option xm_V × xm_W → Prop}, (∀ m', (tp_mo u n T k 1 (tp_nu n T 4 p 0).2 (c + 1) (tp_u g c (0, (tp_nu n T 4 p 0).1)) m m') → Q (some (.inl (1)), yy_W m' t)) → xm_EQ (xm_old sc) xm_sta (xm_X (xm_old sc) xm_mt (d + 1)) xm_m1124.2.2.2.2.2.2.2 0 (xm_loc xm_m1124.2.2.1 [.inr (.inl (some 74))]) [] (yy_W m t) Q := by
    intro Q hQ
    refine xb_1124_0 ?_
    have e : tp_lk n T p = T p := if_pos hp
    have nn : ¬ sg_nm u (T p) := by unfold sg_nm; split <;> omega
    rw [oc_1115 (d := d) hT hs, e, oc_1116f (d := d) hs.2.2.2.2.2.1 nn, if_pos rfl, oc_1103 (d := d), zz_t hz]
    exact l_1124 (d := d) hT hc 4 p 0 0 m (by decide) (by decide) (by omega) hs hQ
  obtain ⟨q, h1, m', h2, h3⟩ := yx_of (y := 1124) (M := xm_m1124) (sc := sc) (d := d + 1) (as := [.inr (.inl (some 74))]) (w := yy_W m t) (Q := fun q => ∃ m', q = (some (.inl (1)), yy_W m' t) ∧ (tp_mo u n T k 1 (tp_nu n T 4 p 0).2 (c + 1) (tp_u g c (0, (tp_nu n T 4 p 0).1)) m m')) rfl (key fun m' h => ⟨m', rfl, h⟩) (fun q ⟨m', h, _⟩ => by rw [h]; rfl) rfl (Nat.le_of_ble_eq_true rfl) (yy_hd rfl (by decide))
  exact ⟨m', by rw [h1, h2], h3⟩
set_option maxRecDepth 20000 in
theorem tm_num {sc : List Int} {t : xm_W} {u n : Nat} {T : Nat → Int} {k : Int} {p c : Nat} {g : Nat → Int × Int} (hT : tp_T n T) (hp : p < n) (hc : c ≤ p) (hz : 48 ≤ T p ∧ T p ≤ 57) : tp_M sc t u n T k 2 1124 p c g 1 (tp_nu n T 4 p 0).2 (c + 1) (tp_u g c (0, (tp_nu n T 4 p 0).1)) := fun d m hs => by
  have hn := hT.1
  exact c_1124n (d := d) hT (by omega) hp hz hs
set_option maxRecDepth 20000 in
theorem c_1123 {sc : List Int} {d : Nat} {t : xm_W} {m : Nat → Nat → Int} {u n : Nat} {T : Nat → Int} {k : Int} {p c : Nat} {g : Nat → Int × Int} (hT : tp_T n T) (hp : p < n) (hk : 0 ≤ k ∧ k < 5) (hs : tp_ms u n T k p c g m) : xm_X (xm_old sc) xm_mt (d + 1) 1123 [.inr (.inl (some 74))] (yy_W (m) t) = some (some (.inl (1)), (yy_W (yy_s (yy_s m 74 7 (k + 1)) 74 6 ((p : Int) + 1)) t)) := by
  obtain ⟨a0, a1, a2, a3, a4, a5, a6⟩ := id hs
  have hn := hT.1
  refine xm_X_of (M := xm_m1123) rfl ⟨xm_EQ.eq (xb_1123_0 ?_), rfl, rfl, Nat.le_of_ble_eq_true rfl, yy_hd rfl (by decide)⟩
  rw [zf_74_7, a3, if_neg (by omega), zf_74_7, a3, zs_74_7, xm_w_id (z := k + 1) (by omega) (by omega), zf_74_6, show yy_s m 74 7 (k + 1) 74 6 = p by simp (disch := first | omega | (unfold xm_w; omega)) only [↓zy_at, xm_O_some, xm_Oi_some, xm_Ov_some, xm_Oq_some, ↓reduceIte, ↓zz_t, ↓zz_f, ↓zi_t, ↓zi_f, eq_self, yy_d_0, Int.reduceEq, Int.reduceLT, Int.reduceLE, Int.reduceNe, Int.reduceToNat, Int.reduceAdd, Int.reduceSub, Int.reduceMul, Int.reduceNeg, Nat.reduceAdd, Nat.reduceMul, Nat.reduceSub, Nat.reduceEqDiff, Nat.reduceLT, ne_eq, not_false_eq_true, not_true_eq_false, true_and, and_true, and_self, yy_s_eq, yy_s_ne, yy_c_eq, yy_c_ne, yy_u_eq, yy_u_ne, xm_w_id, yy_at, tdiv_pos, tmod_pos, a2], xm_w_id (z := (p : Int) + 1) (by omega) (by omega), zs_74_6]
set_option maxRecDepth 20000 in
theorem oc_1123 {F : Int → xm_W → Prop} {sc : List Int} {d : Nat} {t : xm_W} {m : Nat → Nat → Int} {u n : Nat} {T : Nat → Int} {k : Int} {p c : Nat} {g : Nat → Int × Int} (hT : tp_T n T) (hp : p < n) (hk : 0 ≤ k ∧ k < 5) (hs : tp_ms u n T k p c g m) : xm_Oi (xm_X (xm_old sc) xm_mt (d + 1) 1123 [.inr (.inl (some 74))] (yy_W (m) t)) F = F (1) (yy_W (yy_s (yy_s m 74 7 (k + 1)) 74 6 ((p : Int) + 1)) t) := congrArg (fun x => xm_Oi x F) (c_1123 hT hp hk hs)
set_option maxRecDepth 20000 in
theorem c_1123f {sc : List Int} {d : Nat} {t : xm_W} {m : Nat → Nat → Int} (hk : m 74 7 = 5) : xm_X (xm_old sc) xm_mt (d + 1) 1123 [.inr (.inl (some 74))] (yy_W (m) t) = some (some (.inl (0)), (yy_W (m) t)) := by
  refine xm_X_of (M := xm_m1123) rfl ⟨xm_EQ.eq (xb_1123_0 ?_), rfl, rfl, Nat.le_of_ble_eq_true rfl, yy_hd rfl (by decide)⟩
  rw [zf_74_7, if_pos hk]
set_option maxRecDepth 20000 in
theorem oc_1123f {F : Int → xm_W → Prop} {sc : List Int} {d : Nat} {t : xm_W} {m : Nat → Nat → Int} (hk : m 74 7 = 5) : xm_Oi (xm_X (xm_old sc) xm_mt (d + 1) 1123 [.inr (.inl (some 74))] (yy_W (m) t)) F = F (0) (yy_W (m) t) := congrArg (fun x => xm_Oi x F) (c_1123f hk)
set_option maxRecDepth 20000 in
theorem tm_bad {sc : List Int} {t : xm_W} {u n : Nat} {T : Nat → Int} {k : Int} {p c : Nat} {g : Nat → Int × Int} (hT : tp_T n T) (hp : p < n) (hz : ¬ sg_nm u (T p)) (hd : ¬ (48 ≤ T p ∧ T p ≤ 57)) (h : (T p ≠ 33 ∧ T p ≠ 40) ∨ k = 5) : tp_M sc t u n T k 2 1124 p c g 0 p c g := fun d m hs => by
  obtain ⟨a0, a1, a2, a3, a4, a5, a6⟩ := id hs
  refine ⟨m, ?_, tp_mo_0 tp_fm_rf a2⟩
  show xm_X (xm_old sc) xm_mt (d + 1 + 1) 1124 [.inr (.inl (some 74))] (yy_W (m) t) = _
  refine xm_X_of (M := xm_m1124) rfl ⟨xm_EQ.eq (xb_1124_0 ?_), rfl, rfl, Nat.le_of_ble_eq_true rfl, yy_hd rfl (by decide)⟩
  have e : tp_lk n T p = T p := if_pos hp
  rw [oc_1115 (d := d) hT hs, e, oc_1116f (d := d) a5 hz, if_pos rfl, oc_1103 (d := d), zz_f hd]
  by_cases h3 : T p = 33
  · rw [if_pos h3, oc_1123f (d := d) (by omega), if_pos rfl]
  · rw [if_neg h3]
    by_cases h4 : T p = 40
    · rw [if_pos h4, oc_1123f (d := d) (by omega), if_pos rfl]
    · rw [if_neg h4]
set_option maxRecDepth 20000 in
theorem tm_not {sc : List Int} {t : xm_W} {u n : Nat} {T : Nat → Int} {N p c p1 c1 : Nat} {g g1 : Nat → Int × Int} {k ok : Int} (hT : tp_T n T) (hp : p < n) (hz : T p = 33) (hk : 0 ≤ k ∧ k < 5) (hc : ok = 1 → c1 < 60) (hok : ok = 0 ∨ ok = 1) (w : tp_M sc t u n T (k + 1) (N + 1) 1124 (p + 1) c g ok p1 c1 g1) : tp_M sc t u n T k (N + 2) 1124 p c g ok p1 (c1 + 1) (tp_u g1 c1 (2, 0)) := fun d m hs => by
  obtain ⟨a0, a1, a2, a3, a4, a5, a6⟩ := id hs
  have hn := hT.1
  have nz : ¬ sg_nm u (T p) := by unfold sg_nm; split <;> omega
  have e : tp_lk n T p = T p := if_pos hp
  obtain ⟨m1, e1, f1, f2, f3⟩ := w d _ (tp_ms_mv (tp_ms_k (k' := k + 1) hs))
  rw [show d + (N + 1) = d + N + 1 by omega] at e1
  have ff := tp_fm_tr (tp_fm_tr tp_fm_k tp_fm_mv) f1
  rcases hok with q | q <;> subst q
  · refine ⟨m1, ?_, tp_mo_0 ff f2⟩
    show xm_X (xm_old sc) xm_mt (d + N + 1 + 1) 1124 [.inr (.inl (some 74))] (yy_W (m) t) = _
    refine xm_X_of (M := xm_m1124) rfl ⟨xm_EQ.eq (xb_1124_0 ?_), rfl, rfl, Nat.le_of_ble_eq_true rfl, yy_hd rfl (by decide)⟩
    rw [oc_1115 (d := d + N) hT hs, e, oc_1116f (d := d + N) a5 nz, if_pos rfl, oc_1103 (d := d + N), zz_f (by omega), if_pos hz, oc_1123 (d := d + N) hT hp hk hs, if_neg (by decide), e1, xm_Oi_some, if_pos rfl]
  · have hs1 := f3 rfl
    refine ⟨_, ?_, tp_mo_1 (tp_fm_tr (tp_fm_tr ff tp_fm_k) tp_fm_em) (tp_ms_em (a := 2) (b := 0) (tp_ms_k (k' := k) hs1))⟩
    show xm_X (xm_old sc) xm_mt (d + N + 1 + 1) 1124 [.inr (.inl (some 74))] (yy_W (m) t) = _
    refine xm_X_of (M := xm_m1124) rfl ⟨xm_EQ.eq (xb_1124_0 ?_), rfl, rfl, Nat.le_of_ble_eq_true rfl, yy_hd rfl (by decide)⟩
    rw [oc_1115 (d := d + N) hT hs, e, oc_1116f (d := d + N) a5 nz, if_pos rfl, oc_1103 (d := d + N), zz_f (by omega), if_pos hz, oc_1123 (d := d + N) hT hp hk hs, if_neg (by decide), e1, xm_Oi_some, if_neg (by decide), zf_74_7, hs1.2.2.2.1, zs_74_7, xm_w_id (z := k + 1 - 1) (by omega) (by omega), show k + 1 - 1 = k by omega, oc_1117 (d := d + N) (c := c1) (by have := hs1.2.2.2.2.1; simp (disch := first | omega | (unfold xm_w; omega)) only [↓zy_at, xm_O_some, xm_Oi_some, xm_Ov_some, xm_Oq_some, ↓reduceIte, ↓zz_t, ↓zz_f, ↓zi_t, ↓zi_f, eq_self, yy_d_0, Int.reduceEq, Int.reduceLT, Int.reduceLE, Int.reduceNe, Int.reduceToNat, Int.reduceAdd, Int.reduceSub, Int.reduceMul, Int.reduceNeg, Nat.reduceAdd, Nat.reduceMul, Nat.reduceSub, Nat.reduceEqDiff, Nat.reduceLT, ne_eq, not_false_eq_true, not_true_eq_false, true_and, and_true, and_self, yy_s_eq, yy_s_ne, yy_c_eq, yy_c_ne, yy_u_eq, yy_u_ne, xm_w_id, yy_at, tdiv_pos, tmod_pos, this]) (hc rfl)]
set_option maxRecDepth 20000 in
theorem tm_opn {sc : List Int} {t : xm_W} {u n : Nat} {T : Nat → Int} {N p c p1 c1 : Nat} {g g1 : Nat → Int × Int} {k ok : Int} (hT : tp_T n T) (hp : p < n) (hz : T p = 40) (hk : 0 ≤ k ∧ k < 5) (hp1 : p1 ≤ n) (hok : ok = 0 ∨ ok = 1) (w : tp_M sc t u n T (k + 1) (N + 1) 1118 (p + 1) c g ok p1 c1 g1) : tp_M sc t u n T k (N + 2) 1124 p c g (if ok = 1 ∧ p1 < n ∧ T p1 = 41 then 1 else 0) (if ok = 1 ∧ p1 < n ∧ T p1 = 41 then p1 + 1 else p1) c1 g1 := fun d m hs => by
  obtain ⟨a0, a1, a2, a3, a4, a5, a6⟩ := id hs
  have hn := hT.1
  have nz : ¬ sg_nm u (T p) := by unfold sg_nm; split <;> omega
  have e : tp_lk n T p = T p := if_pos hp
  have n33 : ¬ T p = 33 := by omega
  obtain ⟨m1, e1, f1, f2, f3⟩ := w d _ (tp_ms_mv (tp_ms_k (k' := k + 1) hs))
  rw [show d + (N + 1) = d + N + 1 by omega] at e1
  have ff := tp_fm_tr (tp_fm_tr tp_fm_k tp_fm_mv) f1
  rcases hok with q | q <;> subst q
  · rw [if_neg (fun h => absurd h.1 (by decide)), if_neg (fun h => absurd h.1 (by decide))]
    refine ⟨m1, ?_, tp_mo_0 ff f2⟩
    show xm_X (xm_old sc) xm_mt (d + N + 1 + 1) 1124 [.inr (.inl (some 74))] (yy_W (m) t) = _
    refine xm_X_of (M := xm_m1124) rfl ⟨xm_EQ.eq (xb_1124_0 ?_), rfl, rfl, Nat.le_of_ble_eq_true rfl, yy_hd rfl (by decide)⟩
    rw [oc_1115 (d := d + N) hT hs, e, oc_1116f (d := d + N) a5 nz, if_pos rfl, oc_1103 (d := d + N), zz_f (by omega), if_neg n33, if_pos hz, oc_1123 (d := d + N) hT hp hk hs, if_neg (by decide), e1, xm_Oi_some, if_pos rfl]
  · have hs1 := f3 rfl
    by_cases h : p1 < n ∧ T p1 = 41
    · rw [if_pos ⟨rfl, h⟩, if_pos ⟨rfl, h⟩]
      have el : tp_lk n T p1 = 41 := by unfold tp_lk; rw [if_pos h.1]; exact h.2
      refine ⟨_, ?_, tp_mo_1 (tp_fm_tr (tp_fm_tr ff tp_fm_mv) tp_fm_k) (tp_ms_k (k' := k) (tp_ms_mv hs1))⟩
      show xm_X (xm_old sc) xm_mt (d + N + 1 + 1) 1124 [.inr (.inl (some 74))] (yy_W (m) t) = _
      refine xm_X_of (M := xm_m1124) rfl ⟨xm_EQ.eq (xb_1124_0 ?_), rfl, rfl, Nat.le_of_ble_eq_true rfl, yy_hd rfl (by decide)⟩
      rw [oc_1115 (d := d + N) hT hs, e, oc_1116f (d := d + N) a5 nz, if_pos rfl, oc_1103 (d := d + N), zz_f (by omega), if_neg n33, if_pos hz, oc_1123 (d := d + N) hT hp hk hs, if_neg (by decide), e1, xm_Oi_some, if_neg (by decide), oc_1115 (d := d + N) hT hs1, el, if_pos rfl, zf_74_6, hs1.2.2.1, zs_74_6, xm_w_id (z := (p1 : Int) + 1) (by omega) (by omega), zf_74_7, show yy_s m1 74 6 ((p1 : Int) + 1) 74 7 = k + 1 by have := hs1.2.2.2.1; simp (disch := first | omega | (unfold xm_w; omega)) only [↓zy_at, xm_O_some, xm_Oi_some, xm_Ov_some, xm_Oq_some, ↓reduceIte, ↓zz_t, ↓zz_f, ↓zi_t, ↓zi_f, eq_self, yy_d_0, Int.reduceEq, Int.reduceLT, Int.reduceLE, Int.reduceNe, Int.reduceToNat, Int.reduceAdd, Int.reduceSub, Int.reduceMul, Int.reduceNeg, Nat.reduceAdd, Nat.reduceMul, Nat.reduceSub, Nat.reduceEqDiff, Nat.reduceLT, ne_eq, not_false_eq_true, not_true_eq_false, true_and, and_true, and_self, yy_s_eq, yy_s_ne, yy_c_eq, yy_c_ne, yy_u_eq, yy_u_ne, xm_w_id, yy_at, tdiv_pos, tmod_pos, this], zs_74_7, xm_w_id (z := k + 1 - 1) (by omega) (by omega), show k + 1 - 1 = k by omega]
    · rw [if_neg (fun g => h g.2), if_neg (fun g => h g.2)]
      have el : ¬ tp_lk n T p1 = 41 := by
        unfold tp_lk
        by_cases h1 : p1 < n
        · rw [if_pos h1]; exact fun g => h ⟨h1, g⟩
        · rw [if_neg h1]; decide
      refine ⟨m1, ?_, tp_mo_0 ff f2⟩
      show xm_X (xm_old sc) xm_mt (d + N + 1 + 1) 1124 [.inr (.inl (some 74))] (yy_W (m) t) = _
      refine xm_X_of (M := xm_m1124) rfl ⟨xm_EQ.eq (xb_1124_0 ?_), rfl, rfl, Nat.le_of_ble_eq_true rfl, yy_hd rfl (by decide)⟩
      rw [oc_1115 (d := d + N) hT hs, e, oc_1116f (d := d + N) a5 nz, if_pos rfl, oc_1103 (d := d + N), zz_f (by omega), if_neg n33, if_pos hz, oc_1123 (d := d + N) hT hp hk hs, if_neg (by decide), e1, xm_Oi_some, if_neg (by decide), oc_1115 (d := d + N) hT hs1, if_neg el]
/- the levels -/
def tp_L1 (_ : Option xm_V) : List (Option xm_V) := [some (.inr (.inl (some 74)))]
def tp_L2 (v : Option xm_V) : List (Option xm_V) := [some (.inr (.inl (some 74))), v]
set_option maxRecDepth 20000 in
theorem tm_1118_0 {sc : List Int} {t : xm_W} {u n : Nat} {T : Nat → Int} {N p c p1 c1 : Nat} {g g1 : Nat → Int × Int} {k : Int} (w : tp_M sc t u n T k N 1119 p c g 0 p1 c1 g1) : tp_M sc t u n T k (N + 1) 1118 p c g 0 p1 c1 g1 := fun d m hs => by
  obtain ⟨m1, e, ho⟩ := w d m hs
  refine ⟨m1, ?_, ho⟩
  show xm_X (xm_old sc) xm_mt (d + N + 1) 1118 [.inr (.inl (some 74))] (yy_W (m) t) = _
  refine xm_X_of (M := xm_m1118) rfl ⟨xm_EQ.eq (xb_1118_0 ?_), rfl, rfl, Nat.le_of_ble_eq_true rfl, yy_hd rfl (by decide)⟩
  rw [e, xm_Oi_some, if_pos rfl]
set_option maxRecDepth 20000 in
theorem tm_1118_1 {sc : List Int} {t : xm_W} {u n : Nat} {T : Nat → Int} {N p c p1 c1 p2 c2 : Nat} {g g1 g2 : Nat → Int × Int} {k ok : Int} (hok : ok = 0 ∨ ok = 1) (w : tp_M sc t u n T k N 1119 p c g 1 p1 c1 g1) (w2 : tp_ME sc t u n T k N xm_c1118 tp_L1 p1 c1 g1 ok p2 c2 g2) : tp_M sc t u n T k (N + 1) 1118 p c g ok p2 c2 g2 := fun d m hs => by
  obtain ⟨m1, e, f1, f2, f3⟩ := w d m hs
  have key : ∀ {Q : Option xm_V × xm_W → Prop}, (∀ m', tp_mo u n T k ok p2 c2 g2 m m' → Q ((some (.inl (ok)), (yy_W (m') t)))) → xm_EQ (xm_old sc) xm_sta (xm_X (xm_old sc) xm_mt (d + N)) xm_m1118.2.2.2.2.2.2.2 0 (xm_loc xm_m1118.2.2.1 [.inr (.inl (some 74))]) [] (yy_W m t) Q := by
    intro Q hQ
    refine xb_1118_0 ?_
    rw [e, xm_Oi_some, if_neg (by decide)]
    exact w2 d m1 none Q (f3 rfl) fun m' h => hQ m' (tp_mo_tr f1 h)
  obtain ⟨q, h1, m', h2, h3⟩ := yx_of (y := 1118) (M := xm_m1118) (sc := sc) (d := d + N) (as := [.inr (.inl (some 74))]) (w := yy_W m t) (Q := fun q => ∃ m', q = ((some (.inl (ok)), (yy_W (m') t))) ∧ tp_mo u n T k ok p2 c2 g2 m m') rfl (key fun m' h => ⟨m', rfl, h⟩) (fun q ⟨m', h, _⟩ => by rw [h]; rcases hok with e | e <;> subst e <;> rfl) rfl (Nat.le_of_ble_eq_true rfl) (yy_hd rfl (by decide))
  exact ⟨m', by rw [show d + (N + 1) = d + N + 1 by omega, h1, h2], h3⟩
set_option maxRecDepth 20000 in
theorem tm_1119_0 {sc : List Int} {t : xm_W} {u n : Nat} {T : Nat → Int} {N p c p1 c1 : Nat} {g g1 : Nat → Int × Int} {k : Int} (w : tp_M sc t u n T k N 1120 p c g 0 p1 c1 g1) : tp_M sc t u n T k (N + 1) 1119 p c g 0 p1 c1 g1 := fun d m hs => by
  obtain ⟨m1, e, ho⟩ := w d m hs
  refine ⟨m1, ?_, ho⟩
  show xm_X (xm_old sc) xm_mt (d + N + 1) 1119 [.inr (.inl (some 74))] (yy_W (m) t) = _
  refine xm_X_of (M := xm_m1119) rfl ⟨xm_EQ.eq (xb_1119_0 ?_), rfl, rfl, Nat.le_of_ble_eq_true rfl, yy_hd rfl (by decide)⟩
  rw [e, xm_Oi_some, if_pos rfl]
set_option maxRecDepth 20000 in
theorem tm_1119_1 {sc : List Int} {t : xm_W} {u n : Nat} {T : Nat → Int} {N p c p1 c1 p2 c2 : Nat} {g g1 g2 : Nat → Int × Int} {k ok : Int} (hok : ok = 0 ∨ ok = 1) (w : tp_M sc t u n T k N 1120 p c g 1 p1 c1 g1) (w2 : tp_ME sc t u n T k N xm_c1119 tp_L1 p1 c1 g1 ok p2 c2 g2) : tp_M sc t u n T k (N + 1) 1119 p c g ok p2 c2 g2 := fun d m hs => by
  obtain ⟨m1, e, f1, f2, f3⟩ := w d m hs
  have key : ∀ {Q : Option xm_V × xm_W → Prop}, (∀ m', tp_mo u n T k ok p2 c2 g2 m m' → Q ((some (.inl (ok)), (yy_W (m') t)))) → xm_EQ (xm_old sc) xm_sta (xm_X (xm_old sc) xm_mt (d + N)) xm_m1119.2.2.2.2.2.2.2 0 (xm_loc xm_m1119.2.2.1 [.inr (.inl (some 74))]) [] (yy_W m t) Q := by
    intro Q hQ
    refine xb_1119_0 ?_
    rw [e, xm_Oi_some, if_neg (by decide)]
    exact w2 d m1 none Q (f3 rfl) fun m' h => hQ m' (tp_mo_tr f1 h)
  obtain ⟨q, h1, m', h2, h3⟩ := yx_of (y := 1119) (M := xm_m1119) (sc := sc) (d := d + N) (as := [.inr (.inl (some 74))]) (w := yy_W m t) (Q := fun q => ∃ m', q = ((some (.inl (ok)), (yy_W (m') t))) ∧ tp_mo u n T k ok p2 c2 g2 m m') rfl (key fun m' h => ⟨m', rfl, h⟩) (fun q ⟨m', h, _⟩ => by rw [h]; rcases hok with e | e <;> subst e <;> rfl) rfl (Nat.le_of_ble_eq_true rfl) (yy_hd rfl (by decide))
  exact ⟨m', by rw [show d + (N + 1) = d + N + 1 by omega, h1, h2], h3⟩
set_option maxRecDepth 20000 in
theorem tm_1121_0 {sc : List Int} {t : xm_W} {u n : Nat} {T : Nat → Int} {N p c p1 c1 : Nat} {g g1 : Nat → Int × Int} {k : Int} (w : tp_M sc t u n T k N 1122 p c g 0 p1 c1 g1) : tp_M sc t u n T k (N + 1) 1121 p c g 0 p1 c1 g1 := fun d m hs => by
  obtain ⟨m1, e, ho⟩ := w d m hs
  refine ⟨m1, ?_, ho⟩
  show xm_X (xm_old sc) xm_mt (d + N + 1) 1121 [.inr (.inl (some 74))] (yy_W (m) t) = _
  refine xm_X_of (M := xm_m1121) rfl ⟨xm_EQ.eq (xb_1121_0 ?_), rfl, rfl, Nat.le_of_ble_eq_true rfl, yy_hd rfl (by decide)⟩
  rw [e, xm_Oi_some, if_pos rfl]
set_option maxRecDepth 20000 in
theorem tm_1121_1 {sc : List Int} {t : xm_W} {u n : Nat} {T : Nat → Int} {N p c p1 c1 p2 c2 : Nat} {g g1 g2 : Nat → Int × Int} {k ok : Int} (hok : ok = 0 ∨ ok = 1) (w : tp_M sc t u n T k N 1122 p c g 1 p1 c1 g1) (w2 : tp_ME sc t u n T k N xm_c1121 tp_L2 p1 c1 g1 ok p2 c2 g2) : tp_M sc t u n T k (N + 1) 1121 p c g ok p2 c2 g2 := fun d m hs => by
  obtain ⟨m1, e, f1, f2, f3⟩ := w d m hs
  have key : ∀ {Q : Option xm_V × xm_W → Prop}, (∀ m', tp_mo u n T k ok p2 c2 g2 m m' → Q ((some (.inl (ok)), (yy_W (m') t)))) → xm_EQ (xm_old sc) xm_sta (xm_X (xm_old sc) xm_mt (d + N)) xm_m1121.2.2.2.2.2.2.2 0 (xm_loc xm_m1121.2.2.1 [.inr (.inl (some 74))]) [] (yy_W m t) Q := by
    intro Q hQ
    refine xb_1121_0 ?_
    rw [e, xm_Oi_some, if_neg (by decide)]
    exact w2 d m1 none Q (f3 rfl) fun m' h => hQ m' (tp_mo_tr f1 h)
  obtain ⟨q, h1, m', h2, h3⟩ := yx_of (y := 1121) (M := xm_m1121) (sc := sc) (d := d + N) (as := [.inr (.inl (some 74))]) (w := yy_W m t) (Q := fun q => ∃ m', q = ((some (.inl (ok)), (yy_W (m') t))) ∧ tp_mo u n T k ok p2 c2 g2 m m') rfl (key fun m' h => ⟨m', rfl, h⟩) (fun q ⟨m', h, _⟩ => by rw [h]; rcases hok with e | e <;> subst e <;> rfl) rfl (Nat.le_of_ble_eq_true rfl) (yy_hd rfl (by decide))
  exact ⟨m', by rw [show d + (N + 1) = d + N + 1 by omega, h1, h2], h3⟩
set_option maxRecDepth 20000 in
theorem tm_1122_0 {sc : List Int} {t : xm_W} {u n : Nat} {T : Nat → Int} {N p c p1 c1 : Nat} {g g1 : Nat → Int × Int} {k : Int} (w : tp_M sc t u n T k N 1124 p c g 0 p1 c1 g1) : tp_M sc t u n T k (N + 1) 1122 p c g 0 p1 c1 g1 := fun d m hs => by
  obtain ⟨m1, e, ho⟩ := w d m hs
  refine ⟨m1, ?_, ho⟩
  show xm_X (xm_old sc) xm_mt (d + N + 1) 1122 [.inr (.inl (some 74))] (yy_W (m) t) = _
  refine xm_X_of (M := xm_m1122) rfl ⟨xm_EQ.eq (xb_1122_0 ?_), rfl, rfl, Nat.le_of_ble_eq_true rfl, yy_hd rfl (by decide)⟩
  rw [e, xm_Oi_some, if_pos rfl]
set_option maxRecDepth 20000 in
theorem tm_1122_1 {sc : List Int} {t : xm_W} {u n : Nat} {T : Nat → Int} {N p c p1 c1 p2 c2 : Nat} {g g1 g2 : Nat → Int × Int} {k ok : Int} (hok : ok = 0 ∨ ok = 1) (w : tp_M sc t u n T k N 1124 p c g 1 p1 c1 g1) (w2 : tp_ME sc t u n T k N xm_c1122 tp_L2 p1 c1 g1 ok p2 c2 g2) : tp_M sc t u n T k (N + 1) 1122 p c g ok p2 c2 g2 := fun d m hs => by
  obtain ⟨m1, e, f1, f2, f3⟩ := w d m hs
  have key : ∀ {Q : Option xm_V × xm_W → Prop}, (∀ m', tp_mo u n T k ok p2 c2 g2 m m' → Q ((some (.inl (ok)), (yy_W (m') t)))) → xm_EQ (xm_old sc) xm_sta (xm_X (xm_old sc) xm_mt (d + N)) xm_m1122.2.2.2.2.2.2.2 0 (xm_loc xm_m1122.2.2.1 [.inr (.inl (some 74))]) [] (yy_W m t) Q := by
    intro Q hQ
    refine xb_1122_0 ?_
    rw [e, xm_Oi_some, if_neg (by decide)]
    exact w2 d m1 none Q (f3 rfl) fun m' h => hQ m' (tp_mo_tr f1 h)
  obtain ⟨q, h1, m', h2, h3⟩ := yx_of (y := 1122) (M := xm_m1122) (sc := sc) (d := d + N) (as := [.inr (.inl (some 74))]) (w := yy_W m t) (Q := fun q => ∃ m', q = ((some (.inl (ok)), (yy_W (m') t))) ∧ tp_mo u n T k ok p2 c2 g2 m m') rfl (key fun m' h => ⟨m', rfl, h⟩) (fun q ⟨m', h, _⟩ => by rw [h]; rcases hok with e | e <;> subst e <;> rfl) rfl (Nat.le_of_ble_eq_true rfl) (yy_hd rfl (by decide))
  exact ⟨m', by rw [show d + (N + 1) = d + N + 1 by omega, h1, h2], h3⟩
set_option maxRecDepth 20000 in
theorem tm_1118_end {sc : List Int} {t : xm_W} {u n : Nat} {T : Nat → Int} {N p c : Nat} {g : Nat → Int × Int} {k : Int} (hT : tp_T n T) (h : ¬ tp_lk n T p = 124) : tp_ME sc t u n T k (N + 1) xm_c1118 tp_L1 p c g 1 p c g := fun d m v Q hs hQ => by
  rw [show d + (N + 1) = d + N + 1 by omega]
  refine xb_1118_5 ?_
  rw [oc_1115 (d := d + N) hT hs, if_neg h]
  exact hQ m (tp_mo_1 tp_fm_rf hs)
set_option maxRecDepth 20000 in
theorem tm_1118_e0 {sc : List Int} {t : xm_W} {u n : Nat} {T : Nat → Int} {N p c p1 c1 : Nat} {g g1 : Nat → Int × Int} {k : Int} (hT : tp_T n T) (hp : p < n) (hz : T p = 124) (w : tp_M sc t u n T k (N + 1) 1119 (p + 1) c g 0 p1 c1 g1) : tp_ME sc t u n T k (N + 1) xm_c1118 tp_L1 p c g 0 p1 c1 g1 := fun d m v Q hs hQ => by
  have hn := hT.1
  have e : tp_lk n T p = 124 := by unfold tp_lk; rw [if_pos hp]; exact hz
  obtain ⟨m1, e1, f1, f2, f3⟩ := w d _ (tp_ms_mv hs)
  rw [show d + (N + 1) = d + N + 1 by omega] at e1
  rw [show d + (N + 1) = d + N + 1 by omega]
  refine xb_1118_5 ?_
  rw [oc_1115 (d := d + N) hT hs, if_pos e, zf_74_6, hs.2.2.1, zs_74_6, xm_w_id (z := (p : Int) + 1) (by omega) (by omega), e1, xm_Oi_some, if_pos rfl]
  exact hQ m1 (tp_mo_0 (tp_fm_tr tp_fm_mv f1) f2)
set_option maxRecDepth 20000 in
theorem tm_1118_e1 {sc : List Int} {t : xm_W} {u n : Nat} {T : Nat → Int} {N p c p1 c1 p2 c2 : Nat} {g g1 g2 : Nat → Int × Int} {k ok : Int} (hT : tp_T n T) (hp : p < n) (hz : T p = 124) (hc : c1 < 60) (w : tp_M sc t u n T k (N + 1) 1119 (p + 1) c g 1 p1 c1 g1) (w2 : tp_ME sc t u n T k (N + 1) xm_c1118 tp_L1 p1 (c1 + 1) (tp_u g1 c1 (3, T p)) ok p2 c2 g2) : tp_ME sc t u n T k (N + 1) xm_c1118 tp_L1 p c g ok p2 c2 g2 := fun d m v Q hs hQ => by
  have hn := hT.1
  have e : tp_lk n T p = 124 := by unfold tp_lk; rw [if_pos hp]; exact hz
  obtain ⟨m1, e1, f1, f2, f3⟩ := w d _ (tp_ms_mv hs)
  rw [show d + (N + 1) = d + N + 1 by omega] at e1
  have hs1 := f3 rfl
  rw [show d + (N + 1) = d + N + 1 by omega]
  refine xb_1118_5 ?_
  rw [oc_1115 (d := d + N) hT hs, if_pos e, zf_74_6, hs.2.2.1, zs_74_6, xm_w_id (z := (p : Int) + 1) (by omega) (by omega), e1, xm_Oi_some, if_neg (by decide), oc_1117 (d := d + N) (c := c1) hs1.2.2.2.2.1 hc, ← hz]
  exact w2 d _ none Q (tp_ms_em hs1) fun m' h => hQ m' (tp_mo_tr (tp_fm_tr (tp_fm_tr tp_fm_mv f1) tp_fm_em) h)
set_option maxRecDepth 20000 in
theorem tm_1119_end {sc : List Int} {t : xm_W} {u n : Nat} {T : Nat → Int} {N p c : Nat} {g : Nat → Int × Int} {k : Int} (hT : tp_T n T) (h : ¬ tp_lk n T p = 38) : tp_ME sc t u n T k (N + 1) xm_c1119 tp_L1 p c g 1 p c g := fun d m v Q hs hQ => by
  rw [show d + (N + 1) = d + N + 1 by omega]
  refine xb_1119_5 ?_
  rw [oc_1115 (d := d + N) hT hs, if_neg h]
  exact hQ m (tp_mo_1 tp_fm_rf hs)
set_option maxRecDepth 20000 in
theorem tm_1119_e0 {sc : List Int} {t : xm_W} {u n : Nat} {T : Nat → Int} {N p c p1 c1 : Nat} {g g1 : Nat → Int × Int} {k : Int} (hT : tp_T n T) (hp : p < n) (hz : T p = 38) (w : tp_M sc t u n T k (N + 1) 1120 (p + 1) c g 0 p1 c1 g1) : tp_ME sc t u n T k (N + 1) xm_c1119 tp_L1 p c g 0 p1 c1 g1 := fun d m v Q hs hQ => by
  have hn := hT.1
  have e : tp_lk n T p = 38 := by unfold tp_lk; rw [if_pos hp]; exact hz
  obtain ⟨m1, e1, f1, f2, f3⟩ := w d _ (tp_ms_mv hs)
  rw [show d + (N + 1) = d + N + 1 by omega] at e1
  rw [show d + (N + 1) = d + N + 1 by omega]
  refine xb_1119_5 ?_
  rw [oc_1115 (d := d + N) hT hs, if_pos e, zf_74_6, hs.2.2.1, zs_74_6, xm_w_id (z := (p : Int) + 1) (by omega) (by omega), e1, xm_Oi_some, if_pos rfl]
  exact hQ m1 (tp_mo_0 (tp_fm_tr tp_fm_mv f1) f2)
set_option maxRecDepth 20000 in
theorem tm_1119_e1 {sc : List Int} {t : xm_W} {u n : Nat} {T : Nat → Int} {N p c p1 c1 p2 c2 : Nat} {g g1 g2 : Nat → Int × Int} {k ok : Int} (hT : tp_T n T) (hp : p < n) (hz : T p = 38) (hc : c1 < 60) (w : tp_M sc t u n T k (N + 1) 1120 (p + 1) c g 1 p1 c1 g1) (w2 : tp_ME sc t u n T k (N + 1) xm_c1119 tp_L1 p1 (c1 + 1) (tp_u g1 c1 (3, T p)) ok p2 c2 g2) : tp_ME sc t u n T k (N + 1) xm_c1119 tp_L1 p c g ok p2 c2 g2 := fun d m v Q hs hQ => by
  have hn := hT.1
  have e : tp_lk n T p = 38 := by unfold tp_lk; rw [if_pos hp]; exact hz
  obtain ⟨m1, e1, f1, f2, f3⟩ := w d _ (tp_ms_mv hs)
  rw [show d + (N + 1) = d + N + 1 by omega] at e1
  have hs1 := f3 rfl
  rw [show d + (N + 1) = d + N + 1 by omega]
  refine xb_1119_5 ?_
  rw [oc_1115 (d := d + N) hT hs, if_pos e, zf_74_6, hs.2.2.1, zs_74_6, xm_w_id (z := (p : Int) + 1) (by omega) (by omega), e1, xm_Oi_some, if_neg (by decide), oc_1117 (d := d + N) (c := c1) hs1.2.2.2.2.1 hc, ← hz]
  exact w2 d _ none Q (tp_ms_em hs1) fun m' h => hQ m' (tp_mo_tr (tp_fm_tr (tp_fm_tr tp_fm_mv f1) tp_fm_em) h)
set_option maxRecDepth 20000 in
theorem tm_1120_0 {sc : List Int} {t : xm_W} {u n : Nat} {T : Nat → Int} {N p c p1 c1 : Nat} {g g1 : Nat → Int × Int} {k : Int} (w : tp_M sc t u n T k N 1121 p c g 0 p1 c1 g1) : tp_M sc t u n T k (N + 1) 1120 p c g 0 p1 c1 g1 := fun d m hs => by
  obtain ⟨m1, e, ho⟩ := w d m hs
  refine ⟨m1, ?_, ho⟩
  show xm_X (xm_old sc) xm_mt (d + N + 1) 1120 [.inr (.inl (some 74))] (yy_W (m) t) = _
  refine xm_X_of (M := xm_m1120) rfl ⟨xm_EQ.eq (xb_1120_0 ?_), rfl, rfl, Nat.le_of_ble_eq_true rfl, yy_hd rfl (by decide)⟩
  rw [e, xm_Oi_some, if_pos rfl]
set_option maxRecDepth 20000 in
theorem tm_1120_end {sc : List Int} {t : xm_W} {u n : Nat} {T : Nat → Int} {N p c p1 c1 : Nat} {g g1 : Nat → Int × Int} {k : Int} (hT : tp_T n T) (w : tp_M sc t u n T k (N + 1) 1121 p c g 1 p1 c1 g1) (h : ¬ (60 ≤ tp_lk n T p1 ∧ tp_lk n T p1 ≤ 62)) : tp_M sc t u n T k (N + 2) 1120 p c g 1 p1 c1 g1 := fun d m hs => by
  obtain ⟨m1, e, f1, f2, f3⟩ := w d m hs
  rw [show d + (N + 1) = d + N + 1 by omega] at e
  refine ⟨m1, ?_, f1, f2, f3⟩
  show xm_X (xm_old sc) xm_mt (d + N + 1 + 1) 1120 [.inr (.inl (some 74))] (yy_W (m) t) = _
  refine xm_X_of (M := xm_m1120) rfl ⟨xm_EQ.eq (xb_1120_0 ?_), rfl, rfl, Nat.le_of_ble_eq_true rfl, yy_hd rfl (by decide)⟩
  rw [e, xm_Oi_some, if_neg (by decide), oc_1115 (d := d + N) hT (f3 rfl), if_neg (by omega), if_neg (by omega), if_neg (by omega)]
set_option maxRecDepth 20000 in
theorem tm_1120_e0 {sc : List Int} {t : xm_W} {u n : Nat} {T : Nat → Int} {N p c p1 c1 p2 c2 : Nat} {g g1 g2 : Nat → Int × Int} {k : Int} (hT : tp_T n T) (w : tp_M sc t u n T k (N + 1) 1121 p c g 1 p1 c1 g1) (hp : p1 < n) (hz : T p1 = 60 ∨ T p1 = 61 ∨ T p1 = 62) (w2 : tp_M sc t u n T k (N + 1) 1121 (p1 + 1) c1 g1 0 p2 c2 g2) : tp_M sc t u n T k (N + 2) 1120 p c g 0 p2 c2 g2 := fun d m hs => by
  have hn := hT.1
  obtain ⟨m1, e, f1, f2, f3⟩ := w d m hs
  rw [show d + (N + 1) = d + N + 1 by omega] at e
  have hs1 := f3 rfl
  have el : tp_lk n T p1 = T p1 := if_pos hp
  obtain ⟨m2, e2, k1, k2, k3⟩ := w2 d _ (tp_ms_mv hs1)
  rw [show d + (N + 1) = d + N + 1 by omega] at e2
  refine ⟨m2, ?_, tp_mo_0 (tp_fm_tr (tp_fm_tr f1 tp_fm_mv) k1) k2⟩
  show xm_X (xm_old sc) xm_mt (d + N + 1 + 1) 1120 [.inr (.inl (some 74))] (yy_W (m) t) = _
  refine xm_X_of (M := xm_m1120) rfl ⟨xm_EQ.eq (xb_1120_0 ?_), rfl, rfl, Nat.le_of_ble_eq_true rfl, yy_hd rfl (by decide)⟩
  rw [e, xm_Oi_some, if_neg (by decide), oc_1115 (d := d + N) hT hs1, el]
  rcases hz with q | q | q
  · rw [if_pos q, zf_74_6, hs1.2.2.1, zs_74_6, xm_w_id (z := (p1 : Int) + 1) (by omega) (by omega), e2, xm_Oi_some, if_pos rfl]
  · rw [if_neg (by omega), if_pos q, zf_74_6, hs1.2.2.1, zs_74_6, xm_w_id (z := (p1 : Int) + 1) (by omega) (by omega), e2, xm_Oi_some, if_pos rfl]
  · rw [if_neg (by omega), if_neg (by omega), if_pos q, zf_74_6, hs1.2.2.1, zs_74_6, xm_w_id (z := (p1 : Int) + 1) (by omega) (by omega), e2, xm_Oi_some, if_pos rfl]
set_option maxRecDepth 20000 in
theorem tm_1120_e1 {sc : List Int} {t : xm_W} {u n : Nat} {T : Nat → Int} {N p c p1 c1 p2 c2 : Nat} {g g1 g2 : Nat → Int × Int} {k : Int} (hT : tp_T n T) (w : tp_M sc t u n T k (N + 1) 1121 p c g 1 p1 c1 g1) (hp : p1 < n) (hz : T p1 = 60 ∨ T p1 = 61 ∨ T p1 = 62) (hc : c2 < 60) (w2 : tp_M sc t u n T k (N + 1) 1121 (p1 + 1) c1 g1 1 p2 c2 g2) : tp_M sc t u n T k (N + 2) 1120 p c g 1 p2 (c2 + 1) (tp_u g2 c2 (3, T p1)) := fun d m hs => by
  have hn := hT.1
  obtain ⟨m1, e, f1, f2, f3⟩ := w d m hs
  rw [show d + (N + 1) = d + N + 1 by omega] at e
  have hs1 := f3 rfl
  have el : tp_lk n T p1 = T p1 := if_pos hp
  obtain ⟨m2, e2, k1, k2, k3⟩ := w2 d _ (tp_ms_mv hs1)
  rw [show d + (N + 1) = d + N + 1 by omega] at e2
  have hs2 := k3 rfl
  refine ⟨_, ?_, tp_mo_1 (tp_fm_tr (tp_fm_tr (tp_fm_tr f1 tp_fm_mv) k1) tp_fm_em) (tp_ms_em (a := 3) (b := T p1) hs2)⟩
  show xm_X (xm_old sc) xm_mt (d + N + 1 + 1) 1120 [.inr (.inl (some 74))] (yy_W (m) t) = _
  refine xm_X_of (M := xm_m1120) rfl ⟨xm_EQ.eq (xb_1120_0 ?_), rfl, rfl, Nat.le_of_ble_eq_true rfl, yy_hd rfl (by decide)⟩
  rw [e, xm_Oi_some, if_neg (by decide), oc_1115 (d := d + N) hT hs1, el]
  rcases hz with q | q | q
  · rw [if_pos q, zf_74_6, hs1.2.2.1, zs_74_6, xm_w_id (z := (p1 : Int) + 1) (by omega) (by omega), e2, xm_Oi_some, if_neg (by decide), oc_1117 (d := d + N) (c := c2) hs2.2.2.2.2.1 hc]
  · rw [if_neg (by omega), if_pos q, zf_74_6, hs1.2.2.1, zs_74_6, xm_w_id (z := (p1 : Int) + 1) (by omega) (by omega), e2, xm_Oi_some, if_neg (by decide), oc_1117 (d := d + N) (c := c2) hs2.2.2.2.2.1 hc]
  · rw [if_neg (by omega), if_neg (by omega), if_pos q, zf_74_6, hs1.2.2.1, zs_74_6, xm_w_id (z := (p1 : Int) + 1) (by omega) (by omega), e2, xm_Oi_some, if_neg (by decide), oc_1117 (d := d + N) (c := c2) hs2.2.2.2.2.1 hc]
set_option maxRecDepth 20000 in
theorem tm_1121_end {sc : List Int} {t : xm_W} {u n : Nat} {T : Nat → Int} {N p c : Nat} {g : Nat → Int × Int} {k : Int} (hT : tp_T n T) (h : ¬ (tp_lk n T p = 43 ∨ tp_lk n T p = 45)) : tp_ME sc t u n T k (N + 1) xm_c1121 tp_L2 p c g 1 p c g := fun d m v Q hs hQ => by
  rw [show d + (N + 1) = d + N + 1 by omega]
  refine xb_1121_5 ?_
  rw [oc_1115 (d := d + N) hT hs, if_neg (by omega), oc_1115 (d := d + N) hT hs, if_neg (by omega)]
  exact hQ m (tp_mo_1 tp_fm_rf hs)
set_option maxRecDepth 20000 in
theorem tm_1121_e0 {sc : List Int} {t : xm_W} {u n : Nat} {T : Nat → Int} {N p c p1 c1 : Nat} {g g1 : Nat → Int × Int} {k : Int} (hT : tp_T n T) (hp : p < n) (hz : T p = 43 ∨ T p = 45) (w : tp_M sc t u n T k (N + 1) 1122 (p + 1) c g 0 p1 c1 g1) : tp_ME sc t u n T k (N + 1) xm_c1121 tp_L2 p c g 0 p1 c1 g1 := fun d m v Q hs hQ => by
  have hn := hT.1
  have e : tp_lk n T p = T p := if_pos hp
  obtain ⟨m1, e1, f1, f2, f3⟩ := w d _ (tp_ms_mv hs)
  rw [show d + (N + 1) = d + N + 1 by omega] at e1
  have := hQ m1 (tp_mo_0 (tp_fm_tr tp_fm_mv f1) f2)
  rw [show d + (N + 1) = d + N + 1 by omega]
  refine xb_1121_5 ?_
  rcases hz with q | q
  · rw [oc_1115 (d := d + N) hT hs, e, if_pos q, oc_1115 (d := d + N) hT hs, zf_74_6, hs.2.2.1, zs_74_6, xm_w_id (z := (p : Int) + 1) (by omega) (by omega), e1, xm_Oi_some, if_pos rfl]; exact this
  · rw [oc_1115 (d := d + N) hT hs, e, if_neg (by omega), oc_1115 (d := d + N) hT hs, e, if_pos q, oc_1115 (d := d + N) hT hs, zf_74_6, hs.2.2.1, zs_74_6, xm_w_id (z := (p : Int) + 1) (by omega) (by omega), e1, xm_Oi_some, if_pos rfl]; exact this
set_option maxRecDepth 20000 in
theorem tm_1121_e1 {sc : List Int} {t : xm_W} {u n : Nat} {T : Nat → Int} {N p c p1 c1 p2 c2 : Nat} {g g1 g2 : Nat → Int × Int} {k ok : Int} (hT : tp_T n T) (hp : p < n) (hz : T p = 43 ∨ T p = 45) (hc : c1 < 60) (w : tp_M sc t u n T k (N + 1) 1122 (p + 1) c g 1 p1 c1 g1) (w2 : tp_ME sc t u n T k (N + 1) xm_c1121 tp_L2 p1 (c1 + 1) (tp_u g1 c1 (3, T p)) ok p2 c2 g2) : tp_ME sc t u n T k (N + 1) xm_c1121 tp_L2 p c g ok p2 c2 g2 := fun d m v Q hs hQ => by
  have hn := hT.1
  have e : tp_lk n T p = T p := if_pos hp
  obtain ⟨m1, e1, f1, f2, f3⟩ := w d _ (tp_ms_mv hs)
  rw [show d + (N + 1) = d + N + 1 by omega] at e1
  have hs1 := f3 rfl
  have fin := fun v => w2 d _ v Q (tp_ms_em hs1) fun m' h => hQ m' (tp_mo_tr (tp_fm_tr (tp_fm_tr tp_fm_mv f1) tp_fm_em) h)
  rw [show d + (N + 1) = d + N + 1 by omega]
  refine xb_1121_5 ?_
  rcases hz with q | q
  · rw [oc_1115 (d := d + N) hT hs, e, if_pos q, oc_1115 (d := d + N) hT hs, e, zf_74_6, hs.2.2.1, zs_74_6, xm_w_id (z := (p : Int) + 1) (by omega) (by omega), e1, xm_Oi_some, if_neg (by decide), oc_1117 (d := d + N) (c := c1) hs1.2.2.2.2.1 hc]; exact fin _
  · rw [oc_1115 (d := d + N) hT hs, e, if_neg (by omega), oc_1115 (d := d + N) hT hs, e, if_pos q, oc_1115 (d := d + N) hT hs, e, zf_74_6, hs.2.2.1, zs_74_6, xm_w_id (z := (p : Int) + 1) (by omega) (by omega), e1, xm_Oi_some, if_neg (by decide), oc_1117 (d := d + N) (c := c1) hs1.2.2.2.2.1 hc]; exact fin _
set_option maxRecDepth 20000 in
theorem tm_1122_end {sc : List Int} {t : xm_W} {u n : Nat} {T : Nat → Int} {N p c : Nat} {g : Nat → Int × Int} {k : Int} (hT : tp_T n T) (h : ¬ (tp_lk n T p = 42 ∨ tp_lk n T p = 47 ∨ tp_lk n T p = 37)) : tp_ME sc t u n T k (N + 1) xm_c1122 tp_L2 p c g 1 p c g := fun d m v Q hs hQ => by
  rw [show d + (N + 1) = d + N + 1 by omega]
  refine xb_1122_5 ?_
  rw [oc_1115 (d := d + N) hT hs, if_neg (by omega), oc_1115 (d := d + N) hT hs, if_neg (by omega), oc_1115 (d := d + N) hT hs, if_neg (by omega)]
  exact hQ m (tp_mo_1 tp_fm_rf hs)
set_option maxRecDepth 20000 in
theorem tm_1122_e0 {sc : List Int} {t : xm_W} {u n : Nat} {T : Nat → Int} {N p c p1 c1 : Nat} {g g1 : Nat → Int × Int} {k : Int} (hT : tp_T n T) (hp : p < n) (hz : T p = 42 ∨ T p = 47 ∨ T p = 37) (w : tp_M sc t u n T k (N + 1) 1124 (p + 1) c g 0 p1 c1 g1) : tp_ME sc t u n T k (N + 1) xm_c1122 tp_L2 p c g 0 p1 c1 g1 := fun d m v Q hs hQ => by
  have hn := hT.1
  have e : tp_lk n T p = T p := if_pos hp
  obtain ⟨m1, e1, f1, f2, f3⟩ := w d _ (tp_ms_mv hs)
  rw [show d + (N + 1) = d + N + 1 by omega] at e1
  have := hQ m1 (tp_mo_0 (tp_fm_tr tp_fm_mv f1) f2)
  rw [show d + (N + 1) = d + N + 1 by omega]
  refine xb_1122_5 ?_
  rcases hz with q | q | q
  · rw [oc_1115 (d := d + N) hT hs, e, if_pos q, oc_1115 (d := d + N) hT hs, zf_74_6, hs.2.2.1, zs_74_6, xm_w_id (z := (p : Int) + 1) (by omega) (by omega), e1, xm_Oi_some, if_pos rfl]; exact this
  · rw [oc_1115 (d := d + N) hT hs, e, if_neg (by omega), oc_1115 (d := d + N) hT hs, e, if_pos q, oc_1115 (d := d + N) hT hs, zf_74_6, hs.2.2.1, zs_74_6, xm_w_id (z := (p : Int) + 1) (by omega) (by omega), e1, xm_Oi_some, if_pos rfl]; exact this
  · rw [oc_1115 (d := d + N) hT hs, e, if_neg (by omega), oc_1115 (d := d + N) hT hs, e, if_neg (by omega), oc_1115 (d := d + N) hT hs, e, if_pos q, oc_1115 (d := d + N) hT hs, zf_74_6, hs.2.2.1, zs_74_6, xm_w_id (z := (p : Int) + 1) (by omega) (by omega), e1, xm_Oi_some, if_pos rfl]; exact this
set_option maxRecDepth 20000 in
theorem tm_1122_e1 {sc : List Int} {t : xm_W} {u n : Nat} {T : Nat → Int} {N p c p1 c1 p2 c2 : Nat} {g g1 g2 : Nat → Int × Int} {k ok : Int} (hT : tp_T n T) (hp : p < n) (hz : T p = 42 ∨ T p = 47 ∨ T p = 37) (hc : c1 < 60) (w : tp_M sc t u n T k (N + 1) 1124 (p + 1) c g 1 p1 c1 g1) (w2 : tp_ME sc t u n T k (N + 1) xm_c1122 tp_L2 p1 (c1 + 1) (tp_u g1 c1 (3, T p)) ok p2 c2 g2) : tp_ME sc t u n T k (N + 1) xm_c1122 tp_L2 p c g ok p2 c2 g2 := fun d m v Q hs hQ => by
  have hn := hT.1
  have e : tp_lk n T p = T p := if_pos hp
  obtain ⟨m1, e1, f1, f2, f3⟩ := w d _ (tp_ms_mv hs)
  rw [show d + (N + 1) = d + N + 1 by omega] at e1
  have hs1 := f3 rfl
  have fin := fun v => w2 d _ v Q (tp_ms_em hs1) fun m' h => hQ m' (tp_mo_tr (tp_fm_tr (tp_fm_tr tp_fm_mv f1) tp_fm_em) h)
  rw [show d + (N + 1) = d + N + 1 by omega]
  refine xb_1122_5 ?_
  rcases hz with q | q | q
  · rw [oc_1115 (d := d + N) hT hs, e, if_pos q, oc_1115 (d := d + N) hT hs, e, zf_74_6, hs.2.2.1, zs_74_6, xm_w_id (z := (p : Int) + 1) (by omega) (by omega), e1, xm_Oi_some, if_neg (by decide), oc_1117 (d := d + N) (c := c1) hs1.2.2.2.2.1 hc]; exact fin _
  · rw [oc_1115 (d := d + N) hT hs, e, if_neg (by omega), oc_1115 (d := d + N) hT hs, e, if_pos q, oc_1115 (d := d + N) hT hs, e, zf_74_6, hs.2.2.1, zs_74_6, xm_w_id (z := (p : Int) + 1) (by omega) (by omega), e1, xm_Oi_some, if_neg (by decide), oc_1117 (d := d + N) (c := c1) hs1.2.2.2.2.1 hc]; exact fin _
  · rw [oc_1115 (d := d + N) hT hs, e, if_neg (by omega), oc_1115 (d := d + N) hT hs, e, if_neg (by omega), oc_1115 (d := d + N) hT hs, e, if_pos q, oc_1115 (d := d + N) hT hs, e, zf_74_6, hs.2.2.1, zs_74_6, xm_w_id (z := (p : Int) + 1) (by omega) (by omega), e1, xm_Oi_some, if_neg (by decide), oc_1117 (d := d + N) (c := c1) hs1.2.2.2.2.1 hc]; exact fin _
end
section
/-! TEXTS read: both sides come to the same -/
set_option maxRecDepth 20000 in
theorem tp_lv_0 {z : Int} : tp_lv z = 0 ↔ z = 124 := by
  unfold tp_lv; repeat' split
  all_goals omega
set_option maxRecDepth 20000 in
theorem tp_lv_1 {z : Int} : tp_lv z = 1 ↔ z = 38 := by
  unfold tp_lv; repeat' split
  all_goals omega
set_option maxRecDepth 20000 in
theorem tp_lv_2 {z : Int} : tp_lv z = 2 ↔ (z = 60 ∨ z = 61 ∨ z = 62) := by
  unfold tp_lv; repeat' split
  all_goals omega
set_option maxRecDepth 20000 in
theorem tp_lv_3 {z : Int} : tp_lv z = 3 ↔ (z = 43 ∨ z = 45) := by
  unfold tp_lv; repeat' split
  all_goals omega
set_option maxRecDepth 20000 in
theorem tp_lv_4 {z : Int} : tp_lv z = 4 ↔ (z = 42 ∨ z = 47 ∨ z = 37) := by
  unfold tp_lv; repeat' split
  all_goals omega
set_option maxRecDepth 20000 in
theorem tp_lv_s {z l : Int} (h : tp_lv z = l) (hl : 0 ≤ l) : sp_sign z := by
  subst h
  unfold tp_lv at hl
  unfold sp_sign
  repeat' split at hl
  all_goals omega
set_option maxRecDepth 20000 in
theorem tp_tok_eq {u j : Nat} {g g' : Nat → Int × Int} (h : ∀ i, i ≤ j → g' i = g i) (ht : tp_tok u g j) : tp_tok u g' j := by
  unfold tp_tok at ht ⊢
  rw [h j (Nat.le_refl j), tp_d_eq j (fun i hi => h i (by omega))]; exact ht
def tp_V (u n p c : Nat) (g : Nat → Int × Int) (ok : Int) (p' c' : Nat) (g' : Nat → Int × Int) : Prop := p ≤ p' ∧ p' ≤ n ∧ (ok = 0 ∨ (ok = 1 ∧ p < p' ∧ c < c' ∧ c' + p ≤ p' + c ∧ (∀ j, j < c → g' j = g j) ∧ tp_d g' c' = tp_d g c + 1 ∧ ∀ j, c ≤ j → j < c' → tp_tok u g' j))
def tp_VE (u n p c : Nat) (g : Nat → Int × Int) (ok : Int) (p' c' : Nat) (g' : Nat → Int × Int) : Prop := p ≤ p' ∧ p' ≤ n ∧ (ok = 0 ∨ (ok = 1 ∧ c ≤ c' ∧ c' + p ≤ p' + c ∧ (∀ j, j < c → g' j = g j) ∧ tp_d g' c' = tp_d g c ∧ ∀ j, c ≤ j → j < c' → tp_tok u g' j))
set_option maxRecDepth 20000 in
theorem tp_V_ok {u n p c : Nat} {g : Nat → Int × Int} {ok : Int} {p' c' : Nat} {g' : Nat → Int × Int} (h : tp_V u n p c g ok p' c' g') : ok = 0 ∨ ok = 1 := by
  rcases h.2.2 with e | e
  · exact Or.inl e
  · exact Or.inr e.1
set_option maxRecDepth 20000 in
theorem tp_VE_ok {u n p c : Nat} {g : Nat → Int × Int} {ok : Int} {p' c' : Nat} {g' : Nat → Int × Int} (h : tp_VE u n p c g ok p' c' g') : ok = 0 ∨ ok = 1 := by
  rcases h.2.2 with e | e
  · exact Or.inl e
  · exact Or.inr e.1
/- one more step behind what stands -/
set_option maxRecDepth 20000 in
theorem tp_d_u {g : Nat → Int × Int} {c : Nat} {x : Int × Int} : tp_d (tp_u g c x) (c + 1) = tp_d g c + (if x.1 = 0 ∨ x.1 = 1 then 1 else if x.1 = 2 then 0 else -1) := by
  show tp_d (tp_u g c x) c + _ = _
  rw [tp_u_eq, tp_d_eq c (fun j hj => tp_u_ne (by omega))]
set_option maxRecDepth 20000 in
theorem tp_d_3 {g : Nat → Int × Int} {c : Nat} {z : Int} : tp_d (tp_u g c (3, z)) (c + 1) = tp_d g c - 1 := by
  rw [tp_d_u]
  show tp_d g c + (if (3 : Int) = 0 ∨ (3 : Int) = 1 then 1 else if (3 : Int) = 2 then 0 else -1) = _
  rw [if_neg (by decide), if_neg (by decide)]; omega
set_option maxRecDepth 20000 in
theorem tp_tk_u {u c : Nat} {g : Nat → Int × Int} {x : Int × Int} (h : (x.1 = 0 ∧ 0 ≤ x.2 ∧ x.2 ≤ 9999) ∨ (x.1 = 1 ∧ sg_nm u x.2) ∨ (x.1 = 2 ∧ 1 ≤ tp_d g c) ∨ (x.1 = 3 ∧ 2 ≤ tp_d g c ∧ sp_sign x.2)) : tp_tok u (tp_u g c x) c := by
  unfold tp_tok
  rw [tp_u_eq, tp_d_eq c (fun j hj => tp_u_ne (by omega))]; exact h
def tp_P (sc : List Int) (t : xm_W) (u n : Nat) (T : Nat → Int) (k : Int) (N : Nat) (mc : Nat) (as : List xm_V) (mm : Nat) : Prop := ∀ (p c : Nat) (g : Nat → Int × Int), p ≤ n → c ≤ p → 0 ≤ tp_d g c → ∃ ok p' c' g', tp_V u n p c g ok p' c' g' ∧ tp_C sc t u n T N mc as p c g ok p' c' g' ∧ ∀ t2 : xm_W, tp_M sc t2 u n T k N mm p c g ok p' c' g'
set_option maxRecDepth 20000 in
theorem tp_P_up {sc : List Int} {t : xm_W} {u n : Nat} {T : Nat → Int} {k : Int} {N N' : Nat} {mc : Nat} {as : List xm_V} {mm : Nat} (hn : N ≤ N') (h : tp_P sc t u n T k N mc as mm) : tp_P sc t u n T k N' mc as mm := fun p c g a b e => by
  obtain ⟨ok, p', c', g', v, x, y⟩ := h p c g a b e
  exact ⟨ok, p', c', g', v, tp_C_up hn x, fun t2 => tp_M_up hn (y t2)⟩
set_option maxRecDepth 20000 in
theorem tp_lev {sc : List Int} {t : xm_W} {u n : Nat} {T : Nat → Int} {k l : Int} {N me me' : Nat} {cd : List xm_I} {L : Option xm_V → List (Option xm_V)} (hT : tp_T n T) (hl : 0 ≤ l ∧ l ≤ 4) (hl2 : l ≠ 2)
  (Rend : ∀ (t2 : xm_W) p c g, (p < n → tp_lv (T p) ≠ l) → tp_ME sc t2 u n T k (N + 1) cd L p c g 1 p c g)
  (R0 : ∀ (t2 : xm_W) p c g p1 c1 g1, p < n → tp_lv (T p) = l → tp_M sc t2 u n T k (N + 1) me' (p + 1) c g 0 p1 c1 g1 → tp_ME sc t2 u n T k (N + 1) cd L p c g 0 p1 c1 g1)
  (R1 : ∀ (t2 : xm_W) p c g p1 c1 g1 ok p2 c2 g2, p < n → tp_lv (T p) = l → c1 < 60 → tp_M sc t2 u n T k (N + 1) me' (p + 1) c g 1 p1 c1 g1 → tp_ME sc t2 u n T k (N + 1) cd L p1 (c1 + 1) (tp_u g1 c1 (3, T p)) ok p2 c2 g2 → tp_ME sc t2 u n T k (N + 1) cd L p c g ok p2 c2 g2)
  (S0 : ∀ (t2 : xm_W) p c g p1 c1 g1, tp_M sc t2 u n T k (N + 1) me' p c g 0 p1 c1 g1 → tp_M sc t2 u n T k (N + 2) me p c g 0 p1 c1 g1)
  (S1 : ∀ (t2 : xm_W) p c g p1 c1 g1 ok p2 c2 g2, (ok = 0 ∨ ok = 1) → tp_M sc t2 u n T k (N + 1) me' p c g 1 p1 c1 g1 → tp_ME sc t2 u n T k (N + 1) cd L p1 c1 g1 ok p2 c2 g2 → tp_M sc t2 u n T k (N + 2) me p c g ok p2 c2 g2)
  (w : tp_P sc t u n T k (N + 1) 504 [.inr (.inl (some 58)), .inl (l + 1), .inl k] me') : tp_P sc t u n T k (N + 2) 504 [.inr (.inl (some 58)), .inl l, .inl k] me := by
  have hn := hT.1
  have loop : ∀ (f p c : Nat) (g : Nat → Int × Int), n - p ≤ f → p ≤ n → c ≤ p → 1 ≤ tp_d g c → ∃ ok p' c' g', tp_VE u n p c g ok p' c' g' ∧ tp_CE sc t u n T (N + 1) l k p c g ok p' c' g' ∧ ∀ t2 : xm_W, tp_ME sc t2 u n T k (N + 1) cd L p c g ok p' c' g' := by
    intro f
    induction f with
    | zero =>
      intro p c g hf hp hc hd
      exact ⟨1, p, c, g, ⟨Nat.le_refl p, hp, Or.inr ⟨rfl, Nat.le_refl c, by omega, fun _ _ => rfl, rfl, fun j a b => by omega⟩⟩, tp_e_end hT (fun h => by omega), fun t2 => Rend t2 p c g (fun h => by omega)⟩
    | succ f ih =>
      intro p c g hf hp hc hd
      by_cases h : p < n ∧ tp_lv (T p) = l
      · obtain ⟨ok, p1, c1, g1, ⟨v1, v2, v3⟩, x, y⟩ := w (p + 1) c g (by omega) (by omega) (by omega)
        rcases v3 with e | ⟨e, a1, a2, a3, a4, a5, a6⟩
        · subst e
          exact ⟨0, p1, c1, g1, ⟨by omega, v2, Or.inl rfl⟩, tp_e_0 hT h.1 h.2 hl x, fun t2 => R0 t2 _ _ _ _ _ _ h.1 h.2 (y t2)⟩
        · subst e
          have hd2 := tp_d_3 (g := g1) (c := c1) (z := T p)
          obtain ⟨ok2, p2, c2, g2, ⟨b1, b2, b3⟩, x2, y2⟩ := ih p1 (c1 + 1) (tp_u g1 c1 (3, T p)) (by omega) v2 (by omega) (by omega)
          refine ⟨ok2, p2, c2, g2, ⟨by omega, b2, ?_⟩, tp_e_1 hT h.1 h.2 hl hl2 (by omega) x x2, fun t2 => R1 t2 _ _ _ _ _ _ _ _ _ _ h.1 h.2 (by omega) (y t2) (y2 t2)⟩
          rcases b3 with e | ⟨e, k1, k2, k3, k4, k5⟩
          · exact Or.inl e
          · have q1 : ∀ j, j < c1 → g2 j = g1 j := fun j hj => by rw [k3 j (by omega), tp_u_ne (by omega)]
            refine Or.inr ⟨e, by omega, by omega, fun j hj => by rw [q1 j (by omega), a4 j hj], by omega, fun j j1 j2 => ?_⟩
            rcases Nat.lt_trichotomy j c1 with z | z | z
            · exact tp_tok_eq (fun i hi => q1 i (by omega)) (a6 j j1 z)
            · subst z
              exact tp_tok_eq (fun i hi => k3 i (by omega)) (tp_tk_u (Or.inr (Or.inr (Or.inr ⟨rfl, by omega, tp_lv_s h.2 hl.1⟩))))
            · exact k5 j (by omega) j2
      · exact ⟨1, p, c, g, ⟨Nat.le_refl p, hp, Or.inr ⟨rfl, Nat.le_refl c, by omega, fun _ _ => rfl, rfl, fun j a b => by omega⟩⟩, tp_e_end hT (fun h1 e => h ⟨h1, e⟩), fun t2 => Rend t2 p c g (fun h1 e => h ⟨h1, e⟩)⟩
  intro p c g hp hc hd
  obtain ⟨ok, p1, c1, g1, ⟨v1, v2, v3⟩, x, y⟩ := w p c g hp hc hd
  rcases v3 with e | ⟨e, a1, a2, a3, a4, a5, a6⟩
  · subst e
    exact ⟨0, p1, c1, g1, ⟨v1, v2, Or.inl rfl⟩, tp_l0 hl x, fun t2 => S0 t2 _ _ _ _ _ _ (y t2)⟩
  · subst e
    obtain ⟨ok2, p2, c2, g2, hv, x2, y2⟩ := loop (n - p1) p1 c1 g1 (Nat.le_refl _) v2 (by omega) (by omega)
    have hok := tp_VE_ok hv
    obtain ⟨b1, b2, b3⟩ := hv
    refine ⟨ok2, p2, c2, g2, ⟨by omega, b2, ?_⟩, tp_l1 hl hok x x2, fun t2 => S1 t2 _ _ _ _ _ _ _ _ _ _ hok (y t2) (y2 t2)⟩
    rcases b3 with e | ⟨e, k1, k2, k3, k4, k5⟩
    · exact Or.inl e
    · refine Or.inr ⟨e, by omega, by omega, by omega, fun j hj => by rw [k3 j (by omega), a4 j hj], by omega, fun j j1 j2 => ?_⟩
      by_cases z : j < c1
      · exact tp_tok_eq (fun i hi => k3 i (by omega)) (a6 j j1 z)
      · exact k5 j (by omega) j2
set_option maxRecDepth 20000 in
theorem tp_lev2 {sc : List Int} {t : xm_W} {u n : Nat} {T : Nat → Int} {k : Int} {N : Nat} (hT : tp_T n T) (w : tp_P sc t u n T k (N + 1) 504 [.inr (.inl (some 58)), .inl 3, .inl k] 1121) : tp_P sc t u n T k (N + 2) 504 [.inr (.inl (some 58)), .inl 2, .inl k] 1120 := by
  have hn := hT.1
  intro p c g hp hc hd
  obtain ⟨ok, p1, c1, g1, ⟨v1, v2, v3⟩, x, y⟩ := w p c g hp hc hd
  rcases v3 with e | ⟨e, a1, a2, a3, a4, a5, a6⟩
  · subst e
    exact ⟨0, p1, c1, g1, ⟨v1, v2, Or.inl rfl⟩, tp_l0 (by decide) x, fun t2 => tm_1120_0 (y t2)⟩
  · subst e
    by_cases h : p1 < n ∧ tp_lv (T p1) = 2
    · have hz := tp_lv_2.mp h.2
      obtain ⟨ok2, p2, c2, g2, ⟨b1, b2, b3⟩, x2, y2⟩ := w (p1 + 1) c1 g1 (by omega) (by omega) (by omega)
      rcases b3 with e | ⟨e, k1, k2, k3, k4, k5, k6⟩
      · subst e
        exact ⟨0, p2, c2, g2, ⟨by omega, b2, Or.inl rfl⟩, tp_l1 (by decide) (Or.inl rfl) x (tp_e_0 hT h.1 h.2 (by decide) x2), fun t2 => tm_1120_e0 hT (y t2) h.1 hz (y2 t2)⟩
      · subst e
        have hd2 := tp_d_3 (g := g2) (c := c2) (z := T p1)
        refine ⟨1, p2, c2 + 1, tp_u g2 c2 (3, T p1), ⟨by omega, b2, Or.inr ⟨rfl, by omega, by omega, by omega, fun j hj => by rw [tp_u_ne (by omega), k4 j (by omega), a4 j hj], by omega, fun j j1 j2 => ?_⟩⟩, tp_l1 (by decide) (Or.inr rfl) x (tp_e_2 hT h.1 h.2 (by omega) x2), fun t2 => tm_1120_e1 hT (y t2) h.1 hz (by omega) (y2 t2)⟩
        rcases Nat.lt_trichotomy j c2 with z | z | z
        · refine tp_tok_eq (fun i hi => tp_u_ne (by omega)) ?_
          by_cases z1 : j < c1
          · exact tp_tok_eq (fun i hi => k4 i (by omega)) (a6 j j1 z1)
          · exact k6 j (by omega) z
        · subst z
          exact tp_tk_u (Or.inr (Or.inr (Or.inr ⟨rfl, by omega, tp_lv_s h.2 (by decide)⟩)))
        · omega
    · have el : ¬ (60 ≤ tp_lk n T p1 ∧ tp_lk n T p1 ≤ 62) := by
        unfold tp_lk
        by_cases h1 : p1 < n
        · rw [if_pos h1]; exact fun q => h ⟨h1, tp_lv_2.mpr (by omega)⟩
        · rw [if_neg h1]; decide
      exact ⟨1, p1, c1, g1, ⟨v1, v2, Or.inr ⟨rfl, a1, a2, a3, a4, a5, a6⟩⟩, tp_l1 (by decide) (Or.inr rfl) x (tp_e_end hT (fun h1 e => h ⟨h1, e⟩)), fun t2 => tm_1120_end hT (y t2) el⟩
set_option maxRecDepth 20000 in
theorem tp_lk_ne {n p : Nat} {T : Nat → Int} {z l : Int} (hz : tp_lv z = l) (h0 : z ≠ -1) (h : p < n → tp_lv (T p) ≠ l) : ¬ tp_lk n T p = z := by
  unfold tp_lk
  by_cases h1 : p < n
  · rw [if_pos h1]; exact fun e => h h1 (by rw [e]; exact hz)
  · rw [if_neg h1]; exact fun e => h0 e.symm
set_option maxRecDepth 20000 in
theorem tp_zero {sc : List Int} {t : xm_W} {u n : Nat} {T : Nat → Int} {k : Int} {N : Nat} (hT : tp_T n T) (w : tp_P sc t u n T k N 505 [.inr (.inl (some 58)), .inl k] 1124) : tp_P sc t u n T k (N + 6) 504 [.inr (.inl (some 58)), .inl 0, .inl k] 1118 := by
  have w5 : tp_P sc t u n T k (N + 1) 504 [.inr (.inl (some 58)), .inl 5, .inl k] 1124 := fun p c g a b e => by
    obtain ⟨ok, p', c', g', v, x, y⟩ := w p c g a b e
    exact ⟨ok, p', c', g', v, tp_5 (tp_V_ok v) x, fun t2 => tp_M_up (by omega) (y t2)⟩
  have w4 := tp_lev (me := 1122) (me' := 1124) (l := 4) (cd := xm_c1122) (L := tp_L2) hT (by decide) (by decide)
    (fun t2 p c g h => tm_1122_end hT (fun e => by
      rcases e with e | e | e
      · exact tp_lk_ne (l := 4) (by rfl) (by decide) h e
      · exact tp_lk_ne (l := 4) (by rfl) (by decide) h e
      · exact tp_lk_ne (l := 4) (by rfl) (by decide) h e))
    (fun t2 p c g p1 c1 g1 h1 h2 y => tm_1122_e0 hT h1 (tp_lv_4.mp h2) y)
    (fun t2 p c g p1 c1 g1 ok p2 c2 g2 h1 h2 h3 y y2 => tm_1122_e1 hT h1 (tp_lv_4.mp h2) h3 y y2)
    (fun t2 p c g p1 c1 g1 y => tm_1122_0 y)
    (fun t2 p c g p1 c1 g1 ok p2 c2 g2 ho y y2 => tm_1122_1 ho y y2) w5
  have w3 := tp_lev (me := 1121) (me' := 1122) (l := 3) (cd := xm_c1121) (L := tp_L2) hT (by decide) (by decide)
    (fun t2 p c g h => tm_1121_end hT (fun e => by
      rcases e with e | e
      · exact tp_lk_ne (l := 3) (by rfl) (by decide) h e
      · exact tp_lk_ne (l := 3) (by rfl) (by decide) h e))
    (fun t2 p c g p1 c1 g1 h1 h2 y => tm_1121_e0 hT h1 (tp_lv_3.mp h2) y)
    (fun t2 p c g p1 c1 g1 ok p2 c2 g2 h1 h2 h3 y y2 => tm_1121_e1 hT h1 (tp_lv_3.mp h2) h3 y y2)
    (fun t2 p c g p1 c1 g1 y => tm_1121_0 y)
    (fun t2 p c g p1 c1 g1 ok p2 c2 g2 ho y y2 => tm_1121_1 ho y y2) w4
  have w2 := tp_lev2 hT w3
  have w1 := tp_lev (me := 1119) (me' := 1120) (l := 1) (cd := xm_c1119) (L := tp_L1) hT (by decide) (by decide)
    (fun t2 p c g h => tm_1119_end hT (tp_lk_ne (l := 1) (by rfl) (by decide) h))
    (fun t2 p c g p1 c1 g1 h1 h2 y => tm_1119_e0 hT h1 (tp_lv_1.mp h2) y)
    (fun t2 p c g p1 c1 g1 ok p2 c2 g2 h1 h2 h3 y y2 => tm_1119_e1 hT h1 (tp_lv_1.mp h2) h3 y y2)
    (fun t2 p c g p1 c1 g1 y => tm_1119_0 y)
    (fun t2 p c g p1 c1 g1 ok p2 c2 g2 ho y y2 => tm_1119_1 ho y y2) w2
  exact tp_lev (me := 1118) (me' := 1119) (l := 0) (cd := xm_c1118) (L := tp_L1) hT (by decide) (by decide)
    (fun t2 p c g h => tm_1118_end hT (tp_lk_ne (l := 0) (by rfl) (by decide) h))
    (fun t2 p c g p1 c1 g1 h1 h2 y => tm_1118_e0 hT h1 (tp_lv_0.mp h2) y)
    (fun t2 p c g p1 c1 g1 ok p2 c2 g2 h1 h2 h3 y y2 => tm_1118_e1 hT h1 (tp_lv_0.mp h2) h3 y y2)
    (fun t2 p c g p1 c1 g1 y => tm_1118_0 y)
    (fun t2 p c g p1 c1 g1 ok p2 c2 g2 ho y y2 => tm_1118_1 ho y y2) w1
set_option maxRecDepth 20000 in
theorem tp_five {sc : List Int} {t : xm_W} {u n : Nat} {T : Nat → Int} {k : Int} {N : Nat} (ht : t.length < 900000) (hu : u < 2) (hT : tp_T n T) (hk : 0 ≤ k ∧ k ≤ 5) (h5 : k < 5 → tp_P sc t u n T (k + 1) (N + 3) 505 [.inr (.inl (some 58)), .inl (k + 1)] 1124) (h0 : k < 5 → tp_P sc t u n T (k + 1) (N + 3) 504 [.inr (.inl (some 58)), .inl 0, .inl (k + 1)] 1118) : tp_P sc t u n T k (N + 5) 505 [.inr (.inl (some 58)), .inl k] 1124 := by
  have hn := hT.1
  intro p c g hp hc hd
  by_cases h1 : p < n
  · by_cases hz : sg_nm u (T p)
    · have e := tp_d_u (g := g) (c := c) (x := (1, T p))
      rw [if_pos (Or.inr rfl)] at e
      refine ⟨1, p + 1, c + 1, tp_u g c (1, T p), ⟨by omega, by omega, Or.inr ⟨rfl, by omega, by omega, by omega, fun j hj => tp_u_ne (by omega), e, fun j j1 j2 => ?_⟩⟩, tp_C_up (by omega) (tp_nam ht hu hT h1 hc hz), fun t2 => tp_M_up (by omega) (tm_nam hT h1 hc hz)⟩
      have ej : j = c := by omega
      subst ej
      exact tp_tk_u (Or.inr (Or.inl ⟨rfl, hz⟩))
    · by_cases hg : 48 ≤ T p ∧ T p ≤ 57
      · have e := tp_d_u (g := g) (c := c) (x := (0, (tp_nu n T 4 p 0).1))
        rw [if_pos (Or.inl rfl)] at e
        have b := tp_nu_b (n := n) (T := T) 4 p 0 (by omega) hp (by decide)
        have b2 : p + 1 ≤ (tp_nu n T 4 p 0).2 := by
          have e4 : tp_nu n T 4 p 0 = tp_nu n T 3 (p + 1) (10 * 0 + T p - 48) := by
            show (if p < n ∧ 48 ≤ T p ∧ T p ≤ 57 then _ else _) = _
            rw [if_pos ⟨h1, hg⟩]
          rw [e4]
          exact (tp_nu_b (n := n) (T := T) 3 (p + 1) (10 * 0 + T p - 48) (by omega) (by omega) (by unfold tp_B; simp; omega)).2.1
        refine ⟨1, _, c + 1, _, ⟨by omega, by omega, Or.inr ⟨rfl, by omega, by omega, by omega, fun j hj => tp_u_ne (by omega), e, fun j j1 j2 => ?_⟩⟩, tp_C_up (by omega) (tp_num hT h1 hc hg), fun t2 => tp_M_up (by omega) (tm_num hT h1 hc hg)⟩
        have ej : j = c := by omega
        subst ej
        exact tp_tk_u (Or.inl ⟨rfl, b.1.1, b.1.2⟩)
      · by_cases h3 : T p = 33 ∧ k < 5
        · obtain ⟨ok, p1, c1, g1, hv, x, y⟩ := h5 h3.2 (p + 1) c g (by omega) (by omega) hd
          have hok := tp_V_ok hv
          obtain ⟨v1, v2, v3⟩ := hv
          have hc1 : ok = 1 → c1 < 60 := fun e => by rcases v3 with q | q <;> omega
          refine ⟨ok, p1, c1 + 1, tp_u g1 c1 (2, 0), ⟨by omega, v2, ?_⟩, tp_not ht hu hT h1 h3.1 ⟨hk.1, h3.2⟩ hc1 hok x, fun t2 => tp_M_up (by omega) (tm_not (N := N + 2) hT h1 h3.1 ⟨hk.1, h3.2⟩ hc1 hok (y t2))⟩
          rcases v3 with q | ⟨q, a1, a2, a3, a4, a5, a6⟩
          · exact Or.inl q
          · have e := tp_d_u (g := g1) (c := c1) (x := (2, 0))
            rw [if_neg (show ¬ ((2 : Int) = 0 ∨ (2 : Int) = 1) by decide), if_pos rfl] at e
            refine Or.inr ⟨q, by omega, by omega, by omega, fun j hj => by rw [tp_u_ne (by omega), a4 j hj], by omega, fun j j1 j2 => ?_⟩
            by_cases z : j < c1
            · exact tp_tok_eq (fun i hi => tp_u_ne (by omega)) (a6 j j1 z)
            · have ej : j = c1 := by omega
              subst ej
              exact tp_tk_u (Or.inr (Or.inr (Or.inl ⟨rfl, by omega⟩)))
        · by_cases h4 : T p = 40 ∧ k < 5
          · obtain ⟨ok, p1, c1, g1, hv, x, y⟩ := h0 h4.2 (p + 1) c g (by omega) (by omega) hd
            have hok := tp_V_ok hv
            obtain ⟨v1, v2, v3⟩ := hv
            refine ⟨_, _, c1, g1, ?_, tp_opn ht hu hT h1 h4.1 ⟨hk.1, h4.2⟩ v2 hok x, fun t2 => tp_M_up (by omega) (tm_opn (N := N + 2) hT h1 h4.1 ⟨hk.1, h4.2⟩ v2 hok (y t2))⟩
            by_cases z : ok = 1 ∧ p1 < n ∧ T p1 = 41
            · rw [if_pos z, if_pos z]
              rcases v3 with q | ⟨q, a1, a2, a3, a4, a5, a6⟩
              · omega
              · exact ⟨by omega, by omega, Or.inr ⟨rfl, by omega, a2, by omega, a4, a5, a6⟩⟩
            · rw [if_neg z, if_neg z]
              exact ⟨by omega, v2, Or.inl rfl⟩
          · exact ⟨0, p, c, g, ⟨Nat.le_refl p, hp, Or.inl rfl⟩, tp_C_up (by omega) (tp_bad ht hu hT h1 hz hg (by omega)), fun t2 => tp_M_up (by omega) (tm_bad hT h1 hz hg (by omega))⟩
  · exact ⟨0, p, c, g, ⟨Nat.le_refl p, hp, Or.inl rfl⟩, tp_C_up (by omega) (tp_end (by omega)), fun t2 => tp_M_up (by omega) (tm_end hT (by omega))⟩
set_option maxRecDepth 20000 in
theorem tp_all {sc : List Int} {t : xm_W} {u n : Nat} {T : Nat → Int} (ht : t.length < 900000) (hu : u < 2) (hT : tp_T n T) : ∀ (f : Nat) (k : Int), k + f = 5 → 0 ≤ k → tp_P sc t u n T k (5 + 8 * f) 505 [.inr (.inl (some 58)), .inl k] 1124
  | 0, k, hk, h0 => tp_five (N := 0) ht hu hT (by omega) (fun h => by omega) (fun h => by omega)
  | f + 1, k, hk, h0 => by
    have h := tp_all (sc := sc) (t := t) ht hu hT f (k + 1) (by omega) (by omega)
    have := tp_five (sc := sc) (t := t) (N := 8 * f + 8) ht hu hT (k := k) (by omega) (fun _ => tp_P_up (by omega) h) (fun _ => tp_P_up (by omega) (tp_zero hT h))
    rw [show 5 + 8 * (f + 1) = 8 * f + 8 + 5 by omega]
    exact this
set_option maxRecDepth 20000 in
theorem tp_top {sc : List Int} {t : xm_W} {u n : Nat} {T : Nat → Int} (ht : t.length < 900000) (hu : u < 2) (hT : tp_T n T) : tp_P sc t u n T 0 51 504 [.inr (.inl (some 58)), .inl 0, .inl 0] 1118 := tp_zero (N := 45) hT (tp_all ht hu hT 5 0 (by decide) (by decide))
end
section
/-! TEXT: both sides -/
section
variable {o : xm_W} {t : xm_W} {m : Nat → Nat → Int}
set_option maxRecDepth 20000 in
theorem yy_W_ap {x : xm_C} : yy_W m t ++ [x] = yy_W m (t ++ [x]) := List.append_assoc _ _ _
set_option maxRecDepth 20000 in
theorem yy_W_st {x y : xm_C} : (yy_W m (t ++ [x])).set (87 + t.length) y = yy_W m (t ++ [y]) := by
  rw [← yy_W_ap, ← yy_W_ap]
  have h := List.set_append_right (s := (yy_W m t : List xm_C)) (t := [x]) (x := y) (87 + t.length) (by rw [yy_W_len]; exact Nat.le_refl _)
  rw [yy_W_len, Nat.sub_self] at h
  exact h
set_option maxRecDepth 20000 in
theorem yy_W_lt {x : xm_C} : (yy_W m (t ++ [x]))[87 + t.length]? = some x := by
  rw [yy_ge (by omega), Nat.add_sub_cancel_left, List.getElem?_append_right (Nat.le_refl _), Nat.sub_self]; rfl
set_option maxRecDepth 20000 in
theorem yy_cp_t {F : xm_W → Prop} {c : Nat} (hc : c ≤ 60) : xm_O (xm_copy (yy_W m (t ++ [.inl (List.replicate c 0)])) 60 0 (87 + t.length) 0 (c : Int)) F = F (yy_W m (t ++ [.inl (yy_R c (m 60))])) := by
  have e60 : (yy_W m (t ++ [.inl (List.replicate c 0)]))[60]? = some (.inl (yy_R 60 (m 60))) := (yy_get rfl).trans rfl
  have h : xm_copy (yy_W m (t ++ [.inl (List.replicate c 0)])) 60 0 (87 + t.length) 0 (c : Int) = some (yy_W m (t ++ [.inl (yy_R c (m 60))])) := by
    unfold xm_copy
    rw [e60, yy_W_lt]
    show (if (0 : Int) ≤ 0 ∧ (0 : Int) ≤ 0 ∧ 0 ≤ (c : Int) ∧ 0 + (c : Int) ≤ ((yy_R 60 (m 60)).length : Int) ∧ 0 + (c : Int) ≤ ((List.replicate c (0 : Int)).length : Int) then some ((yy_W m (t ++ [.inl (List.replicate c 0)])).set (87 + t.length) (Sum.inl (xm_cpy (yy_R 60 (m 60)) (List.replicate c 0) (0 : Int).toNat (0 : Int).toNat (c : Int).toNat))) else none) = _
    rw [yy_R_len, List.length_replicate, if_pos ⟨by decide, by decide, by omega, by omega, by omega⟩, yy_W_st]
    have e : xm_cpy (yy_R 60 (m 60)) (List.replicate c 0) (0 : Int).toNat (0 : Int).toNat (c : Int).toNat = yy_R c (m 60) := by
      unfold xm_cpy
      refine yy_R_ext ?_ fun k hk => ?_
      · simp [yy_R_len]; omega
      · rw [Int.toNat_natCast, List.getElem?_append_right (by simp), List.getElem?_append_left (by simp [yy_R_len]; omega)]
        simp [hk]
        exact yy_R_get (by omega)
    rw [e]
  rw [h]; rfl
set_option maxRecDepth 20000 in
theorem yy_st_t {F : xm_W → Prop} {r : Nat} {fs : List xm_V} (hf : 0 < fs.length) : xm_O (xm_setf (yy_W m (t ++ [.inr (.inr (7, fs))])) (87 + t.length) 7 0 2 (.inr (.inl (some r)))) F = F (yy_W m (t ++ [.inr (.inr (7, fs.set 0 (.inr (.inl (some r)))))])) := by
  rw [xw_setf yy_W_lt hf rfl, yy_W_st]; rfl
end
set_option maxRecDepth 20000 in
theorem q_503 {sc : List Int} {d : Nat} {t : xm_W} {m : Nat → Nat → Int} {c : Nat} (h : m 58 5 = c) (hc : c ≤ 60) : xm_X (xm_old sc) xm_mt (d + 2) 503 [.inr (.inl (some 58))] (yy_W m t) = some (some (.inr (.inl (some (87 + (t.length + 1))))), yy_W m (t ++ [.inl (yy_R c (m 60))] ++ [.inr (.inr (7, [.inr (.inl (some (87 + t.length)))]))])) := by
  have X9 : xm_X (xm_old sc) xm_mt (d + 1) 901 [.inr (.inl (some (87 + (t.length + 1)))), .inr (.inl (some (87 + t.length)))] (yy_W m (t ++ [.inl (yy_R c (m 60))] ++ [.inr (.inr (7, (xm_kd 7).map xm_dflt))])) = some (none, yy_W m (t ++ [.inl (yy_R c (m 60))] ++ [.inr (.inr (7, [.inr (.inl (some (87 + t.length)))]))])) := by
    have el : (t ++ [(.inl (yy_R c (m 60)) : xm_C)]).length = t.length + 1 := by simp
    have hd := yy_W_lt (m := m) (t := t ++ [.inl (yy_R c (m 60))]) (x := .inr (.inr (7, (xm_kd 7).map xm_dflt)))
    rw [el] at hd
    refine xm_X_of (M := xm_m901) rfl ⟨xm_EQ.eq (xb_901_0 ?_), rfl, rfl, Nat.le_of_ble_eq_true rfl, xw_hd hd⟩
    have := yy_st_t (m := m) (t := t ++ [.inl (yy_R c (m 60))]) (r := 87 + t.length) (fs := (xm_kd 7).map xm_dflt) (F := fun w1 => (some (none, yy_W m (t ++ [.inl (yy_R c (m 60))] ++ [.inr (.inr (7, [.inr (.inl (some (87 + t.length)))]))])) : xm_R) = some (none, w1)) (by decide)
    rw [el] at this
    rw [xw_setf hd (by decide) rfl]
    have e2 := yy_W_st (m := m) (t := t ++ [.inl (yy_R c (m 60))]) (x := .inr (.inr (7, (xm_kd 7).map xm_dflt))) (y := .inr (.inr (7, ((xm_kd 7).map xm_dflt).set 0 (.inr (.inl (some (87 + t.length)))))))
    rw [el] at e2
    rw [e2]; rfl
  refine xm_X_of (M := xm_m503) rfl ⟨xm_EQ.eq (xb_503_0 ?_), rfl, rfl, Nat.le_of_ble_eq_true rfl, yy_hd rfl (by decide)⟩
  rw [zf_58_5, h]
  refine ⟨by omega, ?_⟩
  rw [Int.toNat_natCast, yy_W_ap, zr_58_4, zf_58_5, h, yy_W_len, yy_cp_t hc]
  have el : (yy_W m (t ++ [(.inl (yy_R c (m 60)) : xm_C)])).length = 87 + (t.length + 1) := by rw [yy_W_len]; simp
  rw [el, yy_W_ap, X9]
  rfl
set_option maxRecDepth 20000 in
theorem c_502_0 {sc : List Int} {d : Nat} {t : xm_W} {m : Nat → Nat → Int} {n p c : Nat} {T : Nat → Int} {g : Nat → Int × Int} {ok : Int} (hn : n ≤ 60) (hT : ∀ j, j < 60 → m 36 j = T j) (hok : ok = 0 ∨ ok = 1) (w : tp_C sc t 0 n T 51 504 [.inr (.inl (some 58)), .inl 0, .inl 0] 0 0 (fun _ => (0, 0)) ok p c g) : ∃ m', xm_X (xm_old sc) xm_mt (d + 52) 502 [.inr (.inl (some 58)), .inr (.inl (some 36)), .inl ((n : Int)), .inr (.inl (some 1000003))] (yy_W (m) t) = some (some (.inl (if ok = 1 ∧ p = n then 1 else 0)), (yy_W (m') t)) ∧ tp_fc m m' ∧ m' 58 3 = p ∧ (ok = 1 → tp_cs 0 n T p c g m') := by
  obtain ⟨m1, e, f1, f2, f3⟩ := w d (yy_s (yy_s (yy_s (yy_s (yy_s m 58 0 (((36 : Nat) : Int) + 1)) 58 1 n) 58 2 (((1000003 : Nat) : Int) + 1)) 58 3 0) 58 5 0) ⟨by simp (disch := first | omega | (unfold xm_w; omega)) only [↓zy_at, xm_O_some, xm_Oi_some, xm_Ov_some, xm_Oq_some, ↓reduceIte, ↓zz_t, ↓zz_f, ↓zi_t, ↓zi_f, eq_self, yy_d_0, Int.reduceEq, Int.reduceLT, Int.reduceLE, Int.reduceNe, Int.reduceToNat, Int.reduceAdd, Int.reduceSub, Int.reduceMul, Int.reduceNeg, Nat.reduceAdd, Nat.reduceMul, Nat.reduceSub, Nat.reduceEqDiff, Nat.reduceLT, ne_eq, not_false_eq_true, not_true_eq_false, true_and, and_true, and_self, yy_s_eq, yy_s_ne, yy_c_eq, yy_c_ne, yy_u_eq, yy_u_ne, xm_w_id, yy_at, tdiv_pos, tmod_pos]; omega, by simp (disch := first | omega | (unfold xm_w; omega)) only [↓zy_at, xm_O_some, xm_Oi_some, xm_Ov_some, xm_Oq_some, ↓reduceIte, ↓zz_t, ↓zz_f, ↓zi_t, ↓zi_f, eq_self, yy_d_0, Int.reduceEq, Int.reduceLT, Int.reduceLE, Int.reduceNe, Int.reduceToNat, Int.reduceAdd, Int.reduceSub, Int.reduceMul, Int.reduceNeg, Nat.reduceAdd, Nat.reduceMul, Nat.reduceSub, Nat.reduceEqDiff, Nat.reduceLT, ne_eq, not_false_eq_true, not_true_eq_false, true_and, and_true, and_self, yy_s_eq, yy_s_ne, yy_c_eq, yy_c_ne, yy_u_eq, yy_u_ne, xm_w_id, yy_at, tdiv_pos, tmod_pos], by simp (disch := first | omega | (unfold xm_w; omega)) only [↓zy_at, xm_O_some, xm_Oi_some, xm_Ov_some, xm_Oq_some, ↓reduceIte, ↓zz_t, ↓zz_f, ↓zi_t, ↓zi_f, eq_self, yy_d_0, Int.reduceEq, Int.reduceLT, Int.reduceLE, Int.reduceNe, Int.reduceToNat, Int.reduceAdd, Int.reduceSub, Int.reduceMul, Int.reduceNeg, Nat.reduceAdd, Nat.reduceMul, Nat.reduceSub, Nat.reduceEqDiff, Nat.reduceLT, ne_eq, not_false_eq_true, not_true_eq_false, true_and, and_true, and_self, yy_s_eq, yy_s_ne, yy_c_eq, yy_c_ne, yy_u_eq, yy_u_ne, xm_w_id, yy_at, tdiv_pos, tmod_pos]; omega, by simp (disch := first | omega | (unfold xm_w; omega)) only [↓zy_at, xm_O_some, xm_Oi_some, xm_Ov_some, xm_Oq_some, ↓reduceIte, ↓zz_t, ↓zz_f, ↓zi_t, ↓zi_f, eq_self, yy_d_0, Int.reduceEq, Int.reduceLT, Int.reduceLE, Int.reduceNe, Int.reduceToNat, Int.reduceAdd, Int.reduceSub, Int.reduceMul, Int.reduceNeg, Nat.reduceAdd, Nat.reduceMul, Nat.reduceSub, Nat.reduceEqDiff, Nat.reduceLT, ne_eq, not_false_eq_true, not_true_eq_false, true_and, and_true, and_self, yy_s_eq, yy_s_ne, yy_c_eq, yy_c_ne, yy_u_eq, yy_u_ne, xm_w_id, yy_at, tdiv_pos, tmod_pos]; omega, by simp (disch := first | omega | (unfold xm_w; omega)) only [↓zy_at, xm_O_some, xm_Oi_some, xm_Ov_some, xm_Oq_some, ↓reduceIte, ↓zz_t, ↓zz_f, ↓zi_t, ↓zi_f, eq_self, yy_d_0, Int.reduceEq, Int.reduceLT, Int.reduceLE, Int.reduceNe, Int.reduceToNat, Int.reduceAdd, Int.reduceSub, Int.reduceMul, Int.reduceNeg, Nat.reduceAdd, Nat.reduceMul, Nat.reduceSub, Nat.reduceEqDiff, Nat.reduceLT, ne_eq, not_false_eq_true, not_true_eq_false, true_and, and_true, and_self, yy_s_eq, yy_s_ne, yy_c_eq, yy_c_ne, yy_u_eq, yy_u_ne, xm_w_id, yy_at, tdiv_pos, tmod_pos]; omega, fun j hj => by rw [yy_s_ne (by decide), yy_s_ne (by decide), yy_s_ne (by decide), yy_s_ne (by decide), yy_s_ne (by decide)]; exact hT j hj, fun j hj => absurd hj (Nat.not_lt_zero j)⟩
  refine ⟨m1, ?_, fun x a b => by rw [f1 x a b, yy_s_ne a, yy_s_ne a, yy_s_ne a, yy_s_ne a, yy_s_ne a], f2, f3⟩
  show xm_X (xm_old sc) xm_mt (d + 51 + 1) 502 [.inr (.inl (some 58)), .inr (.inl (some 36)), .inl ((n : Int)), .inr (.inl (some 1000003))] (yy_W (m) t) = _
  refine xm_X_of (M := xm_m502) rfl ⟨xm_EQ.eq (xb_502_0 ?_), ?_, rfl, Nat.le_of_ble_eq_true rfl, yy_hd rfl (by decide)⟩
  rotate_left
  · split <;> rfl
  rw [zd_58_0, zs_58_1, zd_58_2, zs_58_3, zs_58_5, e, xm_Oi_some]
  rcases hok with q | q <;> subst q
  · rw [if_pos rfl, if_neg (fun h => absurd h.1 (by decide))]
  · rw [if_neg (by decide), zf_58_3, zf_58_1, f2, (f3 rfl).2.1]
    by_cases h : p = n
    · rw [if_pos (by omega), if_pos ⟨rfl, h⟩]
    · rw [if_neg (by omega), if_neg (fun q => h q.2)]
set_option maxRecDepth 20000 in
theorem c_111f_0 {sc : List Int} {d : Nat} {t : xm_W} {m : Nat → Nat → Int} {n p c : Nat} {T : Nat → Int} {g : Nat → Int × Int} {ok : Int} (hn : n ≤ 60) (h1 : m 35 1 = n) (hT : ∀ j, j < 60 → m 36 j = T j) (hok : ok = 0 ∨ ok = 1) (hz : ¬ (ok = 1 ∧ p = n)) (w : tp_C sc t 0 n T 51 504 [.inr (.inl (some 58)), .inl 0, .inl 0] 0 0 (fun _ => (0, 0)) ok p c g) : ∃ m', xm_X (xm_old sc) xm_mt (d + 53) 111 [.inr (.inl (some 0)), .inl (0)] (yy_W (m) t) = some (some (.inl (xm_w (-10 - p))), (yy_W (m') t)) ∧ (∀ x, x ≠ 58 → x ≠ 60 → x ≠ 35 → m' x = m x) ∧ m' 35 = yy_u (m 35) 1 0 := by
  obtain ⟨m1, e, f1, f2, f3⟩ := c_502_0 (d := d) hn hT hok w
  rw [if_neg hz] at e
  refine ⟨yy_s m1 35 1 0, ?_, fun x a b c => by rw [yy_s_ne c, f1 x a b], by rw [yy_s_eq, f1 35 (by decide) (by decide)]⟩
  show xm_X (xm_old sc) xm_mt (d + 52 + 1) 111 [.inr (.inl (some 0)), .inl (0)] (yy_W (m) t) = _
  refine xm_X_of (M := xm_m111) rfl ⟨xm_EQ.eq (xb_111_0 ?_), rfl, rfl, Nat.le_of_ble_eq_true rfl, yy_hd rfl (by decide)⟩
  rw [oc_146 (d := d + 50), zz_t (by decide), zr_0_6, zr_0_2, zr_35_0, zr_0_2, zf_35_1, h1]
  simp only [↓reduceIte, Int.reduceEq]
  rw [e, xm_Oi_some, zr_0_2, zs_35_1, if_pos rfl, zr_0_6, zf_58_3, yy_s_ne (by decide), f2]
set_option maxRecDepth 20000 in
theorem c_111t_0 {sc : List Int} {d : Nat} {t : xm_W} {m : Nat → Nat → Int} {n p c : Nat} {T : Nat → Int} {g : Nat → Int × Int} (hn : n ≤ 60) (hc : c ≤ 60) (h1 : m 35 1 = n) (hT : ∀ j, j < 60 → m 36 j = T j) (hz : p = n) (w : tp_C sc t 0 n T 51 504 [.inr (.inl (some 58)), .inl 0, .inl 0] 0 0 (fun _ => (0, 0)) 1 p c g) : ∃ m', xm_X (xm_old sc) xm_mt (d + 53) 111 [.inr (.inl (some 0)), .inl 0] (yy_W m t) = some (some (.inl 1), yy_W m' (t ++ [.inl (yy_R c (m' 60))] ++ [.inr (.inr (7, [.inr (.inl (some (87 + t.length)))]))])) ∧ (∀ x, x ≠ 58 → x ≠ 60 → x ≠ 35 → x ≠ 5 → m' x = m x) ∧ m' 35 = yy_u (m 35) 1 0 ∧ m' 5 = yy_u (m 5) 0 (((87 + (t.length + 1) : Nat) : Int) + 1) ∧ ∀ j, j < c → m' 60 j = tp_sg 0 (g j) := by
  obtain ⟨m1, e, f1, f2, f3⟩ := c_502_0 (d := d) hn hT (Or.inr rfl) w
  rw [if_pos ⟨rfl, hz⟩] at e
  have hs := f3 rfl
  obtain ⟨b0, b1, b2, b3, b4, b5, b6⟩ := id hs
  refine ⟨yy_s (yy_s m1 35 1 0) 5 0 (((87 + (t.length + 1) : Nat) : Int) + 1), ?_, fun x a b c e => by rw [yy_s_ne e, yy_s_ne c, f1 x a b], by rw [yy_s_ne (by decide), yy_s_eq, f1 35 (by decide) (by decide)], by rw [yy_s_eq, yy_s_ne (by decide), f1 5 (by decide) (by decide)], fun j hj => by rw [yy_s_ne (by decide), yy_s_ne (by decide)]; exact b6 j hj⟩
  show xm_X (xm_old sc) xm_mt (d + 52 + 1) 111 [.inr (.inl (some 0)), .inl (0)] (yy_W (m) t) = _
  refine xm_X_of (M := xm_m111) rfl ⟨xm_EQ.eq (xb_111_0 ?_), rfl, rfl, Nat.le_of_ble_eq_true rfl, yy_hd rfl (by decide)⟩
  rw [oc_146 (d := d + 50), zz_t (by decide), zr_0_6, zr_0_2, zr_35_0, zr_0_2, zf_35_1, h1]
  simp only [↓reduceIte, Int.reduceEq]
  have e5 : (t ++ [(.inl (yy_R c (m1 60)) : xm_C)] ++ [.inr (.inr (7, [.inr (.inl (some (87 + t.length)))]))])[t.length + 1]? = some (.inr (.inr (7, [.inr (.inl (some (87 + t.length)))]))) := by
    rw [List.getElem?_append_right (by simp)]; simp
  have hx : yy_tx (t ++ [(.inl (yy_R c (m1 60)) : xm_C)] ++ [.inr (.inr (7, [.inr (.inl (some (87 + t.length)))]))]) (((87 + (t.length + 1) : Nat) : Int) + 1) := Or.inr ⟨t.length + 1, _, yy_d_s, e5⟩
  have st := yy_setq (m := yy_s m1 35 1 0) (c := 5) (i := 0) (l := [1, 1]) rfl rfl (by decide) hx
  rw [yy_d_s, show (((0 : Int)).toNat) = 0 from rfl] at st
  rw [e, xm_Oi_some, zr_0_2, zs_35_1, if_neg (by decide), zr_0_0, zr_1_7, zr_0_6, q_503 (d := d + 50) (c := c) (by rw [yy_s_ne (by decide)]; exact b4) hc, xm_Oq_some, show yy_s m1 35 1 0 60 = m1 60 from yy_s_ne (by decide)]
  rw [st, xm_O_some, show yy_s (yy_s m1 35 1 0) 5 0 (((87 + (t.length + 1) : Nat) : Int) + 1) 60 = m1 60 by rw [yy_s_ne (by decide), yy_s_ne (by decide)]]
set_option maxRecDepth 20000 in
theorem c_502_1 {sc : List Int} {d : Nat} {t : xm_W} {m : Nat → Nat → Int} {n p c : Nat} {T : Nat → Int} {g : Nat → Int × Int} {ok : Int} (hn : n ≤ 60) (hT : ∀ j, j < 60 → m 36 j = T j) (hok : ok = 0 ∨ ok = 1) (w : tp_C sc t 1 n T 51 504 [.inr (.inl (some 58)), .inl 0, .inl 0] 0 0 (fun _ => (0, 0)) ok p c g) : ∃ m', xm_X (xm_old sc) xm_mt (d + 52) 502 [.inr (.inl (some 58)), .inr (.inl (some 36)), .inl ((n : Int)), .inr (.inl (some 1000004))] (yy_W (m) t) = some (some (.inl (if ok = 1 ∧ p = n then 1 else 0)), (yy_W (m') t)) ∧ tp_fc m m' ∧ m' 58 3 = p ∧ (ok = 1 → tp_cs 1 n T p c g m') := by
  obtain ⟨m1, e, f1, f2, f3⟩ := w d (yy_s (yy_s (yy_s (yy_s (yy_s m 58 0 (((36 : Nat) : Int) + 1)) 58 1 n) 58 2 (((1000004 : Nat) : Int) + 1)) 58 3 0) 58 5 0) ⟨by simp (disch := first | omega | (unfold xm_w; omega)) only [↓zy_at, xm_O_some, xm_Oi_some, xm_Ov_some, xm_Oq_some, ↓reduceIte, ↓zz_t, ↓zz_f, ↓zi_t, ↓zi_f, eq_self, yy_d_0, Int.reduceEq, Int.reduceLT, Int.reduceLE, Int.reduceNe, Int.reduceToNat, Int.reduceAdd, Int.reduceSub, Int.reduceMul, Int.reduceNeg, Nat.reduceAdd, Nat.reduceMul, Nat.reduceSub, Nat.reduceEqDiff, Nat.reduceLT, ne_eq, not_false_eq_true, not_true_eq_false, true_and, and_true, and_self, yy_s_eq, yy_s_ne, yy_c_eq, yy_c_ne, yy_u_eq, yy_u_ne, xm_w_id, yy_at, tdiv_pos, tmod_pos]; omega, by simp (disch := first | omega | (unfold xm_w; omega)) only [↓zy_at, xm_O_some, xm_Oi_some, xm_Ov_some, xm_Oq_some, ↓reduceIte, ↓zz_t, ↓zz_f, ↓zi_t, ↓zi_f, eq_self, yy_d_0, Int.reduceEq, Int.reduceLT, Int.reduceLE, Int.reduceNe, Int.reduceToNat, Int.reduceAdd, Int.reduceSub, Int.reduceMul, Int.reduceNeg, Nat.reduceAdd, Nat.reduceMul, Nat.reduceSub, Nat.reduceEqDiff, Nat.reduceLT, ne_eq, not_false_eq_true, not_true_eq_false, true_and, and_true, and_self, yy_s_eq, yy_s_ne, yy_c_eq, yy_c_ne, yy_u_eq, yy_u_ne, xm_w_id, yy_at, tdiv_pos, tmod_pos], by simp (disch := first | omega | (unfold xm_w; omega)) only [↓zy_at, xm_O_some, xm_Oi_some, xm_Ov_some, xm_Oq_some, ↓reduceIte, ↓zz_t, ↓zz_f, ↓zi_t, ↓zi_f, eq_self, yy_d_0, Int.reduceEq, Int.reduceLT, Int.reduceLE, Int.reduceNe, Int.reduceToNat, Int.reduceAdd, Int.reduceSub, Int.reduceMul, Int.reduceNeg, Nat.reduceAdd, Nat.reduceMul, Nat.reduceSub, Nat.reduceEqDiff, Nat.reduceLT, ne_eq, not_false_eq_true, not_true_eq_false, true_and, and_true, and_self, yy_s_eq, yy_s_ne, yy_c_eq, yy_c_ne, yy_u_eq, yy_u_ne, xm_w_id, yy_at, tdiv_pos, tmod_pos]; omega, by simp (disch := first | omega | (unfold xm_w; omega)) only [↓zy_at, xm_O_some, xm_Oi_some, xm_Ov_some, xm_Oq_some, ↓reduceIte, ↓zz_t, ↓zz_f, ↓zi_t, ↓zi_f, eq_self, yy_d_0, Int.reduceEq, Int.reduceLT, Int.reduceLE, Int.reduceNe, Int.reduceToNat, Int.reduceAdd, Int.reduceSub, Int.reduceMul, Int.reduceNeg, Nat.reduceAdd, Nat.reduceMul, Nat.reduceSub, Nat.reduceEqDiff, Nat.reduceLT, ne_eq, not_false_eq_true, not_true_eq_false, true_and, and_true, and_self, yy_s_eq, yy_s_ne, yy_c_eq, yy_c_ne, yy_u_eq, yy_u_ne, xm_w_id, yy_at, tdiv_pos, tmod_pos]; omega, by simp (disch := first | omega | (unfold xm_w; omega)) only [↓zy_at, xm_O_some, xm_Oi_some, xm_Ov_some, xm_Oq_some, ↓reduceIte, ↓zz_t, ↓zz_f, ↓zi_t, ↓zi_f, eq_self, yy_d_0, Int.reduceEq, Int.reduceLT, Int.reduceLE, Int.reduceNe, Int.reduceToNat, Int.reduceAdd, Int.reduceSub, Int.reduceMul, Int.reduceNeg, Nat.reduceAdd, Nat.reduceMul, Nat.reduceSub, Nat.reduceEqDiff, Nat.reduceLT, ne_eq, not_false_eq_true, not_true_eq_false, true_and, and_true, and_self, yy_s_eq, yy_s_ne, yy_c_eq, yy_c_ne, yy_u_eq, yy_u_ne, xm_w_id, yy_at, tdiv_pos, tmod_pos]; omega, fun j hj => by rw [yy_s_ne (by decide), yy_s_ne (by decide), yy_s_ne (by decide), yy_s_ne (by decide), yy_s_ne (by decide)]; exact hT j hj, fun j hj => absurd hj (Nat.not_lt_zero j)⟩
  refine ⟨m1, ?_, fun x a b => by rw [f1 x a b, yy_s_ne a, yy_s_ne a, yy_s_ne a, yy_s_ne a, yy_s_ne a], f2, f3⟩
  show xm_X (xm_old sc) xm_mt (d + 51 + 1) 502 [.inr (.inl (some 58)), .inr (.inl (some 36)), .inl ((n : Int)), .inr (.inl (some 1000004))] (yy_W (m) t) = _
  refine xm_X_of (M := xm_m502) rfl ⟨xm_EQ.eq (xb_502_0 ?_), ?_, rfl, Nat.le_of_ble_eq_true rfl, yy_hd rfl (by decide)⟩
  rotate_left
  · split <;> rfl
  rw [zd_58_0, zs_58_1, zd_58_2, zs_58_3, zs_58_5, e, xm_Oi_some]
  rcases hok with q | q <;> subst q
  · rw [if_pos rfl, if_neg (fun h => absurd h.1 (by decide))]
  · rw [if_neg (by decide), zf_58_3, zf_58_1, f2, (f3 rfl).2.1]
    by_cases h : p = n
    · rw [if_pos (by omega), if_pos ⟨rfl, h⟩]
    · rw [if_neg (by omega), if_neg (fun q => h q.2)]
set_option maxRecDepth 20000 in
theorem c_111f_1 {sc : List Int} {d : Nat} {t : xm_W} {m : Nat → Nat → Int} {n p c : Nat} {T : Nat → Int} {g : Nat → Int × Int} {ok : Int} (hn : n ≤ 60) (h1 : m 35 1 = n) (hT : ∀ j, j < 60 → m 36 j = T j) (hok : ok = 0 ∨ ok = 1) (hz : ¬ (ok = 1 ∧ p = n)) (w : tp_C sc t 1 n T 51 504 [.inr (.inl (some 58)), .inl 0, .inl 0] 0 0 (fun _ => (0, 0)) ok p c g) : ∃ m', xm_X (xm_old sc) xm_mt (d + 53) 111 [.inr (.inl (some 0)), .inl (1)] (yy_W (m) t) = some (some (.inl (xm_w (-10 - p))), (yy_W (m') t)) ∧ (∀ x, x ≠ 58 → x ≠ 60 → x ≠ 35 → m' x = m x) ∧ m' 35 = yy_u (m 35) 1 0 := by
  obtain ⟨m1, e, f1, f2, f3⟩ := c_502_1 (d := d) hn hT hok w
  rw [if_neg hz] at e
  refine ⟨yy_s m1 35 1 0, ?_, fun x a b c => by rw [yy_s_ne c, f1 x a b], by rw [yy_s_eq, f1 35 (by decide) (by decide)]⟩
  show xm_X (xm_old sc) xm_mt (d + 52 + 1) 111 [.inr (.inl (some 0)), .inl (1)] (yy_W (m) t) = _
  refine xm_X_of (M := xm_m111) rfl ⟨xm_EQ.eq (xb_111_0 ?_), rfl, rfl, Nat.le_of_ble_eq_true rfl, yy_hd rfl (by decide)⟩
  rw [oc_146 (d := d + 50), zz_t (by decide), zr_0_6, zr_0_2, zr_35_0, zr_0_2, zf_35_1, h1]
  simp only [↓reduceIte, Int.reduceEq]
  rw [e, xm_Oi_some, zr_0_2, zs_35_1, if_pos rfl, zr_0_6, zf_58_3, yy_s_ne (by decide), f2]
set_option maxRecDepth 20000 in
theorem c_111t_1 {sc : List Int} {d : Nat} {t : xm_W} {m : Nat → Nat → Int} {n p c : Nat} {T : Nat → Int} {g : Nat → Int × Int} (hn : n ≤ 60) (hc : c ≤ 60) (h1 : m 35 1 = n) (hT : ∀ j, j < 60 → m 36 j = T j) (hz : p = n) (w : tp_C sc t 1 n T 51 504 [.inr (.inl (some 58)), .inl 0, .inl 0] 0 0 (fun _ => (0, 0)) 1 p c g) : ∃ m', xm_X (xm_old sc) xm_mt (d + 53) 111 [.inr (.inl (some 0)), .inl 1] (yy_W m t) = some (some (.inl 1), yy_W m' (t ++ [.inl (yy_R c (m' 60))] ++ [.inr (.inr (7, [.inr (.inl (some (87 + t.length)))]))])) ∧ (∀ x, x ≠ 58 → x ≠ 60 → x ≠ 35 → x ≠ 5 → m' x = m x) ∧ m' 35 = yy_u (m 35) 1 0 ∧ m' 5 = yy_u (m 5) 1 (((87 + (t.length + 1) : Nat) : Int) + 1) ∧ ∀ j, j < c → m' 60 j = tp_sg 1 (g j) := by
  obtain ⟨m1, e, f1, f2, f3⟩ := c_502_1 (d := d) hn hT (Or.inr rfl) w
  rw [if_pos ⟨rfl, hz⟩] at e
  have hs := f3 rfl
  obtain ⟨b0, b1, b2, b3, b4, b5, b6⟩ := id hs
  refine ⟨yy_s (yy_s m1 35 1 0) 5 1 (((87 + (t.length + 1) : Nat) : Int) + 1), ?_, fun x a b c e => by rw [yy_s_ne e, yy_s_ne c, f1 x a b], by rw [yy_s_ne (by decide), yy_s_eq, f1 35 (by decide) (by decide)], by rw [yy_s_eq, yy_s_ne (by decide), f1 5 (by decide) (by decide)], fun j hj => by rw [yy_s_ne (by decide), yy_s_ne (by decide)]; exact b6 j hj⟩
  show xm_X (xm_old sc) xm_mt (d + 52 + 1) 111 [.inr (.inl (some 0)), .inl (1)] (yy_W (m) t) = _
  refine xm_X_of (M := xm_m111) rfl ⟨xm_EQ.eq (xb_111_0 ?_), rfl, rfl, Nat.le_of_ble_eq_true rfl, yy_hd rfl (by decide)⟩
  rw [oc_146 (d := d + 50), zz_t (by decide), zr_0_6, zr_0_2, zr_35_0, zr_0_2, zf_35_1, h1]
  simp only [↓reduceIte, Int.reduceEq]
  have e5 : (t ++ [(.inl (yy_R c (m1 60)) : xm_C)] ++ [.inr (.inr (7, [.inr (.inl (some (87 + t.length)))]))])[t.length + 1]? = some (.inr (.inr (7, [.inr (.inl (some (87 + t.length)))]))) := by
    rw [List.getElem?_append_right (by simp)]; simp
  have hx : yy_tx (t ++ [(.inl (yy_R c (m1 60)) : xm_C)] ++ [.inr (.inr (7, [.inr (.inl (some (87 + t.length)))]))]) (((87 + (t.length + 1) : Nat) : Int) + 1) := Or.inr ⟨t.length + 1, _, yy_d_s, e5⟩
  have st := yy_setq (m := yy_s m1 35 1 0) (c := 5) (i := 1) (l := [1, 1]) rfl rfl (by decide) hx
  rw [yy_d_s, show (((1 : Int)).toNat) = 1 from rfl] at st
  rw [e, xm_Oi_some, zr_0_2, zs_35_1, if_neg (by decide), zr_0_0, zr_1_7, zr_0_6, q_503 (d := d + 50) (c := c) (by rw [yy_s_ne (by decide)]; exact b4) hc, xm_Oq_some, show yy_s m1 35 1 0 60 = m1 60 from yy_s_ne (by decide)]
  rw [st, xm_O_some, show yy_s (yy_s m1 35 1 0) 5 1 (((87 + (t.length + 1) : Nat) : Int) + 1) 60 = m1 60 by rw [yy_s_ne (by decide), yy_s_ne (by decide)]]
end
section
/-! TEXT: the reference, and the act -/
set_option maxRecDepth 20000 in
theorem l_1126 {sc : List Int} {d : Nat} {t : xm_W} {u c : Nat} {x2 : Int} {Q : Option xm_V × xm_W → Prop} (hu : u < 2) (hc : c ≤ 60) : ∀ (f i : Nat) (m : Nat → Nat → Int), i + f = 2 * c → m 74 8 = c → (∀ m', (∀ x, x ≠ 75 → m' x = m x) → (∀ k, (k < 340 + 125 * u + i ∨ 340 + 125 * u + 2 * c ≤ k) → m' 75 k = m 75 k) → (∀ q, i ≤ q → q < 2 * c → m' 75 (340 + 125 * u + q) = m 79 q) → Q ((some (.inl (1)), (yy_W (m') t)))) → xm_EQ (xm_old sc) xm_sta (xm_X (xm_old sc) xm_mt (d + 1)) xm_c1126 61 [some (.inr (.inl (some 74))), some (.inl ((u : Int))), some (.inl (x2)), some (.inl ((339 + 125 * (u : Int)))), some (.inl ((i : Int)))] [] (yy_W (m) t) Q
  | 0, i, m, hi, h8, hQ => by
    refine xb_1126_61 ?_
    rw [zf_74_8, h8, xm_w_id (z := 2 * (c : Int)) (by omega) (by omega), if_neg (by omega)]
    exact hQ m (fun _ _ => rfl) (fun _ _ => rfl) (fun q a b => by omega)
  | f + 1, i, m, hi, h8, hQ => by
    refine xb_1126_61 ?_
    rw [zf_74_8, h8, xm_w_id (z := 2 * (c : Int)) (by omega) (by omega), if_pos (by omega), zr_74_0, zr_74_10, zi_79, zy_at (by omega) (by omega), Int.toNat_natCast, xm_w_id (z := 339 + 125 * (u : Int) + 1) (by omega) (by omega), xm_w_id (z := 339 + 125 * (u : Int) + 1 + (i : Int)) (by omega) (by omega), zt_75 (by omega) (by omega), show (339 + 125 * (u : Int) + 1 + (i : Int)).toNat = 340 + 125 * u + i by omega, xm_w_id (z := (i : Int) + 1) (by omega) (by omega), show (i : Int) + 1 = ((i + 1 : Nat) : Int) by omega]
    refine l_1126 hu hc f (i + 1) _ (by omega) (by rw [yy_s_ne (by decide)]; exact h8) fun m' h1 h2 h3 => hQ m' (fun x hx => by rw [h1 x hx, yy_s_ne hx]) (fun k hk => by rw [h2 k (by omega), yy_s_eq, yy_u_ne (by omega)]) (fun q a b => ?_)
    by_cases e : q = i
    · subst e; rw [h2 _ (by omega), yy_s_eq, yy_u_eq]
    · rw [h3 q (by omega) b, yy_s_ne (by decide)]
set_option maxRecDepth 20000 in
theorem c_1126f {sc : List Int} {d : Nat} {t : xm_W} {m : Nat → Nat → Int} {u n p c : Nat} {T : Nat → Int} {g : Nat → Int × Int} {ok : Int} (hu : u < 2) (hT : tp_T n T) (h4 : m 75 4 = n) (h5 : ∀ j, j < 60 → m 75 (589 + j) = T j) (hok : ok = 0 ∨ ok = 1) (hz : ¬ (ok = 1 ∧ p = n)) (w : tp_M sc t u n T 0 51 1118 0 0 (fun _ => (0, 0)) ok p c g) : ∃ m', xm_X (xm_old sc) xm_mt (d + 52) 1126 [.inr (.inl (some 74)), .inl ((u : Int))] (yy_W m t) = some (some (.inl (xm_w (-10 - p))), yy_W m' t) ∧ (∀ x, x ≠ 74 → x ≠ 75 → x ≠ 79 → m' x = m x) ∧ (∀ q, q ≠ 6 → q ≠ 7 → q ≠ 8 → q ≠ 9 → m' 74 q = m 74 q) ∧ m' 75 = yy_u (m 75) 4 0 := by
  have key : ∀ {Q : Option xm_V × xm_W → Prop}, (∀ m', ((∀ x, x ≠ 74 → x ≠ 75 → x ≠ 79 → m' x = m x) ∧ (∀ q, q ≠ 6 → q ≠ 7 → q ≠ 8 → q ≠ 9 → m' 74 q = m 74 q) ∧ m' 75 = yy_u (m 75) 4 0) → Q (some (.inl (xm_w (-10 - p))), yy_W m' t)) → xm_EQ (xm_old sc) xm_sta (xm_X (xm_old sc) xm_mt (d + 51)) xm_m1126.2.2.2.2.2.2.2 0 (xm_loc xm_m1126.2.2.1 [.inr (.inl (some 74)), .inl ((u : Int))]) [] (yy_W m t) Q := by
    intro Q hQ
    have hn := hT.1
    obtain ⟨m1, e, f1, f2, f3⟩ := w d (yy_s (yy_s (yy_s (yy_s m 74 9 u) 74 6 0) 74 7 0) 74 8 0) ⟨by simp (disch := first | omega | (unfold xm_w; omega)) only [↓zy_at, xm_O_some, xm_Oi_some, xm_Ov_some, xm_Oq_some, ↓reduceIte, ↓zz_t, ↓zz_f, ↓zi_t, ↓zi_f, eq_self, yy_d_0, Int.reduceEq, Int.reduceLT, Int.reduceLE, Int.reduceNe, Int.reduceToNat, Int.reduceAdd, Int.reduceSub, Int.reduceMul, Int.reduceNeg, Nat.reduceAdd, Nat.reduceMul, Nat.reduceSub, Nat.reduceEqDiff, Nat.reduceLT, ne_eq, not_false_eq_true, not_true_eq_false, true_and, and_true, and_self, yy_s_eq, yy_s_ne, yy_c_eq, yy_c_ne, yy_u_eq, yy_u_ne, xm_w_id, yy_at, tdiv_pos, tmod_pos, h4], fun j hj => by rw [yy_s_ne (by decide), yy_s_ne (by decide), yy_s_ne (by decide), yy_s_ne (by decide)]; exact h5 j hj, by simp (disch := first | omega | (unfold xm_w; omega)) only [↓zy_at, xm_O_some, xm_Oi_some, xm_Ov_some, xm_Oq_some, ↓reduceIte, ↓zz_t, ↓zz_f, ↓zi_t, ↓zi_f, eq_self, yy_d_0, Int.reduceEq, Int.reduceLT, Int.reduceLE, Int.reduceNe, Int.reduceToNat, Int.reduceAdd, Int.reduceSub, Int.reduceMul, Int.reduceNeg, Nat.reduceAdd, Nat.reduceMul, Nat.reduceSub, Nat.reduceEqDiff, Nat.reduceLT, ne_eq, not_false_eq_true, not_true_eq_false, true_and, and_true, and_self, yy_s_eq, yy_s_ne, yy_c_eq, yy_c_ne, yy_u_eq, yy_u_ne, xm_w_id, yy_at, tdiv_pos, tmod_pos]; omega, by simp (disch := first | omega | (unfold xm_w; omega)) only [↓zy_at, xm_O_some, xm_Oi_some, xm_Ov_some, xm_Oq_some, ↓reduceIte, ↓zz_t, ↓zz_f, ↓zi_t, ↓zi_f, eq_self, yy_d_0, Int.reduceEq, Int.reduceLT, Int.reduceLE, Int.reduceNe, Int.reduceToNat, Int.reduceAdd, Int.reduceSub, Int.reduceMul, Int.reduceNeg, Nat.reduceAdd, Nat.reduceMul, Nat.reduceSub, Nat.reduceEqDiff, Nat.reduceLT, ne_eq, not_false_eq_true, not_true_eq_false, true_and, and_true, and_self, yy_s_eq, yy_s_ne, yy_c_eq, yy_c_ne, yy_u_eq, yy_u_ne, xm_w_id, yy_at, tdiv_pos, tmod_pos], by simp (disch := first | omega | (unfold xm_w; omega)) only [↓zy_at, xm_O_some, xm_Oi_some, xm_Ov_some, xm_Oq_some, ↓reduceIte, ↓zz_t, ↓zz_f, ↓zi_t, ↓zi_f, eq_self, yy_d_0, Int.reduceEq, Int.reduceLT, Int.reduceLE, Int.reduceNe, Int.reduceToNat, Int.reduceAdd, Int.reduceSub, Int.reduceMul, Int.reduceNeg, Nat.reduceAdd, Nat.reduceMul, Nat.reduceSub, Nat.reduceEqDiff, Nat.reduceLT, ne_eq, not_false_eq_true, not_true_eq_false, true_and, and_true, and_self, yy_s_eq, yy_s_ne, yy_c_eq, yy_c_ne, yy_u_eq, yy_u_ne, xm_w_id, yy_at, tdiv_pos, tmod_pos]; omega, by simp (disch := first | omega | (unfold xm_w; omega)) only [↓zy_at, xm_O_some, xm_Oi_some, xm_Ov_some, xm_Oq_some, ↓reduceIte, ↓zz_t, ↓zz_f, ↓zi_t, ↓zi_f, eq_self, yy_d_0, Int.reduceEq, Int.reduceLT, Int.reduceLE, Int.reduceNe, Int.reduceToNat, Int.reduceAdd, Int.reduceSub, Int.reduceMul, Int.reduceNeg, Nat.reduceAdd, Nat.reduceMul, Nat.reduceSub, Nat.reduceEqDiff, Nat.reduceLT, ne_eq, not_false_eq_true, not_true_eq_false, true_and, and_true, and_self, yy_s_eq, yy_s_ne, yy_c_eq, yy_c_ne, yy_u_eq, yy_u_ne, xm_w_id, yy_at, tdiv_pos, tmod_pos], fun j hj => absurd hj (Nat.not_lt_zero j)⟩
    have g1 : ∀ x, x ≠ 74 → x ≠ 79 → m1 x = m x := fun x a b => by rw [f1.1 x a b, yy_s_ne a, yy_s_ne a, yy_s_ne a, yy_s_ne a]
    have g2 : ∀ q, q ≠ 6 → q ≠ 7 → q ≠ 8 → q ≠ 9 → m1 74 q = m 74 q := fun q a b c e => by rw [f1.2 q a b c, yy_s_eq, yy_u_ne c, yy_s_eq, yy_u_ne b, yy_s_eq, yy_u_ne a, yy_s_eq, yy_u_ne e]
    have fin := hQ (yy_s m1 75 4 0) ⟨fun x a b c => by rw [yy_s_ne b, g1 x a c], fun q a b c e => by rw [yy_s_ne (by decide), g2 q a b c e], by rw [yy_s_eq, g1 75 (by decide) (by decide)]⟩
    refine xb_1126_0 ?_
    rw [oc_1103 (d := d + 50), zz_t (by omega), zs_74_9, zs_74_6, zs_74_7, zs_74_8, e, xm_Oi_some]
    rcases hok with q | q <;> subst q
    · rw [if_pos rfl, zr_74_0, zt_75 (by decide) (by decide), if_pos rfl, zf_74_6, show yy_s m1 75 (4 : Int).toNat 0 74 6 = p by rw [yy_s_ne (by decide)]; exact f2]
      exact fin
    · have hs := f3 rfl
      rw [if_neg (by decide), zf_74_6, f2, zr_74_0, zi_75, zy_at (by decide) (by decide), show m1 75 (4 : Int).toNat = n from hs.1, if_neg (by omega), zr_74_0, zt_75 (by decide) (by decide), if_pos rfl, zf_74_6, show yy_s m1 75 (4 : Int).toNat 0 74 6 = p by rw [yy_s_ne (by decide)]; exact f2]
      exact fin
  obtain ⟨q, h1, m', h2, h3⟩ := yx_of (y := 1126) (M := xm_m1126) (sc := sc) (d := d + 51) (as := [.inr (.inl (some 74)), .inl ((u : Int))]) (w := yy_W m t) (Q := fun q => ∃ m', q = (some (.inl (xm_w (-10 - p))), yy_W m' t) ∧ ((∀ x, x ≠ 74 → x ≠ 75 → x ≠ 79 → m' x = m x) ∧ (∀ q, q ≠ 6 → q ≠ 7 → q ≠ 8 → q ≠ 9 → m' 74 q = m 74 q) ∧ m' 75 = yy_u (m 75) 4 0)) rfl (key fun m' h => ⟨m', rfl, h⟩) (fun q ⟨m', h, _⟩ => by rw [h]; rfl) rfl (Nat.le_of_ble_eq_true rfl) (yy_hd rfl (by decide))
  exact ⟨m', by rw [h1, h2], h3⟩
set_option maxRecDepth 20000 in
theorem c_1126t {sc : List Int} {d : Nat} {t : xm_W} {m : Nat → Nat → Int} {u n p c : Nat} {T : Nat → Int} {g : Nat → Int × Int} (hu : u < 2) (hc : c ≤ 60) (hT : tp_T n T) (h4 : m 75 4 = n) (h5 : ∀ j, j < 60 → m 75 (589 + j) = T j) (hz : p = n) (w : tp_M sc t u n T 0 51 1118 0 0 (fun _ => (0, 0)) 1 p c g) : ∃ m', xm_X (xm_old sc) xm_mt (d + 52) 1126 [.inr (.inl (some 74)), .inl ((u : Int))] (yy_W m t) = some (some (.inl (1)), yy_W m' t) ∧ (∀ x, x ≠ 74 → x ≠ 75 → x ≠ 79 → m' x = m x) ∧ (∀ q, q ≠ 6 → q ≠ 7 → q ≠ 8 → q ≠ 9 → m' 74 q = m 74 q) ∧ (∀ k, k ≠ 4 → (k < 339 + 125 * u ∨ 340 + 125 * u + 2 * c ≤ k) → m' 75 k = m 75 k) ∧ m' 75 4 = 0 ∧ m' 75 (339 + 125 * u) = (c : Int) ∧ ∀ j, j < c → m' 75 (340 + 125 * u + 2 * j) = (g j).1 ∧ m' 75 (341 + 125 * u + 2 * j) = (g j).2 := by
  have key : ∀ {Q : Option xm_V × xm_W → Prop}, (∀ m', ((∀ x, x ≠ 74 → x ≠ 75 → x ≠ 79 → m' x = m x) ∧ (∀ q, q ≠ 6 → q ≠ 7 → q ≠ 8 → q ≠ 9 → m' 74 q = m 74 q) ∧ (∀ k, k ≠ 4 → (k < 339 + 125 * u ∨ 340 + 125 * u + 2 * c ≤ k) → m' 75 k = m 75 k) ∧ m' 75 4 = 0 ∧ m' 75 (339 + 125 * u) = (c : Int) ∧ ∀ j, j < c → m' 75 (340 + 125 * u + 2 * j) = (g j).1 ∧ m' 75 (341 + 125 * u + 2 * j) = (g j).2) → Q (some (.inl (1)), yy_W m' t)) → xm_EQ (xm_old sc) xm_sta (xm_X (xm_old sc) xm_mt (d + 51)) xm_m1126.2.2.2.2.2.2.2 0 (xm_loc xm_m1126.2.2.1 [.inr (.inl (some 74)), .inl ((u : Int))]) [] (yy_W m t) Q := by
    intro Q hQ
    have hn := hT.1
    obtain ⟨m1, e, f1, f2, f3⟩ := w d (yy_s (yy_s (yy_s (yy_s m 74 9 u) 74 6 0) 74 7 0) 74 8 0) ⟨by simp (disch := first | omega | (unfold xm_w; omega)) only [↓zy_at, xm_O_some, xm_Oi_some, xm_Ov_some, xm_Oq_some, ↓reduceIte, ↓zz_t, ↓zz_f, ↓zi_t, ↓zi_f, eq_self, yy_d_0, Int.reduceEq, Int.reduceLT, Int.reduceLE, Int.reduceNe, Int.reduceToNat, Int.reduceAdd, Int.reduceSub, Int.reduceMul, Int.reduceNeg, Nat.reduceAdd, Nat.reduceMul, Nat.reduceSub, Nat.reduceEqDiff, Nat.reduceLT, ne_eq, not_false_eq_true, not_true_eq_false, true_and, and_true, and_self, yy_s_eq, yy_s_ne, yy_c_eq, yy_c_ne, yy_u_eq, yy_u_ne, xm_w_id, yy_at, tdiv_pos, tmod_pos, h4], fun j hj => by rw [yy_s_ne (by decide), yy_s_ne (by decide), yy_s_ne (by decide), yy_s_ne (by decide)]; exact h5 j hj, by simp (disch := first | omega | (unfold xm_w; omega)) only [↓zy_at, xm_O_some, xm_Oi_some, xm_Ov_some, xm_Oq_some, ↓reduceIte, ↓zz_t, ↓zz_f, ↓zi_t, ↓zi_f, eq_self, yy_d_0, Int.reduceEq, Int.reduceLT, Int.reduceLE, Int.reduceNe, Int.reduceToNat, Int.reduceAdd, Int.reduceSub, Int.reduceMul, Int.reduceNeg, Nat.reduceAdd, Nat.reduceMul, Nat.reduceSub, Nat.reduceEqDiff, Nat.reduceLT, ne_eq, not_false_eq_true, not_true_eq_false, true_and, and_true, and_self, yy_s_eq, yy_s_ne, yy_c_eq, yy_c_ne, yy_u_eq, yy_u_ne, xm_w_id, yy_at, tdiv_pos, tmod_pos]; omega, by simp (disch := first | omega | (unfold xm_w; omega)) only [↓zy_at, xm_O_some, xm_Oi_some, xm_Ov_some, xm_Oq_some, ↓reduceIte, ↓zz_t, ↓zz_f, ↓zi_t, ↓zi_f, eq_self, yy_d_0, Int.reduceEq, Int.reduceLT, Int.reduceLE, Int.reduceNe, Int.reduceToNat, Int.reduceAdd, Int.reduceSub, Int.reduceMul, Int.reduceNeg, Nat.reduceAdd, Nat.reduceMul, Nat.reduceSub, Nat.reduceEqDiff, Nat.reduceLT, ne_eq, not_false_eq_true, not_true_eq_false, true_and, and_true, and_self, yy_s_eq, yy_s_ne, yy_c_eq, yy_c_ne, yy_u_eq, yy_u_ne, xm_w_id, yy_at, tdiv_pos, tmod_pos], by simp (disch := first | omega | (unfold xm_w; omega)) only [↓zy_at, xm_O_some, xm_Oi_some, xm_Ov_some, xm_Oq_some, ↓reduceIte, ↓zz_t, ↓zz_f, ↓zi_t, ↓zi_f, eq_self, yy_d_0, Int.reduceEq, Int.reduceLT, Int.reduceLE, Int.reduceNe, Int.reduceToNat, Int.reduceAdd, Int.reduceSub, Int.reduceMul, Int.reduceNeg, Nat.reduceAdd, Nat.reduceMul, Nat.reduceSub, Nat.reduceEqDiff, Nat.reduceLT, ne_eq, not_false_eq_true, not_true_eq_false, true_and, and_true, and_self, yy_s_eq, yy_s_ne, yy_c_eq, yy_c_ne, yy_u_eq, yy_u_ne, xm_w_id, yy_at, tdiv_pos, tmod_pos]; omega, by simp (disch := first | omega | (unfold xm_w; omega)) only [↓zy_at, xm_O_some, xm_Oi_some, xm_Ov_some, xm_Oq_some, ↓reduceIte, ↓zz_t, ↓zz_f, ↓zi_t, ↓zi_f, eq_self, yy_d_0, Int.reduceEq, Int.reduceLT, Int.reduceLE, Int.reduceNe, Int.reduceToNat, Int.reduceAdd, Int.reduceSub, Int.reduceMul, Int.reduceNeg, Nat.reduceAdd, Nat.reduceMul, Nat.reduceSub, Nat.reduceEqDiff, Nat.reduceLT, ne_eq, not_false_eq_true, not_true_eq_false, true_and, and_true, and_self, yy_s_eq, yy_s_ne, yy_c_eq, yy_c_ne, yy_u_eq, yy_u_ne, xm_w_id, yy_at, tdiv_pos, tmod_pos], fun j hj => absurd hj (Nat.not_lt_zero j)⟩
    have g1 : ∀ x, x ≠ 74 → x ≠ 79 → m1 x = m x := fun x a b => by rw [f1.1 x a b, yy_s_ne a, yy_s_ne a, yy_s_ne a, yy_s_ne a]
    have g2 : ∀ q, q ≠ 6 → q ≠ 7 → q ≠ 8 → q ≠ 9 → m1 74 q = m 74 q := fun q a b c e => by rw [f1.2 q a b c, yy_s_eq, yy_u_ne c, yy_s_eq, yy_u_ne b, yy_s_eq, yy_u_ne a, yy_s_eq, yy_u_ne e]
    have hs := f3 rfl
    obtain ⟨b0, b1, b2, b3, b4, b5, b6⟩ := id hs
    refine xb_1126_0 ?_
    rw [oc_1103 (d := d + 50), zz_t (by omega), zs_74_9, zs_74_6, zs_74_7, zs_74_8, e, xm_Oi_some, if_neg (by decide), zf_74_6, f2, zr_74_0, zi_75, zy_at (by decide) (by decide), show m1 75 (4 : Int).toNat = n from b0, if_pos (by omega), zr_74_0, zt_75 (by decide) (by decide), if_neg (by decide), zr_74_0, zf_74_8, show yy_s m1 75 (4 : Int).toNat 0 74 8 = c by rw [yy_s_ne (by decide)]; exact b4, xm_w_id (z := 125 * (u : Int)) (by omega) (by omega), xm_w_id (z := 339 + 125 * (u : Int)) (by omega) (by omega), zt_75 (by omega) (by omega), show (339 + 125 * (u : Int)).toNat = 339 + 125 * u by omega, show (4 : Int).toNat = 4 from rfl]
    refine l_1126 (d := d + 50) hu hc (2 * c) 0 _ (by omega) (by rw [yy_s_ne (by decide), yy_s_ne (by decide)]; exact b4) fun m' h1 h2 h3 => hQ m' ⟨fun x a b c => by rw [h1 x b, yy_s_ne b, yy_s_ne b, g1 x a c], fun q a b c e => by rw [h1 74 (by decide), yy_s_ne (by decide), yy_s_ne (by decide), g2 q a b c e], fun k hk hk2 => ?_, ?_, ?_, fun j hj => ?_⟩
    · rw [h2 k (by omega), yy_s_eq, yy_u_ne (by omega), yy_s_eq, yy_u_ne hk, g1 75 (by decide) (by decide)]
    · rw [h2 4 (by omega), yy_s_eq, yy_u_ne (by omega), yy_s_eq, yy_u_eq]
    · rw [h2 _ (by omega), yy_s_eq, yy_u_eq]
    · have e1 := h3 (2 * j) (by omega) (by omega)
      have e2 := h3 (2 * j + 1) (by omega) (by omega)
      rw [yy_s_ne (by decide), yy_s_ne (by decide)] at e1 e2
      rw [show 341 + 125 * u + 2 * j = 340 + 125 * u + (2 * j + 1) by omega, e1, e2]
      exact b6 j hj
  obtain ⟨q, h1, m', h2, h3⟩ := yx_of (y := 1126) (M := xm_m1126) (sc := sc) (d := d + 51) (as := [.inr (.inl (some 74)), .inl ((u : Int))]) (w := yy_W m t) (Q := fun q => ∃ m', q = (some (.inl (1)), yy_W m' t) ∧ ((∀ x, x ≠ 74 → x ≠ 75 → x ≠ 79 → m' x = m x) ∧ (∀ q, q ≠ 6 → q ≠ 7 → q ≠ 8 → q ≠ 9 → m' 74 q = m 74 q) ∧ (∀ k, k ≠ 4 → (k < 339 + 125 * u ∨ 340 + 125 * u + 2 * c ≤ k) → m' 75 k = m 75 k) ∧ m' 75 4 = 0 ∧ m' 75 (339 + 125 * u) = (c : Int) ∧ ∀ j, j < c → m' 75 (340 + 125 * u + 2 * j) = (g j).1 ∧ m' 75 (341 + 125 * u + 2 * j) = (g j).2)) rfl (key fun m' h => ⟨m', rfl, h⟩) (fun q ⟨m', h, _⟩ => by rw [h]; rfl) rfl (Nat.le_of_ble_eq_true rfl) (yy_hd rfl (by decide))
  exact ⟨m', by rw [h1, h2], h3⟩
end
section
/-! TEXT: the act -/
set_option maxRecDepth 20000 in
theorem tp_sgd {s : Nat → Int} {u : Nat} {g : Nat → Int × Int} : ∀ k, (∀ j, j < k → sg_tw s u j = (g j).1) → sg_d s u k = tp_d g k
  | 0, _ => rfl
  | k + 1, h => by
    unfold sg_d tp_d
    rw [tp_sgd k (fun j hj => h j (by omega)), h k (by omega)]
set_option maxRecDepth 20000 in
theorem tp_sgT {s : Nat → Int} {u c : Nat} {g : Nat → Int × Int} (hc : 0 < c ∧ c ≤ 60) (hn : s (339 + 125 * u) = c) (hg : ∀ j, j < c → s (340 + 125 * u + 2 * j) = (g j).1 ∧ s (341 + 125 * u + 2 * j) = (g j).2) (hd : 1 ≤ tp_d g c) (ht : ∀ j, j < c → tp_tok u g j) : sg_T s u := by
  have tn : sg_tn s u = c := hn
  have e : ∀ k, k ≤ c → sg_d s u k = tp_d g k := fun k hk => tp_sgd k (fun j hj => (hg j (by omega)).1)
  refine ⟨by rw [tn]; omega, fun _ => by rw [tn, Int.toNat_natCast, e c (Nat.le_refl c)]; exact hd, fun k hk => ?_⟩
  rw [tn] at hk
  have h := ht k (by omega)
  have h1 : sg_tw s u k = (g k).1 := (hg k (by omega)).1
  have h2 : sg_tv s u k = (g k).2 := (hg k (by omega)).2
  unfold sg_tok
  unfold tp_tok at h
  rw [h1, h2, e k (by omega)]; exact h
/- the desk's tape is read: what both sides look like behind -/
set_option maxRecDepth 20000 in
theorem yy_I_74 {t : xm_W} {m m' : Nat → Nat → Int} (hI : yy_I t (yy_c m' 74 (m 74))) (h : ∀ q, q ≠ 6 → q ≠ 7 → q ≠ 8 → q ≠ 9 → m' 74 q = m 74 q) : yy_I t m' := by
  have hP := hI.2.2.2.2.2
  refine yy_I_no (fun c _ _ _ e => by rw [yy_c_ne e]) ?_ ?_ ?_ ?_ hI
  · have := hP.2.1; rw [yy_c_ne (by decide)] at this; exact this
  · rw [yy_c_eq, h 3 (by decide) (by decide) (by decide) (by decide)]
  · rw [yy_c_eq, h 4 (by decide) (by decide) (by decide) (by decide)]
  · have := hP.2.2; rw [yy_c_eq] at this; rw [h 15 (by decide) (by decide) (by decide) (by decide)]; exact this
set_option maxRecDepth 20000 in
theorem c_111F {sc : List Int} {d : Nat} {t : xm_W} {m : Nat → Nat → Int} {u n p c : Nat} {T : Nat → Int} {g : Nat → Int × Int} {ok : Int} (hu : u < 2) (hn : n ≤ 60) (h1 : m 35 1 = n) (hT : ∀ j, j < 60 → m 36 j = T j) (hok : ok = 0 ∨ ok = 1) (hz : ¬ (ok = 1 ∧ p = n)) (w : tp_C sc t u n T 51 504 [.inr (.inl (some 58)), .inl 0, .inl 0] 0 0 (fun _ => (0, 0)) ok p c g) : ∃ m', xm_X (xm_old sc) xm_mt (d + 53) 111 [.inr (.inl (some 0)), .inl ((u : Int))] (yy_W (m) t) = some (some (.inl (xm_w (-10 - p))), (yy_W (m') t)) ∧ (∀ x, x ≠ 58 → x ≠ 60 → x ≠ 35 → m' x = m x) ∧ m' 35 = yy_u (m 35) 1 0 := by
  rcases (show u = 0 ∨ u = 1 by omega) with e | e <;> subst e
  · exact c_111f_0 hn h1 hT hok hz w
  · exact c_111f_1 hn h1 hT hok hz w
set_option maxRecDepth 20000 in
theorem c_111T {sc : List Int} {d : Nat} {t : xm_W} {m : Nat → Nat → Int} {u n p c : Nat} {T : Nat → Int} {g : Nat → Int × Int} (hu : u < 2) (hn : n ≤ 60) (hc : c ≤ 60) (h1 : m 35 1 = n) (hT : ∀ j, j < 60 → m 36 j = T j) (hz : p = n) (w : tp_C sc t u n T 51 504 [.inr (.inl (some 58)), .inl 0, .inl 0] 0 0 (fun _ => (0, 0)) 1 p c g) : ∃ m', xm_X (xm_old sc) xm_mt (d + 53) 111 [.inr (.inl (some 0)), .inl (u : Int)] (yy_W m t) = some (some (.inl 1), yy_W m' (t ++ [.inl (yy_R c (m' 60))] ++ [.inr (.inr (7, [.inr (.inl (some (87 + t.length)))]))])) ∧ (∀ x, x ≠ 58 → x ≠ 60 → x ≠ 35 → x ≠ 5 → m' x = m x) ∧ m' 35 = yy_u (m 35) 1 0 ∧ m' 5 = yy_u (m 5) u (((87 + (t.length + 1) : Nat) : Int) + 1) ∧ ∀ j, j < c → m' 60 j = tp_sg u (g j) := by
  rcases (show u = 0 ∨ u = 1 by omega) with e | e <;> subst e
  · exact c_111t_0 hn hc h1 hT hz w
  · exact c_111t_1 hn hc h1 hT hz w
set_option maxRecDepth 20000 in
theorem yy_DR_t {m m' : Nat → Nat → Int} (h35 : m' 35 = yy_u (m 35) 1 0) (h36 : m' 36 = m 36) (h37 : m' 37 = m 37) (h4 : m' 75 4 = 0) (h : ∀ k, k ≠ 4 → (k < 8 ∨ 589 ≤ k) → m' 75 k = m 75 k) (hR : yy_DR m 35 (m 75)) : yy_DR m' 35 (m' 75) := by
  obtain ⟨r1, r2, r3, r4, r5⟩ := hR
  refine ⟨by rw [h35, yy_u_eq, h4], by rw [h35, yy_u_ne (by decide), h 5 (by decide) (by omega)]; exact r2, by rw [h35, yy_u_ne (by decide), h 6 (by decide) (by omega)]; exact r3, fun k hk => ?_, fun k hk => ?_⟩
  · rw [show m' (35 + 1) k = m 36 k by rw [show (35 + 1 : Nat) = 36 from rfl, h36], h _ (by omega) (by omega)]; exact r4 k hk
  · rw [show m' (35 + 2) k = m 37 k by rw [show (35 + 2 : Nat) = 37 from rfl, h37], h _ (by omega) (by omega)]; exact r5 k hk
set_option maxRecDepth 20000 in
theorem sg_D_t {s s' : Nat → Int} (h4 : s' 4 = 0) (h : ∀ k, k ≠ 4 → (k < 8 ∨ 589 ≤ k) → s' k = s k) (hD : sg_D s) : sg_D s' :=
  ⟨by rw [h4]; decide, by rw [h 5 (by decide) (by omega)]; exact hD.2.1, fun k hk => by rw [h _ (by omega) (by omega)]; exact hD.2.2 k hk⟩
set_option maxRecDepth 20000 in
theorem a_111 {sc : List Int} {t : xm_W} {m : Nat → Nat → Int} {x1 : Int} (ht : t.length < 900000) (hI : yy_I t m) : yy_A sc t m 111 1126 [.inl x1] true := by
  by_cases h : 0 ≤ x1 ∧ x1 ≤ 1
  · obtain ⟨u, rfl⟩ : ∃ u : Nat, x1 = u := ⟨x1.toNat, by omega⟩
    have hu : u < 2 := by omega
    obtain ⟨hG, hX, hR, hK, hS, hP⟩ := id hI
    have hD := hG.2.2
    obtain ⟨n, hn⟩ : ∃ n : Nat, m 75 4 = n := ⟨(m 75 4).toNat, by have := hD.1; omega⟩
    have hn60 : n ≤ 60 := by have := hD.1; omega
    have hT : tp_T n (fun j => m 75 (589 + j)) := ⟨hn60, fun j hj => hD.2.2 j hj⟩
    have h35 : m 35 1 = n := by rw [hR.1, hn]
    have h36 : ∀ j, j < 60 → m 36 j = (fun j => m 75 (589 + j)) j := fun j hj => hR.2.2.2.1 j hj
    have t0 : ∀ v, v < 2 → sg_T (m 75) v := fun v hv => by
      rcases (show v = 0 ∨ v = 1 by omega) with e | e <;> subst e
      · exact hG.1.2.2.2.1
      · exact hG.1.2.2.2.2
    obtain ⟨ok, p, c, g, hv, wc, wm⟩ := tp_top (sc := sc) (t := t) (u := u) ht hu hT 0 0 (fun _ => (0, 0)) (by omega) (by omega) (by decide)
    have hok := tp_V_ok hv
    by_cases hz : ok = 1 ∧ p = n
    · obtain ⟨hz1, hz2⟩ := hz
      subst hz1
      obtain ⟨v1, v2, v3⟩ := hv
      rcases v3 with q | ⟨-, a1, a2, a3, a4, a5, a6⟩
      · exact absurd q (by decide)
      have hc : c ≤ 60 := by omega
      have hd1 : tp_d g c = 1 := by rw [a5]; rfl
      obtain ⟨m1, X1, f1, f35, f5, f60⟩ := c_111T (sc := sc) (d := 47) (t := t) hu hn60 hc h35 h36 hz2 wc
      generalize ht1 : t ++ [(.inl (yy_R c (m1 60)) : xm_C)] ++ [.inr (.inr (7, [.inr (.inl (some (87 + t.length)))]))] = t1 at X1
      have e75 : m1 75 = m 75 := f1 75 (by decide) (by decide) (by decide) (by decide)
      have e74 : m1 74 = m 74 := f1 74 (by decide) (by decide) (by decide) (by decide)
      obtain ⟨m2, X2, k1, k2, k3, k4, k5, k6⟩ := c_1126t (sc := sc) (d := 48) (t := t1) (m := m1) hu hc hT (by rw [e75]; exact hn) (fun j _ => by rw [e75]) hz2 (wm t1)
      have g0 : t1[t.length + 1]? = some (.inr (.inr (7, [.inr (.inl (some (87 + t.length)))]))) := by
        rw [← ht1, List.getElem?_append_right (by simp)]; simp
      have g1 : t1[t.length]? = some (.inl (yy_R c (m1 60))) := by
        rw [← ht1, List.getElem?_append_left (by simp), List.getElem?_append_right (Nat.le_refl _), Nat.sub_self]; rfl
      have hI1 : yy_I t1 m := yy_I_t (fun a x hx => by
        have ha := (List.getElem?_eq_some_iff.mp hx).1
        rw [← ht1, List.getElem?_append_left (by simp; omega), List.getElem?_append_left ha]; exact hx) hI
      have x0 : ∀ v, v < 2 → yy_TX t1 (m 75) v (m 5 v) := fun v hv => by
        rcases (show v = 0 ∨ v = 1 by omega) with e | e <;> subst e
        · exact hI1.2.1.2.1
        · exact hI1.2.1.2.2
      rw [e75] at k3
      have tn : sg_tn (m2 75) u = c := k5
      have m5 : m2 5 = yy_u (m 5) u (((87 + (t.length + 1) : Nat) : Int) + 1) := by rw [k1 5 (by decide) (by decide) (by decide), f5]
      have hI2 : yy_I t1 (yy_c m2 74 (m 74)) := by
        have c75 : yy_c m2 74 (m 74) 75 = m2 75 := yy_c_ne (by decide)
        have c5 : yy_c m2 74 (m 74) 5 = m2 5 := yy_c_ne (by decide)
        refine yy_I_tx hI1 (fun v hv => ?_) (fun v hv => ?_) ?_ ?_ (fun k hk => ?_) (fun x hx a b e f => ?_)
        · rw [c75]
          by_cases e : v = u
          · subst e; exact tp_sgT ⟨by omega, hc⟩ k5 k6 (by omega) (fun j hj => a6 j (by omega) hj)
          · exact sg_T_x (fun k h1 h2 => k3 k (by omega) (by omega)) (t0 v hv)
        · rw [c75, c5, m5]
          by_cases e : v = u
          · subst e
            rw [yy_u_eq]
            refine Or.inr ⟨by rw [tn]; omega, t.length + 1, t.length, yy_d_s, g0, ?_⟩
            rw [g1, tn, Int.toNat_natCast]
            refine congrArg (fun l => some (Sum.inl l)) (yy_R_congr fun j hj => ?_)
            rw [f60 j hj]
            have q1 : sg_tw (m2 75) v j = (g j).1 := (k6 j hj).1
            have q2 : sg_tv (m2 75) v j = (g j).2 := (k6 j hj).2
            unfold tp_sg sg_sg
            rw [q1, q2]
          · rw [yy_u_ne e]; exact yy_TX_x (fun k h1 h2 => k3 k (by omega) (by omega)) (t0 v hv).1.2 (x0 v hv)
        · rw [c75]; exact sg_D_t k4 (fun k a b => k3 k a (by omega)) hD
        · have := yy_DR_t (m := m) (m' := m2) (by rw [k1 35 (by decide) (by decide) (by decide), f35]) (by rw [k1 36 (by decide) (by decide) (by decide), f1 36 (by decide) (by decide) (by decide) (by decide)]) (by rw [k1 37 (by decide) (by decide) (by decide), f1 37 (by decide) (by decide) (by decide) (by decide)]) k4 (fun k a b => k3 k a (by omega)) hR
          rw [c75]
          exact yy_DR_r (fun x hx => yy_c_ne (by omega)) this
        · rw [c75, k3 k (by omega) (by omega)]
        · unfold yy_no at a
          by_cases q : x = 74
          · subst q; exact yy_c_eq
          · rw [yy_c_ne q, k1 x q f (by omega), f1 x (by omega) (by omega) (by omega) e]
      refine ⟨1, m1, t1, 1, m2, X1, X2, yy_I_74 hI2 (fun q a b c e => by rw [k2 q a b c e, e74]), ?_, ?_, ?_, fun _ => rfl⟩
      · rw [← ht1]; simp
      · rw [← ht1]; unfold xm_sz; simp [xm_szC, yy_R_len]; omega
      · rw [k1 0 (by decide) (by decide) (by decide), f1 0 (by decide) (by decide) (by decide) (by decide)]; omega
    · obtain ⟨m1, X1, f1, f35⟩ := c_111F (sc := sc) (d := 47) (t := t) hu hn60 h35 h36 hok hz wc
      have e75 : m1 75 = m 75 := f1 75 (by decide) (by decide) (by decide)
      have e74 : m1 74 = m 74 := f1 74 (by decide) (by decide) (by decide)
      obtain ⟨m2, X2, k1, k2, k3⟩ := c_1126f (sc := sc) (d := 48) (t := t) (m := m1) hu hT (by rw [e75]; exact hn) (fun j _ => by rw [e75]) hok hz (wm t)
      rw [e75] at k3
      have o : ∀ k, k ≠ 4 → m2 75 k = m 75 k := fun k hk => by rw [k3, yy_u_ne hk]
      have o4 : m2 75 4 = 0 := by rw [k3, yy_u_eq]
      have hI2 : yy_I t (yy_c m2 74 (m 74)) := by
        have c75 : yy_c m2 74 (m 74) 75 = m2 75 := yy_c_ne (by decide)
        refine yy_I_dk hI (fun x hx a b e => ?_) (fun k hk => ?_) ?_ ?_
        · unfold yy_no at a
          by_cases q : x = 74
          · subst q; exact yy_c_eq
          · rw [yy_c_ne q, k1 x q e (by omega), f1 x (by omega) (by omega) (by omega)]
        · rw [c75, o k (by omega)]
        · rw [c75]; exact sg_D_t o4 (fun k a b => o k a) hD
        · have := yy_DR_t (m := m) (m' := m2) (by rw [k1 35 (by decide) (by decide) (by decide), f35]) (by rw [k1 36 (by decide) (by decide) (by decide), f1 36 (by decide) (by decide) (by decide)]) (by rw [k1 37 (by decide) (by decide) (by decide), f1 37 (by decide) (by decide) (by decide)]) o4 (fun k a b => o k a) hR
          rw [c75]
          exact yy_DR_r (fun x hx => yy_c_ne (by omega)) this
      exact yy_Ao X1 X2 (yy_I_74 hI2 (fun q a b c e => by rw [k2 q a b c e, e74])) (by rw [k1 0 (by decide) (by decide) (by decide), f1 0 (by decide) (by decide) (by decide)]) rfl
  · exact r_111 hI h
end
section
/-! THE START keeps the relation -/
set_option maxRecDepth 20000 in
theorem yz_75 {k : Nat} (h : k ≠ 6) : yy_0 75 k = 0 := by unfold yy_0; simp [h]
set_option maxRecDepth 20000 in
theorem yz_756 : yy_0 75 6 = 1 := rfl
set_option maxRecDepth 20000 in
theorem yz_o {c k : Nat} (h : c ≠ 35 ∧ c ≠ 55 ∧ c ≠ 58 ∧ c ≠ 74 ∧ c ≠ 75) : yy_0 c k = 0 := by
  unfold yy_0
  rw [if_neg (by omega), if_neg (by omega), if_neg (by omega), if_neg (by omega), if_neg (by omega)]
set_option maxRecDepth 20000 in
theorem yz_T {u : Nat} (hu : u < 2) : sg_T (yy_0 75) u := by
  have h : sg_tn (yy_0 75) u = 0 := yz_75 (by omega)
  exact ⟨by rw [h]; decide, by rw [h]; omega, fun k hk => by rw [h] at hk; omega⟩
set_option maxRecDepth 20000 in
theorem yz_G : sg_G (yy_0 75) := by
  refine ⟨⟨⟨by decide, by decide, by decide, by decide, fun k hk => ?_, fun i hi => ⟨?_, ?_, ?_, ?_, ?_, ?_, fun k hk => ?_⟩⟩, ⟨fun i hi => ?_, fun i j hij hj => ?_⟩, fun i hi => ?_, yz_T (by decide), yz_T (by decide)⟩, by decide, by decide, by decide, fun k hk => ?_⟩
  · rw [yz_75 (by omega)]; decide
  · rw [yz_75 (by omega)]; decide
  · rw [yz_75 (by omega)]; decide
  · rw [yz_75 (by omega)]; decide
  · rw [yz_75 (by omega)]; decide
  · rw [yz_75 (by omega)]; decide
  · rw [yz_75 (by omega), yz_75 (by omega)]; decide
  · rw [yz_75 (by omega)]; decide
  · rw [yz_75 (by decide)] at hi; omega
  · rw [yz_75 (by decide)] at hj; omega
  · rw [yz_75 (by decide)] at hi; omega
  · rw [yz_75 (by omega)]; decide
set_option maxRecDepth 20000 in
theorem yz_I : yy_I [] yy_0 := by
  have tx : ∀ u, u < 2 → ∀ k, yy_TX [] (yy_0 75) u (yy_0 5 k) := fun u hu k => Or.inl ⟨yz_75 (by omega), by rw [yz_o (by decide)]; rfl⟩
  refine ⟨yz_G, ⟨⟨by rw [yz_o (by decide), yz_75 (by decide)], by rw [yz_o (by decide), yz_75 (by decide)], by rw [yz_o (by decide), yz_75 (by decide)], by rw [yz_o (by decide), yz_75 (by decide)], fun k hk => ?_, fun k hk => ?_, fun i hi => ⟨fun k hk => ?_, fun k hk => ?_⟩⟩, tx 0 (by decide) 0, tx 1 (by decide) 1⟩, ⟨rfl, rfl, rfl, fun k hk => ?_, fun k hk => ?_⟩, ⟨rfl, by decide, fun h => absurd h (by decide)⟩, fun k hk => ⟨?_, ?_, ?_, ?_, fun j hj => ?_⟩, ⟨rfl, by decide, by decide⟩⟩
  · rw [yz_o (by decide), yz_75 (by omega)]
  · rw [yz_o (by decide), yz_75 (by omega)]
  · rw [yz_o (by omega), yz_75 (by omega)]
  · rw [yz_o (by omega), yz_75 (by omega)]
  · rw [yz_o (by decide), yz_75 (by omega)]
  · rw [yz_o (by decide), yz_75 (by omega)]
  · rw [yz_o (by omega), yz_o (by decide)]
  · rw [yz_o (by decide)]; decide
  · rw [yz_o (by omega), yz_o (by decide)]
  · rw [yz_o (by decide)]; decide
  · rw [yz_o (by omega), yz_o (by decide)]; decide
end
section
set_option maxRecDepth 20000 in
theorem yy_szc (s : Nat × List Nat) (f : Nat → Int) : xm_szC (yy_cel s f) = if s.1 = 0 then s.2.headD 0 else s.2.length := by
  obtain ⟨k, l⟩ := s
  cases k with
  | zero => show (yy_R _ f).length = _; rw [yy_R_len]; rfl
  | succ k =>
    show xm_szC (if k < 49 then _ else _) = l.length
    split
    · exact yy_vs_len l 0
    · exact yy_qs_len l 0
set_option maxRecDepth 20000 in
theorem yy_szg {m : Nat → Nat → Int} : ∀ (l : List (Nat × List Nat)) (b : Nat), xm_sz (yy_g m b l) = (l.map fun s => if s.1 = 0 then s.2.headD 0 else s.2.length).sum
  | [], _ => rfl
  | s :: l, b => by
    show xm_szC (yy_cel s (m b)) + xm_sz (yy_g m (b + 1) l) = _
    rw [yy_szc, yy_szg l]; rfl
set_option maxRecDepth 20000 in
theorem yy_szW {m : Nat → Nat → Int} {t : xm_W} : xm_sz (yy_W m t) ≤ 10000 + xm_sz t := by
  unfold yy_W xm_sz
  rw [List.map_append, List.sum_append]
  have : xm_sz (yy_g m 0 yy_lay) ≤ 10000 := by rw [yy_szg]; decide +kernel
  unfold xm_sz at this
  omega

set_option maxRecDepth 20000 in
theorem yl_ints {sc : List Int} {m : Nat → Nat → Int} {t : xm_W} (ht : t.length < 900000) : xm_ints (xm_old sc) (yy_W m t) 1000008 = some sc := xo_ints (k := 8) (by rw [yy_W_len]; omega) rfl
set_option maxRecDepth 20000 in
theorem yl_len {sc : List Int} {m : Nat → Nat → Int} {t : xm_W} (ht : t.length < 900000) (hs : sc.length < 1000000) : xm_len (xm_old sc) (yy_W m t) 1000008 = some sc.length := by
  unfold xm_len
  rw [show xm_get (xm_old sc) (yy_W m t) 1000008 = some (.inl sc) from (xo_get (k := 8) (by rw [yy_W_len]; omega)).trans rfl]
  exact if_pos hs
set_option maxRecDepth 20000 in
theorem zl_i {sc : List Int} {m : Nat → Nat → Int} {t : xm_W} {F : List Int → Prop} (ht : t.length < 900000) : xm_O (xm_ints (xm_old sc) (yy_W m t) 1000008) F = F sc := congrArg (fun x => xm_O x F) (yl_ints ht)
set_option maxRecDepth 20000 in
theorem zl_at {sc : List Int} {i : Nat} {k : Int} {j : Nat} (h : i + j < sc.length) (hk : k = j) (hi : i ≤ 3072) (hj : j < 6) : ∃ s, s ∈ sc ∧ ∀ F : Int → Prop, xm_O (xm_at sc (xm_w ((i : Int) + k))) F = F s := by
  refine ⟨sc[i + j], List.getElem_mem h, fun F => ?_⟩
  rw [xm_w_id (by omega) (by omega)]
  unfold xm_at
  rw [if_pos (by omega), show ((i : Int) + k).toNat = i + j by omega, List.getElem?_eq_getElem h]; rfl
set_option maxRecDepth 20000 in
theorem zl_a0 {sc : List Int} {i : Nat} (h : i < sc.length) : ∃ s, s ∈ sc ∧ ∀ F : Int → Prop, xm_O (xm_at sc (i : Int)) F = F s := by
  refine ⟨sc[i], List.getElem_mem h, fun F => ?_⟩
  unfold xm_at
  rw [if_pos (by omega), Int.toNat_natCast, List.getElem?_eq_getElem h]; rfl
set_option maxRecDepth 20000 in
theorem yl_go {sc : List Int} {Q : Option xm_V × xm_W → Prop} (hs : sc.length ≤ 3072) (hr : ∀ z ∈ sc, -2147483648 ≤ z ∧ z < 2147483648) (hQ : ∀ m t, t.length ≤ 1100 → xm_sz t ≤ 40000 → Q (some (.inl 1), yy_W m t)) : ∀ (f j : Nat) (t : xm_W) (m : Nat → Nat → Int), j + f = 513 → yy_I t m → t.length ≤ 2 * j → xm_sz t ≤ 62 * j → m 0 5 ≤ j → xm_EQ (xm_old sc) xm_sta (xm_X (xm_old sc) xm_mt (100)) xm_cl0 10 [some (.inr (.inl (some 1000008))), some (.inr (.inl (some 0))), some (.inr (.inl (some 74))), some (.inl (((6 * j : Nat) : Int)))] [] (yy_W (m) t) Q
  | 0, j, t, m, hf, hI, b1, b2, b3 => by
    refine xb_0_10 ?_
    rw [yl_len (by omega) (by omega), xm_O_some, if_pos (by unfold xm_w; omega)]
    exact hQ m t (by omega) (by omega)
  | f + 1, j, t, m, hf, hI, b1, b2, b3 => by
    have ht : t.length < 900000 := by omega
    have fin : ∀ t1 m2, yy_I t1 m2 → t1.length ≤ t.length + 2 → xm_sz t1 ≤ xm_sz t + 62 → m2 0 5 ≤ m 0 5 + 1 → xm_EQ (xm_old sc) xm_sta (xm_X (xm_old sc) xm_mt 100) xm_cl0 1015 [some (.inr (.inl (some 1000008))), some (.inr (.inl (some 0))), some (.inr (.inl (some 74))), some (.inl ((6 * j : Nat) : Int))] [] (yy_W m2 t1) Q := by
      intro t1 m2 hI1 c1 c2 c3
      refine xb_0_1015 ?_
      rw [xm_w_id (z := ((6 * j : Nat) : Int) + 6) (by omega) (by omega), show ((6 * j : Nat) : Int) + 6 = ((6 * (j + 1) : Nat) : Int) by omega]
      exact yl_go hs hr hQ f (j + 1) t1 m2 (by omega) hI1 (by omega) (by omega) (by omega)
    refine xb_0_10 ?_
    rw [yl_len ht (by omega), xm_O_some]
    by_cases h6 : sc.length < 6 * j + 6
    · rw [if_pos (by unfold xm_w; omega)]
      exact hQ m t (by omega) (by omega)
    have w6 : xm_w ((sc.length : Int) - 6) = (sc.length : Int) - 6 := xm_w_id (by omega) (by omega)
    rw [w6, if_neg (by omega)]
    clear w6
    obtain ⟨s0, -, e0⟩ := zl_a0 (sc := sc) (i := 6 * j) (by omega)
    obtain ⟨s1, -, e1⟩ := zl_at (sc := sc) (i := 6 * j) (k := 1) (j := 1) (by omega) rfl (by omega) (by decide)
    obtain ⟨s2, -, e2⟩ := zl_at (sc := sc) (i := 6 * j) (k := 2) (j := 2) (by omega) rfl (by omega) (by decide)
    obtain ⟨s3, i3, e3⟩ := zl_at (sc := sc) (i := 6 * j) (k := 3) (j := 3) (by omega) rfl (by omega) (by decide)
    obtain ⟨s4, -, e4⟩ := zl_at (sc := sc) (i := 6 * j) (k := 4) (j := 4) (by omega) rfl (by omega) (by decide)
    obtain ⟨s5, i5, e5⟩ := zl_at (sc := sc) (i := 6 * j) (k := 5) (j := 5) (by omega) rfl (by omega) (by decide)
    have r3 := hr s3 i3
    have r5 := hr s5 i5
    rw [zl_i ht, e0]
    by_cases c0 : xm_and s0 63 = 0
    · obtain ⟨z, m1, t1, z', m2, p1, p2, hI1, q1, q2, q3, hz⟩ := a_102 (sc := sc) (t := t) (m := m) (x1 := s1) (x2 := s2) hI
      have ht1 : t1.length < 900000 := by omega
      rw [if_pos c0, zl_i ht, e1, zl_i ht, e2, p1, xm_Oi_some, zl_i ht1, e1, zl_i ht1, e2, p2, xm_Oi_some]
      exact fin t1 m2 hI1 q1 q2 q3
    rw [if_neg c0]
    by_cases c1 : xm_and s0 63 = 1
    · obtain ⟨z, m1, t1, z', m2, p1, p2, hI1, q1, q2, q3, hz⟩ := a_103 (sc := sc) (t := t) (m := m) (x1 := s1) hI
      have ht1 : t1.length < 900000 := by omega
      rw [if_pos c1, zl_i ht, e1, p1, xm_Oi_some, zl_i ht1, e1, p2, xm_Oi_some]
      exact fin t1 m2 hI1 q1 q2 q3
    rw [if_neg c1]
    by_cases c2 : xm_and s0 63 = 2
    · obtain ⟨z, m1, t1, z', m2, p1, p2, hI1, q1, q2, q3, hz⟩ := a_104 (sc := sc) (t := t) (m := m) (x1 := s1) (x2 := s2) hI
      have ht1 : t1.length < 900000 := by omega
      rw [if_pos c2, zl_i ht, e1, zl_i ht, e2, p1, xm_Oi_some, zl_i ht1, e1, zl_i ht1, e2, p2, xm_Oi_some]
      exact fin t1 m2 hI1 q1 q2 q3
    rw [if_neg c2]
    by_cases c3 : xm_and s0 63 = 3
    · obtain ⟨z, m1, t1, z', m2, p1, p2, hI1, q1, q2, q3, hz⟩ := a_105 (sc := sc) (t := t) (m := m) (x1 := s1) (x2 := s2) hI
      have ht1 : t1.length < 900000 := by omega
      rw [if_pos c3, zl_i ht, e1, zl_i ht, e2, p1, xm_Oi_some, zl_i ht1, e1, zl_i ht1, e2, p2, xm_Oi_some]
      exact fin t1 m2 hI1 q1 q2 q3
    rw [if_neg c3]
    by_cases c4 : xm_and s0 63 = 4
    · obtain ⟨z, m1, t1, z', m2, p1, p2, hI1, q1, q2, q3, hz⟩ := a_106 (sc := sc) (t := t) (m := m) (x1 := s1) (x2 := s2) hI (by omega)
      have ht1 : t1.length < 900000 := by omega
      rw [if_pos c4, zl_i ht, e1, zl_i ht, e2, p1, xm_Oi_some, zl_i ht1, e1, zl_i ht1, e2, p2, xm_Oi_some]
      exact fin t1 m2 hI1 q1 q2 q3
    rw [if_neg c4]
    by_cases c5 : xm_and s0 63 = 5
    · obtain ⟨z, m1, t1, z', m2, p1, p2, hI1, q1, q2, q3, hz⟩ := a_107 (sc := sc) (t := t) (m := m) (x1 := s1) (x2 := s2) (x3 := s3) hI
      have ht1 : t1.length < 900000 := by omega
      rw [if_pos c5, zl_i ht, e1, zl_i ht, e2, zl_i ht, e3, p1, xm_Oi_some, zl_i ht1, e1, zl_i ht1, e2, zl_i ht1, e3, p2, xm_Oi_some]
      exact fin t1 m2 hI1 q1 q2 q3
    rw [if_neg c5]
    by_cases c6 : xm_and s0 63 = 6
    · obtain ⟨z, m1, t1, z', m2, p1, p2, hI1, q1, q2, q3, hz⟩ := a_108 (sc := sc) (t := t) (m := m) (x1 := s1) (x2 := s2) hI
      have ht1 : t1.length < 900000 := by omega
      rw [if_pos c6, zl_i ht, e1, zl_i ht, e2, p1, xm_Oi_some, zl_i ht1, e1, zl_i ht1, e2, p2, xm_Oi_some]
      exact fin t1 m2 hI1 q1 q2 q3
    rw [if_neg c6]
    by_cases c7 : xm_and s0 63 = 7
    · obtain ⟨z, m1, t1, z', m2, p1, p2, hI1, q1, q2, q3, hz⟩ := a_109 (sc := sc) (t := t) (m := m) (x1 := s1) hI
      have ht1 : t1.length < 900000 := by omega
      rw [if_pos c7, zl_i ht, e1, p1, xm_Oi_some, zl_i ht1, e1, p2, xm_Oi_some]
      exact fin t1 m2 hI1 q1 q2 q3
    rw [if_neg c7]
    by_cases c8 : xm_and s0 63 = 8
    · obtain ⟨z, m1, t1, z', m2, p1, p2, hI1, q1, q2, q3, hz⟩ := a_110 (sc := sc) (t := t) (m := m) (x1 := xm_lshl (Int32.ofInt s1).toInt64 32 ||| ((Int32.ofInt s2).toInt64 &&& Int64.ofInt 4294967295)) (n := s3) hI
      have ht1 : t1.length < 900000 := by omega
      rw [if_pos c8, zl_i ht, e1, zl_i ht, e2, zl_i ht, e3, p1, xm_Oi_some, zl_i ht1, e1, zl_i ht1, e2, zl_i ht1, e3, p2, xm_Oi_some]
      exact fin t1 m2 hI1 q1 q2 q3
    rw [if_neg c8]
    by_cases c9 : xm_and s0 63 = 9
    · obtain ⟨z, m1, t1, z', m2, p1, p2, hI1, q1, q2, q3, hz⟩ := a_111 (sc := sc) (t := t) (m := m) (x1 := s1) (by omega) hI
      have ht1 : t1.length < 900000 := by omega
      rw [if_pos c9, zl_i ht, e1, p1, xm_Oi_some, zl_i ht1, e1, p2, xm_Oi_some]
      exact fin t1 m2 hI1 q1 q2 q3
    rw [if_neg c9]
    by_cases c10 : xm_and s0 63 = 10
    · obtain ⟨z, m1, t1, z', m2, p1, p2, hI1, q1, q2, q3, hz⟩ := a_112 (sc := sc) (t := t) (m := m) (x1 := s1) hI
      have ht1 : t1.length < 900000 := by omega
      rw [if_pos c10, zl_i ht, e1, p1, xm_Oi_some, zl_i ht1, e1, p2, xm_Oi_some]
      exact fin t1 m2 hI1 q1 q2 q3
    rw [if_neg c10]
    by_cases c11 : xm_and s0 63 = 11
    · obtain ⟨z, m1, t1, z', m2, p1, p2, hI1, q1, q2, q3, hz⟩ := a_113 (sc := sc) (t := t) (m := m) (x1 := s1) hI
      have ht1 : t1.length < 900000 := by omega
      rw [if_pos c11, zl_i ht, e1, p1, xm_Oi_some, zl_i ht1, e1, p2, xm_Oi_some]
      exact fin t1 m2 hI1 q1 q2 q3
    rw [if_neg c11]
    by_cases c12 : xm_and s0 63 = 12
    · obtain ⟨z, m1, t1, z', m2, p1, p2, hI1, q1, q2, q3, hz⟩ := a_114 (sc := sc) (t := t) (m := m) (x1 := s1) hI
      have ht1 : t1.length < 900000 := by omega
      rw [if_pos c12, zl_i ht, e1, p1, xm_Oi_some, zl_i ht1, e1, p2, xm_Oi_some]
      exact fin t1 m2 hI1 q1 q2 q3
    rw [if_neg c12]
    by_cases c13 : xm_and s0 63 = 13
    · obtain ⟨z, m1, t1, z', m2, p1, p2, hI1, q1, q2, q3, hz⟩ := a_115 (sc := sc) (t := t) (m := m) (x1 := s1) hI
      have ht1 : t1.length < 900000 := by omega
      rw [if_pos c13, zl_i ht, e1, p1, xm_Oi_some, zl_i ht1, e1, p2, xm_Oi_some]
      exact fin t1 m2 hI1 q1 q2 q3
    rw [if_neg c13]
    by_cases c14 : xm_and s0 63 = 14
    · obtain ⟨z, m1, t1, z', m2, p1, p2, hI1, q1, q2, q3, hz⟩ := a_116 (sc := sc) (t := t) (m := m) (x1 := s1) (x2 := s2) hI
      have ht1 : t1.length < 900000 := by omega
      rw [if_pos c14, zl_i ht, e1, zl_i ht, e2, p1, xm_Oi_some, zl_i ht1, e1, zl_i ht1, e2, p2, xm_Oi_some]
      exact fin t1 m2 hI1 q1 q2 q3
    rw [if_neg c14]
    by_cases c15 : xm_and s0 63 = 15
    · obtain ⟨z, m1, t1, z', m2, p1, p2, hI1, q1, q2, q3, hz⟩ := a_117 (sc := sc) (t := t) (m := m) (x1 := s1) (x2 := s2) hI
      have ht1 : t1.length < 900000 := by omega
      rw [if_pos c15, zl_i ht, e1, zl_i ht, e2, p1, xm_Oi_some, zl_i ht1, e1, zl_i ht1, e2, p2, xm_Oi_some]
      exact fin t1 m2 hI1 q1 q2 q3
    rw [if_neg c15]
    by_cases c16 : xm_and s0 63 = 16
    · obtain ⟨z, m1, t1, z', m2, p1, p2, hI1, q1, q2, q3, hz⟩ := a_118 (sc := sc) (t := t) (m := m) (x1 := s1) (x2 := s2) (x3 := s3) (x4 := s4) hI
      have ht1 : t1.length < 900000 := by omega
      rw [if_pos c16, zl_i ht, e1, zl_i ht, e2, zl_i ht, e3, zl_i ht, e4, p1, xm_Oi_some, zl_i ht1, e1, zl_i ht1, e2, zl_i ht1, e3, zl_i ht1, e4, p2, xm_Oi_some]
      exact fin t1 m2 hI1 q1 q2 q3
    rw [if_neg c16]
    by_cases c17 : xm_and s0 63 = 17
    · obtain ⟨z, m1, t1, z', m2, p1, p2, hI1, q1, q2, q3, hz⟩ := a_119 (sc := sc) (t := t) (m := m) (x1 := s1) (x2 := s2) (x3 := s3) hI
      have ht1 : t1.length < 900000 := by omega
      rw [if_pos c17, zl_i ht, e1, zl_i ht, e2, zl_i ht, e3, p1, xm_Oi_some, zl_i ht1, e1, zl_i ht1, e2, zl_i ht1, e3, p2, xm_Oi_some]
      exact fin t1 m2 hI1 q1 q2 q3
    rw [if_neg c17]
    by_cases c18 : xm_and s0 63 = 18
    · obtain ⟨z, m1, t1, z', m2, p1, p2, hI1, q1, q2, q3, hz⟩ := a_120 (sc := sc) (t := t) (m := m) (x1 := s1) (x2 := s2) (x3 := s3) hI
      have ht1 : t1.length < 900000 := by omega
      rw [if_pos c18, zl_i ht, e1, zl_i ht, e2, zl_i ht, e3, p1, xm_Oi_some, zl_i ht1, e1, zl_i ht1, e2, zl_i ht1, e3, p2, xm_Oi_some]
      exact fin t1 m2 hI1 q1 q2 q3
    rw [if_neg c18]
    by_cases c19 : xm_and s0 63 = 19
    · obtain ⟨z, m1, t1, z', m2, p1, p2, hI1, q1, q2, q3, hz⟩ := a_121 (sc := sc) (t := t) (m := m) (x1 := s1) (x2 := s2) (x3 := s3) hI
      have ht1 : t1.length < 900000 := by omega
      rw [if_pos c19, zl_i ht, e1, zl_i ht, e2, zl_i ht, e3, p1, xm_Oi_some, zl_i ht1, e1, zl_i ht1, e2, zl_i ht1, e3, p2, xm_Oi_some]
      exact fin t1 m2 hI1 q1 q2 q3
    rw [if_neg c19]
    by_cases c20 : xm_and s0 63 = 20
    · obtain ⟨z, m1, t1, z', m2, p1, p2, hI1, q1, q2, q3, hz⟩ := a_122 (sc := sc) (t := t) (m := m) (x1 := s1) (x2 := s2) (x3 := s3) hI
      have ht1 : t1.length < 900000 := by omega
      rw [if_pos c20, zl_i ht, e1, zl_i ht, e2, zl_i ht, e3, p1, xm_Oi_some, zl_i ht1, e1, zl_i ht1, e2, zl_i ht1, e3, p2, xm_Oi_some]
      exact fin t1 m2 hI1 q1 q2 q3
    rw [if_neg c20]
    by_cases c21 : xm_and s0 63 = 21
    · obtain ⟨z, m1, t1, z', m2, p1, p2, hI1, q1, q2, q3, hz⟩ := a_123 (sc := sc) (t := t) (m := m) (x1 := s1) (x2 := s2) hI
      have ht1 : t1.length < 900000 := by omega
      rw [if_pos c21, zl_i ht, e1, zl_i ht, e2, p1, xm_Oi_some, zl_i ht1, e1, zl_i ht1, e2, p2, xm_Oi_some]
      exact fin t1 m2 hI1 q1 q2 q3
    rw [if_neg c21]
    by_cases c22 : xm_and s0 63 = 22
    · obtain ⟨z, m1, t1, z', m2, p1, p2, hI1, q1, q2, q3, hz⟩ := a_124 (sc := sc) (t := t) (m := m) (x1 := s1) (x2 := s2) (x3 := s3) hI
      have ht1 : t1.length < 900000 := by omega
      rw [if_pos c22, zl_i ht, e1, zl_i ht, e2, zl_i ht, e3, p1, xm_Oi_some, zl_i ht1, e1, zl_i ht1, e2, zl_i ht1, e3, p2, xm_Oi_some]
      exact fin t1 m2 hI1 q1 q2 q3
    rw [if_neg c22]
    by_cases c23 : xm_and s0 63 = 23
    · obtain ⟨z, m1, t1, z', m2, p1, p2, hI1, q1, q2, q3, hz⟩ := a_125 (sc := sc) (t := t) (m := m) (x1 := s1) (x2 := s2) hI
      have ht1 : t1.length < 900000 := by omega
      rw [if_pos c23, zl_i ht, e1, zl_i ht, e2, p1, xm_Oi_some, zl_i ht1, e1, zl_i ht1, e2, p2, xm_Oi_some]
      exact fin t1 m2 hI1 q1 q2 q3
    rw [if_neg c23]
    by_cases c24 : xm_and s0 63 = 24
    · obtain ⟨z, m1, t1, z', m2, p1, p2, hI1, q1, q2, q3, hz⟩ := a_126 (sc := sc) (t := t) (m := m) (x1 := s1) (x2 := s2) (x3 := s3) (by omega) hI
      have ht1 : t1.length < 900000 := by omega
      rw [if_pos c24, zl_i ht, e1, zl_i ht, e2, zl_i ht, e3, p1, xm_Oi_some, zl_i ht1, e1, zl_i ht1, e2, zl_i ht1, e3, p2, xm_Oi_some]
      exact fin t1 m2 hI1 q1 q2 q3
    rw [if_neg c24]
    by_cases c25 : xm_and s0 63 = 25
    · obtain ⟨z, m1, t1, z', m2, p1, p2, hI1, q1, q2, q3, hz⟩ := a_127 (sc := sc) (t := t) (m := m) (x1 := s1) hI
      have ht1 : t1.length < 900000 := by omega
      rw [if_pos c25, zl_i ht, e1, p1, xm_Oi_some, zl_i ht1, e1, p2, xm_Oi_some]
      exact fin t1 m2 hI1 q1 q2 q3
    rw [if_neg c25]
    by_cases c26 : xm_and s0 63 = 26
    · obtain ⟨z, m1, t1, z', m2, p1, p2, hI1, q1, q2, q3, hz⟩ := a_128 (sc := sc) (t := t) (m := m) (x1 := s1) (x2 := s2) (x3 := s3) hI
      have ht1 : t1.length < 900000 := by omega
      rw [if_pos c26, zl_i ht, e1, zl_i ht, e2, zl_i ht, e3, p1, xm_Oi_some, zl_i ht1, e1, zl_i ht1, e2, zl_i ht1, e3, p2, xm_Oi_some]
      exact fin t1 m2 hI1 q1 q2 q3
    rw [if_neg c26]
    by_cases c27 : xm_and s0 63 = 27
    · obtain ⟨z, m1, t1, z', m2, p1, p2, hI1, q1, q2, q3, hz⟩ := a_129 (sc := sc) (t := t) (m := m) (x1 := s1) (x2 := s2) (x3 := s3) hI r3
      have ht1 : t1.length < 900000 := by omega
      rw [if_pos c27, zl_i ht, e1, zl_i ht, e2, zl_i ht, e3, p1, xm_Oi_some, zl_i ht1, e1, zl_i ht1, e2, zl_i ht1, e3, p2, xm_Oi_some]
      exact fin t1 m2 hI1 q1 q2 q3
    rw [if_neg c27]
    by_cases c28 : xm_and s0 63 = 28
    · obtain ⟨z, m1, t1, z', m2, p1, p2, hI1, q1, q2, q3, hz⟩ := a_130 (sc := sc) (t := t) (m := m) (x1 := s1) (x2 := s2) (x3 := s3) (x4 := s4) (x5 := s5) hI r5.2
      have ht1 : t1.length < 900000 := by omega
      rw [if_pos c28, zl_i ht, e1, zl_i ht, e2, zl_i ht, e3, zl_i ht, e4, zl_i ht, e5, p1, xm_Oi_some, zl_i ht1, e1, zl_i ht1, e2, zl_i ht1, e3, zl_i ht1, e4, zl_i ht1, e5, p2, xm_Oi_some]
      exact fin t1 m2 hI1 q1 q2 q3
    rw [if_neg c28]
    by_cases c29 : xm_and s0 63 = 29
    · obtain ⟨z, m1, t1, z', m2, p1, p2, hI1, q1, q2, q3, hz⟩ := a_131 (sc := sc) (t := t) (m := m) (x1 := s1) (x2 := s2) hI
      have ht1 : t1.length < 900000 := by omega
      rw [if_pos c29, zl_i ht, e1, zl_i ht, e2, p1, xm_Oi_some, zl_i ht1, e1, zl_i ht1, e2, p2, xm_Oi_some]
      exact fin t1 m2 hI1 q1 q2 q3
    rw [if_neg c29]
    by_cases c30 : xm_and s0 63 = 30
    · obtain ⟨z, m1, t1, z', m2, p1, p2, hI1, q1, q2, q3, hz⟩ := a_132 (sc := sc) (t := t) (m := m) (x1 := s1) (x2 := s2) hI
      have ht1 : t1.length < 900000 := by omega
      rw [if_pos c30, zl_i ht, e1, zl_i ht, e2, p1, xm_Oi_some, zl_i ht1, e1, zl_i ht1, e2, p2, xm_Oi_some]
      exact fin t1 m2 hI1 q1 q2 q3
    rw [if_neg c30]
    by_cases c31 : xm_and s0 63 = 31
    · obtain ⟨z, m1, t1, z', m2, p1, p2, hI1, q1, q2, q3, hz⟩ := a_133 (sc := sc) (t := t) (m := m)  hI (by omega)
      rw [if_pos c31, p1, xm_Oi_some, p2, xm_Oi_some]
      exact fin t1 m2 hI1 q1 q2 q3
    rw [if_neg c31]
    by_cases c32 : xm_and s0 63 = 32
    · obtain ⟨z, m1, t1, z', m2, p1, p2, hI1, q1, q2, q3, hz⟩ := a_134 (sc := sc) (t := t) (m := m)  hI
      rw [if_pos c32, p1, xm_Oi_some, p2, xm_Oi_some]
      exact fin t1 m2 hI1 q1 q2 q3
    rw [if_neg c32]
    by_cases c33 : xm_and s0 63 = 33
    · obtain ⟨z, m1, t1, z', m2, p1, p2, hI1, q1, q2, q3, hz⟩ := a_135 (sc := sc) (t := t) (m := m) (x1 := s1) hI
      have ht1 : t1.length < 900000 := by omega
      rw [if_pos c33, zl_i ht, e1, p1, xm_Oi_some, zl_i ht1, e1, p2, xm_Oi_some]
      exact fin t1 m2 hI1 q1 q2 q3
    rw [if_neg c33]
    by_cases c34 : xm_and s0 63 = 34
    · obtain ⟨z, m1, t1, z', m2, p1, p2, hI1, q1, q2, q3, hz⟩ := a_136 (sc := sc) (t := t) (m := m)  hI
      rw [if_pos c34, p1, xm_Oi_some, p2, xm_Oi_some, if_pos (hz rfl)]
      exact fin t1 m2 hI1 q1 q2 q3
    rw [if_neg c34]
    by_cases c35 : xm_and s0 63 = 35
    · obtain ⟨z, m1, t1, z', m2, p1, p2, hI1, q1, q2, q3, hz⟩ := a_137 (sc := sc) (t := t) (m := m) (x1 := s1) hI
      have ht1 : t1.length < 900000 := by omega
      rw [if_pos c35, zl_i ht, e1, p1, xm_Oi_some, zl_i ht1, e1, p2, xm_Oi_some]
      exact fin t1 m2 hI1 q1 q2 q3
    rw [if_neg c35]
    by_cases c36 : xm_and s0 63 = 36
    · obtain ⟨z, m1, t1, z', m2, p1, p2, hI1, q1, q2, q3, hz⟩ := a_138 (sc := sc) (t := t) (m := m) (x1 := s1) hI
      have ht1 : t1.length < 900000 := by omega
      rw [if_pos c36, zl_i ht, e1, p1, xm_Oi_some, zl_i ht1, e1, p2, xm_Oi_some]
      exact fin t1 m2 hI1 q1 q2 q3
    rw [if_neg c36]
    exact fin t m hI (by omega) (by omega) (by omega)
set_option maxRecDepth 20000 in
theorem yl_law (sc : List Int) (hs : sc.length ≤ 3072) (hr : ∀ z ∈ sc, -2147483648 ≤ z ∧ z < 2147483648) : ∃ m t, t.length ≤ 1100 ∧ xm_sz t ≤ 40000 ∧ xm_E (xm_old sc) xm_sta (xm_X (xm_old sc) xm_mt 100) xm_cl0 0 (xm_loc 4 [.inr (.inl (some 1000008))]) [] [] (some (.inl 1), yy_W m t) := by
  have h : xm_EQ (xm_old sc) xm_sta (xm_X (xm_old sc) xm_mt 100) xm_cl0 0 [some (.inr (.inl (some 1000008))), none, none, none] [] [] (fun q => ∃ m t, t.length ≤ 1100 ∧ xm_sz t ≤ 40000 ∧ q = (some (.inl 1), yy_W m t)) := by
    refine xb_0_0 ?_
    obtain ⟨w1, e1, l1, e2⟩ := n_start (sc := sc) (d := 97)
    show xm_Ov (xm_X (xm_old sc) xm_mt (97 + 3) 101 [.inr (.inl (some 0))] [.inr (.inr (8, (xm_kd 8).map xm_dflt))]) _
    rw [e1, xm_Ov_some, e2, xm_Ov_some, l1]
    exact yl_go hs hr (fun m t a b => ⟨m, t, a, b, rfl⟩) 513 0 [] yy_0 (by decide) yz_I (by decide) (by decide) (by decide)
  obtain ⟨q, h1, m, t, a, b, h2⟩ := h
  exact ⟨m, t, a, b, by rw [← h2]; exact h1⟩
end
