/-! THE RELATION OF BOTH SIDES between two acts -/
def sg_D (s : Nat → Int) : Prop := (0 ≤ s 4 ∧ s 4 ≤ 60) ∧ (0 ≤ s 5 ∧ s 5 ≤ 24) ∧ ∀ k, k < 60 → 0 ≤ s (589 + k) ∧ s (589 + k) ≤ 255
def yy_DR (m : Nat → Nat → Int) (a : Nat) (s : Nat → Int) : Prop := m a 1 = s 4 ∧ m a 3 = s 5 ∧ m a 4 = s 6 ∧ (∀ k, k < 60 → m (a + 1) k = s (589 + k)) ∧ ∀ k, k < 24 → m (a + 2) k = s (649 + k)
/-! a row that may stand between acts -/
def sg_G (s : Nat → Int) : Prop := sg_W s 0 ∧ s 1 ≤ 9999 ∧ sg_D s
def yy_SH (m : Nat → Nat → Int) : Prop := ∀ k, k < 4 → m (66 + 2 * k) 0 = m 83 k ∧ (m 83 k = 0 ∨ m 83 k = 8 ∨ m 83 k = 16 ∨ m 83 k = 32) ∧ m (66 + 2 * k) 1 = m 84 k ∧ (0 ≤ m 84 k ∧ m 84 k ≤ 24) ∧ ∀ j, j < 24 → m (67 + 2 * k) j = m 85 (24 * k + j) ∧ -2147483648 ≤ m 85 (24 * k + j) ∧ m 85 (24 * k + j) < 2147483648
def yy_KE (t : xm_W) (m : Nat → Nat → Int) : Prop := m 0 5 = m 74 4 ∧ 0 ≤ m 0 5 ∧ (0 < m 0 5 → sg_G (m 76) ∧ yy_MX t m 38 (m 76) ∧ yy_DR m 55 (m 76))
def yy_SP (m : Nat → Nat → Int) : Prop := m 74 3 = -1 ∧ (0 ≤ m 61 1 ∧ m 61 1 ≤ 30) ∧ (0 ≤ m 74 15 ∧ m 74 15 ≤ 30)
def yy_I (t : xm_W) (m : Nat → Nat → Int) : Prop := sg_G (m 75) ∧ yy_MX t m 1 (m 75) ∧ yy_DR m 35 (m 75) ∧ yy_KE t m ∧ yy_SH m ∧ yy_SP m
set_option maxRecDepth 20000 in
theorem yy_TX_tx {t : xm_W} {s : Nat → Int} {u : Nat} {z : Int} (h : yy_TX t s u z) : yy_tx t z := by
  rcases h with ⟨_, h⟩ | ⟨_, a, a', h, hC⟩
  · exact Or.inl h
  · exact Or.inr ⟨a, _, h, hC.1⟩
set_option maxRecDepth 20000 in
theorem yy_MX_r {t : xm_W} {m m' : Nat → Nat → Int} {b : Nat} {s : Nat → Int} (h : ∀ c, (c = b ∨ c = b + 1 ∨ c = b + 3 ∨ c = b + 4 ∨ (b + 7 ≤ c ∧ c < b + 17)) → m' c = m c) (hM : yy_MX t m b s) : yy_MX t m' b s :=
  ⟨yy_MR_fr (fun c hc => h c (by omega)) hM.1, by rw [h (b + 4) (by omega)]; exact hM.2.1, by rw [h (b + 4) (by omega)]; exact hM.2.2⟩
set_option maxRecDepth 20000 in
theorem yy_DR_r {m m' : Nat → Nat → Int} {a : Nat} {s : Nat → Int} (h : ∀ c, (c = a ∨ c = a + 1 ∨ c = a + 2) → m' c = m c) (hD : yy_DR m a s) : yy_DR m' a s := by
  obtain ⟨h1, h2, h3, h4, h5⟩ := hD
  rw [← h a (Or.inl rfl)] at h1 h2 h3
  exact ⟨h1, h2, h3, fun k hk => by rw [h _ (by omega)]; exact h4 k hk, fun k hk => by rw [h _ (by omega)]; exact h5 k hk⟩
set_option maxRecDepth 20000 in
theorem yy_SH_r {m m' : Nat → Nat → Int} (h : ∀ c, ((66 ≤ c ∧ c < 74) ∨ (83 ≤ c ∧ c < 86)) → m' c = m c) (hS : yy_SH m) : yy_SH m' := by
  intro k hk
  obtain ⟨a, b, c, d, e⟩ := hS k hk
  rw [h (66 + 2 * k) (by omega), h 83 (by omega), h 84 (by omega)]
  exact ⟨a, b, c, d, fun j hj => by rw [h (67 + 2 * k) (by omega), h 85 (by omega)]; exact e j hj⟩
set_option maxRecDepth 20000 in
theorem yy_KE_r {t : xm_W} {m m' : Nat → Nat → Int} (h : ∀ c, ((38 ≤ c ∧ c < 58) ∨ c = 76) → m' c = m c) (h0 : m' 0 5 = m 0 5) (h4 : m' 74 4 = m 74 4) (hK : yy_KE t m) : yy_KE t m' := by
  obtain ⟨a, b, c⟩ := hK
  refine ⟨by rw [h0, h4]; exact a, by rw [h0]; exact b, fun hp => ?_⟩
  rw [h0] at hp
  obtain ⟨x, y, z⟩ := c hp
  have e : m' 76 = m 76 := h _ (Or.inr rfl)
  rw [e]
  exact ⟨x, yy_MX_r (fun c hc => h c (by omega)) y, yy_DR_r (fun c hc => h c (by omega)) z⟩
/-! cells that the relation doesn't speak of -/
def yy_no (c : Nat) : Prop := c = 6 ∨ c = 7 ∨ (18 ≤ c ∧ c < 35) ∨ (58 ≤ c ∧ c < 61) ∨ (62 ≤ c ∧ c < 66) ∨ (77 ≤ c ∧ c < 83) ∨ c = 86
set_option maxRecDepth 20000 in
theorem yy_I_no {t : xm_W} {m m' : Nat → Nat → Int} (h : ∀ c, c < 87 → ¬ yy_no c → c ≠ 61 → c ≠ 74 → m' c = m c) (h61 : 0 ≤ m' 61 1 ∧ m' 61 1 ≤ 30) (h3 : m' 74 3 = m 74 3) (h4 : m' 74 4 = m 74 4) (h15 : 0 ≤ m' 74 15 ∧ m' 74 15 ≤ 30) (hI : yy_I t m) : yy_I t m' := by
  obtain ⟨a, b, c, d, e, f⟩ := hI
  have e75 : m' 75 = m 75 := h 75 (by decide) (by unfold yy_no; omega) (by decide) (by decide)
  refine ⟨by rw [e75]; exact a, by rw [e75]; exact yy_MX_r (fun c hc => h c (by omega) (by unfold yy_no; omega) (by omega) (by omega)) b, by rw [e75]; exact yy_DR_r (fun c hc => h c (by omega) (by unfold yy_no; omega) (by omega) (by omega)) c, yy_KE_r (fun c hc => h c (by omega) (by unfold yy_no; omega) (by omega) (by omega)) (by rw [h 0 (by decide) (by unfold yy_no; omega) (by decide) (by decide)]) h4 d, yy_SH_r (fun c hc => h c (by omega) (by unfold yy_no; omega) (by omega) (by omega)) e, by rw [h3]; exact f.1, h61, h15⟩
set_option maxRecDepth 20000 in
theorem yy_I_n {t : xm_W} {m m' : Nat → Nat → Int} (h : ∀ c, ¬ yy_no c → m' c = m c) (hI : yy_I t m) : yy_I t m' := by
  have e61 : m' 61 = m 61 := h 61 (by unfold yy_no; omega)
  have e74 : m' 74 = m 74 := h 74 (by unfold yy_no; omega)
  exact yy_I_no (fun c _ hc _ _ => h c hc) (by rw [e61]; exact hI.2.2.2.2.2.2.1) (by rw [e74]) (by rw [e74]) (by rw [e74]; exact hI.2.2.2.2.2.2.2) hI
set_option maxRecDepth 20000 in
theorem yy_I_ef {t : xm_W} {m : Nat → Nat → Int} {k k' : Nat} (hI : yy_I t m) : yy_I t (yy_f (yy_e m k) k') :=
  yy_I_n (fun c hc => by unfold yy_f yy_e; unfold yy_no at hc; rw [yy_s_ne (by omega), yy_s_ne (by omega)]) hI
/-! an act of both sides, answers alike -/
def yy_A (sc : List Int) (t : xm_W) (m : Nat → Nat → Int) (a b : Nat) (as : List xm_V) (same : Bool) : Prop := ∃ z m1 t1 z' m2, xm_X (xm_old sc) xm_mt 100 a (.inr (.inl (some 0)) :: as) (yy_W m t) = some (some (.inl z), yy_W m1 t1) ∧ xm_X (xm_old sc) xm_mt 100 b (.inr (.inl (some 74)) :: as) (yy_W m1 t1) = some (some (.inl z'), yy_W m2 t1) ∧ yy_I t1 m2 ∧ t1.length ≤ t.length + 2 ∧ xm_sz t1 ≤ xm_sz t + 62 ∧ m2 0 5 ≤ m 0 5 + 1 ∧ (same = true → z = z')
set_option maxRecDepth 20000 in
theorem yy_Ao {sc : List Int} {t : xm_W} {m m1 m2 : Nat → Nat → Int} {a b : Nat} {as : List xm_V} {z z' : Int} (h1 : xm_X (xm_old sc) xm_mt 100 a (.inr (.inl (some 0)) :: as) (yy_W m t) = some (some (.inl z), yy_W m1 t)) (h2 : xm_X (xm_old sc) xm_mt 100 b (.inr (.inl (some 74)) :: as) (yy_W m1 t) = some (some (.inl z'), yy_W m2 t)) (hI : yy_I t m2) (h0 : m2 0 = m 0) (h : z = z') : yy_A sc t m a b as true :=
  ⟨z, m1, t, z', m2, h1, h2, hI, by omega, by omega, by rw [h0]; omega, fun _ => h⟩
set_option maxRecDepth 20000 in
theorem yy_ef0 {m : Nat → Nat → Int} {k k' : Nat} : yy_f (yy_e m k) k' 0 = m 0 := by unfold yy_f yy_e; rw [yy_s_ne (by decide), yy_s_ne (by decide)]
set_option maxRecDepth 20000 in
theorem yy_I_0 {t : xm_W} {m : Nat → Nat → Int} (h : yy_I t m) : (m 1 4 = m 75 0 ∧ m 1 6 = m 75 3 ∧ m 1 2 = m 75 1 ∧ m 1 1 = m 75 2) ∧ sg_R (m 75) := ⟨⟨h.2.1.1.2.2.1, h.2.1.1.2.2.2.1, h.2.1.1.2.1, h.2.1.1.1⟩, h.1.1.1⟩
/-! the reference's own cells behind a refusal of the class -/
set_option maxRecDepth 20000 in
theorem yy_e75 {m : Nat → Nat → Int} {k c : Nat} (h : c ≠ 65) : yy_e m k c = m c := yy_s_ne h
