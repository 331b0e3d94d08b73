set_option maxRecDepth 20000 in
theorem sg_ap_O {s : Nat → Int} {c sh dp r : Int} (h3 : 0 ≤ s 3) (h : sg_O s r) (h1 : 0 ≤ s 1 ∧ s 1 ≤ 20000) (hc : 0 ≤ c ∧ c ≤ 35) (hs : 0 ≤ sh ∧ sh ≤ 3) (hd : 0 ≤ dp ∧ dp ≤ 99) (hr : 0 ≤ r ∧ r ≤ 4) : sg_O (sg_ap s c sh dp (s 1) r) (r + 1) := by
  obtain ⟨n0, n1, n2, n3, n4⟩ := sg_ap_n (s := s) (c := c) (sh := sh) (dp := dp) (h := s 1) (r := r)
  have e1 : sg_ap s c sh dp (s 1) r 1 = s 1 := sg_ap_o (by decide) (by omega)
  have e3 := sg_ap_3 (s := s) (c := c) (sh := sh) (dp := dp) (h := s 1) (r := r)
  refine ⟨fun i hi => ?_, fun i j hij hj => ?_⟩
  · rw [e3] at hi
    by_cases e : (i : Int) < s 3
    · obtain ⟨b1, b2⟩ := h.1 i e
      unfold sg_E at b1 ⊢
      rw [e1, sg_ap_p e (by decide), sg_ap_p e (by decide), sg_ap_p e (by decide), sg_ap_p e (by decide), sg_ap_p e (by decide)]
      exact ⟨b1, by omega⟩
    · have ei : i = (s 3).toNat := by omega
      subst ei
      unfold sg_E
      rw [e1, n0, n1, n2, n3, n4]
      exact ⟨⟨hc, hs, hd, h1, hr⟩, by omega⟩
  · rw [e3] at hj
    unfold sg_lt
    by_cases e : (j : Int) < s 3
    · have := h.2 i j hij e
      unfold sg_lt at this
      rw [sg_ap_p (i := i) (w := 3) (by omega) (by decide), sg_ap_p (i := i) (w := 4) (by omega) (by decide), sg_ap_p (i := j) (w := 3) e (by decide), sg_ap_p (i := j) (w := 4) e (by decide)]
      exact this
    · have ej : j = (s 3).toNat := by omega
      subst ej
      have := (h.1 i (by omega)).2
      rw [sg_ap_p (i := i) (w := 3) (by omega) (by decide), sg_ap_p (i := i) (w := 4) (by omega) (by decide), n3, n4]
      exact this
set_option maxRecDepth 20000 in
theorem sg_ap_S {s : Nat → Int} {c sh dp r q : Int} (hR : sg_R s) (hO : sg_O s q) (h : sg_S s) (hc : 0 ≤ c ∧ c ≤ 35) : sg_S (sg_ap s c sh dp (s 1) r) := by
  obtain ⟨-, -, h2, h3, -⟩ := hR
  obtain ⟨n0, n1, n2, n3, n4⟩ := sg_ap_n (s := s) (c := c) (sh := sh) (dp := dp) (h := s 1) (r := r)
  have e1 : sg_ap s c sh dp (s 1) r 1 = s 1 := sg_ap_o (by decide) (by omega)
  have e3 := sg_ap_3 (s := s) (c := c) (sh := sh) (dp := dp) (h := s 1) (r := r)
  have ek : ∀ c', 0 ≤ c' ∧ c' ≤ 35 → sg_k (sg_ap s c sh dp (s 1) r) c' = sg_k s c' := fun c' h' => sg_k_eq (sg_ap_o (by decide) (by omega)) (sg_ap_o (by omega) (by omega))
  intro i hi
  rw [e3] at hi
  rw [e1]
  by_cases e : (i : Int) < s 3
  · rw [sg_ap_p e (by decide), sg_ap_p e (by decide), ek _ (hO.1 i e).1.1]
    exact h i e
  · have ei : i = (s 3).toNat := by omega
    subst ei
    rw [n0, n3, ek _ hc]
    have := sg_k_r (c := c) h2
    omega
set_option maxRecDepth 20000 in
theorem sg_cl_drop {K : Nat → Bool} {n : Nat} {a : Nat → Int} (h : ¬ (K 0 = true)) : sg_cl K (n + 1) 0 0 a = sg_cl K n 1 0 a := by
  rw [sg_cl, if_neg h]
/-! forty one prints, all seen: the oldest goes -/
set_option maxRecDepth 20000 in
theorem sg_shift {a : Nat → Int} {r : Int} (h3 : a 3 = 41) (hO : sg_O a r) (hS : sg_S a) : ∀ k, sg_clr (sg_K a 1 (-1)) a k = if k = 3 then 40 else if 134 ≤ k ∧ k < 334 then a (k + 5) else a k := by
  have hK : ∀ j : Nat, j < 41 → sg_K a 1 (-1) j = decide (1 ≤ j) := by
    intro j hj
    have b := (hO.1 j (by omega)).1.1
    have c := hS j (by omega)
    unfold sg_K
    by_cases e : 1 ≤ j
    · rw [decide_eq_true e, decide_eq_true_iff]; exact ⟨by omega, by omega, c⟩
    · rw [decide_eq_false e, decide_eq_false_iff_not]; omega
  obtain ⟨c1, c2⟩ := sg_cl_all (K := sg_K a 1 (-1)) 40 1 0 a (by decide) (fun j h1 h2 => by rw [hK j (by omega)]; exact decide_eq_true h1)
  intro k
  unfold sg_clr yy_u
  rw [h3, show (41 : Int).toNat = 40 + 1 from rfl, sg_cl_drop (by rw [hK 0 (by decide)]; decide), c1, c2]
  by_cases e : k = 3
  · rw [if_pos e, if_pos e]; rfl
  · rw [if_neg e, if_neg e]
