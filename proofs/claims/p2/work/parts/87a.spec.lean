/-! THE MOOR AS THE REFERENCE'S ROW: what both sides do to it -/
def sg_k (s : Nat → Int) (c : Int) : Int := if s (8 + c).toNat = 0 then 9 + s 2 else if s (8 + c).toNat = 1 then 4 + s 2 else if s (8 + c).toNat = 2 then 1 else 0
def sg_p (s : Nat → Int) (i w : Nat) : Int := s (134 + 5 * i + w)
/-! print i moves to place l -/
def sg_c5 (s : Nat → Int) (i l : Nat) : Nat → Int := fun k => if 134 + 5 * l ≤ k ∧ k < 134 + 5 * l + 5 then s (k - 5 * l + 5 * i) else s k
/-! the prints of these numbers move up -/
def sg_cl (K : Nat → Bool) : Nat → Nat → Nat → (Nat → Int) → (Nat → Int) × Nat
  | 0, _, l, s => (s, l)
  | n + 1, i, l, s => if K i = true then sg_cl K n (i + 1) (l + 1) (sg_c5 s i l) else sg_cl K n (i + 1) l s
def sg_clr (K : Nat → Bool) (s : Nat → Int) : Nat → Int := yy_u (sg_cl K (s 3).toNat 0 0 s).1 3 (sg_cl K (s 3).toNat 0 0 s).2
/-! what the reference keeps: not one of the oldest, not in a cell, seen -/
def sg_K (s : Nat → Int) (o c : Int) (i : Nat) : Bool := decide (o ≤ i ∧ sg_p s i 0 ≠ c ∧ s 1 ≤ sg_p s i 3 + sg_k s (sg_p s i 0))
set_option maxRecDepth 20000 in
theorem sg_c5_in {s : Nat → Int} {i l w : Nat} (h : w < 5) : sg_c5 s i l (134 + 5 * l + w) = s (134 + 5 * i + w) := by
  unfold sg_c5; rw [if_pos (by omega)]; congr 1; omega
set_option maxRecDepth 20000 in
theorem sg_c5_out {s : Nat → Int} {i l k : Nat} (h : k < 134 + 5 * l ∨ 134 + 5 * l + 5 ≤ k) : sg_c5 s i l k = s k := by
  unfold sg_c5; rw [if_neg (by omega)]
/-! what stays, and in which order -/
set_option maxRecDepth 20000 in
theorem sg_cl_ok (K : Nat → Bool) : ∀ (n i l : Nat) (s : Nat → Int), l ≤ i → ∃ g : Nat → Nat, l ≤ (sg_cl K n i l s).2 ∧ (sg_cl K n i l s).2 ≤ l + n ∧ (∀ j, l ≤ j → j < (sg_cl K n i l s).2 → i ≤ g j ∧ g j < i + n ∧ K (g j) = true ∧ ∀ w, w < 5 → (sg_cl K n i l s).1 (134 + 5 * j + w) = s (134 + 5 * g j + w)) ∧ (∀ j j', l ≤ j → j < j' → j' < (sg_cl K n i l s).2 → g j < g j') ∧ ∀ k, (k < 134 + 5 * l ∨ 134 + 5 * (sg_cl K n i l s).2 ≤ k) → (sg_cl K n i l s).1 k = s k
  | 0, i, l, s, h => ⟨id, Nat.le_refl _, Nat.le_refl _, fun j h1 h2 => absurd h2 (by show ¬ j < l; omega), fun j j' h1 h2 h3 => absurd h3 (by show ¬ j' < l; omega), fun k _ => rfl⟩
  | n + 1, i, l, s, h => by
    unfold sg_cl
    by_cases e : K i = true
    · rw [if_pos e]
      obtain ⟨g, h1, h2, h3, h4, h5⟩ := sg_cl_ok K n (i + 1) (l + 1) (sg_c5 s i l) (by omega)
      refine ⟨fun j => if j = l then i else g j, by omega, by omega, fun j a b => ?_, fun j j' a b c => ?_, fun k hk => ?_⟩
      · dsimp only
        by_cases ej : j = l
        · rw [if_pos ej]
          refine ⟨by omega, by omega, e, fun w hw => ?_⟩
          rw [h5 _ (Or.inl (by omega)), ej, sg_c5_in hw]
        · rw [if_neg ej]
          obtain ⟨a1, a2, a3, a4⟩ := h3 j (by omega) b
          refine ⟨by omega, by omega, a3, fun w hw => ?_⟩
          rw [a4 w hw, sg_c5_out (by omega)]
      · dsimp only
        by_cases ej : j = l
        · rw [if_pos ej, if_neg (by omega)]
          have := (h3 j' (by omega) c).1
          omega
        · rw [if_neg ej, if_neg (by omega)]
          exact h4 j j' (by omega) b c
      · rw [h5 k (by omega), sg_c5_out (by omega)]
    · rw [if_neg e]
      obtain ⟨g, h1, h2, h3, h4, h5⟩ := sg_cl_ok K n (i + 1) l s (by omega)
      refine ⟨g, h1, by omega, fun j a b => ?_, h4, h5⟩
      obtain ⟨a1, a2, a3, a4⟩ := h3 j a b
      exact ⟨by omega, by omega, a3, a4⟩
set_option maxRecDepth 20000 in
theorem sg_cl_congr {K K' : Nat → Bool} : ∀ (n i l : Nat) (s : Nat → Int), (∀ j, i ≤ j → j < i + n → K j = K' j) → sg_cl K n i l s = sg_cl K' n i l s
  | 0, _, _, _, _ => rfl
  | n + 1, i, l, s, h => by
    unfold sg_cl
    rw [h i (by omega) (by omega), sg_cl_congr n (i + 1) (l + 1) _ (fun j a b => h j (by omega) (by omega)), sg_cl_congr n (i + 1) l _ (fun j a b => h j (by omega) (by omega))]
/-! all stay: a plain move up -/
set_option maxRecDepth 20000 in
theorem sg_cl_all {K : Nat → Bool} : ∀ (n i l : Nat) (s : Nat → Int), l ≤ i → (∀ j, i ≤ j → j < i + n → K j = true) → (sg_cl K n i l s).2 = l + n ∧ ∀ k, (sg_cl K n i l s).1 k = if 134 + 5 * l ≤ k ∧ k < 134 + 5 * (l + n) then s (k + 5 * (i - l)) else s k
  | 0, i, l, s, _, _ => ⟨rfl, fun k => by rw [if_neg (by omega)]; rfl⟩
  | n + 1, i, l, s, hl, h => by
    unfold sg_cl
    rw [if_pos (h i (by omega) (by omega))]
    obtain ⟨h1, h2⟩ := sg_cl_all n (i + 1) (l + 1) (sg_c5 s i l) (by omega) (fun j a b => h j (by omega) (by omega))
    refine ⟨by omega, fun k => ?_⟩
    rw [h2]
    by_cases a : 134 + 5 * (l + 1) ≤ k ∧ k < 134 + 5 * (l + 1 + n)
    · rw [if_pos a, if_pos (by omega), sg_c5_out (by omega)]; congr 1; omega
    · rw [if_neg a]
      by_cases b : 134 + 5 * l ≤ k ∧ k < 134 + 5 * (l + (n + 1))
      · rw [if_pos b]
        unfold sg_c5
        rw [if_pos (by omega)]; congr 1; omega
      · rw [if_neg b, sg_c5_out (by omega)]
/-! ranges of the row -/
def sg_R (s : Nat → Int) : Prop := (0 ≤ s 0 ∧ s 0 ≤ 5) ∧ (0 ≤ s 1 ∧ s 1 ≤ 20000) ∧ (0 ≤ s 2 ∧ s 2 ≤ 9) ∧ (0 ≤ s 3 ∧ s 3 ≤ 40) ∧ (∀ k, k < 36 → 0 ≤ s (8 + k) ∧ s (8 + k) ≤ 3) ∧ (∀ i, i < 5 → (0 ≤ s (44 + 18 * i) ∧ s (44 + 18 * i) ≤ 6) ∧ (0 ≤ s (45 + 18 * i) ∧ s (45 + 18 * i) ≤ 9) ∧ (0 ≤ s (46 + 18 * i) ∧ s (46 + 18 * i) ≤ 35) ∧ (0 ≤ s (47 + 18 * i) ∧ s (47 + 18 * i) ≤ 99) ∧ (0 ≤ s (48 + 18 * i) ∧ s (48 + 18 * i) ≤ 12) ∧ (0 ≤ s (49 + 18 * i) ∧ s (49 + 18 * i) ≤ s (48 + 18 * i)) ∧ ∀ k, k < 12 → 0 ≤ s (50 + 18 * i + k) ∧ s (50 + 18 * i + k) ≤ 3)
/-! a print's ranges -/
def sg_E (s : Nat → Int) (i : Nat) : Prop := (0 ≤ sg_p s i 0 ∧ sg_p s i 0 ≤ 35) ∧ (0 ≤ sg_p s i 1 ∧ sg_p s i 1 ≤ 3) ∧ (0 ≤ sg_p s i 2 ∧ sg_p s i 2 ≤ 99) ∧ (0 ≤ sg_p s i 3 ∧ sg_p s i 3 ≤ 20000) ∧ (0 ≤ sg_p s i 4 ∧ sg_p s i 4 ≤ 4)
def sg_lt (s : Nat → Int) (i j : Nat) : Prop := sg_p s i 3 < sg_p s j 3 ∨ (sg_p s i 3 = sg_p s j 3 ∧ sg_p s i 4 < sg_p s j 4)
/-! the prints: in ranges, in order, behind them hour and rider -/
def sg_O (s : Nat → Int) (r : Int) : Prop := (∀ i : Nat, (i : Int) < s 3 → sg_E s i ∧ (sg_p s i 3 < s 1 ∨ (sg_p s i 3 = s 1 ∧ sg_p s i 4 < r))) ∧ ∀ i j : Nat, i < j → (j : Int) < s 3 → sg_lt s i j
def sg_S (s : Nat → Int) : Prop := ∀ i : Nat, (i : Int) < s 3 → s 1 ≤ sg_p s i 3 + sg_k s (sg_p s i 0)
