section
/-! THE MOOR AS THE REFERENCE'S ROW: what both sides do to it -/
def sg_k (s : Nat → Int) (c : Int) : Int := if s (8 + c).toNat = 0 then 9 + s 2 else if s (8 + c).toNat = 1 then 4 + s 2 else if s (8 + c).toNat = 2 then 1 else 0
def sg_p (s : Nat → Int) (i w : Nat) : Int := s (134 + 5 * i + w)
/-! print i moves to place l -/
def sg_c5 (s : Nat → Int) (i l : Nat) : Nat → Int := fun k => if 134 + 5 * l ≤ k ∧ k < 134 + 5 * l + 5 then s (k - 5 * l + 5 * i) else s k
/-! the prints of these numbers move up -/
def sg_cl (K : Nat → Bool) : Nat → Nat → Nat → (Nat → Int) → (Nat → Int) × Nat
  | 0, _, l, s => (s, l)
  | n + 1, i, l, s => if K i = true then sg_cl K n (i + 1) (l + 1) (sg_c5 s i l) else sg_cl K n (i + 1) l s
def sg_clr (K : Nat → Bool) (s : Nat → Int) : Nat → Int := yy_u (sg_cl K (s 3).toNat 0 0 s).1 3 (sg_cl K (s 3).toNat 0 0 s).2
/-! what the reference keeps: not one of the oldest, not in a cell, seen -/
def sg_K (s : Nat → Int) (o c : Int) (i : Nat) : Bool := decide (o ≤ i ∧ sg_p s i 0 ≠ c ∧ s 1 ≤ sg_p s i 3 + sg_k s (sg_p s i 0))
set_option maxRecDepth 20000 in
theorem sg_c5_in {s : Nat → Int} {i l w : Nat} (h : w < 5) : sg_c5 s i l (134 + 5 * l + w) = s (134 + 5 * i + w) := by
  unfold sg_c5; rw [if_pos (by omega)]; congr 1; omega
set_option maxRecDepth 20000 in
theorem sg_c5_out {s : Nat → Int} {i l k : Nat} (h : k < 134 + 5 * l ∨ 134 + 5 * l + 5 ≤ k) : sg_c5 s i l k = s k := by
  unfold sg_c5; rw [if_neg (by omega)]
/-! what stays, and in which order -/
set_option maxRecDepth 20000 in
theorem sg_cl_ok (K : Nat → Bool) : ∀ (n i l : Nat) (s : Nat → Int), l ≤ i → ∃ g : Nat → Nat, l ≤ (sg_cl K n i l s).2 ∧ (sg_cl K n i l s).2 ≤ l + n ∧ (∀ j, l ≤ j → j < (sg_cl K n i l s).2 → i ≤ g j ∧ g j < i + n ∧ K (g j) = true ∧ ∀ w, w < 5 → (sg_cl K n i l s).1 (134 + 5 * j + w) = s (134 + 5 * g j + w)) ∧ (∀ j j', l ≤ j → j < j' → j' < (sg_cl K n i l s).2 → g j < g j') ∧ ∀ k, (k < 134 + 5 * l ∨ 134 + 5 * (sg_cl K n i l s).2 ≤ k) → (sg_cl K n i l s).1 k = s k
  | 0, i, l, s, h => ⟨id, Nat.le_refl _, Nat.le_refl _, fun j h1 h2 => absurd h2 (by show ¬ j < l; omega), fun j j' h1 h2 h3 => absurd h3 (by show ¬ j' < l; omega), fun k _ => rfl⟩
  | n + 1, i, l, s, h => by
    unfold sg_cl
    by_cases e : K i = true
    · rw [if_pos e]
      obtain ⟨g, h1, h2, h3, h4, h5⟩ := sg_cl_ok K n (i + 1) (l + 1) (sg_c5 s i l) (by omega)
      refine ⟨fun j => if j = l then i else g j, by omega, by omega, fun j a b => ?_, fun j j' a b c => ?_, fun k hk => ?_⟩
      · dsimp only
        by_cases ej : j = l
        · rw [if_pos ej]
          refine ⟨by omega, by omega, e, fun w hw => ?_⟩
          rw [h5 _ (Or.inl (by omega)), ej, sg_c5_in hw]
        · rw [if_neg ej]
          obtain ⟨a1, a2, a3, a4⟩ := h3 j (by omega) b
          refine ⟨by omega, by omega, a3, fun w hw => ?_⟩
          rw [a4 w hw, sg_c5_out (by omega)]
      · dsimp only
        by_cases ej : j = l
        · rw [if_pos ej, if_neg (by omega)]
          have := (h3 j' (by omega) c).1
          omega
        · rw [if_neg ej, if_neg (by omega)]
          exact h4 j j' (by omega) b c
      · rw [h5 k (by omega), sg_c5_out (by omega)]
    · rw [if_neg e]
      obtain ⟨g, h1, h2, h3, h4, h5⟩ := sg_cl_ok K n (i + 1) l s (by omega)
      refine ⟨g, h1, by omega, fun j a b => ?_, h4, h5⟩
      obtain ⟨a1, a2, a3, a4⟩ := h3 j a b
      exact ⟨by omega, by omega, a3, a4⟩
set_option maxRecDepth 20000 in
theorem sg_cl_congr {K K' : Nat → Bool} : ∀ (n i l : Nat) (s : Nat → Int), (∀ j, i ≤ j → j < i + n → K j = K' j) → sg_cl K n i l s = sg_cl K' n i l s
  | 0, _, _, _, _ => rfl
  | n + 1, i, l, s, h => by
    unfold sg_cl
    rw [h i (by omega) (by omega), sg_cl_congr n (i + 1) (l + 1) _ (fun j a b => h j (by omega) (by omega)), sg_cl_congr n (i + 1) l _ (fun j a b => h j (by omega) (by omega))]
/-! all stay: a plain move up -/
set_option maxRecDepth 20000 in
theorem sg_cl_all {K : Nat → Bool} : ∀ (n i l : Nat) (s : Nat → Int), l ≤ i → (∀ j, i ≤ j → j < i + n → K j = true) → (sg_cl K n i l s).2 = l + n ∧ ∀ k, (sg_cl K n i l s).1 k = if 134 + 5 * l ≤ k ∧ k < 134 + 5 * (l + n) then s (k + 5 * (i - l)) else s k
  | 0, i, l, s, _, _ => ⟨rfl, fun k => by rw [if_neg (by omega)]; rfl⟩
  | n + 1, i, l, s, hl, h => by
    unfold sg_cl
    rw [if_pos (h i (by omega) (by omega))]
    obtain ⟨h1, h2⟩ := sg_cl_all n (i + 1) (l + 1) (sg_c5 s i l) (by omega) (fun j a b => h j (by omega) (by omega))
    refine ⟨by omega, fun k => ?_⟩
    rw [h2]
    by_cases a : 134 + 5 * (l + 1) ≤ k ∧ k < 134 + 5 * (l + 1 + n)
    · rw [if_pos a, if_pos (by omega), sg_c5_out (by omega)]; congr 1; omega
    · rw [if_neg a]
      by_cases b : 134 + 5 * l ≤ k ∧ k < 134 + 5 * (l + (n + 1))
      · rw [if_pos b]
        unfold sg_c5
        rw [if_pos (by omega)]; congr 1; omega
      · rw [if_neg b, sg_c5_out (by omega)]
/-! ranges of the row -/
def sg_R (s : Nat → Int) : Prop := (0 ≤ s 0 ∧ s 0 ≤ 5) ∧ (0 ≤ s 1 ∧ s 1 ≤ 20000) ∧ (0 ≤ s 2 ∧ s 2 ≤ 9) ∧ (0 ≤ s 3 ∧ s 3 ≤ 40) ∧ (∀ k, k < 36 → 0 ≤ s (8 + k) ∧ s (8 + k) ≤ 3) ∧ (∀ i, i < 5 → (0 ≤ s (44 + 18 * i) ∧ s (44 + 18 * i) ≤ 6) ∧ (0 ≤ s (45 + 18 * i) ∧ s (45 + 18 * i) ≤ 9) ∧ (0 ≤ s (46 + 18 * i) ∧ s (46 + 18 * i) ≤ 35) ∧ (0 ≤ s (47 + 18 * i) ∧ s (47 + 18 * i) ≤ 99) ∧ (0 ≤ s (48 + 18 * i) ∧ s (48 + 18 * i) ≤ 12) ∧ (0 ≤ s (49 + 18 * i) ∧ s (49 + 18 * i) ≤ s (48 + 18 * i)) ∧ ∀ k, k < 12 → 0 ≤ s (50 + 18 * i + k) ∧ s (50 + 18 * i + k) ≤ 3)
/-! a print's ranges -/
def sg_E (s : Nat → Int) (i : Nat) : Prop := (0 ≤ sg_p s i 0 ∧ sg_p s i 0 ≤ 35) ∧ (0 ≤ sg_p s i 1 ∧ sg_p s i 1 ≤ 3) ∧ (0 ≤ sg_p s i 2 ∧ sg_p s i 2 ≤ 99) ∧ (0 ≤ sg_p s i 3 ∧ sg_p s i 3 ≤ 20000) ∧ (0 ≤ sg_p s i 4 ∧ sg_p s i 4 ≤ 4)
def sg_lt (s : Nat → Int) (i j : Nat) : Prop := sg_p s i 3 < sg_p s j 3 ∨ (sg_p s i 3 = sg_p s j 3 ∧ sg_p s i 4 < sg_p s j 4)
/-! the prints: in ranges, in order, behind them hour and rider -/
def sg_O (s : Nat → Int) (r : Int) : Prop := (∀ i : Nat, (i : Int) < s 3 → sg_E s i ∧ (sg_p s i 3 < s 1 ∨ (sg_p s i 3 = s 1 ∧ sg_p s i 4 < r))) ∧ ∀ i j : Nat, i < j → (j : Int) < s 3 → sg_lt s i j
def sg_S (s : Nat → Int) : Prop := ∀ i : Nat, (i : Int) < s 3 → s 1 ≤ sg_p s i 3 + sg_k s (sg_p s i 0)
end
section
set_option maxRecDepth 20000 in
theorem yy_s_c {m : Nat → Nat → Int} {c i : Nat} {f : Nat → Int} {v : Int} : yy_s (yy_c m c f) c i v = yy_c m c (yy_u f i v) := by unfold yy_s; rw [yy_c_c, yy_c_eq]
set_option maxRecDepth 20000 in
theorem yy_c_of {m m' : Nat → Nat → Int} {c : Nat} (h : ∀ k, k ≠ c → m' k = m k) : m' = yy_c m c (m' c) := by
  funext k
  by_cases e : k = c
  · subst e; rw [yy_c_eq]
  · rw [yy_c_ne e, h k e]
set_option maxRecDepth 20000 in
theorem c_1112_0 {sc : List Int} {d : Nat} {t : xm_W} {m : Nat → Nat → Int} {i : Nat} (h : i < 41) : xm_X (xm_old sc) xm_mt (d + 1) 1112 [.inr (.inl (some 74)), .inl ((i : Int)), .inl (0)] (yy_W (m) t) = some (some (.inl (sg_p (m 75) i 0)), (yy_W (m) t)) := by
  rw [c_1112 (by omega) (by omega) (by decide) (by decide)]
  unfold sg_p
  rw [show (134 + 5 * (i : Int) + 0).toNat = 134 + 5 * i + 0 by omega]
set_option maxRecDepth 20000 in
theorem oc_1112_0 {F : Int → xm_W → Prop} {sc : List Int} {d : Nat} {t : xm_W} {m : Nat → Nat → Int} {i : Nat} (h : i < 41) : xm_Oi (xm_X (xm_old sc) xm_mt (d + 1) 1112 [.inr (.inl (some 74)), .inl ((i : Int)), .inl (0)] (yy_W (m) t)) F = F (sg_p (m 75) i 0) (yy_W (m) t) := congrArg (fun x => xm_Oi x F) (c_1112_0 h)
set_option maxRecDepth 20000 in
theorem c_1112_1 {sc : List Int} {d : Nat} {t : xm_W} {m : Nat → Nat → Int} {i : Nat} (h : i < 41) : xm_X (xm_old sc) xm_mt (d + 1) 1112 [.inr (.inl (some 74)), .inl ((i : Int)), .inl (1)] (yy_W (m) t) = some (some (.inl (sg_p (m 75) i 1)), (yy_W (m) t)) := by
  rw [c_1112 (by omega) (by omega) (by decide) (by decide)]
  unfold sg_p
  rw [show (134 + 5 * (i : Int) + 1).toNat = 134 + 5 * i + 1 by omega]
set_option maxRecDepth 20000 in
theorem oc_1112_1 {F : Int → xm_W → Prop} {sc : List Int} {d : Nat} {t : xm_W} {m : Nat → Nat → Int} {i : Nat} (h : i < 41) : xm_Oi (xm_X (xm_old sc) xm_mt (d + 1) 1112 [.inr (.inl (some 74)), .inl ((i : Int)), .inl (1)] (yy_W (m) t)) F = F (sg_p (m 75) i 1) (yy_W (m) t) := congrArg (fun x => xm_Oi x F) (c_1112_1 h)
set_option maxRecDepth 20000 in
theorem c_1112_2 {sc : List Int} {d : Nat} {t : xm_W} {m : Nat → Nat → Int} {i : Nat} (h : i < 41) : xm_X (xm_old sc) xm_mt (d + 1) 1112 [.inr (.inl (some 74)), .inl ((i : Int)), .inl (2)] (yy_W (m) t) = some (some (.inl (sg_p (m 75) i 2)), (yy_W (m) t)) := by
  rw [c_1112 (by omega) (by omega) (by decide) (by decide)]
  unfold sg_p
  rw [show (134 + 5 * (i : Int) + 2).toNat = 134 + 5 * i + 2 by omega]
set_option maxRecDepth 20000 in
theorem oc_1112_2 {F : Int → xm_W → Prop} {sc : List Int} {d : Nat} {t : xm_W} {m : Nat → Nat → Int} {i : Nat} (h : i < 41) : xm_Oi (xm_X (xm_old sc) xm_mt (d + 1) 1112 [.inr (.inl (some 74)), .inl ((i : Int)), .inl (2)] (yy_W (m) t)) F = F (sg_p (m 75) i 2) (yy_W (m) t) := congrArg (fun x => xm_Oi x F) (c_1112_2 h)
set_option maxRecDepth 20000 in
theorem c_1112_3 {sc : List Int} {d : Nat} {t : xm_W} {m : Nat → Nat → Int} {i : Nat} (h : i < 41) : xm_X (xm_old sc) xm_mt (d + 1) 1112 [.inr (.inl (some 74)), .inl ((i : Int)), .inl (3)] (yy_W (m) t) = some (some (.inl (sg_p (m 75) i 3)), (yy_W (m) t)) := by
  rw [c_1112 (by omega) (by omega) (by decide) (by decide)]
  unfold sg_p
  rw [show (134 + 5 * (i : Int) + 3).toNat = 134 + 5 * i + 3 by omega]
set_option maxRecDepth 20000 in
theorem oc_1112_3 {F : Int → xm_W → Prop} {sc : List Int} {d : Nat} {t : xm_W} {m : Nat → Nat → Int} {i : Nat} (h : i < 41) : xm_Oi (xm_X (xm_old sc) xm_mt (d + 1) 1112 [.inr (.inl (some 74)), .inl ((i : Int)), .inl (3)] (yy_W (m) t)) F = F (sg_p (m 75) i 3) (yy_W (m) t) := congrArg (fun x => xm_Oi x F) (c_1112_3 h)
set_option maxRecDepth 20000 in
theorem c_1112_4 {sc : List Int} {d : Nat} {t : xm_W} {m : Nat → Nat → Int} {i : Nat} (h : i < 41) : xm_X (xm_old sc) xm_mt (d + 1) 1112 [.inr (.inl (some 74)), .inl ((i : Int)), .inl (4)] (yy_W (m) t) = some (some (.inl (sg_p (m 75) i 4)), (yy_W (m) t)) := by
  rw [c_1112 (by omega) (by omega) (by decide) (by decide)]
  unfold sg_p
  rw [show (134 + 5 * (i : Int) + 4).toNat = 134 + 5 * i + 4 by omega]
set_option maxRecDepth 20000 in
theorem oc_1112_4 {F : Int → xm_W → Prop} {sc : List Int} {d : Nat} {t : xm_W} {m : Nat → Nat → Int} {i : Nat} (h : i < 41) : xm_Oi (xm_X (xm_old sc) xm_mt (d + 1) 1112 [.inr (.inl (some 74)), .inl ((i : Int)), .inl (4)] (yy_W (m) t)) F = F (sg_p (m 75) i 4) (yy_W (m) t) := congrArg (fun x => xm_Oi x F) (c_1112_4 h)
set_option maxRecDepth 20000 in
theorem c_1130 {sc : List Int} {d : Nat} {t : xm_W} {m : Nat → Nat → Int} {c : Int} (h : 0 ≤ c ∧ c ≤ 35) (hf : 0 ≤ m 75 2 ∧ m 75 2 ≤ 9) : xm_X (xm_old sc) xm_mt (d + 1) 1130 [.inr (.inl (some 74)), .inl (c)] (yy_W (m) t) = some (some (.inl (sg_k (m 75) c)), (yy_W (m) t)) := by
  refine xm_X_of (M := xm_m1130) rfl ⟨xm_EQ.eq (xb_1130_0 ?_), rfl, rfl, Nat.le_of_ble_eq_true rfl, yy_hd rfl (by decide)⟩
  unfold sg_k
  by_cases h0 : m 75 (8 + c).toNat = 0
  · rw [if_pos h0]; simp (disch := first | omega | (unfold xm_w; omega)) only [↓zy_at, xm_O_some, xm_Oi_some, xm_Ov_some, xm_Oq_some, ↓reduceIte, ↓zz_t, ↓zz_f, ↓zi_t, ↓zi_f, eq_self, yy_d_0, Int.reduceEq, Int.reduceLT, Int.reduceLE, Int.reduceNe, Int.reduceToNat, Int.reduceAdd, Int.reduceSub, Int.reduceMul, Int.reduceNeg, Nat.reduceAdd, Nat.reduceMul, Nat.reduceSub, Nat.reduceEqDiff, Nat.reduceLT, ne_eq, not_false_eq_true, not_true_eq_false, true_and, and_true, and_self, yy_s_eq, yy_s_ne, yy_c_eq, yy_c_ne, yy_u_eq, yy_u_ne, xm_w_id, yy_at, tdiv_pos, tmod_pos, ↓zr_74_0, ↓zr_74_1, ↓zr_74_2, ↓zf_74_3, ↓zs_74_3, ↓zf_74_4, ↓zs_74_4, ↓zr_74_5, ↓zf_74_6, ↓zs_74_6, ↓zf_74_7, ↓zs_74_7, ↓zf_74_8, ↓zs_74_8, ↓zf_74_9, ↓zs_74_9, ↓zr_74_10, ↓zr_74_11, ↓zr_74_12, ↓zf_74_13, ↓zs_74_13, ↓zr_74_14, ↓zf_74_15, ↓zs_74_15, ↓zf_74_16, ↓zs_74_16, ↓zf_74_17, ↓zs_74_17, ↓zr_74_18, ↓zr_74_19, ↓zr_74_20, ↓zr_74_21, ↓zi_75, ↓zt_75, h0]
  · rw [if_neg h0]
    by_cases h1 : m 75 (8 + c).toNat = 1
    · rw [if_pos h1]; simp (disch := first | omega | (unfold xm_w; omega)) only [↓zy_at, xm_O_some, xm_Oi_some, xm_Ov_some, xm_Oq_some, ↓reduceIte, ↓zz_t, ↓zz_f, ↓zi_t, ↓zi_f, eq_self, yy_d_0, Int.reduceEq, Int.reduceLT, Int.reduceLE, Int.reduceNe, Int.reduceToNat, Int.reduceAdd, Int.reduceSub, Int.reduceMul, Int.reduceNeg, Nat.reduceAdd, Nat.reduceMul, Nat.reduceSub, Nat.reduceEqDiff, Nat.reduceLT, ne_eq, not_false_eq_true, not_true_eq_false, true_and, and_true, and_self, yy_s_eq, yy_s_ne, yy_c_eq, yy_c_ne, yy_u_eq, yy_u_ne, xm_w_id, yy_at, tdiv_pos, tmod_pos, ↓zr_74_0, ↓zr_74_1, ↓zr_74_2, ↓zf_74_3, ↓zs_74_3, ↓zf_74_4, ↓zs_74_4, ↓zr_74_5, ↓zf_74_6, ↓zs_74_6, ↓zf_74_7, ↓zs_74_7, ↓zf_74_8, ↓zs_74_8, ↓zf_74_9, ↓zs_74_9, ↓zr_74_10, ↓zr_74_11, ↓zr_74_12, ↓zf_74_13, ↓zs_74_13, ↓zr_74_14, ↓zf_74_15, ↓zs_74_15, ↓zf_74_16, ↓zs_74_16, ↓zf_74_17, ↓zs_74_17, ↓zr_74_18, ↓zr_74_19, ↓zr_74_20, ↓zr_74_21, ↓zi_75, ↓zt_75, h1]
    · rw [if_neg h1]
      by_cases h2 : m 75 (8 + c).toNat = 2
      · rw [if_pos h2]; simp (disch := first | omega | (unfold xm_w; omega)) only [↓zy_at, xm_O_some, xm_Oi_some, xm_Ov_some, xm_Oq_some, ↓reduceIte, ↓zz_t, ↓zz_f, ↓zi_t, ↓zi_f, eq_self, yy_d_0, Int.reduceEq, Int.reduceLT, Int.reduceLE, Int.reduceNe, Int.reduceToNat, Int.reduceAdd, Int.reduceSub, Int.reduceMul, Int.reduceNeg, Nat.reduceAdd, Nat.reduceMul, Nat.reduceSub, Nat.reduceEqDiff, Nat.reduceLT, ne_eq, not_false_eq_true, not_true_eq_false, true_and, and_true, and_self, yy_s_eq, yy_s_ne, yy_c_eq, yy_c_ne, yy_u_eq, yy_u_ne, xm_w_id, yy_at, tdiv_pos, tmod_pos, ↓zr_74_0, ↓zr_74_1, ↓zr_74_2, ↓zf_74_3, ↓zs_74_3, ↓zf_74_4, ↓zs_74_4, ↓zr_74_5, ↓zf_74_6, ↓zs_74_6, ↓zf_74_7, ↓zs_74_7, ↓zf_74_8, ↓zs_74_8, ↓zf_74_9, ↓zs_74_9, ↓zr_74_10, ↓zr_74_11, ↓zr_74_12, ↓zf_74_13, ↓zs_74_13, ↓zr_74_14, ↓zf_74_15, ↓zs_74_15, ↓zf_74_16, ↓zs_74_16, ↓zf_74_17, ↓zs_74_17, ↓zr_74_18, ↓zr_74_19, ↓zr_74_20, ↓zr_74_21, ↓zi_75, ↓zt_75, h2]
      · rw [if_neg h2]; simp (disch := first | omega | (unfold xm_w; omega)) only [↓zy_at, xm_O_some, xm_Oi_some, xm_Ov_some, xm_Oq_some, ↓reduceIte, ↓zz_t, ↓zz_f, ↓zi_t, ↓zi_f, eq_self, yy_d_0, Int.reduceEq, Int.reduceLT, Int.reduceLE, Int.reduceNe, Int.reduceToNat, Int.reduceAdd, Int.reduceSub, Int.reduceMul, Int.reduceNeg, Nat.reduceAdd, Nat.reduceMul, Nat.reduceSub, Nat.reduceEqDiff, Nat.reduceLT, ne_eq, not_false_eq_true, not_true_eq_false, true_and, and_true, and_self, yy_s_eq, yy_s_ne, yy_c_eq, yy_c_ne, yy_u_eq, yy_u_ne, xm_w_id, yy_at, tdiv_pos, tmod_pos, ↓zr_74_0, ↓zr_74_1, ↓zr_74_2, ↓zf_74_3, ↓zs_74_3, ↓zf_74_4, ↓zs_74_4, ↓zr_74_5, ↓zf_74_6, ↓zs_74_6, ↓zf_74_7, ↓zs_74_7, ↓zf_74_8, ↓zs_74_8, ↓zf_74_9, ↓zs_74_9, ↓zr_74_10, ↓zr_74_11, ↓zr_74_12, ↓zf_74_13, ↓zs_74_13, ↓zr_74_14, ↓zf_74_15, ↓zs_74_15, ↓zf_74_16, ↓zs_74_16, ↓zf_74_17, ↓zs_74_17, ↓zr_74_18, ↓zr_74_19, ↓zr_74_20, ↓zr_74_21, ↓zi_75, ↓zt_75]
set_option maxRecDepth 20000 in
theorem oc_1130 {F : Int → xm_W → Prop} {sc : List Int} {d : Nat} {t : xm_W} {m : Nat → Nat → Int} {c : Int} (h : 0 ≤ c ∧ c ≤ 35) (hf : 0 ≤ m 75 2 ∧ m 75 2 ≤ 9) : xm_Oi (xm_X (xm_old sc) xm_mt (d + 1) 1130 [.inr (.inl (some 74)), .inl (c)] (yy_W (m) t)) F = F (sg_k (m 75) c) (yy_W (m) t) := congrArg (fun x => xm_Oi x F) (c_1130 h hf)
set_option maxRecDepth 20000 in
theorem sg_k_r {s : Nat → Int} {c : Int} (hf : 0 ≤ s 2 ∧ s 2 ≤ 9) : 0 ≤ sg_k s c ∧ sg_k s c ≤ 18 := by
  unfold sg_k; repeat' split
  all_goals omega
set_option maxRecDepth 20000 in
theorem c_1131 {sc : List Int} {d : Nat} {t : xm_W} {m : Nat → Nat → Int} {c h : Int} (hc : 0 ≤ c ∧ c ≤ 35) (hh : 0 ≤ h ∧ h ≤ 20100) (hf : 0 ≤ m 75 2 ∧ m 75 2 ≤ 9) : xm_X (xm_old sc) xm_mt (d + 2) 1131 [.inr (.inl (some 74)), .inl (c), .inl (h)] (yy_W (m) t) = some (some (.inl (if m 75 1 ≤ h + sg_k (m 75) c then 1 else 0)), (yy_W (m) t)) := by
  refine xm_X_of (M := xm_m1131) rfl ⟨xm_EQ.eq (xb_1131_0 ?_), ?_, rfl, Nat.le_of_ble_eq_true rfl, yy_hd rfl (by decide)⟩
  · have hk := sg_k_r (c := c) hf
    by_cases e : m 75 1 ≤ h + sg_k (m 75) c
    · rw [if_pos e]; simp (disch := first | omega | (unfold xm_w; omega)) only [↓zy_at, xm_O_some, xm_Oi_some, xm_Ov_some, xm_Oq_some, ↓reduceIte, ↓zz_t, ↓zz_f, ↓zi_t, ↓zi_f, eq_self, yy_d_0, Int.reduceEq, Int.reduceLT, Int.reduceLE, Int.reduceNe, Int.reduceToNat, Int.reduceAdd, Int.reduceSub, Int.reduceMul, Int.reduceNeg, Nat.reduceAdd, Nat.reduceMul, Nat.reduceSub, Nat.reduceEqDiff, Nat.reduceLT, ne_eq, not_false_eq_true, not_true_eq_false, true_and, and_true, and_self, yy_s_eq, yy_s_ne, yy_c_eq, yy_c_ne, yy_u_eq, yy_u_ne, xm_w_id, yy_at, tdiv_pos, tmod_pos, ↓zr_74_0, ↓zr_74_1, ↓zr_74_2, ↓zf_74_3, ↓zs_74_3, ↓zf_74_4, ↓zs_74_4, ↓zr_74_5, ↓zf_74_6, ↓zs_74_6, ↓zf_74_7, ↓zs_74_7, ↓zf_74_8, ↓zs_74_8, ↓zf_74_9, ↓zs_74_9, ↓zr_74_10, ↓zr_74_11, ↓zr_74_12, ↓zf_74_13, ↓zs_74_13, ↓zr_74_14, ↓zf_74_15, ↓zs_74_15, ↓zf_74_16, ↓zs_74_16, ↓zf_74_17, ↓zs_74_17, ↓zr_74_18, ↓zr_74_19, ↓zr_74_20, ↓zr_74_21, ↓zi_75, ↓zt_75, ↓oc_1130 hc hf]
    · rw [if_neg e]; simp (disch := first | omega | (unfold xm_w; omega)) only [↓zy_at, xm_O_some, xm_Oi_some, xm_Ov_some, xm_Oq_some, ↓reduceIte, ↓zz_t, ↓zz_f, ↓zi_t, ↓zi_f, eq_self, yy_d_0, Int.reduceEq, Int.reduceLT, Int.reduceLE, Int.reduceNe, Int.reduceToNat, Int.reduceAdd, Int.reduceSub, Int.reduceMul, Int.reduceNeg, Nat.reduceAdd, Nat.reduceMul, Nat.reduceSub, Nat.reduceEqDiff, Nat.reduceLT, ne_eq, not_false_eq_true, not_true_eq_false, true_and, and_true, and_self, yy_s_eq, yy_s_ne, yy_c_eq, yy_c_ne, yy_u_eq, yy_u_ne, xm_w_id, yy_at, tdiv_pos, tmod_pos, ↓zr_74_0, ↓zr_74_1, ↓zr_74_2, ↓zf_74_3, ↓zs_74_3, ↓zf_74_4, ↓zs_74_4, ↓zr_74_5, ↓zf_74_6, ↓zs_74_6, ↓zf_74_7, ↓zs_74_7, ↓zf_74_8, ↓zs_74_8, ↓zf_74_9, ↓zs_74_9, ↓zr_74_10, ↓zr_74_11, ↓zr_74_12, ↓zf_74_13, ↓zs_74_13, ↓zr_74_14, ↓zf_74_15, ↓zs_74_15, ↓zf_74_16, ↓zs_74_16, ↓zf_74_17, ↓zs_74_17, ↓zr_74_18, ↓zr_74_19, ↓zr_74_20, ↓zr_74_21, ↓zi_75, ↓zt_75, ↓oc_1130 hc hf]
  · show (_ == _ || _ == _) = true
    split <;> rfl
set_option maxRecDepth 20000 in
theorem oc_1131 {F : Int → xm_W → Prop} {sc : List Int} {d : Nat} {t : xm_W} {m : Nat → Nat → Int} {c h : Int} (hc : 0 ≤ c ∧ c ≤ 35) (hh : 0 ≤ h ∧ h ≤ 20100) (hf : 0 ≤ m 75 2 ∧ m 75 2 ≤ 9) : xm_Oi (xm_X (xm_old sc) xm_mt (d + 2) 1131 [.inr (.inl (some 74)), .inl (c), .inl (h)] (yy_W (m) t)) F = F (if m 75 1 ≤ h + sg_k (m 75) c then 1 else 0) (yy_W (m) t) := congrArg (fun x => xm_Oi x F) (c_1131 hc hh hf)
def sg_cw (s : Nat → Int) (i l w : Nat) : Nat → Int := fun k => if 134 + 5 * l ≤ k ∧ k < 134 + 5 * l + w then s (k - 5 * l + 5 * i) else s k
set_option maxRecDepth 20000 in
theorem sg_cw0 {s : Nat → Int} {i l : Nat} : sg_cw s i l 0 = s := by funext k; unfold sg_cw; rw [if_neg (by omega)]
set_option maxRecDepth 20000 in
theorem sg_cw5 {s : Nat → Int} {i l : Nat} : sg_cw s i l 5 = sg_c5 s i l := rfl
set_option maxRecDepth 20000 in
theorem l_1132w {sc : List Int} {d : Nat} {t : xm_W} {m : Nat → Nat → Int} {s : Nat → Int} {Q : Option xm_V × xm_W → Prop} {o c n : Int} {i l w : Nat} (hl : l ≤ i) (hi : i < 41) (hw : w < 5) (h : xm_EQ (xm_old sc) xm_sta (xm_X (xm_old sc) xm_mt (d + 4)) xm_c1132 34 [some (.inr (.inl (some 74))), some (.inl (o)), some (.inl (c)), some (.inl ((l : Int))), some (.inl (n)), some (.inl ((i : Int))), some (.inl (((w + 1 : Nat) : Int)))] [] (yy_W (yy_c m 75 (sg_cw s i l (w + 1))) t) Q) : xm_EQ (xm_old sc) xm_sta (xm_X (xm_old sc) xm_mt (d + 4)) xm_c1132 34 [some (.inr (.inl (some 74))), some (.inl (o)), some (.inl (c)), some (.inl ((l : Int))), some (.inl (n)), some (.inl ((i : Int))), some (.inl ((w : Int)))] [] (yy_W (yy_c m 75 (sg_cw s i l w)) t) Q := by
  refine xb_1132_34 ?_
  rw [if_pos (by omega)]
  simp (disch := first | omega | (unfold xm_w; omega)) only [↓zy_at, xm_O_some, xm_Oi_some, xm_Ov_some, xm_Oq_some, ↓reduceIte, ↓zz_t, ↓zz_f, ↓zi_t, ↓zi_f, eq_self, yy_d_0, Int.reduceEq, Int.reduceLT, Int.reduceLE, Int.reduceNe, Int.reduceToNat, Int.reduceAdd, Int.reduceSub, Int.reduceMul, Int.reduceNeg, Nat.reduceAdd, Nat.reduceMul, Nat.reduceSub, Nat.reduceEqDiff, Nat.reduceLT, ne_eq, not_false_eq_true, not_true_eq_false, true_and, and_true, and_self, yy_s_eq, yy_s_ne, yy_c_eq, yy_c_ne, yy_u_eq, yy_u_ne, xm_w_id, yy_at, tdiv_pos, tmod_pos, ↓zr_74_0, ↓zr_74_1, ↓zr_74_2, ↓zf_74_3, ↓zs_74_3, ↓zf_74_4, ↓zs_74_4, ↓zr_74_5, ↓zf_74_6, ↓zs_74_6, ↓zf_74_7, ↓zs_74_7, ↓zf_74_8, ↓zs_74_8, ↓zf_74_9, ↓zs_74_9, ↓zr_74_10, ↓zr_74_11, ↓zr_74_12, ↓zf_74_13, ↓zs_74_13, ↓zr_74_14, ↓zf_74_15, ↓zs_74_15, ↓zf_74_16, ↓zs_74_16, ↓zf_74_17, ↓zs_74_17, ↓zr_74_18, ↓zr_74_19, ↓zr_74_20, ↓zr_74_21, ↓zi_75, ↓zt_75, ↓oc_1112]
  have e : yy_s (yy_c m 75 (sg_cw s i l w)) 75 (134 + 5 * (l : Int) + w).toNat (sg_cw s i l w (134 + 5 * (i : Int) + w).toNat) = yy_c m 75 (sg_cw s i l (w + 1)) := by
    rw [yy_s_c]
    congr 1
    funext k
    rw [show (134 + 5 * (l : Int) + w).toNat = 134 + 5 * l + w by omega, show (134 + 5 * (i : Int) + w).toNat = 134 + 5 * i + w by omega]
    have ev : sg_cw s i l w (134 + 5 * i + w) = s (134 + 5 * i + w) := by
      unfold sg_cw
      by_cases e : l = i
      · rw [if_neg (by omega)]
      · rw [if_neg (by omega)]
    rw [ev]
    unfold yy_u sg_cw
    by_cases e : k = 134 + 5 * l + w
    · rw [if_pos e, if_pos (by omega)]; congr 1; omega
    · rw [if_neg e]
      by_cases e2 : 134 + 5 * l ≤ k ∧ k < 134 + 5 * l + w
      · rw [if_pos e2, if_pos (by omega)]
      · rw [if_neg e2, if_neg (by omega)]
  rw [e, show (w : Int) + 1 = ((w + 1 : Nat) : Int) by omega]
  exact h
set_option maxRecDepth 20000 in
theorem l_1132i {sc : List Int} {d : Nat} {t : xm_W} {m : Nat → Nat → Int} {s : Nat → Int} {Q : Option xm_V × xm_W → Prop} {o c n : Int} {i l : Nat} (hl : l ≤ i) (hi : i < 41) (h : xm_EQ (xm_old sc) xm_sta (xm_X (xm_old sc) xm_mt (d + 4)) xm_c1132 9 [some (.inr (.inl (some 74))), some (.inl (o)), some (.inl (c)), some (.inl (((l + 1 : Nat) : Int))), some (.inl (n)), some (.inl (((i + 1 : Nat) : Int))), some (.inl (5))] [] (yy_W (yy_c m 75 (sg_c5 s i l)) t) Q) : xm_EQ (xm_old sc) xm_sta (xm_X (xm_old sc) xm_mt (d + 4)) xm_c1132 34 [some (.inr (.inl (some 74))), some (.inl (o)), some (.inl (c)), some (.inl ((l : Int))), some (.inl (n)), some (.inl ((i : Int))), some (.inl (0))] [] (yy_W (yy_c m 75 s) t) Q := by
  have := l_1132w (sc := sc) (d := d) (t := t) (m := m) (s := s) (Q := Q) (o := o) (c := c) (n := n) (w := 0) hl hi (by decide) (l_1132w (w := 1) hl hi (by decide) (l_1132w (w := 2) hl hi (by decide) (l_1132w (w := 3) hl hi (by decide) (l_1132w (w := 4) hl hi (by decide) ?_))))
  · rw [sg_cw0] at this
    exact this
  · refine xb_1132_34 ?_
    rw [if_neg (by decide), xm_w_id (by omega) (by omega), xm_w_id (by omega) (by omega), show (l : Int) + 1 = ((l + 1 : Nat) : Int) by omega, show (i : Int) + 1 = ((i + 1 : Nat) : Int) by omega]
    exact h
/-! the prints' bounds that the walk needs -/
def sg_B (s : Nat → Int) : Prop := (0 ≤ s 2 ∧ s 2 ≤ 9) ∧ (0 ≤ s 3 ∧ s 3 ≤ 41) ∧ ∀ i : Nat, (i : Int) < s 3 → (0 ≤ sg_p s i 0 ∧ sg_p s i 0 ≤ 35) ∧ (0 ≤ sg_p s i 3 ∧ sg_p s i 3 ≤ 20000)
set_option maxRecDepth 20000 in
theorem l_1132 {sc : List Int} {d : Nat} {t : xm_W} {m : Nat → Nat → Int} {s0 : Nat → Int} {Q : Option xm_V × xm_W → Prop} {o c : Int} (hB : sg_B s0) : ∀ (k i l : Nat) (s : Nat → Int) (u : Option xm_V), ((i + k : Nat) : Int) = s0 3 → l ≤ i → (∀ q, (q < 134 ∨ 134 + 5 * i ≤ q) → s q = s0 q) → Q ((none, (yy_W (yy_c m 75 (yy_u (sg_cl (sg_K s0 o c) k i l s).1 3 (sg_cl (sg_K s0 o c) k i l s).2)) t))) → xm_EQ (xm_old sc) xm_sta (xm_X (xm_old sc) xm_mt (d + 4)) xm_c1132 9 [some (.inr (.inl (some 74))), some (.inl (o)), some (.inl (c)), some (.inl ((l : Int))), some (.inl (s0 3)), some (.inl ((i : Int))), u] [] (yy_W (yy_c m 75 s) t) Q
  | 0, i, l, s, u, hk, hl, hs, hQ => by
    refine xb_1132_9 ?_
    rw [if_neg (by omega)]
    simp (disch := first | omega | (unfold xm_w; omega)) only [↓zy_at, xm_O_some, xm_Oi_some, xm_Ov_some, xm_Oq_some, ↓reduceIte, ↓zz_t, ↓zz_f, ↓zi_t, ↓zi_f, eq_self, yy_d_0, Int.reduceEq, Int.reduceLT, Int.reduceLE, Int.reduceNe, Int.reduceToNat, Int.reduceAdd, Int.reduceSub, Int.reduceMul, Int.reduceNeg, Nat.reduceAdd, Nat.reduceMul, Nat.reduceSub, Nat.reduceEqDiff, Nat.reduceLT, ne_eq, not_false_eq_true, not_true_eq_false, true_and, and_true, and_self, yy_s_eq, yy_s_ne, yy_c_eq, yy_c_ne, yy_u_eq, yy_u_ne, xm_w_id, yy_at, tdiv_pos, tmod_pos, ↓zr_74_0, ↓zr_74_1, ↓zr_74_2, ↓zf_74_3, ↓zs_74_3, ↓zf_74_4, ↓zs_74_4, ↓zr_74_5, ↓zf_74_6, ↓zs_74_6, ↓zf_74_7, ↓zs_74_7, ↓zf_74_8, ↓zs_74_8, ↓zf_74_9, ↓zs_74_9, ↓zr_74_10, ↓zr_74_11, ↓zr_74_12, ↓zf_74_13, ↓zs_74_13, ↓zr_74_14, ↓zf_74_15, ↓zs_74_15, ↓zf_74_16, ↓zs_74_16, ↓zf_74_17, ↓zs_74_17, ↓zr_74_18, ↓zr_74_19, ↓zr_74_20, ↓zr_74_21, ↓zi_75, ↓zt_75]
    rw [yy_s_c]
    exact hQ
  | k + 1, i, l, s, u, hk, hl, hs, hQ => by
    obtain ⟨b1, b2, b3⟩ := id hB
    have b4 := b3 i (by omega)
    have e0 : sg_p s i 0 = sg_p s0 i 0 := hs _ (Or.inr (by omega))
    have e3 : sg_p s i 3 = sg_p s0 i 3 := hs _ (Or.inr (by omega))
    have ek : sg_k s (sg_p s0 i 0) = sg_k s0 (sg_p s0 i 0) := by
      unfold sg_k
      rw [hs _ (Or.inl (by omega)), hs 2 (Or.inl (by decide))]
    have e1 : s 1 = s0 1 := hs 1 (Or.inl (by decide))
    have hf : 0 ≤ s 2 ∧ s 2 ≤ 9 := by rw [hs 2 (Or.inl (by decide))]; exact b1
    have next : ∀ u, xm_EQ (xm_old sc) xm_sta (xm_X (xm_old sc) xm_mt (d + 4)) xm_c1132 9 [some (.inr (.inl (some 74))), some (.inl (o)), some (.inl (c)), some (.inl ((l : Int))), some (.inl (s0 3)), some (.inl ((i : Int) + 1)), u] [] (yy_W (yy_c m 75 s) t) Q ∨ sg_K s0 o c i = true := by
      intro u
      by_cases hK : sg_K s0 o c i = true
      · exact Or.inr hK
      · left
        unfold sg_cl at hQ
        rw [if_neg hK] at hQ
        have := l_1132 (sc := sc) (d := d) (t := t) (m := m) (o := o) (c := c) hB k (i + 1) l s u (by omega) (by omega) (fun q hq => hs q (by omega)) hQ
        rw [show ((i + 1 : Nat) : Int) = (i : Int) + 1 by omega] at this
        exact this
    have hKi : sg_K s0 o c i = decide (o ≤ i ∧ sg_p s0 i 0 ≠ c ∧ s0 1 ≤ sg_p s0 i 3 + sg_k s0 (sg_p s0 i 0)) := rfl
    refine xb_1132_9 ?_
    rw [if_pos (by omega)]
    by_cases g1 : (i : Int) < o
    · have hn : ¬ (sg_K s0 o c i = true) := by rw [hKi, decide_eq_true_iff]; omega
      rw [if_pos g1, xm_w_id (by omega) (by omega)]
      exact (next u).resolve_right hn
    · rw [if_neg g1, oc_1112_0 (by omega), yy_c_eq, e0]
      by_cases g2 : sg_p s0 i 0 = c
      · have hn : ¬ (sg_K s0 o c i = true) := by rw [hKi, decide_eq_true_iff]; exact fun h => h.2.1 g2
        rw [if_pos g2, xm_w_id (by omega) (by omega)]
        exact (next u).resolve_right hn
      · rw [if_neg g2, oc_1112_0 (by omega), oc_1112_3 (by omega), yy_c_eq, e0, e3, oc_1131 b4.1 (by omega) (by rw [yy_c_eq]; exact hf), yy_c_eq, e1, ek]
        by_cases g3 : s0 1 ≤ sg_p s0 i 3 + sg_k s0 (sg_p s0 i 0)
        · have hn : sg_K s0 o c i = true := by rw [hKi, decide_eq_true_iff]; exact ⟨by omega, g2, g3⟩
          rw [zz_t g3]
          refine l_1132i hl (by omega) ?_
          unfold sg_cl at hQ
          rw [if_pos hn] at hQ
          exact l_1132 hB k (i + 1) (l + 1) (sg_c5 s i l) (some (.inl 5)) (by omega) (by omega) (fun q hq => by rw [sg_c5_out (by omega)]; exact hs q (by omega)) hQ
        · have hn : ¬ (sg_K s0 o c i = true) := by rw [hKi, decide_eq_true_iff]; exact fun h => g3 h.2.2
          rw [zz_f g3, xm_w_id (by omega) (by omega)]
          exact (next u).resolve_right hn
set_option maxRecDepth 20000 in
theorem c_1132 {sc : List Int} {d : Nat} {t : xm_W} {m : Nat → Nat → Int} {o c : Int} (hB : sg_B (m 75)) : xm_X (xm_old sc) xm_mt (d + 5) 1132 [.inr (.inl (some 74)), .inl (o), .inl (c)] (yy_W (m) t) = some (none, (yy_W (yy_c m 75 (sg_clr (sg_K (m 75) o c) (m 75))) t)) := by
  refine xm_X_of (M := xm_m1132) rfl ⟨xm_EQ.eq (xb_1132_0 ?_), rfl, rfl, Nat.le_of_ble_eq_true rfl, yy_hd rfl (by decide)⟩
  simp (disch := first | omega | (unfold xm_w; omega)) only [↓zy_at, xm_O_some, xm_Oi_some, xm_Ov_some, xm_Oq_some, ↓reduceIte, ↓zz_t, ↓zz_f, ↓zi_t, ↓zi_f, eq_self, yy_d_0, Int.reduceEq, Int.reduceLT, Int.reduceLE, Int.reduceNe, Int.reduceToNat, Int.reduceAdd, Int.reduceSub, Int.reduceMul, Int.reduceNeg, Nat.reduceAdd, Nat.reduceMul, Nat.reduceSub, Nat.reduceEqDiff, Nat.reduceLT, ne_eq, not_false_eq_true, not_true_eq_false, true_and, and_true, and_self, yy_s_eq, yy_s_ne, yy_c_eq, yy_c_ne, yy_u_eq, yy_u_ne, xm_w_id, yy_at, tdiv_pos, tmod_pos, ↓zr_74_0, ↓zr_74_1, ↓zr_74_2, ↓zf_74_3, ↓zs_74_3, ↓zf_74_4, ↓zs_74_4, ↓zr_74_5, ↓zf_74_6, ↓zs_74_6, ↓zf_74_7, ↓zs_74_7, ↓zf_74_8, ↓zs_74_8, ↓zf_74_9, ↓zs_74_9, ↓zr_74_10, ↓zr_74_11, ↓zr_74_12, ↓zf_74_13, ↓zs_74_13, ↓zr_74_14, ↓zf_74_15, ↓zs_74_15, ↓zf_74_16, ↓zs_74_16, ↓zf_74_17, ↓zs_74_17, ↓zr_74_18, ↓zr_74_19, ↓zr_74_20, ↓zr_74_21, ↓zi_75, ↓zt_75]
  have := l_1132 (sc := sc) (d := d) (t := t) (m := m) (s0 := m 75) (Q := fun q => (none, (yy_W (yy_c m 75 (sg_clr (sg_K (m 75) o c) (m 75))) t)) = q) (o := o) (c := c) hB (m 75 3).toNat 0 0 (m 75) none (by have := hB.2.1; omega) (by decide) (fun q _ => rfl) rfl
  rw [yy_c_id] at this
  exact this
set_option maxRecDepth 20000 in
theorem oc_1132 {F : xm_W → Prop} {sc : List Int} {d : Nat} {t : xm_W} {m : Nat → Nat → Int} {o c : Int} (hB : sg_B (m 75)) : xm_Ov (xm_X (xm_old sc) xm_mt (d + 5) 1132 [.inr (.inl (some 74)), .inl (o), .inl (c)] (yy_W (m) t)) F = F (yy_W (yy_c m 75 (sg_clr (sg_K (m 75) o c) (m 75))) t) := congrArg (fun x => xm_Ov x F) (c_1132 hB)
end
section
/-! TEXTS as steps in the reference's row, and what they give -/
def sg_tw (s : Nat → Int) (u k : Nat) : Int := s (340 + 125 * u + 2 * k)
def sg_tv (s : Nat → Int) (u k : Nat) : Int := s (341 + 125 * u + 2 * k)
def sg_tn (s : Nat → Int) (u : Nat) : Int := s (339 + 125 * u)
def sg_st (nm : Int → Int) (w v : Int) (f : Nat → Int) (n : Nat) : (Nat → Int) × Nat := if w = 0 then (yy_u f n v, n + 1) else if w = 1 then (yy_u f n (nm v), n + 1) else if w = 2 then (yy_u f (n - 1) (if f (n - 1) = 0 then 1 else 0), n) else (yy_u f (n - 2) (sp_join v (f (n - 2)) (f (n - 1))), n - 1)
set_option maxRecDepth 20000 in
theorem sg_st_2 {nm : Int → Int} {v : Int} {f : Nat → Int} {n : Nat} : sg_st nm 2 v f n = (yy_u f (n - 1) (if f (n - 1) = 0 then 1 else 0), n) := by
  unfold sg_st; rw [if_neg (by decide), if_neg (by decide), if_pos rfl]
def sg_rn (s : Nat → Int) (u : Nat) (nm : Int → Int) : Nat → (Nat → Int) × Nat
  | 0 => (fun _ => 0, 0)
  | k + 1 => sg_st nm (sg_tw s u k) (sg_tv s u k) (sg_rn s u nm k).1 (sg_rn s u nm k).2
def sg_val (s : Nat → Int) (u : Nat) (nm : Int → Int) : Int := (sg_rn s u nm (sg_tn s u).toNat).1 0
/-! how high the pile stands -/
def sg_d (s : Nat → Int) (u : Nat) : Nat → Int
  | 0 => 0
  | k + 1 => sg_d s u k + (if sg_tw s u k = 0 ∨ sg_tw s u k = 1 then 1 else if sg_tw s u k = 2 then 0 else -1)
def sg_nm (u : Nat) (v : Int) : Prop := if u = 0 then v = 119 ∨ v = 115 ∨ v = 109 ∨ v = 103 else v = 110 ∨ v = 100 ∨ v = 97
def sg_tok (s : Nat → Int) (u k : Nat) : Prop := (sg_tw s u k = 0 ∧ 0 ≤ sg_tv s u k ∧ sg_tv s u k ≤ 9999) ∨ (sg_tw s u k = 1 ∧ sg_nm u (sg_tv s u k)) ∨ (sg_tw s u k = 2 ∧ 1 ≤ sg_d s u k) ∨ (sg_tw s u k = 3 ∧ 2 ≤ sg_d s u k ∧ sp_sign (sg_tv s u k))
def sg_T (s : Nat → Int) (u : Nat) : Prop := (0 ≤ sg_tn s u ∧ sg_tn s u ≤ 60) ∧ (0 < sg_tn s u → 1 ≤ sg_d s u (sg_tn s u).toNat) ∧ ∀ k : Nat, (k : Int) < sg_tn s u → sg_tok s u k
set_option maxRecDepth 20000 in
theorem sg_d_b {s : Nat → Int} {u : Nat} : ∀ k, sg_d s u k ≤ k
  | 0 => by unfold sg_d; omega
  | k + 1 => by
    unfold sg_d
    have := sg_d_b (s := s) (u := u) k
    split
    · omega
    · split <;> omega
set_option maxRecDepth 20000 in
theorem sg_rn_d {s : Nat → Int} {u : Nat} {nm : Int → Int} (h : sg_T s u) : ∀ k : Nat, (k : Int) ≤ sg_tn s u → 0 ≤ sg_d s u k ∧ (sg_rn s u nm k).2 = (sg_d s u k).toNat
  | 0, _ => ⟨by unfold sg_d; omega, rfl⟩
  | k + 1, hk => by
    obtain ⟨h1, h2⟩ := sg_rn_d (nm := nm) h k (by omega)
    have ht := h.2.2 k (by omega)
    unfold sg_d sg_rn sg_st
    rcases ht with ⟨a, _⟩ | ⟨a, _⟩ | ⟨a, b⟩ | ⟨a, b, _⟩
    · rw [if_pos (Or.inl a), if_pos a]; exact ⟨by omega, by show (sg_rn s u nm k).2 + 1 = _; omega⟩
    · rw [if_pos (Or.inr a), if_neg (by omega), if_pos a]; exact ⟨by omega, by show (sg_rn s u nm k).2 + 1 = _; omega⟩
    · rw [if_neg (by omega), if_pos a, if_neg (by omega), if_neg (by omega), if_pos a]; exact ⟨by omega, by show (sg_rn s u nm k).2 = _; omega⟩
    · rw [if_neg (by omega), if_neg (by omega), if_neg (by omega), if_neg (by omega), if_neg (by omega)]; exact ⟨by omega, by show (sg_rn s u nm k).2 - 1 = _; omega⟩
set_option maxRecDepth 20000 in
theorem sg_nm_b {u : Nat} {v : Int} (h : sg_nm u v) : 0 ≤ v ∧ v < 128 := by
  unfold sg_nm at h
  split at h <;> omega
set_option maxRecDepth 20000 in
theorem l_1129 {sc : List Int} {d : Nat} {t : xm_W} {Q : Option xm_V × xm_W → Prop} {u : Nat} (hu : u < 2) {s : Nat → Int} {na : Nat → Int} (hT : sg_T s u) (h0 : 0 < sg_tn s u) : ∀ (k i : Nat) (m : Nat → Nat → Int) (v w : Option xm_V), ((i + k : Nat) : Int) = sg_tn s u → m 75 = s → m 80 = na → (∀ j, j < (sg_rn s u (fun v => na v.toNat) i).2 → m 81 j = (sg_rn s u (fun v => na v.toNat) i).1 j) → (∀ m', (∀ c, c ≠ 81 → m' c = m c) → Q ((some (.inl (sg_val s u (fun v => na v.toNat))), (yy_W (m') t)))) → xm_EQ (xm_old sc) xm_sta (xm_X (xm_old sc) xm_mt (d + 1)) xm_c1129 10 [some (.inr (.inl (some 74))), some (.inl ((u : Int))), some (.inl (((339 + 125 * u : Nat) : Int))), some (.inl ((sg_d s u i))), some (.inl ((i : Int))), v, w] [] (yy_W (m) t) Q
  | 0, i, m, v, w, hk, hs, hn, hp, hQ => by
    obtain ⟨t1, t2, t3⟩ := id hT
    obtain ⟨d1, d2⟩ := sg_rn_d (nm := fun v => na v.toNat) hT i (by omega)
    have ei : i = (sg_tn s u).toNat := by omega
    have hd := t2 h0
    rw [← ei] at hd
    have eN : s (((339 + 125 * u : Nat) : Int)).toNat = sg_tn s u := rfl
    refine xb_1129_10 ?_
    simp (disch := first | omega | (unfold xm_w; omega)) only [↓zy_at, xm_O_some, xm_Oi_some, xm_Ov_some, xm_Oq_some, ↓reduceIte, ↓zz_t, ↓zz_f, ↓zi_t, ↓zi_f, eq_self, yy_d_0, Int.reduceEq, Int.reduceLT, Int.reduceLE, Int.reduceNe, Int.reduceToNat, Int.reduceAdd, Int.reduceSub, Int.reduceMul, Int.reduceNeg, Nat.reduceAdd, Nat.reduceMul, Nat.reduceSub, Nat.reduceEqDiff, Nat.reduceLT, ne_eq, not_false_eq_true, not_true_eq_false, true_and, and_true, and_self, yy_s_eq, yy_s_ne, yy_c_eq, yy_c_ne, yy_u_eq, yy_u_ne, xm_w_id, yy_at, tdiv_pos, tmod_pos, ↓zr_74_0, ↓zr_74_1, ↓zr_74_2, ↓zf_74_3, ↓zs_74_3, ↓zf_74_4, ↓zs_74_4, ↓zr_74_5, ↓zf_74_6, ↓zs_74_6, ↓zf_74_7, ↓zs_74_7, ↓zf_74_8, ↓zs_74_8, ↓zf_74_9, ↓zs_74_9, ↓zr_74_10, ↓zr_74_11, ↓zr_74_12, ↓zf_74_13, ↓zs_74_13, ↓zr_74_14, ↓zf_74_15, ↓zs_74_15, ↓zf_74_16, ↓zs_74_16, ↓zf_74_17, ↓zs_74_17, ↓zr_74_18, ↓zr_74_19, ↓zr_74_20, ↓zr_74_21, ↓zi_75, ↓zt_75, ↓zi_81, ↓zt_81, hs, eN]
    have := hQ m fun c _ => rfl
    unfold sg_val at this
    rw [← ei, ← hp 0 (by omega)] at this
    exact this
  | k + 1, i, m, v, w, hk, hs, hn, hp, hQ => by
    obtain ⟨t1, t2, t3⟩ := id hT
    obtain ⟨d1, d2⟩ := sg_rn_d (nm := fun v => na v.toNat) hT i (by omega)
    have db := sg_d_b (s := s) (u := u) i
    have hi : (i : Int) < s (339 + 125 * u) := by unfold sg_tn at hk; omega
    have hn60 : (i : Int) < 60 := by unfold sg_tn at hk t1; omega
    have ew : s (340 + 125 * u + 2 * i) = sg_tw s u i := rfl
    have ev : s (341 + 125 * u + 2 * i) = sg_tv s u i := rfl
    have e1 : ((339 + 125 * u : Nat) : Int) + 1 + 2 * (i : Int) = ((340 + 125 * u + 2 * i : Nat) : Int) := by omega
    have e2 : ((339 + 125 * u : Nat) : Int) + 2 + 2 * (i : Int) = ((341 + 125 * u + 2 * i : Nat) : Int) := by omega
    have eN : s (((339 + 125 * u : Nat) : Int)).toNat = sg_tn s u := rfl
    have eW : s (((339 + 125 * u : Nat) : Int) + 1 + 2 * (i : Int)).toNat = sg_tw s u i := by rw [e1]; rfl
    have eV : s (((339 + 125 * u : Nat) : Int) + 2 + 2 * (i : Int)).toNat = sg_tv s u i := by rw [e2]; rfl
    have hi2 : (i : Int) < sg_tn s u := hi
    have step : ∀ m1, m1 75 = s → m1 80 = na → (∀ c, c ≠ 81 → m1 c = m c) → (∀ j, j < (sg_rn s u (fun v => na v.toNat) (i + 1)).2 → m1 81 j = (sg_rn s u (fun v => na v.toNat) (i + 1)).1 j) → ∀ v w, xm_EQ (xm_old sc) xm_sta (xm_X (xm_old sc) xm_mt (d + 1)) xm_c1129 10 [some (.inr (.inl (some 74))), some (.inl ((u : Int))), some (.inl (((339 + 125 * u : Nat) : Int))), some (.inl ((sg_d s u (i + 1)))), some (.inl ((i : Int) + 1)), v, w] [] (yy_W (m1) t) Q := by
      intro m1 a1 a2 a3 a4 v w
      have := l_1129 (sc := sc) (d := d) (t := t) (Q := Q) hu hT h0 k (i + 1) m1 v w (by omega) a1 a2 a4 (fun m' h => hQ m' fun c hc => by rw [h c hc, a3 c hc])
      rw [show ((i + 1 : Nat) : Int) = (i : Int) + 1 by omega] at this
      exact this
    have hr : sg_rn s u (fun v => na v.toNat) (i + 1) = sg_st (fun v => na v.toNat) (sg_tw s u i) (sg_tv s u i) (sg_rn s u (fun v => na v.toNat) i).1 (sg_rn s u (fun v => na v.toNat) i).2 := rfl
    have hd1 : sg_d s u (i + 1) = sg_d s u i + (if sg_tw s u i = 0 ∨ sg_tw s u i = 1 then 1 else if sg_tw s u i = 2 then 0 else -1) := rfl
    rcases t3 i (by unfold sg_tn; omega) with ⟨a, b, c⟩ | ⟨a, b⟩ | ⟨a, b⟩ | ⟨a, b, c⟩
    · rw [if_pos (Or.inl a)] at hd1
      rw [hd1] at step
      rw [a] at hr
      refine xb_1129_10 ?_
      simp (disch := first | omega | (unfold xm_w; omega)) only [↓zy_at, xm_O_some, xm_Oi_some, xm_Ov_some, xm_Oq_some, ↓reduceIte, ↓zz_t, ↓zz_f, ↓zi_t, ↓zi_f, eq_self, yy_d_0, Int.reduceEq, Int.reduceLT, Int.reduceLE, Int.reduceNe, Int.reduceToNat, Int.reduceAdd, Int.reduceSub, Int.reduceMul, Int.reduceNeg, Nat.reduceAdd, Nat.reduceMul, Nat.reduceSub, Nat.reduceEqDiff, Nat.reduceLT, ne_eq, not_false_eq_true, not_true_eq_false, true_and, and_true, and_self, yy_s_eq, yy_s_ne, yy_c_eq, yy_c_ne, yy_u_eq, yy_u_ne, xm_w_id, yy_at, tdiv_pos, tmod_pos, ↓zr_74_0, ↓zr_74_1, ↓zr_74_2, ↓zf_74_3, ↓zs_74_3, ↓zf_74_4, ↓zs_74_4, ↓zr_74_5, ↓zf_74_6, ↓zs_74_6, ↓zf_74_7, ↓zs_74_7, ↓zf_74_8, ↓zs_74_8, ↓zf_74_9, ↓zs_74_9, ↓zr_74_10, ↓zr_74_11, ↓zr_74_12, ↓zf_74_13, ↓zs_74_13, ↓zr_74_14, ↓zf_74_15, ↓zs_74_15, ↓zf_74_16, ↓zs_74_16, ↓zf_74_17, ↓zs_74_17, ↓zr_74_18, ↓zr_74_19, ↓zr_74_20, ↓zr_74_21, ↓zi_75, ↓zt_75, ↓zi_81, ↓zt_81, hs, eN, eW, eV, a]
      refine step _ (by simp (disch := first | omega | (unfold xm_w; omega)) only [↓zy_at, xm_O_some, xm_Oi_some, xm_Ov_some, xm_Oq_some, ↓reduceIte, ↓zz_t, ↓zz_f, ↓zi_t, ↓zi_f, eq_self, yy_d_0, Int.reduceEq, Int.reduceLT, Int.reduceLE, Int.reduceNe, Int.reduceToNat, Int.reduceAdd, Int.reduceSub, Int.reduceMul, Int.reduceNeg, Nat.reduceAdd, Nat.reduceMul, Nat.reduceSub, Nat.reduceEqDiff, Nat.reduceLT, ne_eq, not_false_eq_true, not_true_eq_false, true_and, and_true, and_self, yy_s_eq, yy_s_ne, yy_c_eq, yy_c_ne, yy_u_eq, yy_u_ne, xm_w_id, yy_at, tdiv_pos, tmod_pos, hs]) (by simp (disch := first | omega | (unfold xm_w; omega)) only [↓zy_at, xm_O_some, xm_Oi_some, xm_Ov_some, xm_Oq_some, ↓reduceIte, ↓zz_t, ↓zz_f, ↓zi_t, ↓zi_f, eq_self, yy_d_0, Int.reduceEq, Int.reduceLT, Int.reduceLE, Int.reduceNe, Int.reduceToNat, Int.reduceAdd, Int.reduceSub, Int.reduceMul, Int.reduceNeg, Nat.reduceAdd, Nat.reduceMul, Nat.reduceSub, Nat.reduceEqDiff, Nat.reduceLT, ne_eq, not_false_eq_true, not_true_eq_false, true_and, and_true, and_self, yy_s_eq, yy_s_ne, yy_c_eq, yy_c_ne, yy_u_eq, yy_u_ne, xm_w_id, yy_at, tdiv_pos, tmod_pos, hn]) (fun c hc => by simp (disch := first | omega | (unfold xm_w; omega)) only [↓zy_at, xm_O_some, xm_Oi_some, xm_Ov_some, xm_Oq_some, ↓reduceIte, ↓zz_t, ↓zz_f, ↓zi_t, ↓zi_f, eq_self, yy_d_0, Int.reduceEq, Int.reduceLT, Int.reduceLE, Int.reduceNe, Int.reduceToNat, Int.reduceAdd, Int.reduceSub, Int.reduceMul, Int.reduceNeg, Nat.reduceAdd, Nat.reduceMul, Nat.reduceSub, Nat.reduceEqDiff, Nat.reduceLT, ne_eq, not_false_eq_true, not_true_eq_false, true_and, and_true, and_self, yy_s_eq, yy_s_ne, yy_c_eq, yy_c_ne, yy_u_eq, yy_u_ne, xm_w_id, yy_at, tdiv_pos, tmod_pos]) (fun j hj => ?_) _ _
      rw [hr]
      rw [hr] at hj
      unfold sg_st at hj ⊢
      rw [if_pos rfl] at hj ⊢
      have hj : j < (sg_rn s u (fun v => na v.toNat) i).2 + 1 := hj
      show _ = yy_u _ _ _ j
      rw [yy_s_eq, d2]
      by_cases ej : j = (sg_d s u i).toNat
      · subst ej; rw [yy_u_eq, yy_u_eq]
      · rw [yy_u_ne ej, yy_u_ne ej]; exact hp j (by omega)
    · have b2 := sg_nm_b b
      rw [if_pos (Or.inr a)] at hd1
      rw [hd1] at step
      rw [a] at hr
      refine xb_1129_10 ?_
      simp (disch := first | omega | (unfold xm_w; omega)) only [↓zy_at, xm_O_some, xm_Oi_some, xm_Ov_some, xm_Oq_some, ↓reduceIte, ↓zz_t, ↓zz_f, ↓zi_t, ↓zi_f, eq_self, yy_d_0, Int.reduceEq, Int.reduceLT, Int.reduceLE, Int.reduceNe, Int.reduceToNat, Int.reduceAdd, Int.reduceSub, Int.reduceMul, Int.reduceNeg, Nat.reduceAdd, Nat.reduceMul, Nat.reduceSub, Nat.reduceEqDiff, Nat.reduceLT, ne_eq, not_false_eq_true, not_true_eq_false, true_and, and_true, and_self, yy_s_eq, yy_s_ne, yy_c_eq, yy_c_ne, yy_u_eq, yy_u_ne, xm_w_id, yy_at, tdiv_pos, tmod_pos, ↓zr_74_0, ↓zr_74_1, ↓zr_74_2, ↓zf_74_3, ↓zs_74_3, ↓zf_74_4, ↓zs_74_4, ↓zr_74_5, ↓zf_74_6, ↓zs_74_6, ↓zf_74_7, ↓zs_74_7, ↓zf_74_8, ↓zs_74_8, ↓zf_74_9, ↓zs_74_9, ↓zr_74_10, ↓zr_74_11, ↓zr_74_12, ↓zf_74_13, ↓zs_74_13, ↓zr_74_14, ↓zf_74_15, ↓zs_74_15, ↓zf_74_16, ↓zs_74_16, ↓zf_74_17, ↓zs_74_17, ↓zr_74_18, ↓zr_74_19, ↓zr_74_20, ↓zr_74_21, ↓zi_75, ↓zt_75, ↓zi_80, ↓zt_80, ↓zi_81, ↓zt_81, hs, eN, eW, eV, a, hn]
      refine step _ (by simp (disch := first | omega | (unfold xm_w; omega)) only [↓zy_at, xm_O_some, xm_Oi_some, xm_Ov_some, xm_Oq_some, ↓reduceIte, ↓zz_t, ↓zz_f, ↓zi_t, ↓zi_f, eq_self, yy_d_0, Int.reduceEq, Int.reduceLT, Int.reduceLE, Int.reduceNe, Int.reduceToNat, Int.reduceAdd, Int.reduceSub, Int.reduceMul, Int.reduceNeg, Nat.reduceAdd, Nat.reduceMul, Nat.reduceSub, Nat.reduceEqDiff, Nat.reduceLT, ne_eq, not_false_eq_true, not_true_eq_false, true_and, and_true, and_self, yy_s_eq, yy_s_ne, yy_c_eq, yy_c_ne, yy_u_eq, yy_u_ne, xm_w_id, yy_at, tdiv_pos, tmod_pos, hs]) (by simp (disch := first | omega | (unfold xm_w; omega)) only [↓zy_at, xm_O_some, xm_Oi_some, xm_Ov_some, xm_Oq_some, ↓reduceIte, ↓zz_t, ↓zz_f, ↓zi_t, ↓zi_f, eq_self, yy_d_0, Int.reduceEq, Int.reduceLT, Int.reduceLE, Int.reduceNe, Int.reduceToNat, Int.reduceAdd, Int.reduceSub, Int.reduceMul, Int.reduceNeg, Nat.reduceAdd, Nat.reduceMul, Nat.reduceSub, Nat.reduceEqDiff, Nat.reduceLT, ne_eq, not_false_eq_true, not_true_eq_false, true_and, and_true, and_self, yy_s_eq, yy_s_ne, yy_c_eq, yy_c_ne, yy_u_eq, yy_u_ne, xm_w_id, yy_at, tdiv_pos, tmod_pos, hn]) (fun c hc => by simp (disch := first | omega | (unfold xm_w; omega)) only [↓zy_at, xm_O_some, xm_Oi_some, xm_Ov_some, xm_Oq_some, ↓reduceIte, ↓zz_t, ↓zz_f, ↓zi_t, ↓zi_f, eq_self, yy_d_0, Int.reduceEq, Int.reduceLT, Int.reduceLE, Int.reduceNe, Int.reduceToNat, Int.reduceAdd, Int.reduceSub, Int.reduceMul, Int.reduceNeg, Nat.reduceAdd, Nat.reduceMul, Nat.reduceSub, Nat.reduceEqDiff, Nat.reduceLT, ne_eq, not_false_eq_true, not_true_eq_false, true_and, and_true, and_self, yy_s_eq, yy_s_ne, yy_c_eq, yy_c_ne, yy_u_eq, yy_u_ne, xm_w_id, yy_at, tdiv_pos, tmod_pos]) (fun j hj => ?_) _ _
      rw [hr]
      rw [hr] at hj
      unfold sg_st at hj ⊢
      rw [if_neg (by decide), if_pos rfl] at hj ⊢
      have hj : j < (sg_rn s u (fun v => na v.toNat) i).2 + 1 := hj
      show _ = yy_u _ _ _ j
      rw [yy_s_eq, d2]
      by_cases ej : j = (sg_d s u i).toNat
      · subst ej; rw [yy_u_eq, yy_u_eq]
      · rw [yy_u_ne ej, yy_u_ne ej]; exact hp j (by omega)
    · rw [if_neg (by omega), if_pos a, Int.add_zero] at hd1
      rw [hd1] at step
      rw [a] at hr
      have g := hp ((sg_d s u i).toNat - 1) (by omega)
      have e3 : (sg_d s u i - 1).toNat = (sg_d s u i).toNat - 1 := by omega
      refine xb_1129_10 ?_
      simp (disch := first | omega | (unfold xm_w; omega)) only [↓zy_at, xm_O_some, xm_Oi_some, xm_Ov_some, xm_Oq_some, ↓reduceIte, ↓zz_t, ↓zz_f, ↓zi_t, ↓zi_f, eq_self, yy_d_0, Int.reduceEq, Int.reduceLT, Int.reduceLE, Int.reduceNe, Int.reduceToNat, Int.reduceAdd, Int.reduceSub, Int.reduceMul, Int.reduceNeg, Nat.reduceAdd, Nat.reduceMul, Nat.reduceSub, Nat.reduceEqDiff, Nat.reduceLT, ne_eq, not_false_eq_true, not_true_eq_false, true_and, and_true, and_self, yy_s_eq, yy_s_ne, yy_c_eq, yy_c_ne, yy_u_eq, yy_u_ne, xm_w_id, yy_at, tdiv_pos, tmod_pos, ↓zr_74_0, ↓zr_74_1, ↓zr_74_2, ↓zf_74_3, ↓zs_74_3, ↓zf_74_4, ↓zs_74_4, ↓zr_74_5, ↓zf_74_6, ↓zs_74_6, ↓zf_74_7, ↓zs_74_7, ↓zf_74_8, ↓zs_74_8, ↓zf_74_9, ↓zs_74_9, ↓zr_74_10, ↓zr_74_11, ↓zr_74_12, ↓zf_74_13, ↓zs_74_13, ↓zr_74_14, ↓zf_74_15, ↓zs_74_15, ↓zf_74_16, ↓zs_74_16, ↓zf_74_17, ↓zs_74_17, ↓zr_74_18, ↓zr_74_19, ↓zr_74_20, ↓zr_74_21, ↓zi_75, ↓zt_75, ↓zi_81, ↓zt_81, hs, eN, eW, eV, a, e3, g]
      have fin : ∀ j, j < (sg_rn s u (fun v => na v.toNat) (i + 1)).2 → (yy_s m 81 ((sg_d s u i).toNat - 1) (if (sg_rn s u (fun v => na v.toNat) i).1 ((sg_d s u i).toNat - 1) = 0 then 1 else 0)) 81 j = (sg_rn s u (fun v => na v.toNat) (i + 1)).1 j := by
        intro j hj
        rw [hr]
        rw [hr] at hj
        rw [sg_st_2] at hj ⊢
        have hj : j < (sg_rn s u (fun v => na v.toNat) i).2 := hj
        show _ = yy_u _ _ _ j
        rw [yy_s_eq, d2]
        by_cases ej : j = (sg_d s u i).toNat - 1
        · subst ej; rw [yy_u_eq, yy_u_eq]
        · rw [yy_u_ne ej, yy_u_ne ej]; exact hp j (by omega)
      split
      · rename_i e4
        rw [if_pos e4] at fin
        exact step _ (by simp (disch := first | omega | (unfold xm_w; omega)) only [↓zy_at, xm_O_some, xm_Oi_some, xm_Ov_some, xm_Oq_some, ↓reduceIte, ↓zz_t, ↓zz_f, ↓zi_t, ↓zi_f, eq_self, yy_d_0, Int.reduceEq, Int.reduceLT, Int.reduceLE, Int.reduceNe, Int.reduceToNat, Int.reduceAdd, Int.reduceSub, Int.reduceMul, Int.reduceNeg, Nat.reduceAdd, Nat.reduceMul, Nat.reduceSub, Nat.reduceEqDiff, Nat.reduceLT, ne_eq, not_false_eq_true, not_true_eq_false, true_and, and_true, and_self, yy_s_eq, yy_s_ne, yy_c_eq, yy_c_ne, yy_u_eq, yy_u_ne, xm_w_id, yy_at, tdiv_pos, tmod_pos, hs]) (by simp (disch := first | omega | (unfold xm_w; omega)) only [↓zy_at, xm_O_some, xm_Oi_some, xm_Ov_some, xm_Oq_some, ↓reduceIte, ↓zz_t, ↓zz_f, ↓zi_t, ↓zi_f, eq_self, yy_d_0, Int.reduceEq, Int.reduceLT, Int.reduceLE, Int.reduceNe, Int.reduceToNat, Int.reduceAdd, Int.reduceSub, Int.reduceMul, Int.reduceNeg, Nat.reduceAdd, Nat.reduceMul, Nat.reduceSub, Nat.reduceEqDiff, Nat.reduceLT, ne_eq, not_false_eq_true, not_true_eq_false, true_and, and_true, and_self, yy_s_eq, yy_s_ne, yy_c_eq, yy_c_ne, yy_u_eq, yy_u_ne, xm_w_id, yy_at, tdiv_pos, tmod_pos, hn]) (fun c hc => by simp (disch := first | omega | (unfold xm_w; omega)) only [↓zy_at, xm_O_some, xm_Oi_some, xm_Ov_some, xm_Oq_some, ↓reduceIte, ↓zz_t, ↓zz_f, ↓zi_t, ↓zi_f, eq_self, yy_d_0, Int.reduceEq, Int.reduceLT, Int.reduceLE, Int.reduceNe, Int.reduceToNat, Int.reduceAdd, Int.reduceSub, Int.reduceMul, Int.reduceNeg, Nat.reduceAdd, Nat.reduceMul, Nat.reduceSub, Nat.reduceEqDiff, Nat.reduceLT, ne_eq, not_false_eq_true, not_true_eq_false, true_and, and_true, and_self, yy_s_eq, yy_s_ne, yy_c_eq, yy_c_ne, yy_u_eq, yy_u_ne, xm_w_id, yy_at, tdiv_pos, tmod_pos]) fin _ _
      · rename_i e4
        rw [if_neg e4] at fin
        exact step _ (by simp (disch := first | omega | (unfold xm_w; omega)) only [↓zy_at, xm_O_some, xm_Oi_some, xm_Ov_some, xm_Oq_some, ↓reduceIte, ↓zz_t, ↓zz_f, ↓zi_t, ↓zi_f, eq_self, yy_d_0, Int.reduceEq, Int.reduceLT, Int.reduceLE, Int.reduceNe, Int.reduceToNat, Int.reduceAdd, Int.reduceSub, Int.reduceMul, Int.reduceNeg, Nat.reduceAdd, Nat.reduceMul, Nat.reduceSub, Nat.reduceEqDiff, Nat.reduceLT, ne_eq, not_false_eq_true, not_true_eq_false, true_and, and_true, and_self, yy_s_eq, yy_s_ne, yy_c_eq, yy_c_ne, yy_u_eq, yy_u_ne, xm_w_id, yy_at, tdiv_pos, tmod_pos, hs]) (by simp (disch := first | omega | (unfold xm_w; omega)) only [↓zy_at, xm_O_some, xm_Oi_some, xm_Ov_some, xm_Oq_some, ↓reduceIte, ↓zz_t, ↓zz_f, ↓zi_t, ↓zi_f, eq_self, yy_d_0, Int.reduceEq, Int.reduceLT, Int.reduceLE, Int.reduceNe, Int.reduceToNat, Int.reduceAdd, Int.reduceSub, Int.reduceMul, Int.reduceNeg, Nat.reduceAdd, Nat.reduceMul, Nat.reduceSub, Nat.reduceEqDiff, Nat.reduceLT, ne_eq, not_false_eq_true, not_true_eq_false, true_and, and_true, and_self, yy_s_eq, yy_s_ne, yy_c_eq, yy_c_ne, yy_u_eq, yy_u_ne, xm_w_id, yy_at, tdiv_pos, tmod_pos, hn]) (fun c hc => by simp (disch := first | omega | (unfold xm_w; omega)) only [↓zy_at, xm_O_some, xm_Oi_some, xm_Ov_some, xm_Oq_some, ↓reduceIte, ↓zz_t, ↓zz_f, ↓zi_t, ↓zi_f, eq_self, yy_d_0, Int.reduceEq, Int.reduceLT, Int.reduceLE, Int.reduceNe, Int.reduceToNat, Int.reduceAdd, Int.reduceSub, Int.reduceMul, Int.reduceNeg, Nat.reduceAdd, Nat.reduceMul, Nat.reduceSub, Nat.reduceEqDiff, Nat.reduceLT, ne_eq, not_false_eq_true, not_true_eq_false, true_and, and_true, and_self, yy_s_eq, yy_s_ne, yy_c_eq, yy_c_ne, yy_u_eq, yy_u_ne, xm_w_id, yy_at, tdiv_pos, tmod_pos]) fin _ _
    · rw [if_neg (by omega), if_neg (by omega)] at hd1
      rw [hd1] at step
      rw [a] at hr
      have g1 := hp ((sg_d s u i).toNat - 1) (by omega)
      have g2 := hp ((sg_d s u i).toNat - 2) (by omega)
      have e3 : (sg_d s u i + -1).toNat = (sg_d s u i).toNat - 1 := by omega
      have e4 : (sg_d s u i + -1 - 1).toNat = (sg_d s u i).toNat - 2 := by omega
      refine xb_1129_10 ?_
      simp (disch := first | omega | (unfold xm_w; omega)) only [↓zy_at, xm_O_some, xm_Oi_some, xm_Ov_some, xm_Oq_some, ↓reduceIte, ↓zz_t, ↓zz_f, ↓zi_t, ↓zi_f, eq_self, yy_d_0, Int.reduceEq, Int.reduceLT, Int.reduceLE, Int.reduceNe, Int.reduceToNat, Int.reduceAdd, Int.reduceSub, Int.reduceMul, Int.reduceNeg, Nat.reduceAdd, Nat.reduceMul, Nat.reduceSub, Nat.reduceEqDiff, Nat.reduceLT, ne_eq, not_false_eq_true, not_true_eq_false, true_and, and_true, and_self, yy_s_eq, yy_s_ne, yy_c_eq, yy_c_ne, yy_u_eq, yy_u_ne, xm_w_id, yy_at, tdiv_pos, tmod_pos, ↓zr_74_0, ↓zr_74_1, ↓zr_74_2, ↓zf_74_3, ↓zs_74_3, ↓zf_74_4, ↓zs_74_4, ↓zr_74_5, ↓zf_74_6, ↓zs_74_6, ↓zf_74_7, ↓zs_74_7, ↓zf_74_8, ↓zs_74_8, ↓zf_74_9, ↓zs_74_9, ↓zr_74_10, ↓zr_74_11, ↓zr_74_12, ↓zf_74_13, ↓zs_74_13, ↓zr_74_14, ↓zf_74_15, ↓zs_74_15, ↓zf_74_16, ↓zs_74_16, ↓zf_74_17, ↓zs_74_17, ↓zr_74_18, ↓zr_74_19, ↓zr_74_20, ↓zr_74_21, ↓zi_75, ↓zt_75, ↓zi_81, ↓zt_81, hs, eN, eW, eV, a, e3, e4, g1, g2]
      rw [oc_1128 c]
      simp (disch := first | omega | (unfold xm_w; omega)) only [↓zy_at, xm_O_some, xm_Oi_some, xm_Ov_some, xm_Oq_some, ↓reduceIte, ↓zz_t, ↓zz_f, ↓zi_t, ↓zi_f, eq_self, yy_d_0, Int.reduceEq, Int.reduceLT, Int.reduceLE, Int.reduceNe, Int.reduceToNat, Int.reduceAdd, Int.reduceSub, Int.reduceMul, Int.reduceNeg, Nat.reduceAdd, Nat.reduceMul, Nat.reduceSub, Nat.reduceEqDiff, Nat.reduceLT, ne_eq, not_false_eq_true, not_true_eq_false, true_and, and_true, and_self, yy_s_eq, yy_s_ne, yy_c_eq, yy_c_ne, yy_u_eq, yy_u_ne, xm_w_id, yy_at, tdiv_pos, tmod_pos, ↓zr_74_0, ↓zr_74_1, ↓zr_74_2, ↓zf_74_3, ↓zs_74_3, ↓zf_74_4, ↓zs_74_4, ↓zr_74_5, ↓zf_74_6, ↓zs_74_6, ↓zf_74_7, ↓zs_74_7, ↓zf_74_8, ↓zs_74_8, ↓zf_74_9, ↓zs_74_9, ↓zr_74_10, ↓zr_74_11, ↓zr_74_12, ↓zf_74_13, ↓zs_74_13, ↓zr_74_14, ↓zf_74_15, ↓zs_74_15, ↓zf_74_16, ↓zs_74_16, ↓zf_74_17, ↓zs_74_17, ↓zr_74_18, ↓zr_74_19, ↓zr_74_20, ↓zr_74_21, ↓zi_81, ↓zt_81, e4]
      refine step _ (by simp (disch := first | omega | (unfold xm_w; omega)) only [↓zy_at, xm_O_some, xm_Oi_some, xm_Ov_some, xm_Oq_some, ↓reduceIte, ↓zz_t, ↓zz_f, ↓zi_t, ↓zi_f, eq_self, yy_d_0, Int.reduceEq, Int.reduceLT, Int.reduceLE, Int.reduceNe, Int.reduceToNat, Int.reduceAdd, Int.reduceSub, Int.reduceMul, Int.reduceNeg, Nat.reduceAdd, Nat.reduceMul, Nat.reduceSub, Nat.reduceEqDiff, Nat.reduceLT, ne_eq, not_false_eq_true, not_true_eq_false, true_and, and_true, and_self, yy_s_eq, yy_s_ne, yy_c_eq, yy_c_ne, yy_u_eq, yy_u_ne, xm_w_id, yy_at, tdiv_pos, tmod_pos, hs]) (by simp (disch := first | omega | (unfold xm_w; omega)) only [↓zy_at, xm_O_some, xm_Oi_some, xm_Ov_some, xm_Oq_some, ↓reduceIte, ↓zz_t, ↓zz_f, ↓zi_t, ↓zi_f, eq_self, yy_d_0, Int.reduceEq, Int.reduceLT, Int.reduceLE, Int.reduceNe, Int.reduceToNat, Int.reduceAdd, Int.reduceSub, Int.reduceMul, Int.reduceNeg, Nat.reduceAdd, Nat.reduceMul, Nat.reduceSub, Nat.reduceEqDiff, Nat.reduceLT, ne_eq, not_false_eq_true, not_true_eq_false, true_and, and_true, and_self, yy_s_eq, yy_s_ne, yy_c_eq, yy_c_ne, yy_u_eq, yy_u_ne, xm_w_id, yy_at, tdiv_pos, tmod_pos, hn]) (fun c hc => by simp (disch := first | omega | (unfold xm_w; omega)) only [↓zy_at, xm_O_some, xm_Oi_some, xm_Ov_some, xm_Oq_some, ↓reduceIte, ↓zz_t, ↓zz_f, ↓zi_t, ↓zi_f, eq_self, yy_d_0, Int.reduceEq, Int.reduceLT, Int.reduceLE, Int.reduceNe, Int.reduceToNat, Int.reduceAdd, Int.reduceSub, Int.reduceMul, Int.reduceNeg, Nat.reduceAdd, Nat.reduceMul, Nat.reduceSub, Nat.reduceEqDiff, Nat.reduceLT, ne_eq, not_false_eq_true, not_true_eq_false, true_and, and_true, and_self, yy_s_eq, yy_s_ne, yy_c_eq, yy_c_ne, yy_u_eq, yy_u_ne, xm_w_id, yy_at, tdiv_pos, tmod_pos]) (fun j hj => ?_) _ _
      rw [hr]
      rw [hr] at hj
      unfold sg_st at hj ⊢
      rw [if_neg (by decide), if_neg (by decide), if_neg (by decide)] at hj ⊢
      have hj : j < (sg_rn s u (fun v => na v.toNat) i).2 - 1 := hj
      show _ = yy_u _ _ _ j
      rw [yy_s_eq, d2]
      by_cases ej : j = (sg_d s u i).toNat - 2
      · subst ej; rw [yy_u_eq, yy_u_eq]
      · rw [yy_u_ne ej, yy_u_ne ej]; exact hp j (by omega)
set_option maxRecDepth 20000 in
theorem c_1129 {sc : List Int} {d : Nat} {t : xm_W} {m : Nat → Nat → Int} {u : Nat} (hu : u < 2) (hT : sg_T (m 75) u) (h0 : 0 < sg_tn (m 75) u) : ∃ m', xm_X (xm_old sc) xm_mt (d + 2) 1129 [.inr (.inl (some 74)), .inl ((u : Int))] (yy_W m t) = some (some (.inl (sg_val (m 75) u (fun v => m 80 v.toNat))), yy_W m' t) ∧ ∀ c, c ≠ 81 → m' c = m c := by
  have key : ∀ {Q : Option xm_V × xm_W → Prop}, (∀ m', (∀ c, c ≠ 81 → m' c = m c) → Q (some (.inl (sg_val (m 75) u (fun v => m 80 v.toNat))), yy_W m' t)) → xm_EQ (xm_old sc) xm_sta (xm_X (xm_old sc) xm_mt (d + 1)) xm_m1129.2.2.2.2.2.2.2 0 (xm_loc xm_m1129.2.2.1 [.inr (.inl (some 74)), .inl ((u : Int))]) [] (yy_W m t) Q := by
    intro Q hQ
    refine xb_1129_0 ?_
    rw [xm_w_id (z := 125 * (u : Int)) (by omega) (by omega), xm_w_id (by omega) (by omega), show 339 + 125 * (u : Int) = ((339 + 125 * u : Nat) : Int) by omega]
    exact l_1129 (d := d) hu hT h0 (sg_tn (m 75) u).toNat 0 m none none (by have := hT.1; omega) rfl rfl (fun j hj => absurd hj (Nat.not_lt_zero j)) hQ
  obtain ⟨q, h1, m', h2, h3⟩ := yx_of (y := 1129) (M := xm_m1129) (sc := sc) (d := d + 1) (as := [.inr (.inl (some 74)), .inl ((u : Int))]) (w := yy_W m t) (Q := fun q => ∃ m', q = (some (.inl (sg_val (m 75) u (fun v => m 80 v.toNat))), yy_W m' t) ∧ (∀ c, c ≠ 81 → m' c = m c)) rfl (key fun m' h => ⟨m', rfl, h⟩) (fun q ⟨m', h, _⟩ => by rw [h]; rfl) rfl (Nat.le_of_ble_eq_true rfl) (yy_hd rfl (by decide))
  exact ⟨m', by rw [h1, h2], h3⟩
end
section
set_option maxRecDepth 20000 in
theorem sg_rn_congr {s : Nat → Int} {u : Nat} {nm nm' : Int → Int} (h : sg_T s u) (hn : ∀ v, sg_nm u v → nm v = nm' v) : ∀ k : Nat, (k : Int) ≤ sg_tn s u → sg_rn s u nm k = sg_rn s u nm' k
  | 0, _ => rfl
  | k + 1, hk => by
    unfold sg_rn
    rw [sg_rn_congr h hn k (by omega)]
    rcases h.2.2 k (by omega) with ⟨a, _⟩ | ⟨a, b⟩ | ⟨a, _⟩ | ⟨a, _⟩
    · rw [a]; rfl
    · rw [a]
      show (yy_u _ _ (nm _), _) = (yy_u _ _ (nm' _), _)
      rw [hn _ b]
    · rw [a]; rfl
    · rw [a]; rfl
set_option maxRecDepth 20000 in
theorem sg_val_congr {s : Nat → Int} {u : Nat} {nm nm' : Int → Int} (h : sg_T s u) (hn : ∀ v, sg_nm u v → nm v = nm' v) : sg_val s u nm = sg_val s u nm' := by
  unfold sg_val
  rw [sg_rn_congr h hn _ (by have := h.1; omega)]
def sg_s4 (v : Int) : Int := if v < 0 then -1 else v % 4
def sg_nmS (w step mm g : Int) : Int → Int := fun v => if v = 119 then w else if v = 115 then step else if v = 109 then mm else g
def sg_told (s : Nat → Int) (r : Nat) (w step : Int) : Int := if 0 < sg_tn s 0 then sg_s4 (sg_val s 0 (sg_nmS w step (s (45 + 18 * r)) (s (8 + s (46 + 18 * r)).toNat))) else sg_s4 (w + s (45 + 18 * r))
def sg_sh (s : Nat → Int) (r : Nat) (w step : Int) : Int := if s (44 + 18 * r) = 6 then sg_told s r w step else sp_shown (s (44 + 18 * r)) w step
set_option maxRecDepth 20000 in
theorem sg_s4_r (v : Int) : -1 ≤ sg_s4 v ∧ sg_s4 v ≤ 3 := by unfold sg_s4; split <;> omega
set_option maxRecDepth 20000 in
theorem sg_sh_r {s : Nat → Int} {r : Nat} {w step : Int} (hw : 0 ≤ w ∧ w ≤ 3) : -1 ≤ sg_sh s r w step ∧ sg_sh s r w step ≤ 3 := by
  unfold sg_sh sg_told
  split
  · split
    · exact sg_s4_r _
    · exact sg_s4_r _
  · unfold sp_shown sp_lame sp_back
    repeat' split
    all_goals omega
set_option maxRecDepth 20000 in
theorem c_1110_0 {sc : List Int} {d : Nat} {t : xm_W} {m : Nat → Nat → Int} {r : Nat} (h : r < 5) : xm_X (xm_old sc) xm_mt (d + 1) 1110 [.inr (.inl (some 74)), .inl ((r : Int)), .inl (0)] (yy_W (m) t) = some (some (.inl (m 75 (44 + 18 * r))), (yy_W (m) t)) := by
  rw [c_1110 (by omega) (by omega) (by decide) (by decide), show (44 + 18 * (r : Int) + 0).toNat = 44 + 18 * r by omega]
set_option maxRecDepth 20000 in
theorem oc_1110_0 {F : Int → xm_W → Prop} {sc : List Int} {d : Nat} {t : xm_W} {m : Nat → Nat → Int} {r : Nat} (h : r < 5) : xm_Oi (xm_X (xm_old sc) xm_mt (d + 1) 1110 [.inr (.inl (some 74)), .inl ((r : Int)), .inl (0)] (yy_W (m) t)) F = F (m 75 (44 + 18 * r)) (yy_W (m) t) := congrArg (fun x => xm_Oi x F) (c_1110_0 h)
set_option maxRecDepth 20000 in
theorem c_1111_0 {sc : List Int} {d : Nat} {t : xm_W} {m : Nat → Nat → Int} {r : Nat} {v : Int} (h : r < 5) : xm_X (xm_old sc) xm_mt (d + 1) 1111 [.inr (.inl (some 74)), .inl ((r : Int)), .inl (0), .inl (v)] (yy_W (m) t) = some (none, (yy_W (yy_c m 75 (yy_u (m 75) (44 + 18 * r) v)) t)) := by
  rw [c_1111 (by omega) (by omega) (by decide) (by decide), show (44 + 18 * (r : Int) + 0).toNat = 44 + 18 * r by omega]; rfl
set_option maxRecDepth 20000 in
theorem oc_1111_0 {F : xm_W → Prop} {sc : List Int} {d : Nat} {t : xm_W} {m : Nat → Nat → Int} {r : Nat} {v : Int} (h : r < 5) : xm_Ov (xm_X (xm_old sc) xm_mt (d + 1) 1111 [.inr (.inl (some 74)), .inl ((r : Int)), .inl (0), .inl (v)] (yy_W (m) t)) F = F (yy_W (yy_c m 75 (yy_u (m 75) (44 + 18 * r) v)) t) := congrArg (fun x => xm_Ov x F) (c_1111_0 h)
set_option maxRecDepth 20000 in
theorem c_1110_1 {sc : List Int} {d : Nat} {t : xm_W} {m : Nat → Nat → Int} {r : Nat} (h : r < 5) : xm_X (xm_old sc) xm_mt (d + 1) 1110 [.inr (.inl (some 74)), .inl ((r : Int)), .inl (1)] (yy_W (m) t) = some (some (.inl (m 75 (45 + 18 * r))), (yy_W (m) t)) := by
  rw [c_1110 (by omega) (by omega) (by decide) (by decide), show (44 + 18 * (r : Int) + 1).toNat = 45 + 18 * r by omega]
set_option maxRecDepth 20000 in
theorem oc_1110_1 {F : Int → xm_W → Prop} {sc : List Int} {d : Nat} {t : xm_W} {m : Nat → Nat → Int} {r : Nat} (h : r < 5) : xm_Oi (xm_X (xm_old sc) xm_mt (d + 1) 1110 [.inr (.inl (some 74)), .inl ((r : Int)), .inl (1)] (yy_W (m) t)) F = F (m 75 (45 + 18 * r)) (yy_W (m) t) := congrArg (fun x => xm_Oi x F) (c_1110_1 h)
set_option maxRecDepth 20000 in
theorem c_1111_1 {sc : List Int} {d : Nat} {t : xm_W} {m : Nat → Nat → Int} {r : Nat} {v : Int} (h : r < 5) : xm_X (xm_old sc) xm_mt (d + 1) 1111 [.inr (.inl (some 74)), .inl ((r : Int)), .inl (1), .inl (v)] (yy_W (m) t) = some (none, (yy_W (yy_c m 75 (yy_u (m 75) (45 + 18 * r) v)) t)) := by
  rw [c_1111 (by omega) (by omega) (by decide) (by decide), show (44 + 18 * (r : Int) + 1).toNat = 45 + 18 * r by omega]; rfl
set_option maxRecDepth 20000 in
theorem oc_1111_1 {F : xm_W → Prop} {sc : List Int} {d : Nat} {t : xm_W} {m : Nat → Nat → Int} {r : Nat} {v : Int} (h : r < 5) : xm_Ov (xm_X (xm_old sc) xm_mt (d + 1) 1111 [.inr (.inl (some 74)), .inl ((r : Int)), .inl (1), .inl (v)] (yy_W (m) t)) F = F (yy_W (yy_c m 75 (yy_u (m 75) (45 + 18 * r) v)) t) := congrArg (fun x => xm_Ov x F) (c_1111_1 h)
set_option maxRecDepth 20000 in
theorem c_1110_2 {sc : List Int} {d : Nat} {t : xm_W} {m : Nat → Nat → Int} {r : Nat} (h : r < 5) : xm_X (xm_old sc) xm_mt (d + 1) 1110 [.inr (.inl (some 74)), .inl ((r : Int)), .inl (2)] (yy_W (m) t) = some (some (.inl (m 75 (46 + 18 * r))), (yy_W (m) t)) := by
  rw [c_1110 (by omega) (by omega) (by decide) (by decide), show (44 + 18 * (r : Int) + 2).toNat = 46 + 18 * r by omega]
set_option maxRecDepth 20000 in
theorem oc_1110_2 {F : Int → xm_W → Prop} {sc : List Int} {d : Nat} {t : xm_W} {m : Nat → Nat → Int} {r : Nat} (h : r < 5) : xm_Oi (xm_X (xm_old sc) xm_mt (d + 1) 1110 [.inr (.inl (some 74)), .inl ((r : Int)), .inl (2)] (yy_W (m) t)) F = F (m 75 (46 + 18 * r)) (yy_W (m) t) := congrArg (fun x => xm_Oi x F) (c_1110_2 h)
set_option maxRecDepth 20000 in
theorem c_1111_2 {sc : List Int} {d : Nat} {t : xm_W} {m : Nat → Nat → Int} {r : Nat} {v : Int} (h : r < 5) : xm_X (xm_old sc) xm_mt (d + 1) 1111 [.inr (.inl (some 74)), .inl ((r : Int)), .inl (2), .inl (v)] (yy_W (m) t) = some (none, (yy_W (yy_c m 75 (yy_u (m 75) (46 + 18 * r) v)) t)) := by
  rw [c_1111 (by omega) (by omega) (by decide) (by decide), show (44 + 18 * (r : Int) + 2).toNat = 46 + 18 * r by omega]; rfl
set_option maxRecDepth 20000 in
theorem oc_1111_2 {F : xm_W → Prop} {sc : List Int} {d : Nat} {t : xm_W} {m : Nat → Nat → Int} {r : Nat} {v : Int} (h : r < 5) : xm_Ov (xm_X (xm_old sc) xm_mt (d + 1) 1111 [.inr (.inl (some 74)), .inl ((r : Int)), .inl (2), .inl (v)] (yy_W (m) t)) F = F (yy_W (yy_c m 75 (yy_u (m 75) (46 + 18 * r) v)) t) := congrArg (fun x => xm_Ov x F) (c_1111_2 h)
set_option maxRecDepth 20000 in
theorem c_1110_3 {sc : List Int} {d : Nat} {t : xm_W} {m : Nat → Nat → Int} {r : Nat} (h : r < 5) : xm_X (xm_old sc) xm_mt (d + 1) 1110 [.inr (.inl (some 74)), .inl ((r : Int)), .inl (3)] (yy_W (m) t) = some (some (.inl (m 75 (47 + 18 * r))), (yy_W (m) t)) := by
  rw [c_1110 (by omega) (by omega) (by decide) (by decide), show (44 + 18 * (r : Int) + 3).toNat = 47 + 18 * r by omega]
set_option maxRecDepth 20000 in
theorem oc_1110_3 {F : Int → xm_W → Prop} {sc : List Int} {d : Nat} {t : xm_W} {m : Nat → Nat → Int} {r : Nat} (h : r < 5) : xm_Oi (xm_X (xm_old sc) xm_mt (d + 1) 1110 [.inr (.inl (some 74)), .inl ((r : Int)), .inl (3)] (yy_W (m) t)) F = F (m 75 (47 + 18 * r)) (yy_W (m) t) := congrArg (fun x => xm_Oi x F) (c_1110_3 h)
set_option maxRecDepth 20000 in
theorem c_1111_3 {sc : List Int} {d : Nat} {t : xm_W} {m : Nat → Nat → Int} {r : Nat} {v : Int} (h : r < 5) : xm_X (xm_old sc) xm_mt (d + 1) 1111 [.inr (.inl (some 74)), .inl ((r : Int)), .inl (3), .inl (v)] (yy_W (m) t) = some (none, (yy_W (yy_c m 75 (yy_u (m 75) (47 + 18 * r) v)) t)) := by
  rw [c_1111 (by omega) (by omega) (by decide) (by decide), show (44 + 18 * (r : Int) + 3).toNat = 47 + 18 * r by omega]; rfl
set_option maxRecDepth 20000 in
theorem oc_1111_3 {F : xm_W → Prop} {sc : List Int} {d : Nat} {t : xm_W} {m : Nat → Nat → Int} {r : Nat} {v : Int} (h : r < 5) : xm_Ov (xm_X (xm_old sc) xm_mt (d + 1) 1111 [.inr (.inl (some 74)), .inl ((r : Int)), .inl (3), .inl (v)] (yy_W (m) t)) F = F (yy_W (yy_c m 75 (yy_u (m 75) (47 + 18 * r) v)) t) := congrArg (fun x => xm_Ov x F) (c_1111_3 h)
set_option maxRecDepth 20000 in
theorem c_1110_4 {sc : List Int} {d : Nat} {t : xm_W} {m : Nat → Nat → Int} {r : Nat} (h : r < 5) : xm_X (xm_old sc) xm_mt (d + 1) 1110 [.inr (.inl (some 74)), .inl ((r : Int)), .inl (4)] (yy_W (m) t) = some (some (.inl (m 75 (48 + 18 * r))), (yy_W (m) t)) := by
  rw [c_1110 (by omega) (by omega) (by decide) (by decide), show (44 + 18 * (r : Int) + 4).toNat = 48 + 18 * r by omega]
set_option maxRecDepth 20000 in
theorem oc_1110_4 {F : Int → xm_W → Prop} {sc : List Int} {d : Nat} {t : xm_W} {m : Nat → Nat → Int} {r : Nat} (h : r < 5) : xm_Oi (xm_X (xm_old sc) xm_mt (d + 1) 1110 [.inr (.inl (some 74)), .inl ((r : Int)), .inl (4)] (yy_W (m) t)) F = F (m 75 (48 + 18 * r)) (yy_W (m) t) := congrArg (fun x => xm_Oi x F) (c_1110_4 h)
set_option maxRecDepth 20000 in
theorem c_1111_4 {sc : List Int} {d : Nat} {t : xm_W} {m : Nat → Nat → Int} {r : Nat} {v : Int} (h : r < 5) : xm_X (xm_old sc) xm_mt (d + 1) 1111 [.inr (.inl (some 74)), .inl ((r : Int)), .inl (4), .inl (v)] (yy_W (m) t) = some (none, (yy_W (yy_c m 75 (yy_u (m 75) (48 + 18 * r) v)) t)) := by
  rw [c_1111 (by omega) (by omega) (by decide) (by decide), show (44 + 18 * (r : Int) + 4).toNat = 48 + 18 * r by omega]; rfl
set_option maxRecDepth 20000 in
theorem oc_1111_4 {F : xm_W → Prop} {sc : List Int} {d : Nat} {t : xm_W} {m : Nat → Nat → Int} {r : Nat} {v : Int} (h : r < 5) : xm_Ov (xm_X (xm_old sc) xm_mt (d + 1) 1111 [.inr (.inl (some 74)), .inl ((r : Int)), .inl (4), .inl (v)] (yy_W (m) t)) F = F (yy_W (yy_c m 75 (yy_u (m 75) (48 + 18 * r) v)) t) := congrArg (fun x => xm_Ov x F) (c_1111_4 h)
set_option maxRecDepth 20000 in
theorem c_1110_5 {sc : List Int} {d : Nat} {t : xm_W} {m : Nat → Nat → Int} {r : Nat} (h : r < 5) : xm_X (xm_old sc) xm_mt (d + 1) 1110 [.inr (.inl (some 74)), .inl ((r : Int)), .inl (5)] (yy_W (m) t) = some (some (.inl (m 75 (49 + 18 * r))), (yy_W (m) t)) := by
  rw [c_1110 (by omega) (by omega) (by decide) (by decide), show (44 + 18 * (r : Int) + 5).toNat = 49 + 18 * r by omega]
set_option maxRecDepth 20000 in
theorem oc_1110_5 {F : Int → xm_W → Prop} {sc : List Int} {d : Nat} {t : xm_W} {m : Nat → Nat → Int} {r : Nat} (h : r < 5) : xm_Oi (xm_X (xm_old sc) xm_mt (d + 1) 1110 [.inr (.inl (some 74)), .inl ((r : Int)), .inl (5)] (yy_W (m) t)) F = F (m 75 (49 + 18 * r)) (yy_W (m) t) := congrArg (fun x => xm_Oi x F) (c_1110_5 h)
set_option maxRecDepth 20000 in
theorem c_1111_5 {sc : List Int} {d : Nat} {t : xm_W} {m : Nat → Nat → Int} {r : Nat} {v : Int} (h : r < 5) : xm_X (xm_old sc) xm_mt (d + 1) 1111 [.inr (.inl (some 74)), .inl ((r : Int)), .inl (5), .inl (v)] (yy_W (m) t) = some (none, (yy_W (yy_c m 75 (yy_u (m 75) (49 + 18 * r) v)) t)) := by
  rw [c_1111 (by omega) (by omega) (by decide) (by decide), show (44 + 18 * (r : Int) + 5).toNat = 49 + 18 * r by omega]; rfl
set_option maxRecDepth 20000 in
theorem oc_1111_5 {F : xm_W → Prop} {sc : List Int} {d : Nat} {t : xm_W} {m : Nat → Nat → Int} {r : Nat} {v : Int} (h : r < 5) : xm_Ov (xm_X (xm_old sc) xm_mt (d + 1) 1111 [.inr (.inl (some 74)), .inl ((r : Int)), .inl (5), .inl (v)] (yy_W (m) t)) F = F (yy_W (yy_c m 75 (yy_u (m 75) (49 + 18 * r) v)) t) := congrArg (fun x => xm_Ov x F) (c_1111_5 h)
set_option maxRecDepth 20000 in
theorem c_1110_6 {sc : List Int} {d : Nat} {t : xm_W} {m : Nat → Nat → Int} {r : Nat} {z : Int} (h : r < 5) (hz : 0 ≤ z ∧ z ≤ 11) : xm_X (xm_old sc) xm_mt (d + 1) 1110 [.inr (.inl (some 74)), .inl ((r : Int)), .inl (xm_w (6 + z))] (yy_W (m) t) = some (some (.inl (m 75 (50 + 18 * r + z.toNat))), (yy_W (m) t)) := by
  rw [xm_w_id (by omega) (by omega), c_1110 (by omega) (by omega) (by omega) (by omega), show (44 + 18 * (r : Int) + (6 + z)).toNat = 50 + 18 * r + z.toNat by omega]
set_option maxRecDepth 20000 in
theorem oc_1110_6 {F : Int → xm_W → Prop} {sc : List Int} {d : Nat} {t : xm_W} {m : Nat → Nat → Int} {r : Nat} {z : Int} (h : r < 5) (hz : 0 ≤ z ∧ z ≤ 11) : xm_Oi (xm_X (xm_old sc) xm_mt (d + 1) 1110 [.inr (.inl (some 74)), .inl ((r : Int)), .inl (xm_w (6 + z))] (yy_W (m) t)) F = F (m 75 (50 + 18 * r + z.toNat)) (yy_W (m) t) := congrArg (fun x => xm_Oi x F) (c_1110_6 h hz)
set_option maxRecDepth 20000 in
theorem c_1138 {sc : List Int} {d : Nat} {t : xm_W} {m : Nat → Nat → Int} {r : Nat} (h : r < 5) (h1 : 0 ≤ m 75 (45 + 18 * r) ∧ m 75 (45 + 18 * r) ≤ 9) (h2 : 0 ≤ m 75 (47 + 18 * r) ∧ m 75 (47 + 18 * r) ≤ 99) : xm_X (xm_old sc) xm_mt (d + 2) 1138 [.inr (.inl (some 74)), .inl ((r : Int))] (yy_W (m) t) = some (some (.inl (sp_deep (m 75 (44 + 18 * r)) (m 75 (45 + 18 * r)) (m 75 (47 + 18 * r)))), (yy_W (m) t)) := by
  refine xm_X_of (M := xm_m1138) rfl ⟨xm_EQ.eq (xb_1138_0 ?_), rfl, rfl, Nat.le_of_ble_eq_true rfl, yy_hd rfl (by decide)⟩
  rw [oc_1110_0 h, oc_1110_1 h, oc_1110_3 h, oc_1137 h2.1 (by omega) h1.1 (by omega)]
set_option maxRecDepth 20000 in
theorem oc_1138 {F : Int → xm_W → Prop} {sc : List Int} {d : Nat} {t : xm_W} {m : Nat → Nat → Int} {r : Nat} (h : r < 5) (h1 : 0 ≤ m 75 (45 + 18 * r) ∧ m 75 (45 + 18 * r) ≤ 9) (h2 : 0 ≤ m 75 (47 + 18 * r) ∧ m 75 (47 + 18 * r) ≤ 99) : xm_Oi (xm_X (xm_old sc) xm_mt (d + 2) 1138 [.inr (.inl (some 74)), .inl ((r : Int))] (yy_W (m) t)) F = F (sp_deep (m 75 (44 + 18 * r)) (m 75 (45 + 18 * r)) (m 75 (47 + 18 * r))) (yy_W (m) t) := congrArg (fun x => xm_Oi x F) (c_1138 h h1 h2)
set_option maxRecDepth 20000 in
theorem sg_nmS_ok {na : Nat → Int} {w step mm g : Int} (h1 : na 119 = w) (h2 : na 115 = step) (h3 : na 109 = mm) (h4 : na 103 = g) : ∀ v, sg_nm 0 v → (fun v : Int => na v.toNat) v = sg_nmS w step mm g v := by
  intro v hv
  unfold sg_nm at hv
  rw [if_pos rfl] at hv
  unfold sg_nmS
  show na v.toNat = _
  rcases hv with h | h | h | h <;> subst h
  · rw [if_pos rfl]; exact h1
  · rw [if_neg (by decide), if_pos rfl]; exact h2
  · rw [if_neg (by decide), if_neg (by decide), if_pos rfl]; exact h3
  · rw [if_neg (by decide), if_neg (by decide), if_neg (by decide)]; exact h4
set_option maxRecDepth 20000 in
theorem c_1134 {sc : List Int} {d : Nat} {t : xm_W} {m : Nat → Nat → Int} {r : Nat} {w step : Int} (hr : r < 5) (hR : sg_R (m 75)) (hT : sg_T (m 75) 0) (hw : 0 ≤ w ∧ w ≤ 3) : ∃ m', xm_X (xm_old sc) xm_mt (d + 4) 1134 [.inr (.inl (some 74)), .inl ((r : Int)), .inl (w), .inl (step)] (yy_W m t) = some (some (.inl (sg_told (m 75) r w step)), yy_W m' t) ∧ ∀ c, c ≠ 80 → c ≠ 81 → m' c = m c := by
  have key : ∀ {Q : Option xm_V × xm_W → Prop}, (∀ m', (∀ c, c ≠ 80 → c ≠ 81 → m' c = m c) → Q (some (.inl (sg_told (m 75) r w step)), yy_W m' t)) → xm_EQ (xm_old sc) xm_sta (xm_X (xm_old sc) xm_mt (d + 3)) xm_m1134.2.2.2.2.2.2.2 0 (xm_loc xm_m1134.2.2.1 [.inr (.inl (some 74)), .inl ((r : Int)), .inl (w), .inl (step)]) [] (yy_W m t) Q := by
    intro Q hQ
    obtain ⟨-, -, -, -, hso, hrd⟩ := id hR
    obtain ⟨a0, a1, a2, a3, a4, a5, a6⟩ := hrd r hr
    refine xb_1134_0 ?_
    rw [oc_1110_1 hr, oc_1125 (by decide)]
    unfold sg_told at hQ
    by_cases h : 0 < sg_tn (m 75) 0
    · rw [if_pos h] at hQ
      have h' : 0 < m 75 (339 + 125 * (0 : Int)).toNat := h
      rw [zz_t h']
      simp (disch := first | omega | (unfold xm_w; omega)) only [↓zy_at, xm_O_some, xm_Oi_some, xm_Ov_some, xm_Oq_some, ↓reduceIte, ↓zz_t, ↓zz_f, ↓zi_t, ↓zi_f, eq_self, yy_d_0, Int.reduceEq, Int.reduceLT, Int.reduceLE, Int.reduceNe, Int.reduceToNat, Int.reduceAdd, Int.reduceSub, Int.reduceMul, Int.reduceNeg, Nat.reduceAdd, Nat.reduceMul, Nat.reduceSub, Nat.reduceEqDiff, Nat.reduceLT, ne_eq, not_false_eq_true, not_true_eq_false, true_and, and_true, and_self, yy_s_eq, yy_s_ne, yy_c_eq, yy_c_ne, yy_u_eq, yy_u_ne, xm_w_id, yy_at, tdiv_pos, tmod_pos, ↓zr_74_0, ↓zr_74_1, ↓zr_74_2, ↓zf_74_3, ↓zs_74_3, ↓zf_74_4, ↓zs_74_4, ↓zr_74_5, ↓zf_74_6, ↓zs_74_6, ↓zf_74_7, ↓zs_74_7, ↓zf_74_8, ↓zs_74_8, ↓zf_74_9, ↓zs_74_9, ↓zr_74_10, ↓zr_74_11, ↓zr_74_12, ↓zf_74_13, ↓zs_74_13, ↓zr_74_14, ↓zf_74_15, ↓zs_74_15, ↓zf_74_16, ↓zs_74_16, ↓zf_74_17, ↓zs_74_17, ↓zr_74_18, ↓zr_74_19, ↓zr_74_20, ↓zr_74_21, ↓zi_80, ↓zt_80, ↓oc_1110_1 hr, ↓oc_1110_2 hr, ↓zi_75]
      obtain ⟨m1, e, f1⟩ := c_1129 (sc := sc) (d := d + 1) (t := t) (u := 0) (m := yy_s (yy_s (yy_s (yy_s m 80 119 w) 80 115 step) 80 109 (m 75 (45 + 18 * r))) 80 103 (m 75 (8 + m 75 (46 + 18 * r)).toNat)) (by decide) (by simp (disch := first | omega | (unfold xm_w; omega)) only [↓zy_at, xm_O_some, xm_Oi_some, xm_Ov_some, xm_Oq_some, ↓reduceIte, ↓zz_t, ↓zz_f, ↓zi_t, ↓zi_f, eq_self, yy_d_0, Int.reduceEq, Int.reduceLT, Int.reduceLE, Int.reduceNe, Int.reduceToNat, Int.reduceAdd, Int.reduceSub, Int.reduceMul, Int.reduceNeg, Nat.reduceAdd, Nat.reduceMul, Nat.reduceSub, Nat.reduceEqDiff, Nat.reduceLT, ne_eq, not_false_eq_true, not_true_eq_false, true_and, and_true, and_self, yy_s_eq, yy_s_ne, yy_c_eq, yy_c_ne, yy_u_eq, yy_u_ne, xm_w_id, yy_at, tdiv_pos, tmod_pos]; exact hT) (by simp (disch := first | omega | (unfold xm_w; omega)) only [↓zy_at, xm_O_some, xm_Oi_some, xm_Ov_some, xm_Oq_some, ↓reduceIte, ↓zz_t, ↓zz_f, ↓zi_t, ↓zi_f, eq_self, yy_d_0, Int.reduceEq, Int.reduceLT, Int.reduceLE, Int.reduceNe, Int.reduceToNat, Int.reduceAdd, Int.reduceSub, Int.reduceMul, Int.reduceNeg, Nat.reduceAdd, Nat.reduceMul, Nat.reduceSub, Nat.reduceEqDiff, Nat.reduceLT, ne_eq, not_false_eq_true, not_true_eq_false, true_and, and_true, and_self, yy_s_eq, yy_s_ne, yy_c_eq, yy_c_ne, yy_u_eq, yy_u_ne, xm_w_id, yy_at, tdiv_pos, tmod_pos]; exact h)
      rw [show ((0 : Nat) : Int) = 0 from rfl] at e
      have ev : sg_val ((yy_s (yy_s (yy_s (yy_s m 80 119 w) 80 115 step) 80 109 (m 75 (45 + 18 * r))) 80 103 (m 75 (8 + m 75 (46 + 18 * r)).toNat)) 75) 0 (fun v => (yy_s (yy_s (yy_s (yy_s m 80 119 w) 80 115 step) 80 109 (m 75 (45 + 18 * r))) 80 103 (m 75 (8 + m 75 (46 + 18 * r)).toNat)) 80 v.toNat) = sg_val (m 75) 0 (sg_nmS w step (m 75 (45 + 18 * r)) (m 75 (8 + m 75 (46 + 18 * r)).toNat)) := by
        rw [show (yy_s (yy_s (yy_s (yy_s m 80 119 w) 80 115 step) 80 109 (m 75 (45 + 18 * r))) 80 103 (m 75 (8 + m 75 (46 + 18 * r)).toNat)) 75 = m 75 by simp (disch := first | omega | (unfold xm_w; omega)) only [↓zy_at, xm_O_some, xm_Oi_some, xm_Ov_some, xm_Oq_some, ↓reduceIte, ↓zz_t, ↓zz_f, ↓zi_t, ↓zi_f, eq_self, yy_d_0, Int.reduceEq, Int.reduceLT, Int.reduceLE, Int.reduceNe, Int.reduceToNat, Int.reduceAdd, Int.reduceSub, Int.reduceMul, Int.reduceNeg, Nat.reduceAdd, Nat.reduceMul, Nat.reduceSub, Nat.reduceEqDiff, Nat.reduceLT, ne_eq, not_false_eq_true, not_true_eq_false, true_and, and_true, and_self, yy_s_eq, yy_s_ne, yy_c_eq, yy_c_ne, yy_u_eq, yy_u_ne, xm_w_id, yy_at, tdiv_pos, tmod_pos]]
        refine sg_val_congr hT (sg_nmS_ok ?_ ?_ ?_ ?_)
        · simp (disch := first | omega | (unfold xm_w; omega)) only [↓zy_at, xm_O_some, xm_Oi_some, xm_Ov_some, xm_Oq_some, ↓reduceIte, ↓zz_t, ↓zz_f, ↓zi_t, ↓zi_f, eq_self, yy_d_0, Int.reduceEq, Int.reduceLT, Int.reduceLE, Int.reduceNe, Int.reduceToNat, Int.reduceAdd, Int.reduceSub, Int.reduceMul, Int.reduceNeg, Nat.reduceAdd, Nat.reduceMul, Nat.reduceSub, Nat.reduceEqDiff, Nat.reduceLT, ne_eq, not_false_eq_true, not_true_eq_false, true_and, and_true, and_self, yy_s_eq, yy_s_ne, yy_c_eq, yy_c_ne, yy_u_eq, yy_u_ne, xm_w_id, yy_at, tdiv_pos, tmod_pos]
        · simp (disch := first | omega | (unfold xm_w; omega)) only [↓zy_at, xm_O_some, xm_Oi_some, xm_Ov_some, xm_Oq_some, ↓reduceIte, ↓zz_t, ↓zz_f, ↓zi_t, ↓zi_f, eq_self, yy_d_0, Int.reduceEq, Int.reduceLT, Int.reduceLE, Int.reduceNe, Int.reduceToNat, Int.reduceAdd, Int.reduceSub, Int.reduceMul, Int.reduceNeg, Nat.reduceAdd, Nat.reduceMul, Nat.reduceSub, Nat.reduceEqDiff, Nat.reduceLT, ne_eq, not_false_eq_true, not_true_eq_false, true_and, and_true, and_self, yy_s_eq, yy_s_ne, yy_c_eq, yy_c_ne, yy_u_eq, yy_u_ne, xm_w_id, yy_at, tdiv_pos, tmod_pos]
        · simp (disch := first | omega | (unfold xm_w; omega)) only [↓zy_at, xm_O_some, xm_Oi_some, xm_Ov_some, xm_Oq_some, ↓reduceIte, ↓zz_t, ↓zz_f, ↓zi_t, ↓zi_f, eq_self, yy_d_0, Int.reduceEq, Int.reduceLT, Int.reduceLE, Int.reduceNe, Int.reduceToNat, Int.reduceAdd, Int.reduceSub, Int.reduceMul, Int.reduceNeg, Nat.reduceAdd, Nat.reduceMul, Nat.reduceSub, Nat.reduceEqDiff, Nat.reduceLT, ne_eq, not_false_eq_true, not_true_eq_false, true_and, and_true, and_self, yy_s_eq, yy_s_ne, yy_c_eq, yy_c_ne, yy_u_eq, yy_u_ne, xm_w_id, yy_at, tdiv_pos, tmod_pos]
        · simp (disch := first | omega | (unfold xm_w; omega)) only [↓zy_at, xm_O_some, xm_Oi_some, xm_Ov_some, xm_Oq_some, ↓reduceIte, ↓zz_t, ↓zz_f, ↓zi_t, ↓zi_f, eq_self, yy_d_0, Int.reduceEq, Int.reduceLT, Int.reduceLE, Int.reduceNe, Int.reduceToNat, Int.reduceAdd, Int.reduceSub, Int.reduceMul, Int.reduceNeg, Nat.reduceAdd, Nat.reduceMul, Nat.reduceSub, Nat.reduceEqDiff, Nat.reduceLT, ne_eq, not_false_eq_true, not_true_eq_false, true_and, and_true, and_self, yy_s_eq, yy_s_ne, yy_c_eq, yy_c_ne, yy_u_eq, yy_u_ne, xm_w_id, yy_at, tdiv_pos, tmod_pos]
      rw [ev] at e
      rw [e, xm_Oi_some]
      have fr : ∀ c, c ≠ 80 → c ≠ 81 → m1 c = m c := fun c h1 h2 => by rw [f1 c h2]; simp (disch := first | omega | (unfold xm_w; omega)) only [↓zy_at, xm_O_some, xm_Oi_some, xm_Ov_some, xm_Oq_some, ↓reduceIte, ↓zz_t, ↓zz_f, ↓zi_t, ↓zi_f, eq_self, yy_d_0, Int.reduceEq, Int.reduceLT, Int.reduceLE, Int.reduceNe, Int.reduceToNat, Int.reduceAdd, Int.reduceSub, Int.reduceMul, Int.reduceNeg, Nat.reduceAdd, Nat.reduceMul, Nat.reduceSub, Nat.reduceEqDiff, Nat.reduceLT, ne_eq, not_false_eq_true, not_true_eq_false, true_and, and_true, and_self, yy_s_eq, yy_s_ne, yy_c_eq, yy_c_ne, yy_u_eq, yy_u_ne, xm_w_id, yy_at, tdiv_pos, tmod_pos]
      have := hQ m1 fr
      unfold sg_s4 at this
      split
      · rename_i g; rw [if_pos g] at this; exact this
      · rename_i g; rw [if_neg g] at this; exact this
    · rw [if_neg h] at hQ
      have h' : ¬ 0 < m 75 (339 + 125 * (0 : Int)).toNat := h
      rw [zz_f h']
      have := hQ m fun c _ _ => rfl
      unfold sg_s4 at this
      rw [if_neg (by omega)] at this
      rw [xm_w_id (by omega) (by omega), if_neg (by omega), tmod_pos (by omega)]
      exact ⟨by decide, this⟩
  obtain ⟨q, h1, m', h2, h3⟩ := yx_of (y := 1134) (M := xm_m1134) (sc := sc) (d := d + 3) (as := [.inr (.inl (some 74)), .inl ((r : Int)), .inl (w), .inl (step)]) (w := yy_W m t) (Q := fun q => ∃ m', q = (some (.inl (sg_told (m 75) r w step)), yy_W m' t) ∧ (∀ c, c ≠ 80 → c ≠ 81 → m' c = m c)) rfl (key fun m' h => ⟨m', rfl, h⟩) (fun q ⟨m', h, _⟩ => by rw [h]; rfl) rfl (Nat.le_of_ble_eq_true rfl) (yy_hd rfl (by decide))
  exact ⟨m', by rw [h1, h2], h3⟩
set_option maxRecDepth 20000 in
theorem c_1136 {sc : List Int} {d : Nat} {t : xm_W} {m : Nat → Nat → Int} {r : Nat} {w step : Int} (hr : r < 5) (hR : sg_R (m 75)) (hT : sg_T (m 75) 0) (hw : 0 ≤ w ∧ w ≤ 3) (hs : 0 ≤ step) : ∃ m', xm_X (xm_old sc) xm_mt (d + 5) 1136 [.inr (.inl (some 74)), .inl ((r : Int)), .inl (w), .inl (step)] (yy_W m t) = some (some (.inl (sg_sh (m 75) r w step)), yy_W m' t) ∧ ∀ c, c ≠ 80 → c ≠ 81 → m' c = m c := by
  have key : ∀ {Q : Option xm_V × xm_W → Prop}, (∀ m', (∀ c, c ≠ 80 → c ≠ 81 → m' c = m c) → Q (some (.inl (sg_sh (m 75) r w step)), yy_W m' t)) → xm_EQ (xm_old sc) xm_sta (xm_X (xm_old sc) xm_mt (d + 4)) xm_m1136.2.2.2.2.2.2.2 0 (xm_loc xm_m1136.2.2.1 [.inr (.inl (some 74)), .inl ((r : Int)), .inl (w), .inl (step)]) [] (yy_W m t) Q := by
    intro Q hQ
    obtain ⟨-, -, -, -, hso, hrd⟩ := id hR
    obtain ⟨a0, a1, a2, a3, a4, a5, a6⟩ := hrd r hr
    refine xb_1136_0 ?_
    rw [oc_1110_0 hr]
    have hq : m 75 (44 + 18 * r) ≠ 6 → Q (some (.inl (sp_shown (m 75 (44 + 18 * r)) w step)), (yy_W (m) t)) := by
      intro h
      have := hQ m fun c _ _ => rfl
      unfold sg_sh at this
      rw [if_neg h] at this
      exact this
    unfold sp_shown at hq
    have lame : 0 ≤ sp_lame w step ∧ sp_lame w step < 4 := by unfold sp_lame sp_back; split <;> omega
    rcases (show m 75 (44 + 18 * r) = 0 ∨ m 75 (44 + 18 * r) = 1 ∨ m 75 (44 + 18 * r) = 2 ∨ m 75 (44 + 18 * r) = 3 ∨ m 75 (44 + 18 * r) = 4 ∨ m 75 (44 + 18 * r) = 5 ∨ m 75 (44 + 18 * r) = 6 by omega) with h | h | h | h | h | h | h
    · rw [h] at hq ⊢; exact hq (by decide)
    · rw [h] at hq ⊢; rw [if_pos rfl, oc_1133 hw.1 (by omega)]; exact hq (by decide)
    · rw [h] at hq ⊢; rw [if_neg (by decide), if_pos rfl, oc_1135 hw.1 (by omega) hs]; exact hq (by decide)
    · rw [h] at hq ⊢; exact hq (by decide)
    · rw [h] at hq ⊢
      rw [if_neg (by decide), if_neg (by decide), if_neg (by decide), if_pos rfl, tmod_pos hs]
      refine ⟨by decide, ?_⟩
      have := hq (by decide)
      rw [if_neg (by decide), if_neg (by decide), if_neg (by decide), if_neg (by decide), if_pos rfl] at this
      split
      · rename_i g; rw [if_pos g] at this; rw [oc_1133 hw.1 (by omega)]; exact this
      · rename_i g; rw [if_neg g] at this; exact this
    · rw [h] at hq ⊢
      rw [if_neg (by decide), if_neg (by decide), if_neg (by decide), if_neg (by decide), if_pos rfl, oc_1135 hw.1 (by omega) hs, tmod_pos lame.1]
      refine ⟨by decide, ?_⟩
      have := hq (by decide)
      rw [if_neg (by decide), if_neg (by decide), if_neg (by decide), if_neg (by decide), if_neg (by decide), if_pos rfl] at this
      split
      · rename_i g; rw [if_pos g] at this; rw [oc_1133 lame.1 lame.2]; exact this
      · rename_i g; rw [if_neg g] at this; exact this
    · rw [h]
      rw [if_neg (by decide), if_neg (by decide), if_neg (by decide), if_neg (by decide), if_neg (by decide), if_pos rfl]
      obtain ⟨m1, e, f1⟩ := c_1134 (sc := sc) (d := d) (t := t) (m := m) (step := step) hr hR hT hw
      rw [e, xm_Oi_some]
      have := hQ m1 f1
      unfold sg_sh at this
      rw [if_pos h] at this
      exact this
  obtain ⟨q, h1, m', h2, h3⟩ := yx_of (y := 1136) (M := xm_m1136) (sc := sc) (d := d + 4) (as := [.inr (.inl (some 74)), .inl ((r : Int)), .inl (w), .inl (step)]) (w := yy_W m t) (Q := fun q => ∃ m', q = (some (.inl (sg_sh (m 75) r w step)), yy_W m' t) ∧ (∀ c, c ≠ 80 → c ≠ 81 → m' c = m c)) rfl (key fun m' h => ⟨m', rfl, h⟩) (fun q ⟨m', h, _⟩ => by rw [h]; rfl) rfl (Nat.le_of_ble_eq_true rfl) (yy_hd rfl (by decide))
  exact ⟨m', by rw [h1, h2], h3⟩
end
section
/-! a print is left -/
def sg_ap (s : Nat → Int) (c sh dp h r : Int) : Nat → Int := yy_u (yy_u (yy_u (yy_u (yy_u (yy_u s (134 + 5 * (s 3).toNat) c) (134 + 5 * (s 3).toNat + 1) sh) (134 + 5 * (s 3).toNat + 2) dp) (134 + 5 * (s 3).toNat + 3) h) (134 + 5 * (s 3).toNat + 4) r) 3 (s 3 + 1)
def sg_dp (s : Nat → Int) (r : Nat) : Int := sp_deep (s (44 + 18 * r)) (s (45 + 18 * r)) (s (47 + 18 * r))
def sg_lv (s : Nat → Int) (r : Nat) (w step : Int) : Nat → Int :=
  if sg_sh s r w step = -1 ∨ sg_k s (s (46 + 18 * r)) = 0 then s
  else if 40 < s 3 + 1 then sg_clr (sg_K (sg_ap s (s (46 + 18 * r)) (sg_sh s r w step) (sg_dp s r) (s 1) r) 1 (-1)) (sg_ap s (s (46 + 18 * r)) (sg_sh s r w step) (sg_dp s r) (s 1) r)
  else sg_ap s (s (46 + 18 * r)) (sg_sh s r w step) (sg_dp s r) (s 1) r
def sg_way (s : Nat → Int) (r : Nat) : Int := s (50 + 18 * r + (s (49 + 18 * r)).toNat)
def sg_rd (s : Nat → Int) (r : Nat) : Nat → Int :=
  if sp_next (s (46 + 18 * r)) (sg_way s r) = -1 then yy_u s (49 + 18 * r) (s (49 + 18 * r) + 1)
  else yy_u (yy_u (sg_lv s r (sg_way s r) (s (49 + 18 * r))) (46 + 18 * r) (sp_next (s (46 + 18 * r)) (sg_way s r))) (49 + 18 * r) (s (49 + 18 * r) + 1)
def sg_hl (st : Int) : Nat → Nat → (Nat → Int) → (Nat → Int)
  | 0, _, s => s
  | k + 1, r, s => sg_hl st k (r + 1) (if (r : Int) ≠ st ∧ s (49 + 18 * r) < s (48 + 18 * r) then sg_rd s r else s)
def sg_h1 (st : Int) (s : Nat → Int) : Nat → Int := yy_u (sg_hl st (s 0).toNat 0 s) 1 (sg_hl st (s 0).toNat 0 s 1 + 1)
def sg_hour (st : Int) (s : Nat → Int) : Nat → Int := sg_clr (sg_K (sg_h1 st s) 0 (-1)) (sg_h1 st s)
def sg_go (st : Int) : Nat → (Nat → Int) → (Nat → Int)
  | 0, s => s
  | n + 1, s => sg_go st n (sg_hour st s)
set_option maxRecDepth 20000 in
theorem sg_deep_r {k l s : Int} (h1 : 0 ≤ l ∧ l ≤ 9) (h2 : 0 ≤ s ∧ s ≤ 99) : 0 ≤ sp_deep k l s ∧ sp_deep k l s ≤ 99 := by
  unfold sp_deep
  repeat' split
  all_goals omega
set_option maxRecDepth 20000 in
theorem sg_ap_o {s : Nat → Int} {c sh dp h r : Int} {k : Nat} (hk : k ≠ 3) (h2 : k < 134 + 5 * (s 3).toNat ∨ 134 + 5 * (s 3).toNat + 5 ≤ k) : sg_ap s c sh dp h r k = s k := by
  unfold sg_ap yy_u
  rw [if_neg hk, if_neg (by omega), if_neg (by omega), if_neg (by omega), if_neg (by omega), if_neg (by omega)]
set_option maxRecDepth 20000 in
theorem sg_ap_3 {s : Nat → Int} {c sh dp h r : Int} : sg_ap s c sh dp h r 3 = s 3 + 1 := yy_u_eq
set_option maxRecDepth 20000 in
theorem sg_ap_n {s : Nat → Int} {c sh dp h r : Int} : sg_p (sg_ap s c sh dp h r) (s 3).toNat 0 = c ∧ sg_p (sg_ap s c sh dp h r) (s 3).toNat 1 = sh ∧ sg_p (sg_ap s c sh dp h r) (s 3).toNat 2 = dp ∧ sg_p (sg_ap s c sh dp h r) (s 3).toNat 3 = h ∧ sg_p (sg_ap s c sh dp h r) (s 3).toNat 4 = r := by
  unfold sg_p sg_ap yy_u
  refine ⟨?_, ?_, ?_, ?_, ?_⟩
  · rw [if_neg (by omega), if_neg (by omega), if_neg (by omega), if_neg (by omega), if_neg (by omega), if_pos (by omega)]
  · rw [if_neg (by omega), if_neg (by omega), if_neg (by omega), if_neg (by omega), if_pos (by omega)]
  · rw [if_neg (by omega), if_neg (by omega), if_neg (by omega), if_pos (by omega)]
  · rw [if_neg (by omega), if_neg (by omega), if_pos (by omega)]
  · rw [if_neg (by omega), if_pos (by omega)]
set_option maxRecDepth 20000 in
theorem sg_ap_p {s : Nat → Int} {c sh dp h r : Int} {i w : Nat} (hi : (i : Int) < s 3) (hw : w < 5) : sg_p (sg_ap s c sh dp h r) i w = sg_p s i w := by
  unfold sg_p
  exact sg_ap_o (by omega) (by omega)
set_option maxRecDepth 20000 in
theorem sg_k_eq {s s' : Nat → Int} {c : Int} (h2 : s' 2 = s 2) (h : s' (8 + c).toNat = s (8 + c).toNat) : sg_k s' c = sg_k s c := by
  unfold sg_k; rw [h2, h]
/-! all that holds between acts, and (with r) within an hour -/
def sg_W (s : Nat → Int) (r : Int) : Prop := sg_R s ∧ sg_O s r ∧ sg_S s ∧ sg_T s 0 ∧ sg_T s 1
set_option maxRecDepth 20000 in
theorem sg_W_B {s : Nat → Int} {r : Int} (h : sg_W s r) : sg_B s := by
  obtain ⟨⟨h0, h1, h2, h3, -⟩, ⟨h4, -⟩, -⟩ := h
  exact ⟨h2, by omega, fun i hi => ⟨(h4 i hi).1.1, (h4 i hi).1.2.2.2.1⟩⟩
/-! the row with a print more, still in bounds for the walk -/
set_option maxRecDepth 20000 in
theorem sg_ap_B {s : Nat → Int} {c sh dp h r q : Int} (hB : sg_W s q) (hc : 0 ≤ c ∧ c ≤ 35) (hh : 0 ≤ h ∧ h ≤ 20000) : sg_B (sg_ap s c sh dp h r) := by
  have B := sg_W_B hB
  obtain ⟨⟨h0, h1, h2, h3, -⟩, -⟩ := hB
  obtain ⟨n0, -, -, n3, -⟩ := sg_ap_n (s := s) (c := c) (sh := sh) (dp := dp) (h := h) (r := r)
  refine ⟨by rw [sg_ap_o (by decide) (by omega)]; exact h2, by rw [sg_ap_3]; omega, fun i hi => ?_⟩
  rw [sg_ap_3] at hi
  by_cases e : (i : Int) < s 3
  · rw [sg_ap_p e (by decide), sg_ap_p e (by decide)]; exact B.2.2 i e
  · have ei : i = (s 3).toNat := by omega
    subst ei
    rw [n0, n3]; exact ⟨hc, hh⟩
set_option maxRecDepth 20000 in
theorem c_1154 {sc : List Int} {d : Nat} {t : xm_W} {m : Nat → Nat → Int} {r : Nat} {w step q : Int} (hr : r < 5) (hW : sg_W (m 75) q) (hw : 0 ≤ w ∧ w ≤ 3) (hs : 0 ≤ step) : ∃ m', xm_X (xm_old sc) xm_mt (d + 6) 1154 [.inr (.inl (some 74)), .inl ((r : Int)), .inl (w), .inl (step)] (yy_W m t) = some (none, yy_W m' t) ∧ (∀ c, c ≠ 75 → c ≠ 80 → c ≠ 81 → m' c = m c) ∧ m' 75 = sg_lv (m 75) r w step := by
  have key : ∀ {Q : Option xm_V × xm_W → Prop}, (∀ m', ((∀ c, c ≠ 75 → c ≠ 80 → c ≠ 81 → m' c = m c) ∧ m' 75 = sg_lv (m 75) r w step) → Q (none, yy_W m' t)) → xm_EQ (xm_old sc) xm_sta (xm_X (xm_old sc) xm_mt (d + 5)) xm_m1154.2.2.2.2.2.2.2 0 (xm_loc xm_m1154.2.2.1 [.inr (.inl (some 74)), .inl ((r : Int)), .inl (w), .inl (step)]) [] (yy_W m t) Q := by
    intro Q hQ
    obtain ⟨hR, hO, hS, hT, hT1⟩ := id hW
    obtain ⟨b0, b1, b2, b3, hso, hrd⟩ := id hR
    obtain ⟨a0, a1, a2, a3, a4, a5, a6⟩ := hrd r hr
    refine xb_1154_0 ?_
    obtain ⟨m1, e, f1⟩ := c_1136 (sc := sc) (d := d) (t := t) (m := m) (step := step) hr hR hT hw hs
    have e75 : m1 75 = m 75 := f1 75 (by decide) (by decide)
    rw [e, xm_Oi_some, oc_1110_2 hr, e75]
    by_cases g1 : sg_sh (m 75) r w step = -1
    · rw [if_pos g1]
      refine hQ m1 ⟨fun c c1 c2 c3 => f1 c c2 c3, ?_⟩
      unfold sg_lv
      rw [if_pos (Or.inl g1)]; exact e75
    · rw [if_neg g1, oc_1130 a2 (by rw [e75]; exact b2), e75]
      by_cases g2 : sg_k (m 75) (m 75 (46 + 18 * r)) = 0
      · rw [if_pos g2]
        refine hQ m1 ⟨fun c c1 c2 c3 => f1 c c2 c3, ?_⟩
        unfold sg_lv
        rw [if_pos (Or.inr g2)]; exact e75
      · rw [if_neg g2]
        simp (disch := first | omega | (unfold xm_w; omega)) only [↓zy_at, xm_O_some, xm_Oi_some, xm_Ov_some, xm_Oq_some, ↓reduceIte, ↓zz_t, ↓zz_f, ↓zi_t, ↓zi_f, eq_self, yy_d_0, Int.reduceEq, Int.reduceLT, Int.reduceLE, Int.reduceNe, Int.reduceToNat, Int.reduceAdd, Int.reduceSub, Int.reduceMul, Int.reduceNeg, Nat.reduceAdd, Nat.reduceMul, Nat.reduceSub, Nat.reduceEqDiff, Nat.reduceLT, ne_eq, not_false_eq_true, not_true_eq_false, true_and, and_true, and_self, yy_s_eq, yy_s_ne, yy_c_eq, yy_c_ne, yy_u_eq, yy_u_ne, xm_w_id, yy_at, tdiv_pos, tmod_pos, ↓zr_74_0, ↓zr_74_1, ↓zr_74_2, ↓zf_74_3, ↓zs_74_3, ↓zf_74_4, ↓zs_74_4, ↓zr_74_5, ↓zf_74_6, ↓zs_74_6, ↓zf_74_7, ↓zs_74_7, ↓zf_74_8, ↓zs_74_8, ↓zf_74_9, ↓zs_74_9, ↓zr_74_10, ↓zr_74_11, ↓zr_74_12, ↓zf_74_13, ↓zs_74_13, ↓zr_74_14, ↓zf_74_15, ↓zs_74_15, ↓zf_74_16, ↓zs_74_16, ↓zf_74_17, ↓zs_74_17, ↓zr_74_18, ↓zr_74_19, ↓zr_74_20, ↓zr_74_21, ↓zi_75, ↓zt_75, e75, Int.add_zero]
        have hdp : sg_dp (m 75) r = sp_deep (m 75 (44 + 18 * r)) (m 75 (45 + 18 * r)) (m 75 (47 + 18 * r)) := rfl
        rw [oc_1138 hr (by simp (disch := first | omega | (unfold xm_w; omega)) only [↓zy_at, xm_O_some, xm_Oi_some, xm_Ov_some, xm_Oq_some, ↓reduceIte, ↓zz_t, ↓zz_f, ↓zi_t, ↓zi_f, eq_self, yy_d_0, Int.reduceEq, Int.reduceLT, Int.reduceLE, Int.reduceNe, Int.reduceToNat, Int.reduceAdd, Int.reduceSub, Int.reduceMul, Int.reduceNeg, Nat.reduceAdd, Nat.reduceMul, Nat.reduceSub, Nat.reduceEqDiff, Nat.reduceLT, ne_eq, not_false_eq_true, not_true_eq_false, true_and, and_true, and_self, yy_s_eq, yy_s_ne, yy_c_eq, yy_c_ne, yy_u_eq, yy_u_ne, xm_w_id, yy_at, tdiv_pos, tmod_pos, e75]; exact a1) (by simp (disch := first | omega | (unfold xm_w; omega)) only [↓zy_at, xm_O_some, xm_Oi_some, xm_Ov_some, xm_Oq_some, ↓reduceIte, ↓zz_t, ↓zz_f, ↓zi_t, ↓zi_f, eq_self, yy_d_0, Int.reduceEq, Int.reduceLT, Int.reduceLE, Int.reduceNe, Int.reduceToNat, Int.reduceAdd, Int.reduceSub, Int.reduceMul, Int.reduceNeg, Nat.reduceAdd, Nat.reduceMul, Nat.reduceSub, Nat.reduceEqDiff, Nat.reduceLT, ne_eq, not_false_eq_true, not_true_eq_false, true_and, and_true, and_self, yy_s_eq, yy_s_ne, yy_c_eq, yy_c_ne, yy_u_eq, yy_u_ne, xm_w_id, yy_at, tdiv_pos, tmod_pos, e75]; exact a3)]
        simp (disch := first | omega | (unfold xm_w; omega)) only [↓zy_at, xm_O_some, xm_Oi_some, xm_Ov_some, xm_Oq_some, ↓reduceIte, ↓zz_t, ↓zz_f, ↓zi_t, ↓zi_f, eq_self, yy_d_0, Int.reduceEq, Int.reduceLT, Int.reduceLE, Int.reduceNe, Int.reduceToNat, Int.reduceAdd, Int.reduceSub, Int.reduceMul, Int.reduceNeg, Nat.reduceAdd, Nat.reduceMul, Nat.reduceSub, Nat.reduceEqDiff, Nat.reduceLT, ne_eq, not_false_eq_true, not_true_eq_false, true_and, and_true, and_self, yy_s_eq, yy_s_ne, yy_c_eq, yy_c_ne, yy_u_eq, yy_u_ne, xm_w_id, yy_at, tdiv_pos, tmod_pos, ↓zr_74_0, ↓zr_74_1, ↓zr_74_2, ↓zf_74_3, ↓zs_74_3, ↓zf_74_4, ↓zs_74_4, ↓zr_74_5, ↓zf_74_6, ↓zs_74_6, ↓zf_74_7, ↓zs_74_7, ↓zf_74_8, ↓zs_74_8, ↓zf_74_9, ↓zs_74_9, ↓zr_74_10, ↓zr_74_11, ↓zr_74_12, ↓zf_74_13, ↓zs_74_13, ↓zr_74_14, ↓zf_74_15, ↓zs_74_15, ↓zf_74_16, ↓zs_74_16, ↓zf_74_17, ↓zs_74_17, ↓zr_74_18, ↓zr_74_19, ↓zr_74_20, ↓zr_74_21, ↓zi_75, ↓zt_75, e75, Int.add_zero]
        have ti : ∀ j : Int, 0 ≤ j → (134 + 5 * m 75 3 + j).toNat = 134 + 5 * (m 75 3).toNat + j.toNat := fun j hj => by omega
        have t0 : (134 + 5 * m 75 3).toNat = 134 + 5 * (m 75 3).toNat := by omega
        rw [ti 1 (by decide), ti 2 (by decide), ti 3 (by decide), ti 4 (by decide), t0]
        have eW : yy_s (yy_s (yy_s (yy_s (yy_s (yy_s m1 75 (134 + 5 * (m 75 3).toNat) (m 75 (46 + 18 * r))) 75 (134 + 5 * (m 75 3).toNat + Int.toNat 1) (sg_sh (m 75) r w step)) 75 (134 + 5 * (m 75 3).toNat + Int.toNat 2) (sp_deep (m 75 (44 + 18 * r)) (m 75 (45 + 18 * r)) (m 75 (47 + 18 * r)))) 75 (134 + 5 * (m 75 3).toNat + Int.toNat 3) (m 75 1)) 75 (134 + 5 * (m 75 3).toNat + Int.toNat 4) (r : Int)) 75 3 (m 75 3 + 1) = yy_c m1 75 (sg_ap (m 75) (m 75 (46 + 18 * r)) (sg_sh (m 75) r w step) (sg_dp (m 75) r) (m 75 1) r) := by
          simp only [yy_s, yy_c_c, yy_c_eq, e75]
          rfl
        rw [eW]
        have hB := sg_ap_B (c := m 75 (46 + 18 * r)) (sh := sg_sh (m 75) r w step) (dp := sg_dp (m 75) r) (h := m 75 1) (r := r) hW a2 b1
        have fin : ∀ f, (∀ c, c ≠ 75 → c ≠ 80 → c ≠ 81 → yy_c m1 75 f c = m c) := fun f c c1 c2 c3 => by rw [yy_c_ne c1]; exact f1 c c2 c3
        by_cases g3 : 40 < m 75 3 + 1
        · rw [if_pos g3, oc_1132 (d := d) (by rw [yy_c_eq]; exact hB), yy_c_eq, yy_c_c]
          refine hQ _ ⟨fin _, ?_⟩
          unfold sg_lv
          rw [if_neg (by omega), if_pos g3, yy_c_eq]
        · rw [if_neg g3]
          refine hQ _ ⟨fin _, ?_⟩
          unfold sg_lv
          rw [if_neg (by omega), if_neg g3, yy_c_eq]
  obtain ⟨q, h1, m', h2, h3⟩ := yx_of (y := 1154) (M := xm_m1154) (sc := sc) (d := d + 5) (as := [.inr (.inl (some 74)), .inl ((r : Int)), .inl (w), .inl (step)]) (w := yy_W m t) (Q := fun q => ∃ m', q = (none, yy_W m' t) ∧ ((∀ c, c ≠ 75 → c ≠ 80 → c ≠ 81 → m' c = m c) ∧ m' 75 = sg_lv (m 75) r w step)) rfl (key fun m' h => ⟨m', rfl, h⟩) (fun q ⟨m', h, _⟩ => by rw [h]; rfl) rfl (Nat.le_of_ble_eq_true rfl) (yy_hd rfl (by decide))
  exact ⟨m', by rw [h1, h2], h3⟩
/-! an hour keeps what holds -/
set_option maxRecDepth 20000 in
theorem sg_T_eq {s s' : Nat → Int} {u : Nat} (hu : u < 2) (h : ∀ k, 339 ≤ k → k < 589 → s' k = s k) (hT : sg_T s u) : sg_T s' u := by
  have hn : sg_tn s' u = sg_tn s u := h _ (by omega) (by omega)
  obtain ⟨h1, h2, h3⟩ := hT
  have hd : ∀ k : Nat, (k : Int) ≤ sg_tn s u → sg_d s' u k = sg_d s u k := by
    intro k
    induction k with
    | zero => intro _; rfl
    | succ k ih =>
      intro hk
      have e : sg_tw s' u k = sg_tw s u k := h _ (by omega) (by omega)
      unfold sg_d
      rw [ih (by omega), e]
  refine ⟨by rw [hn]; exact h1, fun h0 => ?_, fun k hk => ?_⟩
  · rw [hn] at h0 ⊢; rw [hd _ (by omega)]; exact h2 h0
  · rw [hn] at hk
    have e1 : sg_tw s' u k = sg_tw s u k := h _ (by omega) (by omega)
    have e2 : sg_tv s' u k = sg_tv s u k := h _ (by omega) (by omega)
    have := h3 k hk
    unfold sg_tok at this ⊢
    rw [e1, e2, hd k (by omega)]
    exact this
/-! what stays after a walk over the prints -/
set_option maxRecDepth 20000 in
theorem sg_clr_o {K : Nat → Bool} {s : Nat → Int} {k : Nat} (h3 : 0 ≤ s 3 ∧ s 3 ≤ 41) (hk : k ≠ 3) (h : k < 134 ∨ 339 ≤ k) : sg_clr K s k = s k := by
  obtain ⟨g, g1, g2, g3, g4, g5⟩ := sg_cl_ok K (s 3).toNat 0 0 s (Nat.le_refl 0)
  unfold sg_clr
  rw [yy_u_ne hk]
  exact g5 k (by omega)
set_option maxRecDepth 20000 in
theorem sg_clr_p {K : Nat → Bool} {s : Nat → Int} (h3 : 0 ≤ s 3 ∧ s 3 ≤ 41) : ∃ g : Nat → Nat, (0 ≤ sg_clr K s 3 ∧ sg_clr K s 3 ≤ s 3) ∧ (∀ j : Nat, (j : Int) < sg_clr K s 3 → (g j : Int) < s 3 ∧ K (g j) = true ∧ ∀ w, w < 5 → sg_p (sg_clr K s) j w = sg_p s (g j) w) ∧ ∀ j j' : Nat, j < j' → (j' : Int) < sg_clr K s 3 → g j < g j' := by
  obtain ⟨g, g1, g2, g3, g4, g5⟩ := sg_cl_ok K (s 3).toNat 0 0 s (Nat.le_refl 0)
  have e3 : sg_clr K s 3 = (sg_cl K (s 3).toNat 0 0 s).2 := yy_u_eq
  refine ⟨g, by omega, fun j hj => ?_, fun j j' hj hj' => g4 j j' (by omega) hj (by omega)⟩
  obtain ⟨a1, a2, a3, a4⟩ := g3 j (by omega) (by omega)
  refine ⟨by omega, a3, fun w hw => ?_⟩
  unfold sg_p sg_clr
  rw [yy_u_ne (by omega)]
  exact a4 w hw
/-! the orders of the prints that are kept -/
set_option maxRecDepth 20000 in
theorem sg_clr_O {K : Nat → Bool} {s : Nat → Int} {r : Int} (h3 : 0 ≤ s 3 ∧ s 3 ≤ 41) (h : sg_O s r) : sg_O (sg_clr K s) r := by
  obtain ⟨g, g1, g2, g3⟩ := sg_clr_p (K := K) h3
  have e1 : sg_clr K s 1 = s 1 := sg_clr_o h3 (by decide) (Or.inl (by decide))
  refine ⟨fun i hi => ?_, fun i j hij hj => ?_⟩
  · obtain ⟨a1, a2, a3⟩ := g2 i hi
    obtain ⟨b1, b2⟩ := h.1 (g i) a1
    unfold sg_E at b1 ⊢
    rw [e1, a3 0 (by decide), a3 1 (by decide), a3 2 (by decide), a3 3 (by decide), a3 4 (by decide)]
    exact ⟨b1, b2⟩
  · obtain ⟨a1, a2, a3⟩ := g2 i (by omega)
    obtain ⟨c1, c2, c3⟩ := g2 j hj
    have := h.2 (g i) (g j) (g3 i j hij hj) c1
    unfold sg_lt at this ⊢
    rw [a3 3 (by decide), a3 4 (by decide), c3 3 (by decide), c3 4 (by decide)]
    exact this
set_option maxRecDepth 20000 in
theorem sg_R_eq {s s' : Nat → Int} (h : ∀ k, k < 134 → k ≠ 3 → s' k = s k) (h3 : 0 ≤ s' 3 ∧ s' 3 ≤ 40) (hR : sg_R s) : sg_R s' := by
  obtain ⟨a0, a1, a2, a3, a4, a5⟩ := hR
  refine ⟨by rw [h 0 (by decide) (by decide)]; exact a0, by rw [h 1 (by decide) (by decide)]; exact a1, by rw [h 2 (by decide) (by decide)]; exact a2, h3, fun k hk => by rw [h _ (by omega) (by omega)]; exact a4 k hk, fun i hi => ?_⟩
  obtain ⟨b0, b1, b2, b3, b4, b5, b6⟩ := a5 i hi
  rw [h _ (by omega) (by omega), h _ (by omega) (by omega), h _ (by omega) (by omega), h _ (by omega) (by omega), h _ (by omega) (by omega), h _ (by omega) (by omega)]
  exact ⟨b0, b1, b2, b3, b4, b5, fun k hk => by rw [h _ (by omega) (by omega)]; exact b6 k hk⟩
set_option maxRecDepth 20000 in
theorem sg_clr_k {K : Nat → Bool} {s : Nat → Int} {c : Int} (h3 : 0 ≤ s 3 ∧ s 3 ≤ 41) (hc : 0 ≤ c ∧ c ≤ 35) : sg_k (sg_clr K s) c = sg_k s c :=
  sg_k_eq (sg_clr_o h3 (by decide) (Or.inl (by decide))) (sg_clr_o h3 (by omega) (Or.inl (by omega)))
set_option maxRecDepth 20000 in
theorem sg_clr_S {K : Nat → Bool} {s : Nat → Int} {r : Int} (h3 : 0 ≤ s 3 ∧ s 3 ≤ 41) (hO : sg_O s r) (h : ∀ i : Nat, (i : Int) < s 3 → K i = true → s 1 ≤ sg_p s i 3 + sg_k s (sg_p s i 0)) : sg_S (sg_clr K s) := by
  obtain ⟨g, g1, g2, g3⟩ := sg_clr_p (K := K) h3
  have e1 : sg_clr K s 1 = s 1 := sg_clr_o h3 (by decide) (Or.inl (by decide))
  intro i hi
  obtain ⟨a1, a2, a3⟩ := g2 i hi
  have b := (hO.1 (g i) a1).1.1
  rw [e1, a3 3 (by decide), a3 0 (by decide), sg_clr_k h3 b]
  exact h (g i) a1 a2
end
section
set_option maxRecDepth 20000 in
theorem sg_ap_O {s : Nat → Int} {c sh dp r : Int} (h3 : 0 ≤ s 3) (h : sg_O s r) (h1 : 0 ≤ s 1 ∧ s 1 ≤ 20000) (hc : 0 ≤ c ∧ c ≤ 35) (hs : 0 ≤ sh ∧ sh ≤ 3) (hd : 0 ≤ dp ∧ dp ≤ 99) (hr : 0 ≤ r ∧ r ≤ 4) : sg_O (sg_ap s c sh dp (s 1) r) (r + 1) := by
  obtain ⟨n0, n1, n2, n3, n4⟩ := sg_ap_n (s := s) (c := c) (sh := sh) (dp := dp) (h := s 1) (r := r)
  have e1 : sg_ap s c sh dp (s 1) r 1 = s 1 := sg_ap_o (by decide) (by omega)
  have e3 := sg_ap_3 (s := s) (c := c) (sh := sh) (dp := dp) (h := s 1) (r := r)
  refine ⟨fun i hi => ?_, fun i j hij hj => ?_⟩
  · rw [e3] at hi
    by_cases e : (i : Int) < s 3
    · obtain ⟨b1, b2⟩ := h.1 i e
      unfold sg_E at b1 ⊢
      rw [e1, sg_ap_p e (by decide), sg_ap_p e (by decide), sg_ap_p e (by decide), sg_ap_p e (by decide), sg_ap_p e (by decide)]
      exact ⟨b1, by omega⟩
    · have ei : i = (s 3).toNat := by omega
      subst ei
      unfold sg_E
      rw [e1, n0, n1, n2, n3, n4]
      exact ⟨⟨hc, hs, hd, h1, hr⟩, by omega⟩
  · rw [e3] at hj
    unfold sg_lt
    by_cases e : (j : Int) < s 3
    · have := h.2 i j hij e
      unfold sg_lt at this
      rw [sg_ap_p (i := i) (w := 3) (by omega) (by decide), sg_ap_p (i := i) (w := 4) (by omega) (by decide), sg_ap_p (i := j) (w := 3) e (by decide), sg_ap_p (i := j) (w := 4) e (by decide)]
      exact this
    · have ej : j = (s 3).toNat := by omega
      subst ej
      have := (h.1 i (by omega)).2
      rw [sg_ap_p (i := i) (w := 3) (by omega) (by decide), sg_ap_p (i := i) (w := 4) (by omega) (by decide), n3, n4]
      exact this
set_option maxRecDepth 20000 in
theorem sg_ap_S {s : Nat → Int} {c sh dp r q : Int} (hR : sg_R s) (hO : sg_O s q) (h : sg_S s) (hc : 0 ≤ c ∧ c ≤ 35) : sg_S (sg_ap s c sh dp (s 1) r) := by
  obtain ⟨-, -, h2, h3, -⟩ := hR
  obtain ⟨n0, n1, n2, n3, n4⟩ := sg_ap_n (s := s) (c := c) (sh := sh) (dp := dp) (h := s 1) (r := r)
  have e1 : sg_ap s c sh dp (s 1) r 1 = s 1 := sg_ap_o (by decide) (by omega)
  have e3 := sg_ap_3 (s := s) (c := c) (sh := sh) (dp := dp) (h := s 1) (r := r)
  have ek : ∀ c', 0 ≤ c' ∧ c' ≤ 35 → sg_k (sg_ap s c sh dp (s 1) r) c' = sg_k s c' := fun c' h' => sg_k_eq (sg_ap_o (by decide) (by omega)) (sg_ap_o (by omega) (by omega))
  intro i hi
  rw [e3] at hi
  rw [e1]
  by_cases e : (i : Int) < s 3
  · rw [sg_ap_p e (by decide), sg_ap_p e (by decide), ek _ (hO.1 i e).1.1]
    exact h i e
  · have ei : i = (s 3).toNat := by omega
    subst ei
    rw [n0, n3, ek _ hc]
    have := sg_k_r (c := c) h2
    omega
set_option maxRecDepth 20000 in
theorem sg_cl_drop {K : Nat → Bool} {n : Nat} {a : Nat → Int} (h : ¬ (K 0 = true)) : sg_cl K (n + 1) 0 0 a = sg_cl K n 1 0 a := by
  rw [sg_cl, if_neg h]
/-! forty one prints, all seen: the oldest goes -/
set_option maxRecDepth 20000 in
theorem sg_shift {a : Nat → Int} {r : Int} (h3 : a 3 = 41) (hO : sg_O a r) (hS : sg_S a) : ∀ k, sg_clr (sg_K a 1 (-1)) a k = if k = 3 then 40 else if 134 ≤ k ∧ k < 334 then a (k + 5) else a k := by
  have hK : ∀ j : Nat, j < 41 → sg_K a 1 (-1) j = decide (1 ≤ j) := by
    intro j hj
    have b := (hO.1 j (by omega)).1.1
    have c := hS j (by omega)
    unfold sg_K
    by_cases e : 1 ≤ j
    · rw [decide_eq_true e, decide_eq_true_iff]; exact ⟨by omega, by omega, c⟩
    · rw [decide_eq_false e, decide_eq_false_iff_not]; omega
  obtain ⟨c1, c2⟩ := sg_cl_all (K := sg_K a 1 (-1)) 40 1 0 a (by decide) (fun j h1 h2 => by rw [hK j (by omega)]; exact decide_eq_true h1)
  intro k
  unfold sg_clr yy_u
  rw [h3, show (41 : Int).toNat = 40 + 1 from rfl, sg_cl_drop (by rw [hK 0 (by decide)]; decide), c1, c2]
  by_cases e : k = 3
  · rw [if_pos e, if_pos e]; rfl
  · rw [if_neg e, if_neg e]
end
section
set_option maxRecDepth 20000 in
theorem sg_lv_W {s : Nat → Int} {r : Nat} {w step : Int} (hr : r < 5) (hW : sg_W s r) (hw : 0 ≤ w ∧ w ≤ 3) : sg_W (sg_lv s r w step) (r + 1 : Nat) ∧ ∀ k, (k < 134 ∨ 339 ≤ k) → k ≠ 3 → sg_lv s r w step k = s k := by
  obtain ⟨hR, hO, hS, hT, hT1⟩ := id hW
  obtain ⟨b0, b1, b2, b3, hso, hrd⟩ := id hR
  obtain ⟨a0, a1, a2, a3, a4, a5, a6⟩ := hrd r hr
  have sh := sg_sh_r (s := s) (r := r) (step := step) hw
  have dp := sg_deep_r (k := s (44 + 18 * r)) a1 a3
  unfold sg_lv
  by_cases g1 : sg_sh s r w step = -1 ∨ sg_k s (s (46 + 18 * r)) = 0
  · rw [if_pos g1]
    refine ⟨⟨hR, ⟨fun i hi => ?_, hO.2⟩, hS, hT, hT1⟩, fun k _ _ => rfl⟩
    obtain ⟨x, y⟩ := hO.1 i hi
    exact ⟨x, by omega⟩
  · rw [if_neg g1]
    have A := sg_ap_O (c := s (46 + 18 * r)) (sh := sg_sh s r w step) (dp := sg_dp s r) b3.1 hO b1 a2 (by omega) dp (by omega)
    have S := sg_ap_S (c := s (46 + 18 * r)) (sh := sg_sh s r w step) (dp := sg_dp s r) (r := r) hR hO hS a2
    have e3 := sg_ap_3 (s := s) (c := s (46 + 18 * r)) (sh := sg_sh s r w step) (dp := sg_dp s r) (h := s 1) (r := r)
    have eo : ∀ k, (k < 134 ∨ 339 ≤ k) → k ≠ 3 → sg_ap s (s (46 + 18 * r)) (sg_sh s r w step) (sg_dp s r) (s 1) r k = s k := fun k h1 h2 => sg_ap_o h2 (by omega)
    rw [show ((r : Int) + 1) = ((r + 1 : Nat) : Int) by omega] at A
    by_cases g2 : 40 < s 3 + 1
    · rw [if_pos g2]
      have h41 : sg_ap s (s (46 + 18 * r)) (sg_sh s r w step) (sg_dp s r) (s 1) r 3 = 41 := by omega
      have sh := sg_shift h41 A S
      have eo2 : ∀ k, (k < 134 ∨ 339 ≤ k) → k ≠ 3 → sg_clr (sg_K (sg_ap s (s (46 + 18 * r)) (sg_sh s r w step) (sg_dp s r) (s 1) r) 1 (-1)) (sg_ap s (s (46 + 18 * r)) (sg_sh s r w step) (sg_dp s r) (s 1) r) k = s k := fun k h1 h2 => by
        rw [sh, if_neg h2, if_neg (by omega)]; exact eo k h1 h2
      refine ⟨⟨sg_R_eq (fun k h h' => eo2 k (Or.inl h) h') (by rw [sh, if_pos rfl]; decide) hR, sg_clr_O (by omega) A, sg_clr_S (by omega) A (fun i hi _ => S i hi), sg_T_eq (by decide) (fun k h h' => eo2 k (Or.inr h) (by omega)) hT, sg_T_eq (by decide) (fun k h h' => eo2 k (Or.inr h) (by omega)) hT1⟩, eo2⟩
    · rw [if_neg g2]
      exact ⟨⟨sg_R_eq (fun k h h' => eo k (Or.inl h) h') (by omega) hR, A, S, sg_T_eq (by decide) (fun k h h' => eo k (Or.inr h) (by omega)) hT, sg_T_eq (by decide) (fun k h h' => eo k (Or.inr h) (by omega)) hT1⟩, eo⟩
/-! the riders' numbers alone change -/
set_option maxRecDepth 20000 in
theorem sg_W_rd {s s' : Nat → Int} {r : Int} (h : ∀ k, (k < 44 ∨ 134 ≤ k) → s' k = s k) (hR : sg_R s') (hW : sg_W s r) : sg_W s' r := by
  obtain ⟨-, hO, hS, hT, hT1⟩ := hW
  have e3 : s' 3 = s 3 := h _ (Or.inl (by decide))
  have e1 : s' 1 = s 1 := h _ (Or.inl (by decide))
  have ep : ∀ i w, sg_p s' i w = sg_p s i w := fun i w => h _ (Or.inr (by omega))
  refine ⟨hR, ⟨fun i hi => ?_, fun i j hij hj => ?_⟩, fun i hi => ?_, sg_T_eq (by decide) (fun k h1 _ => h k (Or.inr (by omega))) hT, sg_T_eq (by decide) (fun k h1 _ => h k (Or.inr (by omega))) hT1⟩
  · rw [e3] at hi
    have := hO.1 i hi
    unfold sg_E at this ⊢
    rw [ep, ep, ep, ep, ep, e1]; exact this
  · rw [e3] at hj
    have := hO.2 i j hij hj
    unfold sg_lt at this ⊢
    rw [ep, ep, ep, ep]; exact this
  · rw [e3] at hi
    have := hS i hi
    rw [ep, ep, e1, sg_k_eq (h 2 (Or.inl (by decide))) (h _ (Or.inl (by have := (hO.1 i hi).1.1; omega)))]
    exact this
set_option maxRecDepth 20000 in
theorem sg_next_r {c w : Int} (hc : 0 ≤ c ∧ c ≤ 35) : sp_next c w = -1 ∨ (0 ≤ sp_next c w ∧ sp_next c w ≤ 35) := by
  unfold sp_next
  repeat' split
  all_goals omega
/-! ranges, with one rider's cell and step anew -/
set_option maxRecDepth 20000 in
theorem sg_R_rd {s s' : Nat → Int} {r : Nat} (hr : r < 5) (hR : sg_R s) (h : ∀ k, k < 134 → k ≠ 46 + 18 * r → k ≠ 49 + 18 * r → s' k = s k) (hc : 0 ≤ s' (46 + 18 * r) ∧ s' (46 + 18 * r) ≤ 35) (hs : 0 ≤ s' (49 + 18 * r) ∧ s' (49 + 18 * r) ≤ s (48 + 18 * r)) : sg_R s' := by
  obtain ⟨a0, a1, a2, a3, a4, a5⟩ := hR
  refine ⟨by rw [h 0 (by decide) (by omega) (by omega)]; exact a0, by rw [h 1 (by decide) (by omega) (by omega)]; exact a1, by rw [h 2 (by decide) (by omega) (by omega)]; exact a2, by rw [h 3 (by decide) (by omega) (by omega)]; exact a3, fun k hk => by rw [h _ (by omega) (by omega) (by omega)]; exact a4 k hk, fun i hi => ?_⟩
  obtain ⟨b0, b1, b2, b3, b4, b5, b6⟩ := a5 i hi
  by_cases e : i = r
  · subst e
    rw [h (44 + 18 * i) (by omega) (by omega) (by omega), h (45 + 18 * i) (by omega) (by omega) (by omega), h (47 + 18 * i) (by omega) (by omega) (by omega), h (48 + 18 * i) (by omega) (by omega) (by omega)]
    exact ⟨b0, b1, hc, b3, b4, hs, fun k hk => by rw [h _ (by omega) (by omega) (by omega)]; exact b6 k hk⟩
  · rw [h (44 + 18 * i) (by omega) (by omega) (by omega), h (45 + 18 * i) (by omega) (by omega) (by omega), h (46 + 18 * i) (by omega) (by omega) (by omega), h (47 + 18 * i) (by omega) (by omega) (by omega), h (48 + 18 * i) (by omega) (by omega) (by omega), h (49 + 18 * i) (by omega) (by omega) (by omega)]
    exact ⟨b0, b1, b2, b3, b4, b5, fun k hk => by rw [h _ (by omega) (by omega) (by omega)]; exact b6 k hk⟩
set_option maxRecDepth 20000 in
theorem sg_way_r {s : Nat → Int} {r : Nat} (hr : r < 5) (hR : sg_R s) (h : s (49 + 18 * r) < s (48 + 18 * r)) : 0 ≤ sg_way s r ∧ sg_way s r ≤ 3 := by
  obtain ⟨a0, a1, a2, a3, a4, a5⟩ := hR
  obtain ⟨b0, b1, b2, b3, b4, b5, b6⟩ := a5 r hr
  exact b6 _ (by omega)
set_option maxRecDepth 20000 in
theorem sg_W_mono {s : Nat → Int} {r q : Int} (h : r ≤ q) (hW : sg_W s r) : sg_W s q := by
  obtain ⟨hR, hO, hS, hT⟩ := hW
  refine ⟨hR, ⟨fun i hi => ?_, hO.2⟩, hS, hT⟩
  obtain ⟨x, y⟩ := hO.1 i hi
  exact ⟨x, by omega⟩
set_option maxRecDepth 20000 in
theorem sg_rd_W {s : Nat → Int} {r : Nat} (hr : r < 5) (hW : sg_W s r) (h : s (49 + 18 * r) < s (48 + 18 * r)) : sg_W (sg_rd s r) (r + 1 : Nat) ∧ ∀ k, (k < 134 ∨ 339 ≤ k) → k ≠ 3 → k ≠ 46 + 18 * r → k ≠ 49 + 18 * r → sg_rd s r k = s k := by
  have hR := hW.1
  have hw := sg_way_r hr hR h
  obtain ⟨b0, b1, b2, b3, hso, hrd⟩ := id hR
  obtain ⟨a0, a1, a2, a3, a4, a5, a6⟩ := hrd r hr
  unfold sg_rd
  by_cases e : sp_next (s (46 + 18 * r)) (sg_way s r) = -1
  · rw [if_pos e]
    have hu : ∀ k, k ≠ 49 + 18 * r → yy_u s (49 + 18 * r) (s (49 + 18 * r) + 1) k = s k := fun k hk => yy_u_ne hk
    refine ⟨sg_W_mono (by omega) (sg_W_rd (fun k hk => hu k (by omega)) (sg_R_rd hr hR (fun k _ _ h2 => hu k h2) (by rw [hu _ (by omega)]; exact a2) (by rw [yy_u_eq]; omega)) hW), fun k _ _ _ h4 => hu k h4⟩
  · rw [if_neg e]
    obtain ⟨L, Lo⟩ := sg_lv_W (step := s (49 + 18 * r)) hr hW hw
    have hn := (sg_next_r (w := sg_way s r) a2).resolve_left e
    have hu : ∀ k, k ≠ 46 + 18 * r → k ≠ 49 + 18 * r → yy_u (yy_u (sg_lv s r (sg_way s r) (s (49 + 18 * r))) (46 + 18 * r) (sp_next (s (46 + 18 * r)) (sg_way s r))) (49 + 18 * r) (s (49 + 18 * r) + 1) k = sg_lv s r (sg_way s r) (s (49 + 18 * r)) k := fun k h1 h2 => by rw [yy_u_ne h2, yy_u_ne h1]
    refine ⟨sg_W_rd (fun k hk => hu k (by omega) (by omega)) (sg_R_rd hr L.1 (fun k _ h1 h2 => hu k h1 h2) (by rw [yy_u_ne (by omega), yy_u_eq]; exact hn) (by rw [yy_u_eq, Lo _ (by omega) (by omega)]; omega)) L, fun k h1 h2 h3 h4 => by rw [hu k h3 h4]; exact Lo k h1 h2⟩
set_option maxRecDepth 20000 in
theorem sg_hl_W {st : Int} : ∀ (k r : Nat) (s : Nat → Int), r + k ≤ 5 → sg_W s r → sg_W (sg_hl st k r s) (r + k : Nat) ∧ ∀ q, (q < 44 ∨ 339 ≤ q) → q ≠ 3 → sg_hl st k r s q = s q
  | 0, r, s, _, hW => ⟨hW, fun q _ _ => rfl⟩
  | k + 1, r, s, hk, hW => by
    unfold sg_hl
    by_cases g : (r : Int) ≠ st ∧ s (49 + 18 * r) < s (48 + 18 * r)
    · rw [if_pos g]
      obtain ⟨a, b⟩ := sg_rd_W (by omega) hW g.2
      obtain ⟨c, e⟩ := sg_hl_W (st := st) k (r + 1) (sg_rd s r) (by omega) a
      rw [show r + 1 + k = r + (k + 1) by omega] at c
      exact ⟨c, fun q h1 h2 => by rw [e q h1 h2, b q (by omega) h2 (by omega) (by omega)]⟩
    · rw [if_neg g]
      obtain ⟨c, e⟩ := sg_hl_W (st := st) k (r + 1) s (by omega) (sg_W_mono (by omega) hW)
      rw [show r + 1 + k = r + (k + 1) by omega] at c
      exact ⟨c, e⟩
set_option maxRecDepth 20000 in
theorem sg_h1_B {st : Int} {s : Nat → Int} (hW : sg_W s 0) (h1 : s 1 < 20000) : sg_W (sg_hl st (s 0).toNat 0 s) (s 0) ∧ (∀ q, (q < 44 ∨ 339 ≤ q) → q ≠ 3 → sg_hl st (s 0).toNat 0 s q = s q) ∧ sg_h1 st s 1 = s 1 + 1 ∧ sg_h1 st s 3 = sg_hl st (s 0).toNat 0 s 3 ∧ (∀ q, (q < 44 ∨ 339 ≤ q) → q ≠ 3 → q ≠ 1 → sg_h1 st s q = s q) ∧ sg_O (sg_h1 st s) 0 ∧ (0 ≤ sg_h1 st s 3 ∧ sg_h1 st s 3 ≤ 40) := by
  have hR := hW.1
  obtain ⟨a, b⟩ := sg_hl_W (st := st) (s 0).toNat 0 s (by have := hR.1; omega) hW
  rw [show ((0 + (s 0).toNat : Nat) : Int) = s 0 by have := hR.1; omega] at a
  have e1 : sg_h1 st s 1 = s 1 + 1 := by unfold sg_h1; rw [yy_u_eq, b 1 (Or.inl (by decide)) (by decide)]
  have e3 : sg_h1 st s 3 = sg_hl st (s 0).toNat 0 s 3 := by unfold sg_h1; rw [yy_u_ne (by decide)]
  have ep : ∀ i w, sg_p (sg_h1 st s) i w = sg_p (sg_hl st (s 0).toNat 0 s) i w := fun i w => by unfold sg_p sg_h1; rw [yy_u_ne (by omega)]
  have b1 := b 1 (Or.inl (by decide)) (by decide)
  refine ⟨a, b, e1, e3, fun q h1 h2 h3 => by unfold sg_h1; rw [yy_u_ne h3]; exact b q h1 h2, ⟨fun i hi => ?_, fun i j hij hj => ?_⟩, by rw [e3]; exact a.1.2.2.2.1⟩
  · rw [e3] at hi
    obtain ⟨x, y⟩ := a.2.1.1 i hi
    unfold sg_E at x ⊢
    rw [ep, ep, ep, ep, ep, e1]
    exact ⟨x, by omega⟩
  · rw [e3] at hj
    have := a.2.1.2 i j hij hj
    unfold sg_lt at this ⊢
    rw [ep, ep, ep, ep]; exact this
set_option maxRecDepth 20000 in
theorem sg_hour_W {st : Int} {s : Nat → Int} (hW : sg_W s 0) (h1 : s 1 < 20000) : sg_W (sg_hour st s) 0 ∧ sg_hour st s 1 = s 1 + 1 ∧ ∀ q, (q < 44 ∨ 339 ≤ q) → q ≠ 3 → q ≠ 1 → sg_hour st s q = s q := by
  obtain ⟨a, b, e1, e3, eo, hO, h3⟩ := sg_h1_B (st := st) hW h1
  obtain ⟨hR, hO', hS, hT, hT1⟩ := id hW
  have h3' : 0 ≤ sg_h1 st s 3 ∧ sg_h1 st s 3 ≤ 41 := by omega
  have co : ∀ k, k ≠ 3 → (k < 134 ∨ 339 ≤ k) → sg_hour st s k = sg_h1 st s k := fun k h h' => sg_clr_o h3' h h'
  have R1 : sg_R (sg_h1 st s) := by
    obtain ⟨x0, x1, x2, x3, x4, x5⟩ := a.1
    have eq : ∀ k, k ≠ 1 → sg_h1 st s k = sg_hl st (s 0).toNat 0 s k := fun k hk => by unfold sg_h1; rw [yy_u_ne hk]
    refine ⟨by rw [eq 0 (by decide)]; exact x0, by rw [e1]; have := hR.2.1; omega, by rw [eq 2 (by decide)]; exact x2, h3, fun k hk => by rw [eq _ (by omega)]; exact x4 k hk, fun i hi => ?_⟩
    rw [eq _ (by omega), eq _ (by omega), eq _ (by omega), eq _ (by omega), eq _ (by omega), eq _ (by omega)]
    obtain ⟨b0, b1, b2, b3, b4, b5, b6⟩ := x5 i hi
    exact ⟨b0, b1, b2, b3, b4, b5, fun k hk => by rw [eq _ (by omega)]; exact b6 k hk⟩
  obtain ⟨g, c1, c2, c3⟩ := sg_clr_p (K := sg_K (sg_h1 st s) 0 (-1)) h3'
  refine ⟨⟨sg_R_eq (fun k h h' => co k h' (Or.inl h)) (by unfold sg_hour; omega) R1, sg_clr_O h3' hO, sg_clr_S h3' hO (fun i hi hK => ?_), sg_T_eq (by decide) (fun k h h' => by rw [co k (by omega) (Or.inr h), eo k (Or.inr h) (by omega) (by omega)]) hT, sg_T_eq (by decide) (fun k h h' => by rw [co k (by omega) (Or.inr h), eo k (Or.inr h) (by omega) (by omega)]) hT1⟩, by rw [co 1 (by decide) (Or.inl (by decide)), e1], fun q h1 h2 h3 => by rw [co q h2 (by omega), eo q h1 h2 h3]⟩
  unfold sg_K at hK
  rw [decide_eq_true_iff] at hK
  exact hK.2.2
set_option maxRecDepth 20000 in
theorem sg_go_W {st : Int} : ∀ (n : Nat) (s : Nat → Int), sg_W s 0 → s 1 + n ≤ 20000 → sg_W (sg_go st n s) 0 ∧ sg_go st n s 1 = s 1 + n ∧ ∀ q, (q < 44 ∨ 339 ≤ q) → q ≠ 3 → q ≠ 1 → sg_go st n s q = s q
  | 0, s, hW, _ => ⟨hW, by unfold sg_go; omega, fun q _ _ _ => rfl⟩
  | n + 1, s, hW, h => by
    obtain ⟨a, b, c⟩ := sg_hour_W (st := st) hW (by omega)
    obtain ⟨x, y, z⟩ := sg_go_W (st := st) n (sg_hour st s) a (by omega)
    unfold sg_go
    exact ⟨x, by rw [y, b]; omega, fun q h1 h2 h3 => by rw [z q h1 h2 h3, c q h1 h2 h3]⟩
end
section
def yy_F3 (m m' : Nat → Nat → Int) : Prop := ∀ c, c ≠ 75 → c ≠ 80 → c ≠ 81 → m' c = m c
set_option maxRecDepth 20000 in
theorem c_1155 {sc : List Int} {d : Nat} {t : xm_W} {m : Nat → Nat → Int} {r : Nat} (hr : r < 5) (hW : sg_W (m 75) r) (h : m 75 (49 + 18 * r) < m 75 (48 + 18 * r)) : ∃ m', xm_X (xm_old sc) xm_mt (d + 7) 1155 [.inr (.inl (some 74)), .inl ((r : Int))] (yy_W m t) = some (none, yy_W m' t) ∧ yy_F3 m m' ∧ m' 75 = sg_rd (m 75) r := by
  have key : ∀ {Q : Option xm_V × xm_W → Prop}, (∀ m', (yy_F3 m m' ∧ m' 75 = sg_rd (m 75) r) → Q (none, yy_W m' t)) → xm_EQ (xm_old sc) xm_sta (xm_X (xm_old sc) xm_mt (d + 6)) xm_m1155.2.2.2.2.2.2.2 0 (xm_loc xm_m1155.2.2.1 [.inr (.inl (some 74)), .inl ((r : Int))]) [] (yy_W m t) Q := by
    intro Q hQ
    have hR := hW.1
    have hw := sg_way_r hr hR h
    obtain ⟨b0, b1, b2, b3, hso, hrd⟩ := id hR
    obtain ⟨a0, a1, a2, a3, a4, a5, a6⟩ := hrd r hr
    refine xb_1155_0 ?_
    rw [oc_1110_5 hr, oc_1110_6 hr (by omega), oc_1110_2 hr, oc_1139 a2.1 (by omega)]
    have eway : m 75 (50 + 18 * r + (m 75 (49 + 18 * r)).toNat) = sg_way (m 75) r := rfl
    rw [eway, xm_w_id (z := m 75 (49 + 18 * r) + 1) (by omega) (by omega)]
    by_cases e : sp_next (m 75 (46 + 18 * r)) (sg_way (m 75) r) = -1
    · rw [if_pos e, oc_1111_5 hr]
      refine hQ _ ⟨fun c c1 c2 c3 => yy_c_ne c1, ?_⟩
      unfold sg_rd
      rw [if_pos e, yy_c_eq]
    · rw [if_neg e]
      obtain ⟨m1, e1, f1, g1⟩ := c_1154 (sc := sc) (d := d) (t := t) (m := m) (r := r) (step := m 75 (49 + 18 * r)) hr hW hw a5.1
      rw [e1, xm_Ov_some, oc_1111_2 hr, oc_1111_5 hr]
      refine hQ _ ⟨fun c c1 c2 c3 => by rw [yy_c_ne c1, yy_c_ne c1]; exact f1 c c1 c2 c3, ?_⟩
      unfold sg_rd
      rw [if_neg e, yy_c_eq, yy_c_eq, g1]
  obtain ⟨q, h1, m', h2, h3⟩ := yx_of (y := 1155) (M := xm_m1155) (sc := sc) (d := d + 6) (as := [.inr (.inl (some 74)), .inl ((r : Int))]) (w := yy_W m t) (Q := fun q => ∃ m', q = (none, yy_W m' t) ∧ (yy_F3 m m' ∧ m' 75 = sg_rd (m 75) r)) rfl (key fun m' h => ⟨m', rfl, h⟩) (fun q ⟨m', h, _⟩ => by rw [h]; rfl) rfl (Nat.le_of_ble_eq_true rfl) (yy_hd rfl (by decide))
  exact ⟨m', by rw [h1, h2], h3⟩
set_option maxRecDepth 20000 in
theorem sg_hl_s {st : Int} {k r : Nat} {s : Nat → Int} : sg_hl st (k + 1) r s = sg_hl st k (r + 1) (if (r : Int) ≠ st ∧ s (49 + 18 * r) < s (48 + 18 * r) then sg_rd s r else s) := rfl
set_option maxRecDepth 20000 in
theorem l_1156 {sc : List Int} {d : Nat} {t : xm_W} {Q : Option xm_V × xm_W → Prop} {m0 : Nat → Nat → Int} {n : Int} (hn : n = m0 75 0) (h1 : m0 75 1 < 20000) (hW0 : sg_W (m0 75) 0) (hQ : ∀ m', yy_F3 m0 m' → m' 75 = sg_hour (m0 74 3) (m0 75) → Q ((none, (yy_W (m') t)))) : ∀ (k r : Nat) (m : Nat → Nat → Int), ((r + k : Nat) : Int) = n → sg_W (m 75) r → yy_F3 m0 m → m 75 0 = m0 75 0 → m 75 1 = m0 75 1 → sg_hl (m0 74 3) k r (m 75) = sg_hl (m0 74 3) (m0 75 0).toNat 0 (m0 75) → xm_EQ (xm_old sc) xm_sta (xm_X (xm_old sc) xm_mt (d + 7)) xm_c1156 2 [some (.inr (.inl (some 74))), some (.inl ((r : Int)))] [] (yy_W (m) t) Q
  | 0, r, m, hk, hW, hF, h0, h2, hh => by
    refine xb_1156_2 ?_
    have hB := sg_h1_B (st := m0 74 3) hW0 h1
    have b1 := hW.1.2.1
    simp (disch := first | omega | (unfold xm_w; omega)) only [↓zy_at, xm_O_some, xm_Oi_some, xm_Ov_some, xm_Oq_some, ↓reduceIte, ↓zz_t, ↓zz_f, ↓zi_t, ↓zi_f, eq_self, yy_d_0, Int.reduceEq, Int.reduceLT, Int.reduceLE, Int.reduceNe, Int.reduceToNat, Int.reduceAdd, Int.reduceSub, Int.reduceMul, Int.reduceNeg, Nat.reduceAdd, Nat.reduceMul, Nat.reduceSub, Nat.reduceEqDiff, Nat.reduceLT, ne_eq, not_false_eq_true, not_true_eq_false, true_and, and_true, and_self, yy_s_eq, yy_s_ne, yy_c_eq, yy_c_ne, yy_u_eq, yy_u_ne, xm_w_id, yy_at, tdiv_pos, tmod_pos, ↓zr_74_0, ↓zr_74_1, ↓zr_74_2, ↓zf_74_3, ↓zs_74_3, ↓zf_74_4, ↓zs_74_4, ↓zr_74_5, ↓zf_74_6, ↓zs_74_6, ↓zf_74_7, ↓zs_74_7, ↓zf_74_8, ↓zs_74_8, ↓zf_74_9, ↓zs_74_9, ↓zr_74_10, ↓zr_74_11, ↓zr_74_12, ↓zf_74_13, ↓zs_74_13, ↓zr_74_14, ↓zf_74_15, ↓zs_74_15, ↓zf_74_16, ↓zs_74_16, ↓zf_74_17, ↓zs_74_17, ↓zr_74_18, ↓zr_74_19, ↓zr_74_20, ↓zr_74_21, ↓zi_75, ↓zt_75, h0]
    have hh2 : m 75 = sg_hl (m0 74 3) (m0 75 0).toNat 0 (m0 75) := hh
    have e : yy_s m 75 1 (m 75 1 + 1) = yy_c m 75 (sg_h1 (m0 74 3) (m0 75)) := by
      unfold yy_s sg_h1; rw [← hh2]
    rw [e, oc_1132 (d := d + 2) (by
      rw [yy_c_eq]
      obtain ⟨x1, x2, x3, x4, x5, x6, x7⟩ := hB
      refine ⟨?_, by omega, fun i hi => ⟨(x6.1 i hi).1.1, (x6.1 i hi).1.2.2.2.1⟩⟩
      rw [x5 2 (Or.inl (by decide)) (by decide) (by decide)]
      exact hW0.1.2.2.1), yy_c_eq, yy_c_c]
    refine hQ _ (fun c c1 c2 c3 => by rw [yy_c_ne c1]; exact hF c c1 c2 c3) ?_
    rw [yy_c_eq]; rfl
  | k + 1, r, m, hk, hW, hF, h0, h2, hh => by
    have hn5 := hW0.1.1
    refine xb_1156_2 ?_
    simp (disch := first | omega | (unfold xm_w; omega)) only [↓zy_at, xm_O_some, xm_Oi_some, xm_Ov_some, xm_Oq_some, ↓reduceIte, ↓zz_t, ↓zz_f, ↓zi_t, ↓zi_f, eq_self, yy_d_0, Int.reduceEq, Int.reduceLT, Int.reduceLE, Int.reduceNe, Int.reduceToNat, Int.reduceAdd, Int.reduceSub, Int.reduceMul, Int.reduceNeg, Nat.reduceAdd, Nat.reduceMul, Nat.reduceSub, Nat.reduceEqDiff, Nat.reduceLT, ne_eq, not_false_eq_true, not_true_eq_false, true_and, and_true, and_self, yy_s_eq, yy_s_ne, yy_c_eq, yy_c_ne, yy_u_eq, yy_u_ne, xm_w_id, yy_at, tdiv_pos, tmod_pos, ↓zr_74_0, ↓zr_74_1, ↓zr_74_2, ↓zf_74_3, ↓zs_74_3, ↓zf_74_4, ↓zs_74_4, ↓zr_74_5, ↓zf_74_6, ↓zs_74_6, ↓zf_74_7, ↓zs_74_7, ↓zf_74_8, ↓zs_74_8, ↓zf_74_9, ↓zs_74_9, ↓zr_74_10, ↓zr_74_11, ↓zr_74_12, ↓zf_74_13, ↓zs_74_13, ↓zr_74_14, ↓zf_74_15, ↓zs_74_15, ↓zf_74_16, ↓zs_74_16, ↓zf_74_17, ↓zs_74_17, ↓zr_74_18, ↓zr_74_19, ↓zr_74_20, ↓zr_74_21, ↓zi_75, ↓zt_75, h0, hF 74, ↓oc_1110_5, ↓oc_1110_4]
    have next : ∀ m1 : Nat → Nat → Int, sg_W (m1 75) (r + 1 : Nat) → yy_F3 m0 m1 → m1 75 0 = m0 75 0 → m1 75 1 = m0 75 1 → sg_hl (m0 74 3) k (r + 1) (m1 75) = sg_hl (m0 74 3) (m0 75 0).toNat 0 (m0 75) → xm_EQ (xm_old sc) xm_sta (xm_X (xm_old sc) xm_mt (d + 7)) xm_c1156 2 [some (.inr (.inl (some 74))), some (.inl ((r : Int) + 1))] [] (yy_W (m1) t) Q := by
      intro m1 a1 a2 a3 a4 a5
      have := l_1156 (sc := sc) (d := d) (t := t) (Q := Q) hn h1 hW0 hQ k (r + 1) m1 (by omega) a1 a2 a3 a4 a5
      rw [show ((r + 1 : Nat) : Int) = (r : Int) + 1 by omega] at this
      exact this
    rw [sg_hl_s] at hh
    by_cases g : (r : Int) = m0 74 3
    · rw [if_pos g]
      rw [if_neg (fun h => h.1 g)] at hh
      exact next m (sg_W_mono (by omega) hW) hF h0 h2 hh
    · rw [if_neg g]
      by_cases g2 : m 75 (49 + 18 * r) < m 75 (48 + 18 * r)
      · rw [if_pos g2]
        rw [if_pos ⟨g, g2⟩] at hh
        obtain ⟨m1, e1, f1, g1⟩ := c_1155 (sc := sc) (d := d) (t := t) (m := m) (r := r) (by omega) hW g2
        obtain ⟨w1, w2⟩ := sg_rd_W (by omega) hW g2
        rw [e1, xm_Ov_some]
        refine next m1 (by rw [g1]; exact w1) (fun c c1 c2 c3 => by rw [f1 c c1 c2 c3]; exact hF c c1 c2 c3) ?_ ?_ (by rw [g1]; exact hh)
        · rw [g1, w2 0 (Or.inl (by decide)) (by decide) (by omega) (by omega)]; exact h0
        · rw [g1, w2 1 (Or.inl (by decide)) (by decide) (by omega) (by omega)]; exact h2
      · rw [if_neg g2]
        rw [if_neg (fun h => g2 h.2)] at hh
        exact next m (sg_W_mono (by omega) hW) hF h0 h2 hh
set_option maxRecDepth 20000 in
theorem c_1156 {sc : List Int} {d : Nat} {t : xm_W} {m : Nat → Nat → Int} (hW : sg_W (m 75) 0) (h1 : m 75 1 < 20000) : ∃ m', xm_X (xm_old sc) xm_mt (d + 8) 1156 [.inr (.inl (some 74))] (yy_W m t) = some (none, yy_W m' t) ∧ yy_F3 m m' ∧ m' 75 = sg_hour (m 74 3) (m 75) := by
  have key : ∀ {Q : Option xm_V × xm_W → Prop}, (∀ m', (yy_F3 m m' ∧ m' 75 = sg_hour (m 74 3) (m 75)) → Q (none, yy_W m' t)) → xm_EQ (xm_old sc) xm_sta (xm_X (xm_old sc) xm_mt (d + 7)) xm_m1156.2.2.2.2.2.2.2 0 (xm_loc xm_m1156.2.2.1 [.inr (.inl (some 74))]) [] (yy_W m t) Q := by
    intro Q hQ
    refine xb_1156_0 ?_
    exact l_1156 (d := d) rfl h1 hW (fun m' a b => hQ m' ⟨a, b⟩) (m 75 0).toNat 0 m (by have := hW.1.1; omega) hW (fun _ _ _ _ => rfl) rfl rfl rfl
  obtain ⟨q, h1, m', h2, h3⟩ := yx_of (y := 1156) (M := xm_m1156) (sc := sc) (d := d + 7) (as := [.inr (.inl (some 74))]) (w := yy_W m t) (Q := fun q => ∃ m', q = (none, yy_W m' t) ∧ (yy_F3 m m' ∧ m' 75 = sg_hour (m 74 3) (m 75))) rfl (key fun m' h => ⟨m', rfl, h⟩) (fun q ⟨m', h, _⟩ => by rw [h]; rfl) rfl (Nat.le_of_ble_eq_true rfl) (yy_hd rfl (by decide))
  exact ⟨m', by rw [h1, h2], h3⟩
set_option maxRecDepth 20000 in
theorem l_1157 {sc : List Int} {d : Nat} {t : xm_W} {Q : Option xm_V × xm_W → Prop} {m0 : Nat → Nat → Int} {n : Int} {s' : Nat → Int} (hn : n ≤ 24) (hQ : ∀ m', yy_F3 m0 m' → m' 75 = s' → Q ((none, (yy_W (m') t)))) : ∀ (k : Nat) (i : Int) (m : Nat → Nat → Int), n - i = k → 0 ≤ i → sg_W (m 75) 0 → m 75 1 + k ≤ 20000 → yy_F3 m0 m → sg_go (m0 74 3) k (m 75) = s' → xm_EQ (xm_old sc) xm_sta (xm_X (xm_old sc) xm_mt (d + 8)) xm_c1157 2 [some (.inr (.inl (some 74))), some (.inl (n)), some (.inl (i))] [] (yy_W (m) t) Q
  | 0, i, m, hk, hi, hW, h1, hF, hs => by
    refine xb_1157_2 ?_
    rw [if_neg (by omega)]
    exact hQ m hF hs
  | k + 1, i, m, hk, hi, hW, h1, hF, hs => by
    refine xb_1157_2 ?_
    obtain ⟨m1, e1, f1, g1⟩ := c_1156 (sc := sc) (d := d) (t := t) (m := m) hW (by omega)
    obtain ⟨w1, w2, w3⟩ := sg_hour_W (st := m 74 3) hW (by omega)
    have e74 : m 74 = m0 74 := hF 74 (by decide) (by decide) (by decide)
    rw [if_pos (by omega), e1, xm_Ov_some, xm_w_id (by omega) (by omega)]
    rw [e74] at g1 w1 w2
    refine l_1157 hn hQ k (i + 1) m1 (by omega) (by omega) (by rw [g1]; exact w1) (by rw [g1, w2]; omega) (fun c c1 c2 c3 => by rw [f1 c c1 c2 c3]; exact hF c c1 c2 c3) (by rw [g1]; exact hs)
set_option maxRecDepth 20000 in
theorem c_1157 {sc : List Int} {d : Nat} {t : xm_W} {m : Nat → Nat → Int} {n : Int} (h0 : 0 ≤ n ∧ n ≤ 24) (hW : sg_W (m 75) 0) (h1 : m 75 1 + n ≤ 20000) : ∃ m', xm_X (xm_old sc) xm_mt (d + 9) 1157 [.inr (.inl (some 74)), .inl (n)] (yy_W m t) = some (none, yy_W m' t) ∧ yy_F3 m m' ∧ m' 75 = sg_go (m 74 3) n.toNat (m 75) := by
  have key : ∀ {Q : Option xm_V × xm_W → Prop}, (∀ m', (yy_F3 m m' ∧ m' 75 = sg_go (m 74 3) n.toNat (m 75)) → Q (none, yy_W m' t)) → xm_EQ (xm_old sc) xm_sta (xm_X (xm_old sc) xm_mt (d + 8)) xm_m1157.2.2.2.2.2.2.2 0 (xm_loc xm_m1157.2.2.1 [.inr (.inl (some 74)), .inl (n)]) [] (yy_W m t) Q := by
    intro Q hQ
    refine xb_1157_0 ?_
    exact l_1157 (d := d) h0.2 (fun m' a b => hQ m' ⟨a, b⟩) n.toNat 0 m (by omega) (by decide) hW (by omega) (fun _ _ _ _ => rfl) rfl
  obtain ⟨q, h1, m', h2, h3⟩ := yx_of (y := 1157) (M := xm_m1157) (sc := sc) (d := d + 8) (as := [.inr (.inl (some 74)), .inl (n)]) (w := yy_W m t) (Q := fun q => ∃ m', q = (none, yy_W m' t) ∧ (yy_F3 m m' ∧ m' 75 = sg_go (m 74 3) n.toNat (m 75))) rfl (key fun m' h => ⟨m', rfl, h⟩) (fun q ⟨m', h, _⟩ => by rw [h]; rfl) rfl (Nat.le_of_ble_eq_true rfl) (yy_hd rfl (by decide))
  exact ⟨m', by rw [h1, h2], h3⟩
end
section
/-! THE CLASS'S MOOR holds a row: MR -/
def yy_MR (m : Nat → Nat → Int) (b : Nat) (s : Nat → Int) : Prop := m b 1 = s 2 ∧ m b 2 = s 1 ∧ m b 4 = s 0 ∧ m b 6 = s 3 ∧ (∀ k, k < 36 → m (b + 1) k = s (8 + k)) ∧ (∀ k, k < 200 → m (b + 3) k = s (134 + k)) ∧ ∀ i, i < 5 → (∀ k, k < 6 → m (b + 7 + 2 * i) k = s (44 + 18 * i + k)) ∧ ∀ k, k < 12 → m (b + 8 + 2 * i) k = s (50 + 18 * i + k)
/-! cells that a Moor's own act may touch: its object, prints, names, stack, riders -/
def yy_Fb (m m' : Nat → Nat → Int) (b : Nat) : Prop := ∀ c, (c < b ∨ b + 17 ≤ c ∨ c = b + 1 ∨ c = b + 2 ∨ c = b + 4) → m' c = m c
set_option maxRecDepth 20000 in
theorem yy_Fb_rf {m : Nat → Nat → Int} {b : Nat} : yy_Fb m m b := fun _ _ => rfl
set_option maxRecDepth 20000 in
theorem yy_Fb_tr {m m' m'' : Nat → Nat → Int} {b : Nat} (h : yy_Fb m m' b) (h' : yy_Fb m' m'' b) : yy_Fb m m'' b := fun c hc => by rw [h' c hc, h c hc]
set_option maxRecDepth 20000 in
theorem sg_cl_s {K : Nat → Bool} {n i l : Nat} {s : Nat → Int} : sg_cl K (n + 1) i l s = if K i = true then sg_cl K n (i + 1) (l + 1) (sg_c5 s i l) else sg_cl K n (i + 1) l s := rfl
set_option maxRecDepth 20000 in
theorem c_403_1 {sc : List Int} {d : Nat} {t : xm_W} {m : Nat → Nat → Int} {s : Nat → Int} {c : Int} (hM : yy_MR m 1 s) (h : 0 ≤ c ∧ c ≤ 35) (hf : 0 ≤ s 2 ∧ s 2 ≤ 9) : xm_X (xm_old sc) xm_mt (d + 1) 403 [.inr (.inl (some 1)), .inl (c)] (yy_W (m) t) = some (some (.inl (sg_k s c)), (yy_W (m) t)) := by
  refine xm_X_of (M := xm_m403) rfl ⟨xm_EQ.eq (xb_403_0 ?_), rfl, rfl, Nat.le_of_ble_eq_true rfl, yy_hd rfl (by decide)⟩
  obtain ⟨e1, -, -, -, e5, -⟩ := hM
  have e6 := e5 c.toNat (by omega)
  have e6 : m 2 c.toNat = s (8 + c).toNat := by rw [show (8 + c).toNat = 8 + c.toNat by omega]; exact e6
  unfold sg_k
  by_cases h0 : s (8 + c).toNat = 0
  · rw [if_pos h0]; simp (disch := first | omega | (unfold xm_w; omega)) only [↓zy_at, xm_O_some, xm_Oi_some, xm_Ov_some, xm_Oq_some, ↓reduceIte, ↓zz_t, ↓zz_f, ↓zi_t, ↓zi_f, eq_self, yy_d_0, Int.reduceEq, Int.reduceLT, Int.reduceLE, Int.reduceNe, Int.reduceToNat, Int.reduceAdd, Int.reduceSub, Int.reduceMul, Int.reduceNeg, Nat.reduceAdd, Nat.reduceMul, Nat.reduceSub, Nat.reduceEqDiff, Nat.reduceLT, ne_eq, not_false_eq_true, not_true_eq_false, true_and, and_true, and_self, yy_s_eq, yy_s_ne, yy_c_eq, yy_c_ne, yy_u_eq, yy_u_ne, xm_w_id, yy_at, tdiv_pos, tmod_pos, ↓zr_1_0, ↓zf_1_1, ↓zs_1_1, ↓zf_1_2, ↓zs_1_2, ↓zr_1_3, ↓zf_1_4, ↓zs_1_4, ↓zr_1_5, ↓zf_1_6, ↓zs_1_6, ↓zr_1_7, ↓zr_1_8, ↓zr_1_9, ↓zi_2, ↓zt_2, e6, h0, e1]
  · rw [if_neg h0]
    by_cases h1 : s (8 + c).toNat = 1
    · rw [if_pos h1]; simp (disch := first | omega | (unfold xm_w; omega)) only [↓zy_at, xm_O_some, xm_Oi_some, xm_Ov_some, xm_Oq_some, ↓reduceIte, ↓zz_t, ↓zz_f, ↓zi_t, ↓zi_f, eq_self, yy_d_0, Int.reduceEq, Int.reduceLT, Int.reduceLE, Int.reduceNe, Int.reduceToNat, Int.reduceAdd, Int.reduceSub, Int.reduceMul, Int.reduceNeg, Nat.reduceAdd, Nat.reduceMul, Nat.reduceSub, Nat.reduceEqDiff, Nat.reduceLT, ne_eq, not_false_eq_true, not_true_eq_false, true_and, and_true, and_self, yy_s_eq, yy_s_ne, yy_c_eq, yy_c_ne, yy_u_eq, yy_u_ne, xm_w_id, yy_at, tdiv_pos, tmod_pos, ↓zr_1_0, ↓zf_1_1, ↓zs_1_1, ↓zf_1_2, ↓zs_1_2, ↓zr_1_3, ↓zf_1_4, ↓zs_1_4, ↓zr_1_5, ↓zf_1_6, ↓zs_1_6, ↓zr_1_7, ↓zr_1_8, ↓zr_1_9, ↓zi_2, ↓zt_2, e6, h1, e1]
    · rw [if_neg h1]
      by_cases h2 : s (8 + c).toNat = 2
      · rw [if_pos h2]; simp (disch := first | omega | (unfold xm_w; omega)) only [↓zy_at, xm_O_some, xm_Oi_some, xm_Ov_some, xm_Oq_some, ↓reduceIte, ↓zz_t, ↓zz_f, ↓zi_t, ↓zi_f, eq_self, yy_d_0, Int.reduceEq, Int.reduceLT, Int.reduceLE, Int.reduceNe, Int.reduceToNat, Int.reduceAdd, Int.reduceSub, Int.reduceMul, Int.reduceNeg, Nat.reduceAdd, Nat.reduceMul, Nat.reduceSub, Nat.reduceEqDiff, Nat.reduceLT, ne_eq, not_false_eq_true, not_true_eq_false, true_and, and_true, and_self, yy_s_eq, yy_s_ne, yy_c_eq, yy_c_ne, yy_u_eq, yy_u_ne, xm_w_id, yy_at, tdiv_pos, tmod_pos, ↓zr_1_0, ↓zf_1_1, ↓zs_1_1, ↓zf_1_2, ↓zs_1_2, ↓zr_1_3, ↓zf_1_4, ↓zs_1_4, ↓zr_1_5, ↓zf_1_6, ↓zs_1_6, ↓zr_1_7, ↓zr_1_8, ↓zr_1_9, ↓zi_2, ↓zt_2, e6, h2]
      · rw [if_neg h2]; simp (disch := first | omega | (unfold xm_w; omega)) only [↓zy_at, xm_O_some, xm_Oi_some, xm_Ov_some, xm_Oq_some, ↓reduceIte, ↓zz_t, ↓zz_f, ↓zi_t, ↓zi_f, eq_self, yy_d_0, Int.reduceEq, Int.reduceLT, Int.reduceLE, Int.reduceNe, Int.reduceToNat, Int.reduceAdd, Int.reduceSub, Int.reduceMul, Int.reduceNeg, Nat.reduceAdd, Nat.reduceMul, Nat.reduceSub, Nat.reduceEqDiff, Nat.reduceLT, ne_eq, not_false_eq_true, not_true_eq_false, true_and, and_true, and_self, yy_s_eq, yy_s_ne, yy_c_eq, yy_c_ne, yy_u_eq, yy_u_ne, xm_w_id, yy_at, tdiv_pos, tmod_pos, ↓zr_1_0, ↓zf_1_1, ↓zs_1_1, ↓zf_1_2, ↓zs_1_2, ↓zr_1_3, ↓zf_1_4, ↓zs_1_4, ↓zr_1_5, ↓zf_1_6, ↓zs_1_6, ↓zr_1_7, ↓zr_1_8, ↓zr_1_9, ↓zi_2, ↓zt_2, e6]
set_option maxRecDepth 20000 in
theorem oc_403_1 {F : Int → xm_W → Prop} {sc : List Int} {d : Nat} {t : xm_W} {m : Nat → Nat → Int} {s : Nat → Int} {c : Int} (hM : yy_MR m 1 s) (h : 0 ≤ c ∧ c ≤ 35) (hf : 0 ≤ s 2 ∧ s 2 ≤ 9) : xm_Oi (xm_X (xm_old sc) xm_mt (d + 1) 403 [.inr (.inl (some 1)), .inl (c)] (yy_W (m) t)) F = F (sg_k s c) (yy_W (m) t) := congrArg (fun x => xm_Oi x F) (c_403_1 hM h hf)
set_option maxRecDepth 20000 in
theorem zc_kp_1 {m : Nat → Nat → Int} {t : xm_W} {K : xm_W → Prop} {i l : Int} (h0 : 0 ≤ i) (h1 : i ≤ 39) (h2 : 0 ≤ l) (h3 : l ≤ 39) : xm_O (xm_copy (yy_W m t) 4 (5 * i) 4 (5 * l) 5) K = K (yy_W (yy_c m 4 (yy_cp (m 4) (m 4) (5 * i).toNat (5 * l).toNat 5)) t) := congrArg (fun x => xm_O x K) (yy_copy rfl rfl (by omega) (by omega) (by decide) (by omega) (by omega))
set_option maxRecDepth 20000 in
theorem c_411_1 {sc : List Int} {d : Nat} {t : xm_W} {m : Nat → Nat → Int} {i l : Nat} (hi : i < 40) (hl : l < 40) : xm_X (xm_old sc) xm_mt (d + 1) 411 [.inr (.inl (some 1)), .inl ((i : Int)), .inl ((l : Int))] (yy_W (m) t) = some (none, (yy_W (yy_c m 4 (yy_cp (m 4) (m 4) (5 * i) (5 * l) 5)) t)) := by
  refine xm_X_of (M := xm_m411) rfl ⟨xm_EQ.eq (xb_411_0 ?_), rfl, rfl, Nat.le_of_ble_eq_true rfl, yy_hd rfl (by decide)⟩
  rw [xm_w_id (by omega) (by omega), xm_w_id (by omega) (by omega)]
  simp (disch := first | omega | (unfold xm_w; omega)) only [↓zy_at, xm_O_some, xm_Oi_some, xm_Ov_some, xm_Oq_some, ↓reduceIte, ↓zz_t, ↓zz_f, ↓zi_t, ↓zi_f, eq_self, yy_d_0, Int.reduceEq, Int.reduceLT, Int.reduceLE, Int.reduceNe, Int.reduceToNat, Int.reduceAdd, Int.reduceSub, Int.reduceMul, Int.reduceNeg, Nat.reduceAdd, Nat.reduceMul, Nat.reduceSub, Nat.reduceEqDiff, Nat.reduceLT, ne_eq, not_false_eq_true, not_true_eq_false, true_and, and_true, and_self, yy_s_eq, yy_s_ne, yy_c_eq, yy_c_ne, yy_u_eq, yy_u_ne, xm_w_id, yy_at, tdiv_pos, tmod_pos, ↓zr_1_0, ↓zf_1_1, ↓zs_1_1, ↓zf_1_2, ↓zs_1_2, ↓zr_1_3, ↓zf_1_4, ↓zs_1_4, ↓zr_1_5, ↓zf_1_6, ↓zs_1_6, ↓zr_1_7, ↓zr_1_8, ↓zr_1_9]
  rw [show (i : Int) * 5 = 5 * i by omega, show (l : Int) * 5 = 5 * l by omega, zc_kp_1 (by omega) (by omega) (by omega) (by omega), show (5 * (i : Int)).toNat = 5 * i by omega, show (5 * (l : Int)).toNat = 5 * l by omega]
set_option maxRecDepth 20000 in
theorem oc_411_1 {F : xm_W → Prop} {sc : List Int} {d : Nat} {t : xm_W} {m : Nat → Nat → Int} {i l : Nat} (hi : i < 40) (hl : l < 40) : xm_Ov (xm_X (xm_old sc) xm_mt (d + 1) 411 [.inr (.inl (some 1)), .inl ((i : Int)), .inl ((l : Int))] (yy_W (m) t)) F = F (yy_W (yy_c m 4 (yy_cp (m 4) (m 4) (5 * i) (5 * l) 5)) t) := congrArg (fun x => xm_Ov x F) (c_411_1 hi hl)
/-! the walk over the prints: fade and tread -/
set_option maxRecDepth 20000 in
theorem l_409_1 {sc : List Int} {d : Nat} {t : xm_W} {m0 : Nat → Nat → Int} {s0 : Nat → Int} {Q : Option xm_V × xm_W → Prop} (hM : yy_MR m0 1 s0) (hB : sg_B s0) (h40 : s0 3 ≤ 40) (hQ : ∀ m', yy_Fb m0 m' 1 → yy_MR m' 1 (sg_clr (sg_K s0 0 (-1)) s0) → (∀ c, c ≠ 1 → c ≠ 4 → m' c = m0 c) → Q ((none, (yy_W (m') t)))) : ∀ (k i l : Nat) (m : Nat → Nat → Int) (s : Nat → Int) (u : Option xm_V), ((i + k : Nat) : Int) = s0 3 → l ≤ i → (∀ q, (q < 134 ∨ 134 + 5 * i ≤ q) → s q = s0 q) → (∀ c, c ≠ 4 → m c = m0 c) → (∀ q, q < 200 → m 4 q = s (134 + q)) → sg_cl (sg_K s0 0 (-1)) k i l s = sg_cl (sg_K s0 0 (-1)) (s0 3).toNat 0 0 s0 → xm_EQ (xm_old sc) xm_sta (xm_X (xm_old sc) xm_mt (d + 2)) xm_c409 4 [some (.inr (.inl (some 1))), some (.inl ((l : Int))), some (.inl ((i : Int))), u] [] (yy_W (m) t) Q
  | 0, i, l, m, s, u, hk, hl, hs, hm, hp, hc => by
    obtain ⟨e1, e2, e3, e4, e5, e6, e7⟩ := id hM
    have a0 : m 1 = m0 1 := hm _ (by decide)
    refine xb_409_4 ?_
    simp (disch := first | omega | (unfold xm_w; omega)) only [↓zy_at, xm_O_some, xm_Oi_some, xm_Ov_some, xm_Oq_some, ↓reduceIte, ↓zz_t, ↓zz_f, ↓zi_t, ↓zi_f, eq_self, yy_d_0, Int.reduceEq, Int.reduceLT, Int.reduceLE, Int.reduceNe, Int.reduceToNat, Int.reduceAdd, Int.reduceSub, Int.reduceMul, Int.reduceNeg, Nat.reduceAdd, Nat.reduceMul, Nat.reduceSub, Nat.reduceEqDiff, Nat.reduceLT, ne_eq, not_false_eq_true, not_true_eq_false, true_and, and_true, and_self, yy_s_eq, yy_s_ne, yy_c_eq, yy_c_ne, yy_u_eq, yy_u_ne, xm_w_id, yy_at, tdiv_pos, tmod_pos, ↓zr_1_0, ↓zf_1_1, ↓zs_1_1, ↓zf_1_2, ↓zs_1_2, ↓zr_1_3, ↓zf_1_4, ↓zs_1_4, ↓zr_1_5, ↓zf_1_6, ↓zs_1_6, ↓zr_1_7, ↓zr_1_8, ↓zr_1_9, a0, e4]
    have hc2 : (s, l) = sg_cl (sg_K s0 0 (-1)) (s0 3).toNat 0 0 s0 := hc
    have r1 : (sg_cl (sg_K s0 0 (-1)) (s0 3).toNat 0 0 s0).1 = s := by rw [← hc2]
    have r2 : (sg_cl (sg_K s0 0 (-1)) (s0 3).toNat 0 0 s0).2 = l := by rw [← hc2]
    have ev : ∀ q, sg_clr (sg_K s0 0 (-1)) s0 q = if q = 3 then (l : Int) else s q := fun q => by unfold sg_clr yy_u; rw [r1, r2]
    have ev2 : ∀ q, q < 134 → q ≠ 3 → sg_clr (sg_K s0 0 (-1)) s0 q = s0 q := fun q h h' => by rw [ev, if_neg h', hs q (Or.inl h)]
    refine hQ _ (fun c hc => ?_) ⟨?_, ?_, ?_, ?_, fun q hq => ?_, fun q hq => ?_, fun j hj => ⟨fun q hq => ?_, fun q hq => ?_⟩⟩ (fun c c1 c2 => ?_)
    · simp (disch := first | omega | (unfold xm_w; omega)) only [↓zy_at, xm_O_some, xm_Oi_some, xm_Ov_some, xm_Oq_some, ↓reduceIte, ↓zz_t, ↓zz_f, ↓zi_t, ↓zi_f, eq_self, yy_d_0, Int.reduceEq, Int.reduceLT, Int.reduceLE, Int.reduceNe, Int.reduceToNat, Int.reduceAdd, Int.reduceSub, Int.reduceMul, Int.reduceNeg, Nat.reduceAdd, Nat.reduceMul, Nat.reduceSub, Nat.reduceEqDiff, Nat.reduceLT, ne_eq, not_false_eq_true, not_true_eq_false, true_and, and_true, and_self, yy_s_eq, yy_s_ne, yy_c_eq, yy_c_ne, yy_u_eq, yy_u_ne, xm_w_id, yy_at, tdiv_pos, tmod_pos]; exact hm c (by omega)
    · simp (disch := first | omega | (unfold xm_w; omega)) only [↓zy_at, xm_O_some, xm_Oi_some, xm_Ov_some, xm_Oq_some, ↓reduceIte, ↓zz_t, ↓zz_f, ↓zi_t, ↓zi_f, eq_self, yy_d_0, Int.reduceEq, Int.reduceLT, Int.reduceLE, Int.reduceNe, Int.reduceToNat, Int.reduceAdd, Int.reduceSub, Int.reduceMul, Int.reduceNeg, Nat.reduceAdd, Nat.reduceMul, Nat.reduceSub, Nat.reduceEqDiff, Nat.reduceLT, ne_eq, not_false_eq_true, not_true_eq_false, true_and, and_true, and_self, yy_s_eq, yy_s_ne, yy_c_eq, yy_c_ne, yy_u_eq, yy_u_ne, xm_w_id, yy_at, tdiv_pos, tmod_pos, a0, e1]; exact (ev2 2 (by decide) (by decide)).symm
    · simp (disch := first | omega | (unfold xm_w; omega)) only [↓zy_at, xm_O_some, xm_Oi_some, xm_Ov_some, xm_Oq_some, ↓reduceIte, ↓zz_t, ↓zz_f, ↓zi_t, ↓zi_f, eq_self, yy_d_0, Int.reduceEq, Int.reduceLT, Int.reduceLE, Int.reduceNe, Int.reduceToNat, Int.reduceAdd, Int.reduceSub, Int.reduceMul, Int.reduceNeg, Nat.reduceAdd, Nat.reduceMul, Nat.reduceSub, Nat.reduceEqDiff, Nat.reduceLT, ne_eq, not_false_eq_true, not_true_eq_false, true_and, and_true, and_self, yy_s_eq, yy_s_ne, yy_c_eq, yy_c_ne, yy_u_eq, yy_u_ne, xm_w_id, yy_at, tdiv_pos, tmod_pos, a0, e2]; exact (ev2 1 (by decide) (by decide)).symm
    · simp (disch := first | omega | (unfold xm_w; omega)) only [↓zy_at, xm_O_some, xm_Oi_some, xm_Ov_some, xm_Oq_some, ↓reduceIte, ↓zz_t, ↓zz_f, ↓zi_t, ↓zi_f, eq_self, yy_d_0, Int.reduceEq, Int.reduceLT, Int.reduceLE, Int.reduceNe, Int.reduceToNat, Int.reduceAdd, Int.reduceSub, Int.reduceMul, Int.reduceNeg, Nat.reduceAdd, Nat.reduceMul, Nat.reduceSub, Nat.reduceEqDiff, Nat.reduceLT, ne_eq, not_false_eq_true, not_true_eq_false, true_and, and_true, and_self, yy_s_eq, yy_s_ne, yy_c_eq, yy_c_ne, yy_u_eq, yy_u_ne, xm_w_id, yy_at, tdiv_pos, tmod_pos, a0, e3]; exact (ev2 0 (by decide) (by decide)).symm
    · simp (disch := first | omega | (unfold xm_w; omega)) only [↓zy_at, xm_O_some, xm_Oi_some, xm_Ov_some, xm_Oq_some, ↓reduceIte, ↓zz_t, ↓zz_f, ↓zi_t, ↓zi_f, eq_self, yy_d_0, Int.reduceEq, Int.reduceLT, Int.reduceLE, Int.reduceNe, Int.reduceToNat, Int.reduceAdd, Int.reduceSub, Int.reduceMul, Int.reduceNeg, Nat.reduceAdd, Nat.reduceMul, Nat.reduceSub, Nat.reduceEqDiff, Nat.reduceLT, ne_eq, not_false_eq_true, not_true_eq_false, true_and, and_true, and_self, yy_s_eq, yy_s_ne, yy_c_eq, yy_c_ne, yy_u_eq, yy_u_ne, xm_w_id, yy_at, tdiv_pos, tmod_pos]; rw [ev, if_pos rfl]
    · simp (disch := first | omega | (unfold xm_w; omega)) only [↓zy_at, xm_O_some, xm_Oi_some, xm_Ov_some, xm_Oq_some, ↓reduceIte, ↓zz_t, ↓zz_f, ↓zi_t, ↓zi_f, eq_self, yy_d_0, Int.reduceEq, Int.reduceLT, Int.reduceLE, Int.reduceNe, Int.reduceToNat, Int.reduceAdd, Int.reduceSub, Int.reduceMul, Int.reduceNeg, Nat.reduceAdd, Nat.reduceMul, Nat.reduceSub, Nat.reduceEqDiff, Nat.reduceLT, ne_eq, not_false_eq_true, not_true_eq_false, true_and, and_true, and_self, yy_s_eq, yy_s_ne, yy_c_eq, yy_c_ne, yy_u_eq, yy_u_ne, xm_w_id, yy_at, tdiv_pos, tmod_pos]; rw [hm _ (by decide), e5 q hq, ev2 _ (by omega) (by omega)]
    · simp (disch := first | omega | (unfold xm_w; omega)) only [↓zy_at, xm_O_some, xm_Oi_some, xm_Ov_some, xm_Oq_some, ↓reduceIte, ↓zz_t, ↓zz_f, ↓zi_t, ↓zi_f, eq_self, yy_d_0, Int.reduceEq, Int.reduceLT, Int.reduceLE, Int.reduceNe, Int.reduceToNat, Int.reduceAdd, Int.reduceSub, Int.reduceMul, Int.reduceNeg, Nat.reduceAdd, Nat.reduceMul, Nat.reduceSub, Nat.reduceEqDiff, Nat.reduceLT, ne_eq, not_false_eq_true, not_true_eq_false, true_and, and_true, and_self, yy_s_eq, yy_s_ne, yy_c_eq, yy_c_ne, yy_u_eq, yy_u_ne, xm_w_id, yy_at, tdiv_pos, tmod_pos]; rw [hp q hq, ev, if_neg (by omega)]
    · simp (disch := first | omega | (unfold xm_w; omega)) only [↓zy_at, xm_O_some, xm_Oi_some, xm_Ov_some, xm_Oq_some, ↓reduceIte, ↓zz_t, ↓zz_f, ↓zi_t, ↓zi_f, eq_self, yy_d_0, Int.reduceEq, Int.reduceLT, Int.reduceLE, Int.reduceNe, Int.reduceToNat, Int.reduceAdd, Int.reduceSub, Int.reduceMul, Int.reduceNeg, Nat.reduceAdd, Nat.reduceMul, Nat.reduceSub, Nat.reduceEqDiff, Nat.reduceLT, ne_eq, not_false_eq_true, not_true_eq_false, true_and, and_true, and_self, yy_s_eq, yy_s_ne, yy_c_eq, yy_c_ne, yy_u_eq, yy_u_ne, xm_w_id, yy_at, tdiv_pos, tmod_pos]; rw [hm _ (by omega), (e7 j hj).1 q hq, ev2 _ (by omega) (by omega)]
    · simp (disch := first | omega | (unfold xm_w; omega)) only [↓zy_at, xm_O_some, xm_Oi_some, xm_Ov_some, xm_Oq_some, ↓reduceIte, ↓zz_t, ↓zz_f, ↓zi_t, ↓zi_f, eq_self, yy_d_0, Int.reduceEq, Int.reduceLT, Int.reduceLE, Int.reduceNe, Int.reduceToNat, Int.reduceAdd, Int.reduceSub, Int.reduceMul, Int.reduceNeg, Nat.reduceAdd, Nat.reduceMul, Nat.reduceSub, Nat.reduceEqDiff, Nat.reduceLT, ne_eq, not_false_eq_true, not_true_eq_false, true_and, and_true, and_self, yy_s_eq, yy_s_ne, yy_c_eq, yy_c_ne, yy_u_eq, yy_u_ne, xm_w_id, yy_at, tdiv_pos, tmod_pos]; rw [hm _ (by omega), (e7 j hj).2 q hq, ev2 _ (by omega) (by omega)]
    · simp (disch := first | omega | (unfold xm_w; omega)) only [↓zy_at, xm_O_some, xm_Oi_some, xm_Ov_some, xm_Oq_some, ↓reduceIte, ↓zz_t, ↓zz_f, ↓zi_t, ↓zi_f, eq_self, yy_d_0, Int.reduceEq, Int.reduceLT, Int.reduceLE, Int.reduceNe, Int.reduceToNat, Int.reduceAdd, Int.reduceSub, Int.reduceMul, Int.reduceNeg, Nat.reduceAdd, Nat.reduceMul, Nat.reduceSub, Nat.reduceEqDiff, Nat.reduceLT, ne_eq, not_false_eq_true, not_true_eq_false, true_and, and_true, and_self, yy_s_eq, yy_s_ne, yy_c_eq, yy_c_ne, yy_u_eq, yy_u_ne, xm_w_id, yy_at, tdiv_pos, tmod_pos]; exact hm c c2
  | k + 1, i, l, m, s, u, hk, hl, hs, hm, hp, hc => by
    obtain ⟨e1, e2, e3, e4, e5, e6, e7⟩ := id hM
    obtain ⟨b1, b2, b3⟩ := id hB
    have b4 := b3 i (by omega)
    have a0 : m 1 = m0 1 := hm _ (by decide)
    have f0 : m 4 (5 * i) = sg_p s0 i 0 := by rw [hp _ (by omega), show 134 + 5 * i = 134 + 5 * i + 0 by omega]; exact hs _ (Or.inr (by omega))
    have f3 : m 4 (5 * i + 3) = sg_p s0 i 3 := by rw [hp _ (by omega), show 134 + (5 * i + 3) = 134 + 5 * i + 3 by omega]; exact hs _ (Or.inr (by omega))
    have kk : ∀ {F : Int → xm_W → Prop}, xm_Oi (xm_X (xm_old sc) xm_mt (d + 2) 403 [.inr (.inl (some 1)), .inl (sg_p s0 i 0)] (yy_W (m) t)) F = F (sg_k s0 (sg_p s0 i 0)) (yy_W m t) := by
      intro F
      have hM2 : yy_MR m 1 s := by
        refine ⟨by rw [a0, e1, hs 2 (Or.inl (by decide))], by rw [a0, e2, hs 1 (Or.inl (by decide))], by rw [a0, e3, hs 0 (Or.inl (by decide))], by rw [a0, e4, hs 3 (Or.inl (by decide))], fun q hq => by rw [hm _ (by decide), e5 q hq, hs _ (Or.inl (by omega))], hp, fun j hj => ⟨fun q hq => ?_, fun q hq => ?_⟩⟩
        · rw [hm _ (by omega), (e7 j hj).1 q hq, hs _ (Or.inl (by omega))]
        · rw [hm _ (by omega), (e7 j hj).2 q hq, hs _ (Or.inl (by omega))]
      rw [oc_403_1 (d := d + 1) hM2 b4.1 (by rw [hs 2 (Or.inl (by decide))]; exact b1)]
      rw [sg_k_eq (hs 2 (Or.inl (by decide))) (hs _ (Or.inl (by omega)))]
    have bk := sg_k_r (c := sg_p s0 i 0) b1
    have next : ¬ (sg_K s0 0 (-1) i = true) → ∀ u, xm_EQ (xm_old sc) xm_sta (xm_X (xm_old sc) xm_mt (d + 2)) xm_c409 4 [some (.inr (.inl (some 1))), some (.inl ((l : Int))), some (.inl ((i : Int) + 1)), u] [] (yy_W (m) t) Q := by
      intro hK u
      rw [sg_cl_s, if_neg hK] at hc
      have := l_409_1 (sc := sc) (d := d) (t := t) (Q := Q) hM hB h40 hQ k (i + 1) l m s u (by omega) (by omega) (fun q hq => hs q (by omega)) hm hp hc
      rw [show ((i + 1 : Nat) : Int) = (i : Int) + 1 by omega] at this
      exact this
    have hKi : sg_K s0 0 (-1) i = decide ((0 : Int) ≤ i ∧ sg_p s0 i 0 ≠ -1 ∧ s0 1 ≤ sg_p s0 i 3 + sg_k s0 (sg_p s0 i 0)) := rfl
    have i0 : ((i : Int) * 5 + 0).toNat = 5 * i := by omega
    have i3 : ((i : Int) * 5 + 3).toNat = 5 * i + 3 := by omega
    refine xb_409_4 ?_
    simp (disch := first | omega | (unfold xm_w; omega)) only [↓zy_at, xm_O_some, xm_Oi_some, xm_Ov_some, xm_Oq_some, ↓reduceIte, ↓zz_t, ↓zz_f, ↓zi_t, ↓zi_f, eq_self, yy_d_0, Int.reduceEq, Int.reduceLT, Int.reduceLE, Int.reduceNe, Int.reduceToNat, Int.reduceAdd, Int.reduceSub, Int.reduceMul, Int.reduceNeg, Nat.reduceAdd, Nat.reduceMul, Nat.reduceSub, Nat.reduceEqDiff, Nat.reduceLT, ne_eq, not_false_eq_true, not_true_eq_false, true_and, and_true, and_self, yy_s_eq, yy_s_ne, yy_c_eq, yy_c_ne, yy_u_eq, yy_u_ne, xm_w_id, yy_at, tdiv_pos, tmod_pos, ↓zr_1_0, ↓zf_1_1, ↓zs_1_1, ↓zf_1_2, ↓zs_1_2, ↓zr_1_3, ↓zf_1_4, ↓zs_1_4, ↓zr_1_5, ↓zf_1_6, ↓zs_1_6, ↓zr_1_7, ↓zr_1_8, ↓zr_1_9, ↓zi_4, ↓zt_4, a0, e4, e2, i0, i3, f0, f3]
    rw [kk]
    simp (disch := first | omega | (unfold xm_w; omega)) only [↓zy_at, xm_O_some, xm_Oi_some, xm_Ov_some, xm_Oq_some, ↓reduceIte, ↓zz_t, ↓zz_f, ↓zi_t, ↓zi_f, eq_self, yy_d_0, Int.reduceEq, Int.reduceLT, Int.reduceLE, Int.reduceNe, Int.reduceToNat, Int.reduceAdd, Int.reduceSub, Int.reduceMul, Int.reduceNeg, Nat.reduceAdd, Nat.reduceMul, Nat.reduceSub, Nat.reduceEqDiff, Nat.reduceLT, ne_eq, not_false_eq_true, not_true_eq_false, true_and, and_true, and_self, yy_s_eq, yy_s_ne, yy_c_eq, yy_c_ne, yy_u_eq, yy_u_ne, xm_w_id, yy_at, tdiv_pos, tmod_pos]
    by_cases g : sg_p s0 i 3 + sg_k s0 (sg_p s0 i 0) < s0 1
    · rw [if_pos g]
      exact next (by rw [hKi, decide_eq_true_iff]; omega) _
    · rw [if_neg g, oc_411_1 (by omega) (by omega)]
      have hK : sg_K s0 0 (-1) i = true := by rw [hKi, decide_eq_true_iff]; omega
      rw [sg_cl_s, if_pos hK] at hc
      have := l_409_1 (sc := sc) (d := d) (t := t) (Q := Q) hM hB h40 hQ k (i + 1) (l + 1) (yy_c m 4 (yy_cp (m 4) (m 4) (5 * i) (5 * l) 5)) (sg_c5 s i l) (some (.inl (sg_p s0 i 0))) (by omega) (by omega) (fun q hq => by rw [sg_c5_out (by omega)]; exact hs q (by omega)) (fun c hc => by rw [yy_c_ne hc]; exact hm c hc) (fun q hq => ?_) hc
      · rw [show ((i + 1 : Nat) : Int) = (i : Int) + 1 by omega, show ((l + 1 : Nat) : Int) = (l : Int) + 1 by omega] at this
        exact this
      · rw [yy_c_eq]
        unfold yy_cp sg_c5
        by_cases f : 5 * l ≤ q ∧ q < 5 * l + 5
        · rw [if_pos f, if_pos (by omega), hp _ (by omega)]; congr 1; omega
        · rw [if_neg f, if_neg (by omega)]; exact hp q hq
set_option maxRecDepth 20000 in
theorem c_409_1g {sc : List Int} {d : Nat} {t : xm_W} {m : Nat → Nat → Int} {s : Nat → Int} (hM : yy_MR m 1 s) (hB : sg_B s) (h40 : s 3 ≤ 40) : ∃ m', xm_X (xm_old sc) xm_mt (d + 3) 409 [.inr (.inl (some 1))] (yy_W m t) = some (none, yy_W m' t) ∧ yy_Fb m m' 1 ∧ yy_MR m' 1 (sg_clr (sg_K s 0 (-1)) s) ∧ (∀ c, c ≠ 1 → c ≠ 4 → m' c = m c) := by
  have key : ∀ {Q : Option xm_V × xm_W → Prop}, (∀ m', (yy_Fb m m' 1 ∧ yy_MR m' 1 (sg_clr (sg_K s 0 (-1)) s) ∧ (∀ c, c ≠ 1 → c ≠ 4 → m' c = m c)) → Q (none, yy_W m' t)) → xm_EQ (xm_old sc) xm_sta (xm_X (xm_old sc) xm_mt (d + 2)) xm_m409.2.2.2.2.2.2.2 0 (xm_loc xm_m409.2.2.1 [.inr (.inl (some 1))]) [] (yy_W m t) Q := by
    intro Q hQ
    refine xb_409_0 ?_
    exact l_409_1 (d := d) hM hB h40 (fun m' h1 h2 h3 => hQ m' ⟨h1, h2, h3⟩) (s 3).toNat 0 0 m s none (by have := hB.2.1; omega) (by decide) (fun q _ => rfl) (fun c _ => rfl) hM.2.2.2.2.2.1 rfl
  obtain ⟨q, h1, m', h2, h3⟩ := yx_of (y := 409) (M := xm_m409) (sc := sc) (d := d + 2) (as := [.inr (.inl (some 1))]) (w := yy_W m t) (Q := fun q => ∃ m', q = (none, yy_W m' t) ∧ (yy_Fb m m' 1 ∧ yy_MR m' 1 (sg_clr (sg_K s 0 (-1)) s) ∧ (∀ c, c ≠ 1 → c ≠ 4 → m' c = m c))) rfl (key fun m' h => ⟨m', rfl, h⟩) (fun q ⟨m', h, _⟩ => by rw [h]; rfl) rfl (Nat.le_of_ble_eq_true rfl) (yy_hd rfl (by decide))
  exact ⟨m', by rw [h1, h2], h3⟩
set_option maxRecDepth 20000 in
theorem c_403_18 {sc : List Int} {d : Nat} {t : xm_W} {m : Nat → Nat → Int} {s : Nat → Int} {c : Int} (hM : yy_MR m 18 s) (h : 0 ≤ c ∧ c ≤ 35) (hf : 0 ≤ s 2 ∧ s 2 ≤ 9) : xm_X (xm_old sc) xm_mt (d + 1) 403 [.inr (.inl (some 18)), .inl (c)] (yy_W (m) t) = some (some (.inl (sg_k s c)), (yy_W (m) t)) := by
  refine xm_X_of (M := xm_m403) rfl ⟨xm_EQ.eq (xb_403_0 ?_), rfl, rfl, Nat.le_of_ble_eq_true rfl, yy_hd rfl (by decide)⟩
  obtain ⟨e1, -, -, -, e5, -⟩ := hM
  have e6 := e5 c.toNat (by omega)
  have e6 : m 19 c.toNat = s (8 + c).toNat := by rw [show (8 + c).toNat = 8 + c.toNat by omega]; exact e6
  unfold sg_k
  by_cases h0 : s (8 + c).toNat = 0
  · rw [if_pos h0]; simp (disch := first | omega | (unfold xm_w; omega)) only [↓zy_at, xm_O_some, xm_Oi_some, xm_Ov_some, xm_Oq_some, ↓reduceIte, ↓zz_t, ↓zz_f, ↓zi_t, ↓zi_f, eq_self, yy_d_0, Int.reduceEq, Int.reduceLT, Int.reduceLE, Int.reduceNe, Int.reduceToNat, Int.reduceAdd, Int.reduceSub, Int.reduceMul, Int.reduceNeg, Nat.reduceAdd, Nat.reduceMul, Nat.reduceSub, Nat.reduceEqDiff, Nat.reduceLT, ne_eq, not_false_eq_true, not_true_eq_false, true_and, and_true, and_self, yy_s_eq, yy_s_ne, yy_c_eq, yy_c_ne, yy_u_eq, yy_u_ne, xm_w_id, yy_at, tdiv_pos, tmod_pos, ↓zr_18_0, ↓zf_18_1, ↓zs_18_1, ↓zf_18_2, ↓zs_18_2, ↓zr_18_3, ↓zf_18_4, ↓zs_18_4, ↓zr_18_5, ↓zf_18_6, ↓zs_18_6, ↓zr_18_7, ↓zr_18_8, ↓zr_18_9, ↓zi_19, ↓zt_19, e6, h0, e1]
  · rw [if_neg h0]
    by_cases h1 : s (8 + c).toNat = 1
    · rw [if_pos h1]; simp (disch := first | omega | (unfold xm_w; omega)) only [↓zy_at, xm_O_some, xm_Oi_some, xm_Ov_some, xm_Oq_some, ↓reduceIte, ↓zz_t, ↓zz_f, ↓zi_t, ↓zi_f, eq_self, yy_d_0, Int.reduceEq, Int.reduceLT, Int.reduceLE, Int.reduceNe, Int.reduceToNat, Int.reduceAdd, Int.reduceSub, Int.reduceMul, Int.reduceNeg, Nat.reduceAdd, Nat.reduceMul, Nat.reduceSub, Nat.reduceEqDiff, Nat.reduceLT, ne_eq, not_false_eq_true, not_true_eq_false, true_and, and_true, and_self, yy_s_eq, yy_s_ne, yy_c_eq, yy_c_ne, yy_u_eq, yy_u_ne, xm_w_id, yy_at, tdiv_pos, tmod_pos, ↓zr_18_0, ↓zf_18_1, ↓zs_18_1, ↓zf_18_2, ↓zs_18_2, ↓zr_18_3, ↓zf_18_4, ↓zs_18_4, ↓zr_18_5, ↓zf_18_6, ↓zs_18_6, ↓zr_18_7, ↓zr_18_8, ↓zr_18_9, ↓zi_19, ↓zt_19, e6, h1, e1]
    · rw [if_neg h1]
      by_cases h2 : s (8 + c).toNat = 2
      · rw [if_pos h2]; simp (disch := first | omega | (unfold xm_w; omega)) only [↓zy_at, xm_O_some, xm_Oi_some, xm_Ov_some, xm_Oq_some, ↓reduceIte, ↓zz_t, ↓zz_f, ↓zi_t, ↓zi_f, eq_self, yy_d_0, Int.reduceEq, Int.reduceLT, Int.reduceLE, Int.reduceNe, Int.reduceToNat, Int.reduceAdd, Int.reduceSub, Int.reduceMul, Int.reduceNeg, Nat.reduceAdd, Nat.reduceMul, Nat.reduceSub, Nat.reduceEqDiff, Nat.reduceLT, ne_eq, not_false_eq_true, not_true_eq_false, true_and, and_true, and_self, yy_s_eq, yy_s_ne, yy_c_eq, yy_c_ne, yy_u_eq, yy_u_ne, xm_w_id, yy_at, tdiv_pos, tmod_pos, ↓zr_18_0, ↓zf_18_1, ↓zs_18_1, ↓zf_18_2, ↓zs_18_2, ↓zr_18_3, ↓zf_18_4, ↓zs_18_4, ↓zr_18_5, ↓zf_18_6, ↓zs_18_6, ↓zr_18_7, ↓zr_18_8, ↓zr_18_9, ↓zi_19, ↓zt_19, e6, h2]
      · rw [if_neg h2]; simp (disch := first | omega | (unfold xm_w; omega)) only [↓zy_at, xm_O_some, xm_Oi_some, xm_Ov_some, xm_Oq_some, ↓reduceIte, ↓zz_t, ↓zz_f, ↓zi_t, ↓zi_f, eq_self, yy_d_0, Int.reduceEq, Int.reduceLT, Int.reduceLE, Int.reduceNe, Int.reduceToNat, Int.reduceAdd, Int.reduceSub, Int.reduceMul, Int.reduceNeg, Nat.reduceAdd, Nat.reduceMul, Nat.reduceSub, Nat.reduceEqDiff, Nat.reduceLT, ne_eq, not_false_eq_true, not_true_eq_false, true_and, and_true, and_self, yy_s_eq, yy_s_ne, yy_c_eq, yy_c_ne, yy_u_eq, yy_u_ne, xm_w_id, yy_at, tdiv_pos, tmod_pos, ↓zr_18_0, ↓zf_18_1, ↓zs_18_1, ↓zf_18_2, ↓zs_18_2, ↓zr_18_3, ↓zf_18_4, ↓zs_18_4, ↓zr_18_5, ↓zf_18_6, ↓zs_18_6, ↓zr_18_7, ↓zr_18_8, ↓zr_18_9, ↓zi_19, ↓zt_19, e6]
set_option maxRecDepth 20000 in
theorem oc_403_18 {F : Int → xm_W → Prop} {sc : List Int} {d : Nat} {t : xm_W} {m : Nat → Nat → Int} {s : Nat → Int} {c : Int} (hM : yy_MR m 18 s) (h : 0 ≤ c ∧ c ≤ 35) (hf : 0 ≤ s 2 ∧ s 2 ≤ 9) : xm_Oi (xm_X (xm_old sc) xm_mt (d + 1) 403 [.inr (.inl (some 18)), .inl (c)] (yy_W (m) t)) F = F (sg_k s c) (yy_W (m) t) := congrArg (fun x => xm_Oi x F) (c_403_18 hM h hf)
set_option maxRecDepth 20000 in
theorem zc_kp_18 {m : Nat → Nat → Int} {t : xm_W} {K : xm_W → Prop} {i l : Int} (h0 : 0 ≤ i) (h1 : i ≤ 39) (h2 : 0 ≤ l) (h3 : l ≤ 39) : xm_O (xm_copy (yy_W m t) 21 (5 * i) 21 (5 * l) 5) K = K (yy_W (yy_c m 21 (yy_cp (m 21) (m 21) (5 * i).toNat (5 * l).toNat 5)) t) := congrArg (fun x => xm_O x K) (yy_copy rfl rfl (by omega) (by omega) (by decide) (by omega) (by omega))
set_option maxRecDepth 20000 in
theorem c_411_18 {sc : List Int} {d : Nat} {t : xm_W} {m : Nat → Nat → Int} {i l : Nat} (hi : i < 40) (hl : l < 40) : xm_X (xm_old sc) xm_mt (d + 1) 411 [.inr (.inl (some 18)), .inl ((i : Int)), .inl ((l : Int))] (yy_W (m) t) = some (none, (yy_W (yy_c m 21 (yy_cp (m 21) (m 21) (5 * i) (5 * l) 5)) t)) := by
  refine xm_X_of (M := xm_m411) rfl ⟨xm_EQ.eq (xb_411_0 ?_), rfl, rfl, Nat.le_of_ble_eq_true rfl, yy_hd rfl (by decide)⟩
  rw [xm_w_id (by omega) (by omega), xm_w_id (by omega) (by omega)]
  simp (disch := first | omega | (unfold xm_w; omega)) only [↓zy_at, xm_O_some, xm_Oi_some, xm_Ov_some, xm_Oq_some, ↓reduceIte, ↓zz_t, ↓zz_f, ↓zi_t, ↓zi_f, eq_self, yy_d_0, Int.reduceEq, Int.reduceLT, Int.reduceLE, Int.reduceNe, Int.reduceToNat, Int.reduceAdd, Int.reduceSub, Int.reduceMul, Int.reduceNeg, Nat.reduceAdd, Nat.reduceMul, Nat.reduceSub, Nat.reduceEqDiff, Nat.reduceLT, ne_eq, not_false_eq_true, not_true_eq_false, true_and, and_true, and_self, yy_s_eq, yy_s_ne, yy_c_eq, yy_c_ne, yy_u_eq, yy_u_ne, xm_w_id, yy_at, tdiv_pos, tmod_pos, ↓zr_18_0, ↓zf_18_1, ↓zs_18_1, ↓zf_18_2, ↓zs_18_2, ↓zr_18_3, ↓zf_18_4, ↓zs_18_4, ↓zr_18_5, ↓zf_18_6, ↓zs_18_6, ↓zr_18_7, ↓zr_18_8, ↓zr_18_9]
  rw [show (i : Int) * 5 = 5 * i by omega, show (l : Int) * 5 = 5 * l by omega, zc_kp_18 (by omega) (by omega) (by omega) (by omega), show (5 * (i : Int)).toNat = 5 * i by omega, show (5 * (l : Int)).toNat = 5 * l by omega]
set_option maxRecDepth 20000 in
theorem oc_411_18 {F : xm_W → Prop} {sc : List Int} {d : Nat} {t : xm_W} {m : Nat → Nat → Int} {i l : Nat} (hi : i < 40) (hl : l < 40) : xm_Ov (xm_X (xm_old sc) xm_mt (d + 1) 411 [.inr (.inl (some 18)), .inl ((i : Int)), .inl ((l : Int))] (yy_W (m) t)) F = F (yy_W (yy_c m 21 (yy_cp (m 21) (m 21) (5 * i) (5 * l) 5)) t) := congrArg (fun x => xm_Ov x F) (c_411_18 hi hl)
/-! the walk over the prints: fade and tread -/
set_option maxRecDepth 20000 in
theorem l_409_18 {sc : List Int} {d : Nat} {t : xm_W} {m0 : Nat → Nat → Int} {s0 : Nat → Int} {Q : Option xm_V × xm_W → Prop} (hM : yy_MR m0 18 s0) (hB : sg_B s0) (h40 : s0 3 ≤ 40) (hQ : ∀ m', yy_Fb m0 m' 18 → yy_MR m' 18 (sg_clr (sg_K s0 0 (-1)) s0) → (∀ c, c ≠ 18 → c ≠ 21 → m' c = m0 c) → Q ((none, (yy_W (m') t)))) : ∀ (k i l : Nat) (m : Nat → Nat → Int) (s : Nat → Int) (u : Option xm_V), ((i + k : Nat) : Int) = s0 3 → l ≤ i → (∀ q, (q < 134 ∨ 134 + 5 * i ≤ q) → s q = s0 q) → (∀ c, c ≠ 21 → m c = m0 c) → (∀ q, q < 200 → m 21 q = s (134 + q)) → sg_cl (sg_K s0 0 (-1)) k i l s = sg_cl (sg_K s0 0 (-1)) (s0 3).toNat 0 0 s0 → xm_EQ (xm_old sc) xm_sta (xm_X (xm_old sc) xm_mt (d + 2)) xm_c409 4 [some (.inr (.inl (some 18))), some (.inl ((l : Int))), some (.inl ((i : Int))), u] [] (yy_W (m) t) Q
  | 0, i, l, m, s, u, hk, hl, hs, hm, hp, hc => by
    obtain ⟨e1, e2, e3, e4, e5, e6, e7⟩ := id hM
    have a0 : m 18 = m0 18 := hm _ (by decide)
    refine xb_409_4 ?_
    simp (disch := first | omega | (unfold xm_w; omega)) only [↓zy_at, xm_O_some, xm_Oi_some, xm_Ov_some, xm_Oq_some, ↓reduceIte, ↓zz_t, ↓zz_f, ↓zi_t, ↓zi_f, eq_self, yy_d_0, Int.reduceEq, Int.reduceLT, Int.reduceLE, Int.reduceNe, Int.reduceToNat, Int.reduceAdd, Int.reduceSub, Int.reduceMul, Int.reduceNeg, Nat.reduceAdd, Nat.reduceMul, Nat.reduceSub, Nat.reduceEqDiff, Nat.reduceLT, ne_eq, not_false_eq_true, not_true_eq_false, true_and, and_true, and_self, yy_s_eq, yy_s_ne, yy_c_eq, yy_c_ne, yy_u_eq, yy_u_ne, xm_w_id, yy_at, tdiv_pos, tmod_pos, ↓zr_18_0, ↓zf_18_1, ↓zs_18_1, ↓zf_18_2, ↓zs_18_2, ↓zr_18_3, ↓zf_18_4, ↓zs_18_4, ↓zr_18_5, ↓zf_18_6, ↓zs_18_6, ↓zr_18_7, ↓zr_18_8, ↓zr_18_9, a0, e4]
    have hc2 : (s, l) = sg_cl (sg_K s0 0 (-1)) (s0 3).toNat 0 0 s0 := hc
    have r1 : (sg_cl (sg_K s0 0 (-1)) (s0 3).toNat 0 0 s0).1 = s := by rw [← hc2]
    have r2 : (sg_cl (sg_K s0 0 (-1)) (s0 3).toNat 0 0 s0).2 = l := by rw [← hc2]
    have ev : ∀ q, sg_clr (sg_K s0 0 (-1)) s0 q = if q = 3 then (l : Int) else s q := fun q => by unfold sg_clr yy_u; rw [r1, r2]
    have ev2 : ∀ q, q < 134 → q ≠ 3 → sg_clr (sg_K s0 0 (-1)) s0 q = s0 q := fun q h h' => by rw [ev, if_neg h', hs q (Or.inl h)]
    refine hQ _ (fun c hc => ?_) ⟨?_, ?_, ?_, ?_, fun q hq => ?_, fun q hq => ?_, fun j hj => ⟨fun q hq => ?_, fun q hq => ?_⟩⟩ (fun c c1 c2 => ?_)
    · simp (disch := first | omega | (unfold xm_w; omega)) only [↓zy_at, xm_O_some, xm_Oi_some, xm_Ov_some, xm_Oq_some, ↓reduceIte, ↓zz_t, ↓zz_f, ↓zi_t, ↓zi_f, eq_self, yy_d_0, Int.reduceEq, Int.reduceLT, Int.reduceLE, Int.reduceNe, Int.reduceToNat, Int.reduceAdd, Int.reduceSub, Int.reduceMul, Int.reduceNeg, Nat.reduceAdd, Nat.reduceMul, Nat.reduceSub, Nat.reduceEqDiff, Nat.reduceLT, ne_eq, not_false_eq_true, not_true_eq_false, true_and, and_true, and_self, yy_s_eq, yy_s_ne, yy_c_eq, yy_c_ne, yy_u_eq, yy_u_ne, xm_w_id, yy_at, tdiv_pos, tmod_pos]; exact hm c (by omega)
    · simp (disch := first | omega | (unfold xm_w; omega)) only [↓zy_at, xm_O_some, xm_Oi_some, xm_Ov_some, xm_Oq_some, ↓reduceIte, ↓zz_t, ↓zz_f, ↓zi_t, ↓zi_f, eq_self, yy_d_0, Int.reduceEq, Int.reduceLT, Int.reduceLE, Int.reduceNe, Int.reduceToNat, Int.reduceAdd, Int.reduceSub, Int.reduceMul, Int.reduceNeg, Nat.reduceAdd, Nat.reduceMul, Nat.reduceSub, Nat.reduceEqDiff, Nat.reduceLT, ne_eq, not_false_eq_true, not_true_eq_false, true_and, and_true, and_self, yy_s_eq, yy_s_ne, yy_c_eq, yy_c_ne, yy_u_eq, yy_u_ne, xm_w_id, yy_at, tdiv_pos, tmod_pos, a0, e1]; exact (ev2 2 (by decide) (by decide)).symm
    · simp (disch := first | omega | (unfold xm_w; omega)) only [↓zy_at, xm_O_some, xm_Oi_some, xm_Ov_some, xm_Oq_some, ↓reduceIte, ↓zz_t, ↓zz_f, ↓zi_t, ↓zi_f, eq_self, yy_d_0, Int.reduceEq, Int.reduceLT, Int.reduceLE, Int.reduceNe, Int.reduceToNat, Int.reduceAdd, Int.reduceSub, Int.reduceMul, Int.reduceNeg, Nat.reduceAdd, Nat.reduceMul, Nat.reduceSub, Nat.reduceEqDiff, Nat.reduceLT, ne_eq, not_false_eq_true, not_true_eq_false, true_and, and_true, and_self, yy_s_eq, yy_s_ne, yy_c_eq, yy_c_ne, yy_u_eq, yy_u_ne, xm_w_id, yy_at, tdiv_pos, tmod_pos, a0, e2]; exact (ev2 1 (by decide) (by decide)).symm
    · simp (disch := first | omega | (unfold xm_w; omega)) only [↓zy_at, xm_O_some, xm_Oi_some, xm_Ov_some, xm_Oq_some, ↓reduceIte, ↓zz_t, ↓zz_f, ↓zi_t, ↓zi_f, eq_self, yy_d_0, Int.reduceEq, Int.reduceLT, Int.reduceLE, Int.reduceNe, Int.reduceToNat, Int.reduceAdd, Int.reduceSub, Int.reduceMul, Int.reduceNeg, Nat.reduceAdd, Nat.reduceMul, Nat.reduceSub, Nat.reduceEqDiff, Nat.reduceLT, ne_eq, not_false_eq_true, not_true_eq_false, true_and, and_true, and_self, yy_s_eq, yy_s_ne, yy_c_eq, yy_c_ne, yy_u_eq, yy_u_ne, xm_w_id, yy_at, tdiv_pos, tmod_pos, a0, e3]; exact (ev2 0 (by decide) (by decide)).symm
    · simp (disch := first | omega | (unfold xm_w; omega)) only [↓zy_at, xm_O_some, xm_Oi_some, xm_Ov_some, xm_Oq_some, ↓reduceIte, ↓zz_t, ↓zz_f, ↓zi_t, ↓zi_f, eq_self, yy_d_0, Int.reduceEq, Int.reduceLT, Int.reduceLE, Int.reduceNe, Int.reduceToNat, Int.reduceAdd, Int.reduceSub, Int.reduceMul, Int.reduceNeg, Nat.reduceAdd, Nat.reduceMul, Nat.reduceSub, Nat.reduceEqDiff, Nat.reduceLT, ne_eq, not_false_eq_true, not_true_eq_false, true_and, and_true, and_self, yy_s_eq, yy_s_ne, yy_c_eq, yy_c_ne, yy_u_eq, yy_u_ne, xm_w_id, yy_at, tdiv_pos, tmod_pos]; rw [ev, if_pos rfl]
    · simp (disch := first | omega | (unfold xm_w; omega)) only [↓zy_at, xm_O_some, xm_Oi_some, xm_Ov_some, xm_Oq_some, ↓reduceIte, ↓zz_t, ↓zz_f, ↓zi_t, ↓zi_f, eq_self, yy_d_0, Int.reduceEq, Int.reduceLT, Int.reduceLE, Int.reduceNe, Int.reduceToNat, Int.reduceAdd, Int.reduceSub, Int.reduceMul, Int.reduceNeg, Nat.reduceAdd, Nat.reduceMul, Nat.reduceSub, Nat.reduceEqDiff, Nat.reduceLT, ne_eq, not_false_eq_true, not_true_eq_false, true_and, and_true, and_self, yy_s_eq, yy_s_ne, yy_c_eq, yy_c_ne, yy_u_eq, yy_u_ne, xm_w_id, yy_at, tdiv_pos, tmod_pos]; rw [hm _ (by decide), e5 q hq, ev2 _ (by omega) (by omega)]
    · simp (disch := first | omega | (unfold xm_w; omega)) only [↓zy_at, xm_O_some, xm_Oi_some, xm_Ov_some, xm_Oq_some, ↓reduceIte, ↓zz_t, ↓zz_f, ↓zi_t, ↓zi_f, eq_self, yy_d_0, Int.reduceEq, Int.reduceLT, Int.reduceLE, Int.reduceNe, Int.reduceToNat, Int.reduceAdd, Int.reduceSub, Int.reduceMul, Int.reduceNeg, Nat.reduceAdd, Nat.reduceMul, Nat.reduceSub, Nat.reduceEqDiff, Nat.reduceLT, ne_eq, not_false_eq_true, not_true_eq_false, true_and, and_true, and_self, yy_s_eq, yy_s_ne, yy_c_eq, yy_c_ne, yy_u_eq, yy_u_ne, xm_w_id, yy_at, tdiv_pos, tmod_pos]; rw [hp q hq, ev, if_neg (by omega)]
    · simp (disch := first | omega | (unfold xm_w; omega)) only [↓zy_at, xm_O_some, xm_Oi_some, xm_Ov_some, xm_Oq_some, ↓reduceIte, ↓zz_t, ↓zz_f, ↓zi_t, ↓zi_f, eq_self, yy_d_0, Int.reduceEq, Int.reduceLT, Int.reduceLE, Int.reduceNe, Int.reduceToNat, Int.reduceAdd, Int.reduceSub, Int.reduceMul, Int.reduceNeg, Nat.reduceAdd, Nat.reduceMul, Nat.reduceSub, Nat.reduceEqDiff, Nat.reduceLT, ne_eq, not_false_eq_true, not_true_eq_false, true_and, and_true, and_self, yy_s_eq, yy_s_ne, yy_c_eq, yy_c_ne, yy_u_eq, yy_u_ne, xm_w_id, yy_at, tdiv_pos, tmod_pos]; rw [hm _ (by omega), (e7 j hj).1 q hq, ev2 _ (by omega) (by omega)]
    · simp (disch := first | omega | (unfold xm_w; omega)) only [↓zy_at, xm_O_some, xm_Oi_some, xm_Ov_some, xm_Oq_some, ↓reduceIte, ↓zz_t, ↓zz_f, ↓zi_t, ↓zi_f, eq_self, yy_d_0, Int.reduceEq, Int.reduceLT, Int.reduceLE, Int.reduceNe, Int.reduceToNat, Int.reduceAdd, Int.reduceSub, Int.reduceMul, Int.reduceNeg, Nat.reduceAdd, Nat.reduceMul, Nat.reduceSub, Nat.reduceEqDiff, Nat.reduceLT, ne_eq, not_false_eq_true, not_true_eq_false, true_and, and_true, and_self, yy_s_eq, yy_s_ne, yy_c_eq, yy_c_ne, yy_u_eq, yy_u_ne, xm_w_id, yy_at, tdiv_pos, tmod_pos]; rw [hm _ (by omega), (e7 j hj).2 q hq, ev2 _ (by omega) (by omega)]
    · simp (disch := first | omega | (unfold xm_w; omega)) only [↓zy_at, xm_O_some, xm_Oi_some, xm_Ov_some, xm_Oq_some, ↓reduceIte, ↓zz_t, ↓zz_f, ↓zi_t, ↓zi_f, eq_self, yy_d_0, Int.reduceEq, Int.reduceLT, Int.reduceLE, Int.reduceNe, Int.reduceToNat, Int.reduceAdd, Int.reduceSub, Int.reduceMul, Int.reduceNeg, Nat.reduceAdd, Nat.reduceMul, Nat.reduceSub, Nat.reduceEqDiff, Nat.reduceLT, ne_eq, not_false_eq_true, not_true_eq_false, true_and, and_true, and_self, yy_s_eq, yy_s_ne, yy_c_eq, yy_c_ne, yy_u_eq, yy_u_ne, xm_w_id, yy_at, tdiv_pos, tmod_pos]; exact hm c c2
  | k + 1, i, l, m, s, u, hk, hl, hs, hm, hp, hc => by
    obtain ⟨e1, e2, e3, e4, e5, e6, e7⟩ := id hM
    obtain ⟨b1, b2, b3⟩ := id hB
    have b4 := b3 i (by omega)
    have a0 : m 18 = m0 18 := hm _ (by decide)
    have f0 : m 21 (5 * i) = sg_p s0 i 0 := by rw [hp _ (by omega), show 134 + 5 * i = 134 + 5 * i + 0 by omega]; exact hs _ (Or.inr (by omega))
    have f3 : m 21 (5 * i + 3) = sg_p s0 i 3 := by rw [hp _ (by omega), show 134 + (5 * i + 3) = 134 + 5 * i + 3 by omega]; exact hs _ (Or.inr (by omega))
    have kk : ∀ {F : Int → xm_W → Prop}, xm_Oi (xm_X (xm_old sc) xm_mt (d + 2) 403 [.inr (.inl (some 18)), .inl (sg_p s0 i 0)] (yy_W (m) t)) F = F (sg_k s0 (sg_p s0 i 0)) (yy_W m t) := by
      intro F
      have hM2 : yy_MR m 18 s := by
        refine ⟨by rw [a0, e1, hs 2 (Or.inl (by decide))], by rw [a0, e2, hs 1 (Or.inl (by decide))], by rw [a0, e3, hs 0 (Or.inl (by decide))], by rw [a0, e4, hs 3 (Or.inl (by decide))], fun q hq => by rw [hm _ (by decide), e5 q hq, hs _ (Or.inl (by omega))], hp, fun j hj => ⟨fun q hq => ?_, fun q hq => ?_⟩⟩
        · rw [hm _ (by omega), (e7 j hj).1 q hq, hs _ (Or.inl (by omega))]
        · rw [hm _ (by omega), (e7 j hj).2 q hq, hs _ (Or.inl (by omega))]
      rw [oc_403_18 (d := d + 1) hM2 b4.1 (by rw [hs 2 (Or.inl (by decide))]; exact b1)]
      rw [sg_k_eq (hs 2 (Or.inl (by decide))) (hs _ (Or.inl (by omega)))]
    have bk := sg_k_r (c := sg_p s0 i 0) b1
    have next : ¬ (sg_K s0 0 (-1) i = true) → ∀ u, xm_EQ (xm_old sc) xm_sta (xm_X (xm_old sc) xm_mt (d + 2)) xm_c409 4 [some (.inr (.inl (some 18))), some (.inl ((l : Int))), some (.inl ((i : Int) + 1)), u] [] (yy_W (m) t) Q := by
      intro hK u
      rw [sg_cl_s, if_neg hK] at hc
      have := l_409_18 (sc := sc) (d := d) (t := t) (Q := Q) hM hB h40 hQ k (i + 1) l m s u (by omega) (by omega) (fun q hq => hs q (by omega)) hm hp hc
      rw [show ((i + 1 : Nat) : Int) = (i : Int) + 1 by omega] at this
      exact this
    have hKi : sg_K s0 0 (-1) i = decide ((0 : Int) ≤ i ∧ sg_p s0 i 0 ≠ -1 ∧ s0 1 ≤ sg_p s0 i 3 + sg_k s0 (sg_p s0 i 0)) := rfl
    have i0 : ((i : Int) * 5 + 0).toNat = 5 * i := by omega
    have i3 : ((i : Int) * 5 + 3).toNat = 5 * i + 3 := by omega
    refine xb_409_4 ?_
    simp (disch := first | omega | (unfold xm_w; omega)) only [↓zy_at, xm_O_some, xm_Oi_some, xm_Ov_some, xm_Oq_some, ↓reduceIte, ↓zz_t, ↓zz_f, ↓zi_t, ↓zi_f, eq_self, yy_d_0, Int.reduceEq, Int.reduceLT, Int.reduceLE, Int.reduceNe, Int.reduceToNat, Int.reduceAdd, Int.reduceSub, Int.reduceMul, Int.reduceNeg, Nat.reduceAdd, Nat.reduceMul, Nat.reduceSub, Nat.reduceEqDiff, Nat.reduceLT, ne_eq, not_false_eq_true, not_true_eq_false, true_and, and_true, and_self, yy_s_eq, yy_s_ne, yy_c_eq, yy_c_ne, yy_u_eq, yy_u_ne, xm_w_id, yy_at, tdiv_pos, tmod_pos, ↓zr_18_0, ↓zf_18_1, ↓zs_18_1, ↓zf_18_2, ↓zs_18_2, ↓zr_18_3, ↓zf_18_4, ↓zs_18_4, ↓zr_18_5, ↓zf_18_6, ↓zs_18_6, ↓zr_18_7, ↓zr_18_8, ↓zr_18_9, ↓zi_21, ↓zt_21, a0, e4, e2, i0, i3, f0, f3]
    rw [kk]
    simp (disch := first | omega | (unfold xm_w; omega)) only [↓zy_at, xm_O_some, xm_Oi_some, xm_Ov_some, xm_Oq_some, ↓reduceIte, ↓zz_t, ↓zz_f, ↓zi_t, ↓zi_f, eq_self, yy_d_0, Int.reduceEq, Int.reduceLT, Int.reduceLE, Int.reduceNe, Int.reduceToNat, Int.reduceAdd, Int.reduceSub, Int.reduceMul, Int.reduceNeg, Nat.reduceAdd, Nat.reduceMul, Nat.reduceSub, Nat.reduceEqDiff, Nat.reduceLT, ne_eq, not_false_eq_true, not_true_eq_false, true_and, and_true, and_self, yy_s_eq, yy_s_ne, yy_c_eq, yy_c_ne, yy_u_eq, yy_u_ne, xm_w_id, yy_at, tdiv_pos, tmod_pos]
    by_cases g : sg_p s0 i 3 + sg_k s0 (sg_p s0 i 0) < s0 1
    · rw [if_pos g]
      exact next (by rw [hKi, decide_eq_true_iff]; omega) _
    · rw [if_neg g, oc_411_18 (by omega) (by omega)]
      have hK : sg_K s0 0 (-1) i = true := by rw [hKi, decide_eq_true_iff]; omega
      rw [sg_cl_s, if_pos hK] at hc
      have := l_409_18 (sc := sc) (d := d) (t := t) (Q := Q) hM hB h40 hQ k (i + 1) (l + 1) (yy_c m 21 (yy_cp (m 21) (m 21) (5 * i) (5 * l) 5)) (sg_c5 s i l) (some (.inl (sg_p s0 i 0))) (by omega) (by omega) (fun q hq => by rw [sg_c5_out (by omega)]; exact hs q (by omega)) (fun c hc => by rw [yy_c_ne hc]; exact hm c hc) (fun q hq => ?_) hc
      · rw [show ((i + 1 : Nat) : Int) = (i : Int) + 1 by omega, show ((l + 1 : Nat) : Int) = (l : Int) + 1 by omega] at this
        exact this
      · rw [yy_c_eq]
        unfold yy_cp sg_c5
        by_cases f : 5 * l ≤ q ∧ q < 5 * l + 5
        · rw [if_pos f, if_pos (by omega), hp _ (by omega)]; congr 1; omega
        · rw [if_neg f, if_neg (by omega)]; exact hp q hq
set_option maxRecDepth 20000 in
theorem c_409_18g {sc : List Int} {d : Nat} {t : xm_W} {m : Nat → Nat → Int} {s : Nat → Int} (hM : yy_MR m 18 s) (hB : sg_B s) (h40 : s 3 ≤ 40) : ∃ m', xm_X (xm_old sc) xm_mt (d + 3) 409 [.inr (.inl (some 18))] (yy_W m t) = some (none, yy_W m' t) ∧ yy_Fb m m' 18 ∧ yy_MR m' 18 (sg_clr (sg_K s 0 (-1)) s) ∧ (∀ c, c ≠ 18 → c ≠ 21 → m' c = m c) := by
  have key : ∀ {Q : Option xm_V × xm_W → Prop}, (∀ m', (yy_Fb m m' 18 ∧ yy_MR m' 18 (sg_clr (sg_K s 0 (-1)) s) ∧ (∀ c, c ≠ 18 → c ≠ 21 → m' c = m c)) → Q (none, yy_W m' t)) → xm_EQ (xm_old sc) xm_sta (xm_X (xm_old sc) xm_mt (d + 2)) xm_m409.2.2.2.2.2.2.2 0 (xm_loc xm_m409.2.2.1 [.inr (.inl (some 18))]) [] (yy_W m t) Q := by
    intro Q hQ
    refine xb_409_0 ?_
    exact l_409_18 (d := d) hM hB h40 (fun m' h1 h2 h3 => hQ m' ⟨h1, h2, h3⟩) (s 3).toNat 0 0 m s none (by have := hB.2.1; omega) (by decide) (fun q _ => rfl) (fun c _ => rfl) hM.2.2.2.2.2.1 rfl
  obtain ⟨q, h1, m', h2, h3⟩ := yx_of (y := 409) (M := xm_m409) (sc := sc) (d := d + 2) (as := [.inr (.inl (some 18))]) (w := yy_W m t) (Q := fun q => ∃ m', q = (none, yy_W m' t) ∧ (yy_Fb m m' 18 ∧ yy_MR m' 18 (sg_clr (sg_K s 0 (-1)) s) ∧ (∀ c, c ≠ 18 → c ≠ 21 → m' c = m c))) rfl (key fun m' h => ⟨m', rfl, h⟩) (fun q ⟨m', h, _⟩ => by rw [h]; rfl) rfl (Nat.le_of_ble_eq_true rfl) (yy_hd rfl (by decide))
  exact ⟨m', by rw [h1, h2], h3⟩
end
section
/-! TEXTS of the class: signs in cells from 87 on -/
def sg_ix (u : Nat) (v : Int) : Int := if u = 0 then (if v = 119 then 0 else if v = 115 then 1 else if v = 109 then 2 else 3) else (if v = 110 then 0 else if v = 100 then 1 else 2)
def sg_sg (s : Nat → Int) (u k : Nat) : Int := if sg_tw s u k = 0 then sg_tv s u k else if sg_tw s u k = 1 then -1 - sg_ix u (sg_tv s u k) else if sg_tw s u k = 2 then -43 else -10 - sg_tv s u k
def yy_TC (t : xm_W) (s : Nat → Int) (u a a' : Nat) : Prop := t[a]? = some (.inr (.inr (7, [.inr (.inl (some (87 + a')))]))) ∧ t[a']? = some (.inl (yy_R (sg_tn s u).toNat (sg_sg s u)))
def yy_TX (t : xm_W) (s : Nat → Int) (u : Nat) (z : Int) : Prop := (sg_tn s u = 0 ∧ yy_d z = none) ∨ (0 < sg_tn s u ∧ ∃ a a', yy_d z = some (87 + a) ∧ yy_TC t s u a a')
section zx_sec
variable {o : xm_W} {m : Nat → Nat → Int} {t : xm_W} {a a' : Nat} {l : List Int}
set_option maxRecDepth 20000 in
theorem zx_fr {F : Nat → Prop} (h : t[a]? = some (.inr (.inr (7, [.inr (.inl (some (87 + a')))])))) : xm_O (xm_fr o (yy_W m t) (87 + a) 7 0) F = F (87 + a') := by
  have h2 : (yy_W m t)[87 + a]? = some (.inr (.inr (7, [.inr (.inl (some (87 + a')))]))) := by rw [yy_ge (by omega), Nat.add_sub_cancel_left]; exact h
  rw [xw_fr h2 rfl]; rfl
set_option maxRecDepth 20000 in
theorem zx_in {F : List Int → Prop} (h : t[a]? = some (.inl l)) : xm_O (xm_ints o (yy_W m t) (87 + a)) F = F l := by
  have h2 : (yy_W m t)[87 + a]? = some (.inl l) := by rw [yy_ge (by omega), Nat.add_sub_cancel_left]; exact h
  rw [xw_ints h2]; rfl
set_option maxRecDepth 20000 in
theorem zx_ln {F : Nat → Prop} (h : t[a]? = some (.inl l)) (hl : l.length < 1000000) : xm_O (xm_len o (yy_W m t) (87 + a)) F = F l.length := by
  have h2 : (yy_W m t)[87 + a]? = some (.inl l) := by rw [yy_ge (by omega), Nat.add_sub_cancel_left]; exact h
  rw [xw_len h2 hl]; rfl
set_option maxRecDepth 20000 in
theorem zx_hd {as : List xm_V} (h : t[a]? = some (.inr (.inr (7, [.inr (.inl (some (87 + a')))])))) : xm_hd o (yy_W m t) 8 (.inr (.inl (some (87 + a))) :: as) := by
  have h2 : (yy_W m t)[87 + a]? = some (.inr (.inr (7, [.inr (.inl (some (87 + a')))]))) := by rw [yy_ge (by omega), Nat.add_sub_cancel_left]; exact h
  exact xw_hd h2
end zx_sec
set_option maxRecDepth 20000 in
theorem sg_ix_b {u : Nat} {v : Int} : 0 ≤ sg_ix u v ∧ sg_ix u v ≤ 3 := by
  unfold sg_ix; repeat' split
  all_goals omega
set_option maxRecDepth 20000 in
theorem sg_sign_b {o : Int} (h : sp_sign o) : 37 ≤ o ∧ o ≤ 124 := by
  unfold sp_sign at h; omega
set_option maxRecDepth 20000 in
theorem l_902_1 {sc : List Int} {d : Nat} {t : xm_W} {Q : Option xm_V × xm_W → Prop} {u a a' : Nat} {s : Nat → Int} {nc : Nat → Int} (hT : sg_T s u) (h0 : 0 < sg_tn s u) (hC : yy_TC t s u a a') : ∀ (k i : Nat) (m : Nat → Nat → Int) (v : Option xm_V), ((i + k : Nat) : Int) = sg_tn s u → m 6 = nc → (∀ j, j < (sg_rn s u (fun v => nc (sg_ix u v).toNat) i).2 → m 7 j = (sg_rn s u (fun v => nc (sg_ix u v).toNat) i).1 j) → (∀ m', (∀ c, c ≠ 7 → m' c = m c) → Q ((some (.inl (sg_val s u (fun v => nc (sg_ix u v).toNat))), (yy_W (m') t)))) → xm_EQ (xm_old sc) xm_sta (xm_X (xm_old sc) xm_mt (d + 1)) xm_c902 4 [some (.inr (.inl (some (87 + a)))), some (.inr (.inl (some 6))), some (.inr (.inl (some 7))), some (.inl ((sg_d s u i))), some (.inl ((i : Int))), v] [] (yy_W (m) t) Q
  | 0, i, m, v, hk, hn, hp, hQ => by
    obtain ⟨t1, t2, t3⟩ := id hT
    obtain ⟨d1, d2⟩ := sg_rn_d (nm := fun v => nc (sg_ix u v).toNat) hT i (by omega)
    have ei : i = (sg_tn s u).toNat := by omega
    have hd := t2 h0
    rw [← ei] at hd
    refine xb_902_4 ?_
    rw [zx_fr hC.1, zx_ln hC.2 (by rw [yy_R_len]; omega), yy_R_len, if_neg (by omega), if_pos (by omega)]
    simp (disch := first | omega | (unfold xm_w; omega)) only [↓zy_at, xm_O_some, xm_Oi_some, xm_Ov_some, xm_Oq_some, ↓reduceIte, ↓zz_t, ↓zz_f, ↓zi_t, ↓zi_f, eq_self, yy_d_0, Int.reduceEq, Int.reduceLT, Int.reduceLE, Int.reduceNe, Int.reduceToNat, Int.reduceAdd, Int.reduceSub, Int.reduceMul, Int.reduceNeg, Nat.reduceAdd, Nat.reduceMul, Nat.reduceSub, Nat.reduceEqDiff, Nat.reduceLT, ne_eq, not_false_eq_true, not_true_eq_false, true_and, and_true, and_self, yy_s_eq, yy_s_ne, yy_c_eq, yy_c_ne, yy_u_eq, yy_u_ne, xm_w_id, yy_at, tdiv_pos, tmod_pos, ↓zi_7, ↓zt_7]
    have := hQ m fun c _ => rfl
    unfold sg_val at this
    rw [← ei, ← hp 0 (by omega)] at this
    exact this
  | k + 1, i, m, v, hk, hn, hp, hQ => by
    obtain ⟨t1, t2, t3⟩ := id hT
    obtain ⟨d1, d2⟩ := sg_rn_d (nm := fun v => nc (sg_ix u v).toNat) hT i (by omega)
    have db := sg_d_b (s := s) (u := u) i
    have step : ∀ m1, m1 6 = nc → (∀ c, c ≠ 7 → m1 c = m c) → (∀ j, j < (sg_rn s u (fun v => nc (sg_ix u v).toNat) (i + 1)).2 → m1 7 j = (sg_rn s u (fun v => nc (sg_ix u v).toNat) (i + 1)).1 j) → ∀ v, xm_EQ (xm_old sc) xm_sta (xm_X (xm_old sc) xm_mt (d + 1)) xm_c902 4 [some (.inr (.inl (some (87 + a)))), some (.inr (.inl (some 6))), some (.inr (.inl (some 7))), some (.inl ((sg_d s u (i + 1)))), some (.inl ((i : Int) + 1)), v] [] (yy_W (m1) t) Q := by
      intro m1 a2 a3 a4 v
      have := l_902_1 (sc := sc) (d := d) (t := t) (Q := Q) hT h0 hC k (i + 1) m1 v (by omega) a2 a4 (fun m' h => hQ m' fun c hc => by rw [h c hc, a3 c hc])
      rw [show ((i + 1 : Nat) : Int) = (i : Int) + 1 by omega] at this
      exact this
    have hr : sg_rn s u (fun v => nc (sg_ix u v).toNat) (i + 1) = sg_st (fun v => nc (sg_ix u v).toNat) (sg_tw s u i) (sg_tv s u i) (sg_rn s u (fun v => nc (sg_ix u v).toNat) i).1 (sg_rn s u (fun v => nc (sg_ix u v).toNat) i).2 := rfl
    have hd1 : sg_d s u (i + 1) = sg_d s u i + (if sg_tw s u i = 0 ∨ sg_tw s u i = 1 then 1 else if sg_tw s u i = 2 then 0 else -1) := rfl
    have hsg : ∀ {z}, sg_sg s u i = z → sg_sg s u ((i : Int)).toNat = z := fun h => by rw [Int.toNat_natCast]; exact h
    refine xb_902_4 ?_
    rw [zx_fr hC.1, zx_ln hC.2 (by rw [yy_R_len]; omega), yy_R_len, if_pos (by omega), zx_fr hC.1, zx_in hC.2, zy_at (by omega) (by omega)]
    rcases t3 i (by omega) with ⟨a1, b1, c1⟩ | ⟨a1, b1⟩ | ⟨a1, b1⟩ | ⟨a1, b1, c1⟩
    · have es := hsg (show sg_sg s u i = sg_tv s u i by unfold sg_sg; rw [if_pos a1])
      rw [if_pos (Or.inl a1)] at hd1
      rw [hd1] at step
      rw [a1] at hr
      rw [es, if_neg (by omega), yy_len (n := 60) rfl (by decide), xm_O_some, if_pos (by omega), if_neg (by omega)]
      simp (disch := first | omega | (unfold xm_w; omega)) only [↓zy_at, xm_O_some, xm_Oi_some, xm_Ov_some, xm_Oq_some, ↓reduceIte, ↓zz_t, ↓zz_f, ↓zi_t, ↓zi_f, eq_self, yy_d_0, Int.reduceEq, Int.reduceLT, Int.reduceLE, Int.reduceNe, Int.reduceToNat, Int.reduceAdd, Int.reduceSub, Int.reduceMul, Int.reduceNeg, Nat.reduceAdd, Nat.reduceMul, Nat.reduceSub, Nat.reduceEqDiff, Nat.reduceLT, ne_eq, not_false_eq_true, not_true_eq_false, true_and, and_true, and_self, yy_s_eq, yy_s_ne, yy_c_eq, yy_c_ne, yy_u_eq, yy_u_ne, xm_w_id, yy_at, tdiv_pos, tmod_pos, ↓zi_7, ↓zt_7]
      refine step _ (by simp (disch := first | omega | (unfold xm_w; omega)) only [↓zy_at, xm_O_some, xm_Oi_some, xm_Ov_some, xm_Oq_some, ↓reduceIte, ↓zz_t, ↓zz_f, ↓zi_t, ↓zi_f, eq_self, yy_d_0, Int.reduceEq, Int.reduceLT, Int.reduceLE, Int.reduceNe, Int.reduceToNat, Int.reduceAdd, Int.reduceSub, Int.reduceMul, Int.reduceNeg, Nat.reduceAdd, Nat.reduceMul, Nat.reduceSub, Nat.reduceEqDiff, Nat.reduceLT, ne_eq, not_false_eq_true, not_true_eq_false, true_and, and_true, and_self, yy_s_eq, yy_s_ne, yy_c_eq, yy_c_ne, yy_u_eq, yy_u_ne, xm_w_id, yy_at, tdiv_pos, tmod_pos, hn]) (fun c hc => by simp (disch := first | omega | (unfold xm_w; omega)) only [↓zy_at, xm_O_some, xm_Oi_some, xm_Ov_some, xm_Oq_some, ↓reduceIte, ↓zz_t, ↓zz_f, ↓zi_t, ↓zi_f, eq_self, yy_d_0, Int.reduceEq, Int.reduceLT, Int.reduceLE, Int.reduceNe, Int.reduceToNat, Int.reduceAdd, Int.reduceSub, Int.reduceMul, Int.reduceNeg, Nat.reduceAdd, Nat.reduceMul, Nat.reduceSub, Nat.reduceEqDiff, Nat.reduceLT, ne_eq, not_false_eq_true, not_true_eq_false, true_and, and_true, and_self, yy_s_eq, yy_s_ne, yy_c_eq, yy_c_ne, yy_u_eq, yy_u_ne, xm_w_id, yy_at, tdiv_pos, tmod_pos]) (fun j hj => ?_) _
      rw [hr]
      rw [hr] at hj
      unfold sg_st at hj ⊢
      rw [if_pos rfl] at hj ⊢
      have hj : j < (sg_rn s u (fun v => nc (sg_ix u v).toNat) i).2 + 1 := hj
      show _ = yy_u _ _ _ j
      rw [yy_s_eq, d2]
      by_cases ej : j = (sg_d s u i).toNat
      · subst ej; rw [yy_u_eq, yy_u_eq]
      · rw [yy_u_ne ej, yy_u_ne ej]; exact hp j (by omega)
    · have b2 := sg_ix_b (u := u) (v := sg_tv s u i)
      have es := hsg (show sg_sg s u i = -1 - sg_ix u (sg_tv s u i) by unfold sg_sg; rw [if_neg (by omega), if_pos a1])
      have e6 : (-1 - (-1 - sg_ix u (sg_tv s u i))).toNat = (sg_ix u (sg_tv s u i)).toNat := by omega
      rw [if_pos (Or.inr a1)] at hd1
      rw [hd1] at step
      rw [a1] at hr
      rw [es, if_neg (by omega), yy_len (n := 60) rfl (by decide), xm_O_some, if_pos (by omega), if_pos (by omega)]
      simp (disch := first | omega | (unfold xm_w; omega)) only [↓zy_at, xm_O_some, xm_Oi_some, xm_Ov_some, xm_Oq_some, ↓reduceIte, ↓zz_t, ↓zz_f, ↓zi_t, ↓zi_f, eq_self, yy_d_0, Int.reduceEq, Int.reduceLT, Int.reduceLE, Int.reduceNe, Int.reduceToNat, Int.reduceAdd, Int.reduceSub, Int.reduceMul, Int.reduceNeg, Nat.reduceAdd, Nat.reduceMul, Nat.reduceSub, Nat.reduceEqDiff, Nat.reduceLT, ne_eq, not_false_eq_true, not_true_eq_false, true_and, and_true, and_self, yy_s_eq, yy_s_ne, yy_c_eq, yy_c_ne, yy_u_eq, yy_u_ne, xm_w_id, yy_at, tdiv_pos, tmod_pos, ↓zi_6, ↓zt_6, ↓zi_7, ↓zt_7, hn, e6]
      refine step _ (by simp (disch := first | omega | (unfold xm_w; omega)) only [↓zy_at, xm_O_some, xm_Oi_some, xm_Ov_some, xm_Oq_some, ↓reduceIte, ↓zz_t, ↓zz_f, ↓zi_t, ↓zi_f, eq_self, yy_d_0, Int.reduceEq, Int.reduceLT, Int.reduceLE, Int.reduceNe, Int.reduceToNat, Int.reduceAdd, Int.reduceSub, Int.reduceMul, Int.reduceNeg, Nat.reduceAdd, Nat.reduceMul, Nat.reduceSub, Nat.reduceEqDiff, Nat.reduceLT, ne_eq, not_false_eq_true, not_true_eq_false, true_and, and_true, and_self, yy_s_eq, yy_s_ne, yy_c_eq, yy_c_ne, yy_u_eq, yy_u_ne, xm_w_id, yy_at, tdiv_pos, tmod_pos, hn]) (fun c hc => by simp (disch := first | omega | (unfold xm_w; omega)) only [↓zy_at, xm_O_some, xm_Oi_some, xm_Ov_some, xm_Oq_some, ↓reduceIte, ↓zz_t, ↓zz_f, ↓zi_t, ↓zi_f, eq_self, yy_d_0, Int.reduceEq, Int.reduceLT, Int.reduceLE, Int.reduceNe, Int.reduceToNat, Int.reduceAdd, Int.reduceSub, Int.reduceMul, Int.reduceNeg, Nat.reduceAdd, Nat.reduceMul, Nat.reduceSub, Nat.reduceEqDiff, Nat.reduceLT, ne_eq, not_false_eq_true, not_true_eq_false, true_and, and_true, and_self, yy_s_eq, yy_s_ne, yy_c_eq, yy_c_ne, yy_u_eq, yy_u_ne, xm_w_id, yy_at, tdiv_pos, tmod_pos]) (fun j hj => ?_) _
      rw [hr]
      rw [hr] at hj
      unfold sg_st at hj ⊢
      rw [if_neg (by decide), if_pos rfl] at hj ⊢
      have hj : j < (sg_rn s u (fun v => nc (sg_ix u v).toNat) i).2 + 1 := hj
      show _ = yy_u _ _ _ j
      rw [yy_s_eq, d2]
      by_cases ej : j = (sg_d s u i).toNat
      · subst ej; rw [yy_u_eq, yy_u_eq]
      · rw [yy_u_ne ej, yy_u_ne ej]; exact hp j (by omega)
    · have es := hsg (show sg_sg s u i = -43 by unfold sg_sg; rw [if_neg (by omega), if_neg (by omega), if_pos a1])
      rw [if_neg (by omega), if_pos a1, Int.add_zero] at hd1
      rw [hd1] at step
      rw [a1] at hr
      have g := hp ((sg_d s u i).toNat - 1) (by omega)
      have e3 : (sg_d s u i - 1).toNat = (sg_d s u i).toNat - 1 := by omega
      rw [es, if_pos (by decide), if_pos (by decide), if_neg (by omega)]
      simp (disch := first | omega | (unfold xm_w; omega)) only [↓zy_at, xm_O_some, xm_Oi_some, xm_Ov_some, xm_Oq_some, ↓reduceIte, ↓zz_t, ↓zz_f, ↓zi_t, ↓zi_f, eq_self, yy_d_0, Int.reduceEq, Int.reduceLT, Int.reduceLE, Int.reduceNe, Int.reduceToNat, Int.reduceAdd, Int.reduceSub, Int.reduceMul, Int.reduceNeg, Nat.reduceAdd, Nat.reduceMul, Nat.reduceSub, Nat.reduceEqDiff, Nat.reduceLT, ne_eq, not_false_eq_true, not_true_eq_false, true_and, and_true, and_self, yy_s_eq, yy_s_ne, yy_c_eq, yy_c_ne, yy_u_eq, yy_u_ne, xm_w_id, yy_at, tdiv_pos, tmod_pos, ↓zi_7, ↓zt_7, e3, g]
      have fin : ∀ j, j < (sg_rn s u (fun v => nc (sg_ix u v).toNat) (i + 1)).2 → (yy_s m 7 ((sg_d s u i).toNat - 1) (if (sg_rn s u (fun v => nc (sg_ix u v).toNat) i).1 ((sg_d s u i).toNat - 1) = 0 then 1 else 0)) 7 j = (sg_rn s u (fun v => nc (sg_ix u v).toNat) (i + 1)).1 j := by
        intro j hj
        rw [hr]
        rw [hr] at hj
        rw [sg_st_2] at hj ⊢
        have hj : j < (sg_rn s u (fun v => nc (sg_ix u v).toNat) i).2 := hj
        show _ = yy_u _ _ _ j
        rw [yy_s_eq, d2]
        by_cases ej : j = (sg_d s u i).toNat - 1
        · subst ej; rw [yy_u_eq, yy_u_eq]
        · rw [yy_u_ne ej, yy_u_ne ej]; exact hp j (by omega)
      split
      · rename_i e4
        rw [if_pos e4] at fin
        exact step _ (by simp (disch := first | omega | (unfold xm_w; omega)) only [↓zy_at, xm_O_some, xm_Oi_some, xm_Ov_some, xm_Oq_some, ↓reduceIte, ↓zz_t, ↓zz_f, ↓zi_t, ↓zi_f, eq_self, yy_d_0, Int.reduceEq, Int.reduceLT, Int.reduceLE, Int.reduceNe, Int.reduceToNat, Int.reduceAdd, Int.reduceSub, Int.reduceMul, Int.reduceNeg, Nat.reduceAdd, Nat.reduceMul, Nat.reduceSub, Nat.reduceEqDiff, Nat.reduceLT, ne_eq, not_false_eq_true, not_true_eq_false, true_and, and_true, and_self, yy_s_eq, yy_s_ne, yy_c_eq, yy_c_ne, yy_u_eq, yy_u_ne, xm_w_id, yy_at, tdiv_pos, tmod_pos, hn]) (fun c hc => by simp (disch := first | omega | (unfold xm_w; omega)) only [↓zy_at, xm_O_some, xm_Oi_some, xm_Ov_some, xm_Oq_some, ↓reduceIte, ↓zz_t, ↓zz_f, ↓zi_t, ↓zi_f, eq_self, yy_d_0, Int.reduceEq, Int.reduceLT, Int.reduceLE, Int.reduceNe, Int.reduceToNat, Int.reduceAdd, Int.reduceSub, Int.reduceMul, Int.reduceNeg, Nat.reduceAdd, Nat.reduceMul, Nat.reduceSub, Nat.reduceEqDiff, Nat.reduceLT, ne_eq, not_false_eq_true, not_true_eq_false, true_and, and_true, and_self, yy_s_eq, yy_s_ne, yy_c_eq, yy_c_ne, yy_u_eq, yy_u_ne, xm_w_id, yy_at, tdiv_pos, tmod_pos]) fin _
      · rename_i e4
        rw [if_neg e4] at fin
        exact step _ (by simp (disch := first | omega | (unfold xm_w; omega)) only [↓zy_at, xm_O_some, xm_Oi_some, xm_Ov_some, xm_Oq_some, ↓reduceIte, ↓zz_t, ↓zz_f, ↓zi_t, ↓zi_f, eq_self, yy_d_0, Int.reduceEq, Int.reduceLT, Int.reduceLE, Int.reduceNe, Int.reduceToNat, Int.reduceAdd, Int.reduceSub, Int.reduceMul, Int.reduceNeg, Nat.reduceAdd, Nat.reduceMul, Nat.reduceSub, Nat.reduceEqDiff, Nat.reduceLT, ne_eq, not_false_eq_true, not_true_eq_false, true_and, and_true, and_self, yy_s_eq, yy_s_ne, yy_c_eq, yy_c_ne, yy_u_eq, yy_u_ne, xm_w_id, yy_at, tdiv_pos, tmod_pos, hn]) (fun c hc => by simp (disch := first | omega | (unfold xm_w; omega)) only [↓zy_at, xm_O_some, xm_Oi_some, xm_Ov_some, xm_Oq_some, ↓reduceIte, ↓zz_t, ↓zz_f, ↓zi_t, ↓zi_f, eq_self, yy_d_0, Int.reduceEq, Int.reduceLT, Int.reduceLE, Int.reduceNe, Int.reduceToNat, Int.reduceAdd, Int.reduceSub, Int.reduceMul, Int.reduceNeg, Nat.reduceAdd, Nat.reduceMul, Nat.reduceSub, Nat.reduceEqDiff, Nat.reduceLT, ne_eq, not_false_eq_true, not_true_eq_false, true_and, and_true, and_self, yy_s_eq, yy_s_ne, yy_c_eq, yy_c_ne, yy_u_eq, yy_u_ne, xm_w_id, yy_at, tdiv_pos, tmod_pos]) fin _
    · have so := sg_sign_b c1
      have es := hsg (show sg_sg s u i = -10 - sg_tv s u i by unfold sg_sg; rw [if_neg (by omega), if_neg (by omega), if_neg (by omega)])
      rw [if_neg (by omega), if_neg (by omega)] at hd1
      rw [hd1] at step
      rw [a1] at hr
      have g1 := hp ((sg_d s u i).toNat - 1) (by omega)
      have g2 := hp ((sg_d s u i).toNat - 2) (by omega)
      have e3 : (sg_d s u i + -1).toNat = (sg_d s u i).toNat - 1 := by omega
      have e4 : (sg_d s u i + -1 - 1).toNat = (sg_d s u i).toNat - 2 := by omega
      have e5 : xm_w (-10 - (-10 - sg_tv s u i)) = sg_tv s u i := by rw [xm_w_id (by omega) (by omega)]; omega
      have n33 : ¬ sg_tv s u i = 33 := by omega
      rw [es, if_pos (by omega), e5, if_neg n33, if_neg (by omega)]
      simp (disch := first | omega | (unfold xm_w; omega)) only [↓zy_at, xm_O_some, xm_Oi_some, xm_Ov_some, xm_Oq_some, ↓reduceIte, ↓zz_t, ↓zz_f, ↓zi_t, ↓zi_f, eq_self, yy_d_0, Int.reduceEq, Int.reduceLT, Int.reduceLE, Int.reduceNe, Int.reduceToNat, Int.reduceAdd, Int.reduceSub, Int.reduceMul, Int.reduceNeg, Nat.reduceAdd, Nat.reduceMul, Nat.reduceSub, Nat.reduceEqDiff, Nat.reduceLT, ne_eq, not_false_eq_true, not_true_eq_false, true_and, and_true, and_self, yy_s_eq, yy_s_ne, yy_c_eq, yy_c_ne, yy_u_eq, yy_u_ne, xm_w_id, yy_at, tdiv_pos, tmod_pos, ↓zi_7, ↓zt_7, e3, e4, g1, g2]
      rw [oc_903 c1]
      simp (disch := first | omega | (unfold xm_w; omega)) only [↓zy_at, xm_O_some, xm_Oi_some, xm_Ov_some, xm_Oq_some, ↓reduceIte, ↓zz_t, ↓zz_f, ↓zi_t, ↓zi_f, eq_self, yy_d_0, Int.reduceEq, Int.reduceLT, Int.reduceLE, Int.reduceNe, Int.reduceToNat, Int.reduceAdd, Int.reduceSub, Int.reduceMul, Int.reduceNeg, Nat.reduceAdd, Nat.reduceMul, Nat.reduceSub, Nat.reduceEqDiff, Nat.reduceLT, ne_eq, not_false_eq_true, not_true_eq_false, true_and, and_true, and_self, yy_s_eq, yy_s_ne, yy_c_eq, yy_c_ne, yy_u_eq, yy_u_ne, xm_w_id, yy_at, tdiv_pos, tmod_pos, ↓zi_7, ↓zt_7, e4]
      refine step _ (by simp (disch := first | omega | (unfold xm_w; omega)) only [↓zy_at, xm_O_some, xm_Oi_some, xm_Ov_some, xm_Oq_some, ↓reduceIte, ↓zz_t, ↓zz_f, ↓zi_t, ↓zi_f, eq_self, yy_d_0, Int.reduceEq, Int.reduceLT, Int.reduceLE, Int.reduceNe, Int.reduceToNat, Int.reduceAdd, Int.reduceSub, Int.reduceMul, Int.reduceNeg, Nat.reduceAdd, Nat.reduceMul, Nat.reduceSub, Nat.reduceEqDiff, Nat.reduceLT, ne_eq, not_false_eq_true, not_true_eq_false, true_and, and_true, and_self, yy_s_eq, yy_s_ne, yy_c_eq, yy_c_ne, yy_u_eq, yy_u_ne, xm_w_id, yy_at, tdiv_pos, tmod_pos, hn]) (fun c hc => by simp (disch := first | omega | (unfold xm_w; omega)) only [↓zy_at, xm_O_some, xm_Oi_some, xm_Ov_some, xm_Oq_some, ↓reduceIte, ↓zz_t, ↓zz_f, ↓zi_t, ↓zi_f, eq_self, yy_d_0, Int.reduceEq, Int.reduceLT, Int.reduceLE, Int.reduceNe, Int.reduceToNat, Int.reduceAdd, Int.reduceSub, Int.reduceMul, Int.reduceNeg, Nat.reduceAdd, Nat.reduceMul, Nat.reduceSub, Nat.reduceEqDiff, Nat.reduceLT, ne_eq, not_false_eq_true, not_true_eq_false, true_and, and_true, and_self, yy_s_eq, yy_s_ne, yy_c_eq, yy_c_ne, yy_u_eq, yy_u_ne, xm_w_id, yy_at, tdiv_pos, tmod_pos]) (fun j hj => ?_) _
      rw [hr]
      rw [hr] at hj
      unfold sg_st at hj ⊢
      rw [if_neg (by decide), if_neg (by decide), if_neg (by decide)] at hj ⊢
      have hj : j < (sg_rn s u (fun v => nc (sg_ix u v).toNat) i).2 - 1 := hj
      show _ = yy_u _ _ _ j
      rw [yy_s_eq, d2]
      by_cases ej : j = (sg_d s u i).toNat - 2
      · subst ej; rw [yy_u_eq, yy_u_eq]
      · rw [yy_u_ne ej, yy_u_ne ej]; exact hp j (by omega)
set_option maxRecDepth 20000 in
theorem c_902_1 {sc : List Int} {d : Nat} {t : xm_W} {m : Nat → Nat → Int} {u a a' : Nat} {s : Nat → Int} (hT : sg_T s u) (h0 : 0 < sg_tn s u) (hC : yy_TC t s u a a') : ∃ m', xm_X (xm_old sc) xm_mt (d + 2) 902 [.inr (.inl (some (87 + a))), .inr (.inl (some 6)), .inr (.inl (some 7))] (yy_W m t) = some (some (.inl (sg_val s u (fun v => m 6 (sg_ix u v).toNat))), yy_W m' t) ∧ ∀ c, c ≠ 7 → m' c = m c := by
  have key : ∀ {Q : Option xm_V × xm_W → Prop}, (∀ m', (∀ c, c ≠ 7 → m' c = m c) → Q (some (.inl (sg_val s u (fun v => m 6 (sg_ix u v).toNat))), yy_W m' t)) → xm_EQ (xm_old sc) xm_sta (xm_X (xm_old sc) xm_mt (d + 1)) xm_m902.2.2.2.2.2.2.2 0 (xm_loc xm_m902.2.2.1 [.inr (.inl (some (87 + a))), .inr (.inl (some 6)), .inr (.inl (some 7))]) [] (yy_W m t) Q := by
    intro Q hQ
    refine xb_902_0 ?_
    exact l_902_1 (d := d) hT h0 hC (sg_tn s u).toNat 0 m none (by have := hT.1; omega) rfl (fun j hj => absurd hj (Nat.not_lt_zero j)) hQ
  obtain ⟨q, h1, m', h2, h3⟩ := yx_of (y := 902) (M := xm_m902) (sc := sc) (d := d + 1) (as := [.inr (.inl (some (87 + a))), .inr (.inl (some 6)), .inr (.inl (some 7))]) (w := yy_W m t) (Q := fun q => ∃ m', q = (some (.inl (sg_val s u (fun v => m 6 (sg_ix u v).toNat))), yy_W m' t) ∧ (∀ c, c ≠ 7 → m' c = m c)) rfl (key fun m' h => ⟨m', rfl, h⟩) (fun q ⟨m', h, _⟩ => by rw [h]; rfl) rfl (Nat.le_of_ble_eq_true rfl) (zx_hd hC.1)
  exact ⟨m', by rw [h1, h2], h3⟩
set_option maxRecDepth 20000 in
theorem l_902_18 {sc : List Int} {d : Nat} {t : xm_W} {Q : Option xm_V × xm_W → Prop} {u a a' : Nat} {s : Nat → Int} {nc : Nat → Int} (hT : sg_T s u) (h0 : 0 < sg_tn s u) (hC : yy_TC t s u a a') : ∀ (k i : Nat) (m : Nat → Nat → Int) (v : Option xm_V), ((i + k : Nat) : Int) = sg_tn s u → m 23 = nc → (∀ j, j < (sg_rn s u (fun v => nc (sg_ix u v).toNat) i).2 → m 24 j = (sg_rn s u (fun v => nc (sg_ix u v).toNat) i).1 j) → (∀ m', (∀ c, c ≠ 24 → m' c = m c) → Q ((some (.inl (sg_val s u (fun v => nc (sg_ix u v).toNat))), (yy_W (m') t)))) → xm_EQ (xm_old sc) xm_sta (xm_X (xm_old sc) xm_mt (d + 1)) xm_c902 4 [some (.inr (.inl (some (87 + a)))), some (.inr (.inl (some 23))), some (.inr (.inl (some 24))), some (.inl ((sg_d s u i))), some (.inl ((i : Int))), v] [] (yy_W (m) t) Q
  | 0, i, m, v, hk, hn, hp, hQ => by
    obtain ⟨t1, t2, t3⟩ := id hT
    obtain ⟨d1, d2⟩ := sg_rn_d (nm := fun v => nc (sg_ix u v).toNat) hT i (by omega)
    have ei : i = (sg_tn s u).toNat := by omega
    have hd := t2 h0
    rw [← ei] at hd
    refine xb_902_4 ?_
    rw [zx_fr hC.1, zx_ln hC.2 (by rw [yy_R_len]; omega), yy_R_len, if_neg (by omega), if_pos (by omega)]
    simp (disch := first | omega | (unfold xm_w; omega)) only [↓zy_at, xm_O_some, xm_Oi_some, xm_Ov_some, xm_Oq_some, ↓reduceIte, ↓zz_t, ↓zz_f, ↓zi_t, ↓zi_f, eq_self, yy_d_0, Int.reduceEq, Int.reduceLT, Int.reduceLE, Int.reduceNe, Int.reduceToNat, Int.reduceAdd, Int.reduceSub, Int.reduceMul, Int.reduceNeg, Nat.reduceAdd, Nat.reduceMul, Nat.reduceSub, Nat.reduceEqDiff, Nat.reduceLT, ne_eq, not_false_eq_true, not_true_eq_false, true_and, and_true, and_self, yy_s_eq, yy_s_ne, yy_c_eq, yy_c_ne, yy_u_eq, yy_u_ne, xm_w_id, yy_at, tdiv_pos, tmod_pos, ↓zi_24, ↓zt_24]
    have := hQ m fun c _ => rfl
    unfold sg_val at this
    rw [← ei, ← hp 0 (by omega)] at this
    exact this
  | k + 1, i, m, v, hk, hn, hp, hQ => by
    obtain ⟨t1, t2, t3⟩ := id hT
    obtain ⟨d1, d2⟩ := sg_rn_d (nm := fun v => nc (sg_ix u v).toNat) hT i (by omega)
    have db := sg_d_b (s := s) (u := u) i
    have step : ∀ m1, m1 23 = nc → (∀ c, c ≠ 24 → m1 c = m c) → (∀ j, j < (sg_rn s u (fun v => nc (sg_ix u v).toNat) (i + 1)).2 → m1 24 j = (sg_rn s u (fun v => nc (sg_ix u v).toNat) (i + 1)).1 j) → ∀ v, xm_EQ (xm_old sc) xm_sta (xm_X (xm_old sc) xm_mt (d + 1)) xm_c902 4 [some (.inr (.inl (some (87 + a)))), some (.inr (.inl (some 23))), some (.inr (.inl (some 24))), some (.inl ((sg_d s u (i + 1)))), some (.inl ((i : Int) + 1)), v] [] (yy_W (m1) t) Q := by
      intro m1 a2 a3 a4 v
      have := l_902_18 (sc := sc) (d := d) (t := t) (Q := Q) hT h0 hC k (i + 1) m1 v (by omega) a2 a4 (fun m' h => hQ m' fun c hc => by rw [h c hc, a3 c hc])
      rw [show ((i + 1 : Nat) : Int) = (i : Int) + 1 by omega] at this
      exact this
    have hr : sg_rn s u (fun v => nc (sg_ix u v).toNat) (i + 1) = sg_st (fun v => nc (sg_ix u v).toNat) (sg_tw s u i) (sg_tv s u i) (sg_rn s u (fun v => nc (sg_ix u v).toNat) i).1 (sg_rn s u (fun v => nc (sg_ix u v).toNat) i).2 := rfl
    have hd1 : sg_d s u (i + 1) = sg_d s u i + (if sg_tw s u i = 0 ∨ sg_tw s u i = 1 then 1 else if sg_tw s u i = 2 then 0 else -1) := rfl
    have hsg : ∀ {z}, sg_sg s u i = z → sg_sg s u ((i : Int)).toNat = z := fun h => by rw [Int.toNat_natCast]; exact h
    refine xb_902_4 ?_
    rw [zx_fr hC.1, zx_ln hC.2 (by rw [yy_R_len]; omega), yy_R_len, if_pos (by omega), zx_fr hC.1, zx_in hC.2, zy_at (by omega) (by omega)]
    rcases t3 i (by omega) with ⟨a1, b1, c1⟩ | ⟨a1, b1⟩ | ⟨a1, b1⟩ | ⟨a1, b1, c1⟩
    · have es := hsg (show sg_sg s u i = sg_tv s u i by unfold sg_sg; rw [if_pos a1])
      rw [if_pos (Or.inl a1)] at hd1
      rw [hd1] at step
      rw [a1] at hr
      rw [es, if_neg (by omega), yy_len (n := 60) rfl (by decide), xm_O_some, if_pos (by omega), if_neg (by omega)]
      simp (disch := first | omega | (unfold xm_w; omega)) only [↓zy_at, xm_O_some, xm_Oi_some, xm_Ov_some, xm_Oq_some, ↓reduceIte, ↓zz_t, ↓zz_f, ↓zi_t, ↓zi_f, eq_self, yy_d_0, Int.reduceEq, Int.reduceLT, Int.reduceLE, Int.reduceNe, Int.reduceToNat, Int.reduceAdd, Int.reduceSub, Int.reduceMul, Int.reduceNeg, Nat.reduceAdd, Nat.reduceMul, Nat.reduceSub, Nat.reduceEqDiff, Nat.reduceLT, ne_eq, not_false_eq_true, not_true_eq_false, true_and, and_true, and_self, yy_s_eq, yy_s_ne, yy_c_eq, yy_c_ne, yy_u_eq, yy_u_ne, xm_w_id, yy_at, tdiv_pos, tmod_pos, ↓zi_24, ↓zt_24]
      refine step _ (by simp (disch := first | omega | (unfold xm_w; omega)) only [↓zy_at, xm_O_some, xm_Oi_some, xm_Ov_some, xm_Oq_some, ↓reduceIte, ↓zz_t, ↓zz_f, ↓zi_t, ↓zi_f, eq_self, yy_d_0, Int.reduceEq, Int.reduceLT, Int.reduceLE, Int.reduceNe, Int.reduceToNat, Int.reduceAdd, Int.reduceSub, Int.reduceMul, Int.reduceNeg, Nat.reduceAdd, Nat.reduceMul, Nat.reduceSub, Nat.reduceEqDiff, Nat.reduceLT, ne_eq, not_false_eq_true, not_true_eq_false, true_and, and_true, and_self, yy_s_eq, yy_s_ne, yy_c_eq, yy_c_ne, yy_u_eq, yy_u_ne, xm_w_id, yy_at, tdiv_pos, tmod_pos, hn]) (fun c hc => by simp (disch := first | omega | (unfold xm_w; omega)) only [↓zy_at, xm_O_some, xm_Oi_some, xm_Ov_some, xm_Oq_some, ↓reduceIte, ↓zz_t, ↓zz_f, ↓zi_t, ↓zi_f, eq_self, yy_d_0, Int.reduceEq, Int.reduceLT, Int.reduceLE, Int.reduceNe, Int.reduceToNat, Int.reduceAdd, Int.reduceSub, Int.reduceMul, Int.reduceNeg, Nat.reduceAdd, Nat.reduceMul, Nat.reduceSub, Nat.reduceEqDiff, Nat.reduceLT, ne_eq, not_false_eq_true, not_true_eq_false, true_and, and_true, and_self, yy_s_eq, yy_s_ne, yy_c_eq, yy_c_ne, yy_u_eq, yy_u_ne, xm_w_id, yy_at, tdiv_pos, tmod_pos]) (fun j hj => ?_) _
      rw [hr]
      rw [hr] at hj
      unfold sg_st at hj ⊢
      rw [if_pos rfl] at hj ⊢
      have hj : j < (sg_rn s u (fun v => nc (sg_ix u v).toNat) i).2 + 1 := hj
      show _ = yy_u _ _ _ j
      rw [yy_s_eq, d2]
      by_cases ej : j = (sg_d s u i).toNat
      · subst ej; rw [yy_u_eq, yy_u_eq]
      · rw [yy_u_ne ej, yy_u_ne ej]; exact hp j (by omega)
    · have b2 := sg_ix_b (u := u) (v := sg_tv s u i)
      have es := hsg (show sg_sg s u i = -1 - sg_ix u (sg_tv s u i) by unfold sg_sg; rw [if_neg (by omega), if_pos a1])
      have e6 : (-1 - (-1 - sg_ix u (sg_tv s u i))).toNat = (sg_ix u (sg_tv s u i)).toNat := by omega
      rw [if_pos (Or.inr a1)] at hd1
      rw [hd1] at step
      rw [a1] at hr
      rw [es, if_neg (by omega), yy_len (n := 60) rfl (by decide), xm_O_some, if_pos (by omega), if_pos (by omega)]
      simp (disch := first | omega | (unfold xm_w; omega)) only [↓zy_at, xm_O_some, xm_Oi_some, xm_Ov_some, xm_Oq_some, ↓reduceIte, ↓zz_t, ↓zz_f, ↓zi_t, ↓zi_f, eq_self, yy_d_0, Int.reduceEq, Int.reduceLT, Int.reduceLE, Int.reduceNe, Int.reduceToNat, Int.reduceAdd, Int.reduceSub, Int.reduceMul, Int.reduceNeg, Nat.reduceAdd, Nat.reduceMul, Nat.reduceSub, Nat.reduceEqDiff, Nat.reduceLT, ne_eq, not_false_eq_true, not_true_eq_false, true_and, and_true, and_self, yy_s_eq, yy_s_ne, yy_c_eq, yy_c_ne, yy_u_eq, yy_u_ne, xm_w_id, yy_at, tdiv_pos, tmod_pos, ↓zi_23, ↓zt_23, ↓zi_24, ↓zt_24, hn, e6]
      refine step _ (by simp (disch := first | omega | (unfold xm_w; omega)) only [↓zy_at, xm_O_some, xm_Oi_some, xm_Ov_some, xm_Oq_some, ↓reduceIte, ↓zz_t, ↓zz_f, ↓zi_t, ↓zi_f, eq_self, yy_d_0, Int.reduceEq, Int.reduceLT, Int.reduceLE, Int.reduceNe, Int.reduceToNat, Int.reduceAdd, Int.reduceSub, Int.reduceMul, Int.reduceNeg, Nat.reduceAdd, Nat.reduceMul, Nat.reduceSub, Nat.reduceEqDiff, Nat.reduceLT, ne_eq, not_false_eq_true, not_true_eq_false, true_and, and_true, and_self, yy_s_eq, yy_s_ne, yy_c_eq, yy_c_ne, yy_u_eq, yy_u_ne, xm_w_id, yy_at, tdiv_pos, tmod_pos, hn]) (fun c hc => by simp (disch := first | omega | (unfold xm_w; omega)) only [↓zy_at, xm_O_some, xm_Oi_some, xm_Ov_some, xm_Oq_some, ↓reduceIte, ↓zz_t, ↓zz_f, ↓zi_t, ↓zi_f, eq_self, yy_d_0, Int.reduceEq, Int.reduceLT, Int.reduceLE, Int.reduceNe, Int.reduceToNat, Int.reduceAdd, Int.reduceSub, Int.reduceMul, Int.reduceNeg, Nat.reduceAdd, Nat.reduceMul, Nat.reduceSub, Nat.reduceEqDiff, Nat.reduceLT, ne_eq, not_false_eq_true, not_true_eq_false, true_and, and_true, and_self, yy_s_eq, yy_s_ne, yy_c_eq, yy_c_ne, yy_u_eq, yy_u_ne, xm_w_id, yy_at, tdiv_pos, tmod_pos]) (fun j hj => ?_) _
      rw [hr]
      rw [hr] at hj
      unfold sg_st at hj ⊢
      rw [if_neg (by decide), if_pos rfl] at hj ⊢
      have hj : j < (sg_rn s u (fun v => nc (sg_ix u v).toNat) i).2 + 1 := hj
      show _ = yy_u _ _ _ j
      rw [yy_s_eq, d2]
      by_cases ej : j = (sg_d s u i).toNat
      · subst ej; rw [yy_u_eq, yy_u_eq]
      · rw [yy_u_ne ej, yy_u_ne ej]; exact hp j (by omega)
    · have es := hsg (show sg_sg s u i = -43 by unfold sg_sg; rw [if_neg (by omega), if_neg (by omega), if_pos a1])
      rw [if_neg (by omega), if_pos a1, Int.add_zero] at hd1
      rw [hd1] at step
      rw [a1] at hr
      have g := hp ((sg_d s u i).toNat - 1) (by omega)
      have e3 : (sg_d s u i - 1).toNat = (sg_d s u i).toNat - 1 := by omega
      rw [es, if_pos (by decide), if_pos (by decide), if_neg (by omega)]
      simp (disch := first | omega | (unfold xm_w; omega)) only [↓zy_at, xm_O_some, xm_Oi_some, xm_Ov_some, xm_Oq_some, ↓reduceIte, ↓zz_t, ↓zz_f, ↓zi_t, ↓zi_f, eq_self, yy_d_0, Int.reduceEq, Int.reduceLT, Int.reduceLE, Int.reduceNe, Int.reduceToNat, Int.reduceAdd, Int.reduceSub, Int.reduceMul, Int.reduceNeg, Nat.reduceAdd, Nat.reduceMul, Nat.reduceSub, Nat.reduceEqDiff, Nat.reduceLT, ne_eq, not_false_eq_true, not_true_eq_false, true_and, and_true, and_self, yy_s_eq, yy_s_ne, yy_c_eq, yy_c_ne, yy_u_eq, yy_u_ne, xm_w_id, yy_at, tdiv_pos, tmod_pos, ↓zi_24, ↓zt_24, e3, g]
      have fin : ∀ j, j < (sg_rn s u (fun v => nc (sg_ix u v).toNat) (i + 1)).2 → (yy_s m 24 ((sg_d s u i).toNat - 1) (if (sg_rn s u (fun v => nc (sg_ix u v).toNat) i).1 ((sg_d s u i).toNat - 1) = 0 then 1 else 0)) 24 j = (sg_rn s u (fun v => nc (sg_ix u v).toNat) (i + 1)).1 j := by
        intro j hj
        rw [hr]
        rw [hr] at hj
        rw [sg_st_2] at hj ⊢
        have hj : j < (sg_rn s u (fun v => nc (sg_ix u v).toNat) i).2 := hj
        show _ = yy_u _ _ _ j
        rw [yy_s_eq, d2]
        by_cases ej : j = (sg_d s u i).toNat - 1
        · subst ej; rw [yy_u_eq, yy_u_eq]
        · rw [yy_u_ne ej, yy_u_ne ej]; exact hp j (by omega)
      split
      · rename_i e4
        rw [if_pos e4] at fin
        exact step _ (by simp (disch := first | omega | (unfold xm_w; omega)) only [↓zy_at, xm_O_some, xm_Oi_some, xm_Ov_some, xm_Oq_some, ↓reduceIte, ↓zz_t, ↓zz_f, ↓zi_t, ↓zi_f, eq_self, yy_d_0, Int.reduceEq, Int.reduceLT, Int.reduceLE, Int.reduceNe, Int.reduceToNat, Int.reduceAdd, Int.reduceSub, Int.reduceMul, Int.reduceNeg, Nat.reduceAdd, Nat.reduceMul, Nat.reduceSub, Nat.reduceEqDiff, Nat.reduceLT, ne_eq, not_false_eq_true, not_true_eq_false, true_and, and_true, and_self, yy_s_eq, yy_s_ne, yy_c_eq, yy_c_ne, yy_u_eq, yy_u_ne, xm_w_id, yy_at, tdiv_pos, tmod_pos, hn]) (fun c hc => by simp (disch := first | omega | (unfold xm_w; omega)) only [↓zy_at, xm_O_some, xm_Oi_some, xm_Ov_some, xm_Oq_some, ↓reduceIte, ↓zz_t, ↓zz_f, ↓zi_t, ↓zi_f, eq_self, yy_d_0, Int.reduceEq, Int.reduceLT, Int.reduceLE, Int.reduceNe, Int.reduceToNat, Int.reduceAdd, Int.reduceSub, Int.reduceMul, Int.reduceNeg, Nat.reduceAdd, Nat.reduceMul, Nat.reduceSub, Nat.reduceEqDiff, Nat.reduceLT, ne_eq, not_false_eq_true, not_true_eq_false, true_and, and_true, and_self, yy_s_eq, yy_s_ne, yy_c_eq, yy_c_ne, yy_u_eq, yy_u_ne, xm_w_id, yy_at, tdiv_pos, tmod_pos]) fin _
      · rename_i e4
        rw [if_neg e4] at fin
        exact step _ (by simp (disch := first | omega | (unfold xm_w; omega)) only [↓zy_at, xm_O_some, xm_Oi_some, xm_Ov_some, xm_Oq_some, ↓reduceIte, ↓zz_t, ↓zz_f, ↓zi_t, ↓zi_f, eq_self, yy_d_0, Int.reduceEq, Int.reduceLT, Int.reduceLE, Int.reduceNe, Int.reduceToNat, Int.reduceAdd, Int.reduceSub, Int.reduceMul, Int.reduceNeg, Nat.reduceAdd, Nat.reduceMul, Nat.reduceSub, Nat.reduceEqDiff, Nat.reduceLT, ne_eq, not_false_eq_true, not_true_eq_false, true_and, and_true, and_self, yy_s_eq, yy_s_ne, yy_c_eq, yy_c_ne, yy_u_eq, yy_u_ne, xm_w_id, yy_at, tdiv_pos, tmod_pos, hn]) (fun c hc => by simp (disch := first | omega | (unfold xm_w; omega)) only [↓zy_at, xm_O_some, xm_Oi_some, xm_Ov_some, xm_Oq_some, ↓reduceIte, ↓zz_t, ↓zz_f, ↓zi_t, ↓zi_f, eq_self, yy_d_0, Int.reduceEq, Int.reduceLT, Int.reduceLE, Int.reduceNe, Int.reduceToNat, Int.reduceAdd, Int.reduceSub, Int.reduceMul, Int.reduceNeg, Nat.reduceAdd, Nat.reduceMul, Nat.reduceSub, Nat.reduceEqDiff, Nat.reduceLT, ne_eq, not_false_eq_true, not_true_eq_false, true_and, and_true, and_self, yy_s_eq, yy_s_ne, yy_c_eq, yy_c_ne, yy_u_eq, yy_u_ne, xm_w_id, yy_at, tdiv_pos, tmod_pos]) fin _
    · have so := sg_sign_b c1
      have es := hsg (show sg_sg s u i = -10 - sg_tv s u i by unfold sg_sg; rw [if_neg (by omega), if_neg (by omega), if_neg (by omega)])
      rw [if_neg (by omega), if_neg (by omega)] at hd1
      rw [hd1] at step
      rw [a1] at hr
      have g1 := hp ((sg_d s u i).toNat - 1) (by omega)
      have g2 := hp ((sg_d s u i).toNat - 2) (by omega)
      have e3 : (sg_d s u i + -1).toNat = (sg_d s u i).toNat - 1 := by omega
      have e4 : (sg_d s u i + -1 - 1).toNat = (sg_d s u i).toNat - 2 := by omega
      have e5 : xm_w (-10 - (-10 - sg_tv s u i)) = sg_tv s u i := by rw [xm_w_id (by omega) (by omega)]; omega
      have n33 : ¬ sg_tv s u i = 33 := by omega
      rw [es, if_pos (by omega), e5, if_neg n33, if_neg (by omega)]
      simp (disch := first | omega | (unfold xm_w; omega)) only [↓zy_at, xm_O_some, xm_Oi_some, xm_Ov_some, xm_Oq_some, ↓reduceIte, ↓zz_t, ↓zz_f, ↓zi_t, ↓zi_f, eq_self, yy_d_0, Int.reduceEq, Int.reduceLT, Int.reduceLE, Int.reduceNe, Int.reduceToNat, Int.reduceAdd, Int.reduceSub, Int.reduceMul, Int.reduceNeg, Nat.reduceAdd, Nat.reduceMul, Nat.reduceSub, Nat.reduceEqDiff, Nat.reduceLT, ne_eq, not_false_eq_true, not_true_eq_false, true_and, and_true, and_self, yy_s_eq, yy_s_ne, yy_c_eq, yy_c_ne, yy_u_eq, yy_u_ne, xm_w_id, yy_at, tdiv_pos, tmod_pos, ↓zi_24, ↓zt_24, e3, e4, g1, g2]
      rw [oc_903 c1]
      simp (disch := first | omega | (unfold xm_w; omega)) only [↓zy_at, xm_O_some, xm_Oi_some, xm_Ov_some, xm_Oq_some, ↓reduceIte, ↓zz_t, ↓zz_f, ↓zi_t, ↓zi_f, eq_self, yy_d_0, Int.reduceEq, Int.reduceLT, Int.reduceLE, Int.reduceNe, Int.reduceToNat, Int.reduceAdd, Int.reduceSub, Int.reduceMul, Int.reduceNeg, Nat.reduceAdd, Nat.reduceMul, Nat.reduceSub, Nat.reduceEqDiff, Nat.reduceLT, ne_eq, not_false_eq_true, not_true_eq_false, true_and, and_true, and_self, yy_s_eq, yy_s_ne, yy_c_eq, yy_c_ne, yy_u_eq, yy_u_ne, xm_w_id, yy_at, tdiv_pos, tmod_pos, ↓zi_24, ↓zt_24, e4]
      refine step _ (by simp (disch := first | omega | (unfold xm_w; omega)) only [↓zy_at, xm_O_some, xm_Oi_some, xm_Ov_some, xm_Oq_some, ↓reduceIte, ↓zz_t, ↓zz_f, ↓zi_t, ↓zi_f, eq_self, yy_d_0, Int.reduceEq, Int.reduceLT, Int.reduceLE, Int.reduceNe, Int.reduceToNat, Int.reduceAdd, Int.reduceSub, Int.reduceMul, Int.reduceNeg, Nat.reduceAdd, Nat.reduceMul, Nat.reduceSub, Nat.reduceEqDiff, Nat.reduceLT, ne_eq, not_false_eq_true, not_true_eq_false, true_and, and_true, and_self, yy_s_eq, yy_s_ne, yy_c_eq, yy_c_ne, yy_u_eq, yy_u_ne, xm_w_id, yy_at, tdiv_pos, tmod_pos, hn]) (fun c hc => by simp (disch := first | omega | (unfold xm_w; omega)) only [↓zy_at, xm_O_some, xm_Oi_some, xm_Ov_some, xm_Oq_some, ↓reduceIte, ↓zz_t, ↓zz_f, ↓zi_t, ↓zi_f, eq_self, yy_d_0, Int.reduceEq, Int.reduceLT, Int.reduceLE, Int.reduceNe, Int.reduceToNat, Int.reduceAdd, Int.reduceSub, Int.reduceMul, Int.reduceNeg, Nat.reduceAdd, Nat.reduceMul, Nat.reduceSub, Nat.reduceEqDiff, Nat.reduceLT, ne_eq, not_false_eq_true, not_true_eq_false, true_and, and_true, and_self, yy_s_eq, yy_s_ne, yy_c_eq, yy_c_ne, yy_u_eq, yy_u_ne, xm_w_id, yy_at, tdiv_pos, tmod_pos]) (fun j hj => ?_) _
      rw [hr]
      rw [hr] at hj
      unfold sg_st at hj ⊢
      rw [if_neg (by decide), if_neg (by decide), if_neg (by decide)] at hj ⊢
      have hj : j < (sg_rn s u (fun v => nc (sg_ix u v).toNat) i).2 - 1 := hj
      show _ = yy_u _ _ _ j
      rw [yy_s_eq, d2]
      by_cases ej : j = (sg_d s u i).toNat - 2
      · subst ej; rw [yy_u_eq, yy_u_eq]
      · rw [yy_u_ne ej, yy_u_ne ej]; exact hp j (by omega)
set_option maxRecDepth 20000 in
theorem c_902_18 {sc : List Int} {d : Nat} {t : xm_W} {m : Nat → Nat → Int} {u a a' : Nat} {s : Nat → Int} (hT : sg_T s u) (h0 : 0 < sg_tn s u) (hC : yy_TC t s u a a') : ∃ m', xm_X (xm_old sc) xm_mt (d + 2) 902 [.inr (.inl (some (87 + a))), .inr (.inl (some 23)), .inr (.inl (some 24))] (yy_W m t) = some (some (.inl (sg_val s u (fun v => m 23 (sg_ix u v).toNat))), yy_W m' t) ∧ ∀ c, c ≠ 24 → m' c = m c := by
  have key : ∀ {Q : Option xm_V × xm_W → Prop}, (∀ m', (∀ c, c ≠ 24 → m' c = m c) → Q (some (.inl (sg_val s u (fun v => m 23 (sg_ix u v).toNat))), yy_W m' t)) → xm_EQ (xm_old sc) xm_sta (xm_X (xm_old sc) xm_mt (d + 1)) xm_m902.2.2.2.2.2.2.2 0 (xm_loc xm_m902.2.2.1 [.inr (.inl (some (87 + a))), .inr (.inl (some 23)), .inr (.inl (some 24))]) [] (yy_W m t) Q := by
    intro Q hQ
    refine xb_902_0 ?_
    exact l_902_18 (d := d) hT h0 hC (sg_tn s u).toNat 0 m none (by have := hT.1; omega) rfl (fun j hj => absurd hj (Nat.not_lt_zero j)) hQ
  obtain ⟨q, h1, m', h2, h3⟩ := yx_of (y := 902) (M := xm_m902) (sc := sc) (d := d + 1) (as := [.inr (.inl (some (87 + a))), .inr (.inl (some 23)), .inr (.inl (some 24))]) (w := yy_W m t) (Q := fun q => ∃ m', q = (some (.inl (sg_val s u (fun v => m 23 (sg_ix u v).toNat))), yy_W m' t) ∧ (∀ c, c ≠ 24 → m' c = m c)) rfl (key fun m' h => ⟨m', rfl, h⟩) (fun q ⟨m', h, _⟩ => by rw [h]; rfl) rfl (Nat.le_of_ble_eq_true rfl) (zx_hd hC.1)
  exact ⟨m', by rw [h1, h2], h3⟩
end
section
set_option maxRecDepth 20000 in
theorem yy_MR_fr {m m' : Nat → Nat → Int} {b : Nat} {s : Nat → Int} (h : ∀ c, (c = b ∨ c = b + 1 ∨ c = b + 3 ∨ (b + 7 ≤ c ∧ c < b + 17)) → m' c = m c) (hM : yy_MR m b s) : yy_MR m' b s := by
  obtain ⟨e1, e2, e3, e4, e5, e6, e7⟩ := hM
  refine ⟨by rw [h b (Or.inl rfl)]; exact e1, by rw [h b (Or.inl rfl)]; exact e2, by rw [h b (Or.inl rfl)]; exact e3, by rw [h b (Or.inl rfl)]; exact e4, fun k hk => by rw [h _ (by omega)]; exact e5 k hk, fun k hk => by rw [h _ (by omega)]; exact e6 k hk, fun i hi => ⟨fun k hk => ?_, fun k hk => ?_⟩⟩
  · rw [h _ (by omega)]; exact (e7 i hi).1 k hk
  · rw [h _ (by omega)]; exact (e7 i hi).2 k hk
def sg_le (s : Nat → Int) (c sh dp h r : Int) : Nat → Int := if 40 < s 3 + 1 then sg_clr (sg_K (sg_ap s c sh dp h r) 1 (-1)) (sg_ap s c sh dp h r) else sg_ap s c sh dp h r
set_option maxRecDepth 20000 in
theorem sg_ix_nm {nc : Nat → Int} {w step mm g : Int} (h0 : nc 0 = w) (h1 : nc 1 = step) (h2 : nc 2 = mm) (h3 : nc 3 = g) : ∀ v, sg_nm 0 v → (fun v => nc (sg_ix 0 v).toNat) v = sg_nmS w step mm g v := by
  intro v hv
  unfold sg_nm at hv
  rw [if_pos rfl] at hv
  unfold sg_nmS
  show nc (sg_ix 0 v).toNat = _
  unfold sg_ix
  rw [if_pos rfl]
  rcases hv with h | h | h | h <;> subst h
  · rw [if_pos rfl, if_pos rfl]; exact h0
  · rw [if_neg (by decide), if_pos rfl, if_neg (by decide), if_pos rfl]; exact h1
  · rw [if_neg (by decide), if_neg (by decide), if_pos rfl, if_neg (by decide), if_neg (by decide), if_pos rfl]; exact h2
  · rw [if_neg (by decide), if_neg (by decide), if_neg (by decide), if_neg (by decide), if_neg (by decide), if_neg (by decide)]; exact h3
set_option maxRecDepth 20000 in
theorem c_407_1 {sc : List Int} {d : Nat} {t : xm_W} {m : Nat → Nat → Int} {r : Nat} {w : Int} {s : Nat → Int} (hr : r < 5) (hM : yy_MR m 1 s) (hR : sg_R s) (hT : sg_T s 0) (hX : yy_TX t s 0 (m 5 0)) (hw : 0 ≤ w ∧ w ≤ 3) : ∃ m', xm_X (xm_old sc) xm_mt (d + 4) 407 [.inr (.inl (some 1)), .inr (.inl (some (8 + 2 * r))), .inl (w)] (yy_W m t) = some (some (.inl (sg_told s r w (s (49 + 18 * r)))), yy_W m' t) ∧ ∀ c, c ≠ 6 → c ≠ 7 → m' c = m c := by
  have key : ∀ {Q : Option xm_V × xm_W → Prop}, (∀ m', (∀ c, c ≠ 6 → c ≠ 7 → m' c = m c) → Q (some (.inl (sg_told s r w (s (49 + 18 * r)))), yy_W m' t)) → xm_EQ (xm_old sc) xm_sta (xm_X (xm_old sc) xm_mt (d + 3)) xm_m407.2.2.2.2.2.2.2 0 (xm_loc xm_m407.2.2.1 [.inr (.inl (some 1)), .inr (.inl (some (8 + 2 * r))), .inl (w)]) [] (yy_W m t) Q := by
    intro Q hQ
    obtain ⟨e1, e2, e3, e4, e5, e6, e7⟩ := id hM
    obtain ⟨-, -, -, -, hso, hrd⟩ := id hR
    obtain ⟨a0, a1, a2, a3, a4, a5, a6⟩ := hrd r hr
    have hq : yy_rd (8 + 2 * r) := yy_rdn8 hr
    have f1 : m (8 + 2 * r) 1 = s (45 + 18 * r) := by rw [(e7 r hr).1 1 (by decide)]; congr 1; omega
    have f2 : m (8 + 2 * r) 2 = s (46 + 18 * r) := by rw [(e7 r hr).1 2 (by decide)]; congr 1; omega
    have f5 : m (8 + 2 * r) 5 = s (49 + 18 * r) := by rw [(e7 r hr).1 5 (by decide)]; congr 1; omega
    have fg : m 2 (s (46 + 18 * r)).toNat = s (8 + s (46 + 18 * r)).toNat := by rw [e5 _ (by omega)]; congr 1; omega
    refine xb_407_0 ?_
    simp (disch := first | omega | (unfold xm_w; omega)) only [↓zy_at, xm_O_some, xm_Oi_some, xm_Ov_some, xm_Oq_some, ↓reduceIte, ↓zz_t, ↓zz_f, ↓zi_t, ↓zi_f, eq_self, yy_d_0, Int.reduceEq, Int.reduceLT, Int.reduceLE, Int.reduceNe, Int.reduceToNat, Int.reduceAdd, Int.reduceSub, Int.reduceMul, Int.reduceNeg, Nat.reduceAdd, Nat.reduceMul, Nat.reduceSub, Nat.reduceEqDiff, Nat.reduceLT, ne_eq, not_false_eq_true, not_true_eq_false, true_and, and_true, and_self, yy_s_eq, yy_s_ne, yy_c_eq, yy_c_ne, yy_u_eq, yy_u_ne, xm_w_id, yy_at, tdiv_pos, tmod_pos, ↓zr_1_0, ↓zf_1_1, ↓zs_1_1, ↓zf_1_2, ↓zs_1_2, ↓zr_1_3, ↓zf_1_4, ↓zs_1_4, ↓zr_1_5, ↓zf_1_6, ↓zs_1_6, ↓zr_1_7, ↓zr_1_8, ↓zr_1_9, ↓zq_5, ↓zq_tx, ↓gf_1 hq, f1]
    unfold sg_told at hQ
    rcases hX with ⟨h0, hz⟩ | ⟨h0, a, a', hz, hC⟩
    · rw [if_neg (by omega)] at hQ
      have := hQ m fun c _ _ => rfl
      unfold sg_s4 at this
      rw [if_neg (by omega)] at this
      rw [if_pos hz]
      exact this
    · rw [if_pos h0] at hQ
      rw [hz, if_neg (by simp)]
      simp (disch := first | omega | (unfold xm_w; omega)) only [↓zy_at, xm_O_some, xm_Oi_some, xm_Ov_some, xm_Oq_some, ↓reduceIte, ↓zz_t, ↓zz_f, ↓zi_t, ↓zi_f, eq_self, yy_d_0, Int.reduceEq, Int.reduceLT, Int.reduceLE, Int.reduceNe, Int.reduceToNat, Int.reduceAdd, Int.reduceSub, Int.reduceMul, Int.reduceNeg, Nat.reduceAdd, Nat.reduceMul, Nat.reduceSub, Nat.reduceEqDiff, Nat.reduceLT, ne_eq, not_false_eq_true, not_true_eq_false, true_and, and_true, and_self, yy_s_eq, yy_s_ne, yy_c_eq, yy_c_ne, yy_u_eq, yy_u_ne, xm_w_id, yy_at, tdiv_pos, tmod_pos, ↓zr_1_0, ↓zf_1_1, ↓zs_1_1, ↓zf_1_2, ↓zs_1_2, ↓zr_1_3, ↓zf_1_4, ↓zs_1_4, ↓zr_1_5, ↓zf_1_6, ↓zs_1_6, ↓zr_1_7, ↓zr_1_8, ↓zr_1_9, ↓zi_2, ↓zt_2, ↓zi_6, ↓zt_6, ↓gf_1 hq, ↓gf_2 hq, ↓gf_5 hq, f1, f2, f5, fg]
      obtain ⟨m1, e, g1⟩ := c_902_1 (sc := sc) (d := d + 1) (t := t) (m := yy_s (yy_s (yy_s (yy_s m 6 0 w) 6 1 (s (49 + 18 * r))) 6 2 (s (45 + 18 * r))) 6 3 (s (8 + s (46 + 18 * r)).toNat)) hT h0 hC
      have ev : sg_val s 0 (fun v => (yy_s (yy_s (yy_s (yy_s m 6 0 w) 6 1 (s (49 + 18 * r))) 6 2 (s (45 + 18 * r))) 6 3 (s (8 + s (46 + 18 * r)).toNat)) 6 (sg_ix 0 v).toNat) = sg_val s 0 (sg_nmS w (s (49 + 18 * r)) (s (45 + 18 * r)) (s (8 + s (46 + 18 * r)).toNat)) := by
        refine sg_val_congr hT (sg_ix_nm ?_ ?_ ?_ ?_)
        · simp (disch := first | omega | (unfold xm_w; omega)) only [↓zy_at, xm_O_some, xm_Oi_some, xm_Ov_some, xm_Oq_some, ↓reduceIte, ↓zz_t, ↓zz_f, ↓zi_t, ↓zi_f, eq_self, yy_d_0, Int.reduceEq, Int.reduceLT, Int.reduceLE, Int.reduceNe, Int.reduceToNat, Int.reduceAdd, Int.reduceSub, Int.reduceMul, Int.reduceNeg, Nat.reduceAdd, Nat.reduceMul, Nat.reduceSub, Nat.reduceEqDiff, Nat.reduceLT, ne_eq, not_false_eq_true, not_true_eq_false, true_and, and_true, and_self, yy_s_eq, yy_s_ne, yy_c_eq, yy_c_ne, yy_u_eq, yy_u_ne, xm_w_id, yy_at, tdiv_pos, tmod_pos]
        · simp (disch := first | omega | (unfold xm_w; omega)) only [↓zy_at, xm_O_some, xm_Oi_some, xm_Ov_some, xm_Oq_some, ↓reduceIte, ↓zz_t, ↓zz_f, ↓zi_t, ↓zi_f, eq_self, yy_d_0, Int.reduceEq, Int.reduceLT, Int.reduceLE, Int.reduceNe, Int.reduceToNat, Int.reduceAdd, Int.reduceSub, Int.reduceMul, Int.reduceNeg, Nat.reduceAdd, Nat.reduceMul, Nat.reduceSub, Nat.reduceEqDiff, Nat.reduceLT, ne_eq, not_false_eq_true, not_true_eq_false, true_and, and_true, and_self, yy_s_eq, yy_s_ne, yy_c_eq, yy_c_ne, yy_u_eq, yy_u_ne, xm_w_id, yy_at, tdiv_pos, tmod_pos]
        · simp (disch := first | omega | (unfold xm_w; omega)) only [↓zy_at, xm_O_some, xm_Oi_some, xm_Ov_some, xm_Oq_some, ↓reduceIte, ↓zz_t, ↓zz_f, ↓zi_t, ↓zi_f, eq_self, yy_d_0, Int.reduceEq, Int.reduceLT, Int.reduceLE, Int.reduceNe, Int.reduceToNat, Int.reduceAdd, Int.reduceSub, Int.reduceMul, Int.reduceNeg, Nat.reduceAdd, Nat.reduceMul, Nat.reduceSub, Nat.reduceEqDiff, Nat.reduceLT, ne_eq, not_false_eq_true, not_true_eq_false, true_and, and_true, and_self, yy_s_eq, yy_s_ne, yy_c_eq, yy_c_ne, yy_u_eq, yy_u_ne, xm_w_id, yy_at, tdiv_pos, tmod_pos]
        · simp (disch := first | omega | (unfold xm_w; omega)) only [↓zy_at, xm_O_some, xm_Oi_some, xm_Ov_some, xm_Oq_some, ↓reduceIte, ↓zz_t, ↓zz_f, ↓zi_t, ↓zi_f, eq_self, yy_d_0, Int.reduceEq, Int.reduceLT, Int.reduceLE, Int.reduceNe, Int.reduceToNat, Int.reduceAdd, Int.reduceSub, Int.reduceMul, Int.reduceNeg, Nat.reduceAdd, Nat.reduceMul, Nat.reduceSub, Nat.reduceEqDiff, Nat.reduceLT, ne_eq, not_false_eq_true, not_true_eq_false, true_and, and_true, and_self, yy_s_eq, yy_s_ne, yy_c_eq, yy_c_ne, yy_u_eq, yy_u_ne, xm_w_id, yy_at, tdiv_pos, tmod_pos]
      rw [ev] at e
      rw [e, xm_Oi_some]
      have fr : ∀ c, c ≠ 6 → c ≠ 7 → m1 c = m c := fun c h1 h2 => by rw [g1 c h2]; simp (disch := first | omega | (unfold xm_w; omega)) only [↓zy_at, xm_O_some, xm_Oi_some, xm_Ov_some, xm_Oq_some, ↓reduceIte, ↓zz_t, ↓zz_f, ↓zi_t, ↓zi_f, eq_self, yy_d_0, Int.reduceEq, Int.reduceLT, Int.reduceLE, Int.reduceNe, Int.reduceToNat, Int.reduceAdd, Int.reduceSub, Int.reduceMul, Int.reduceNeg, Nat.reduceAdd, Nat.reduceMul, Nat.reduceSub, Nat.reduceEqDiff, Nat.reduceLT, ne_eq, not_false_eq_true, not_true_eq_false, true_and, and_true, and_self, yy_s_eq, yy_s_ne, yy_c_eq, yy_c_ne, yy_u_eq, yy_u_ne, xm_w_id, yy_at, tdiv_pos, tmod_pos]
      have := hQ m1 fr
      unfold sg_s4 at this
      split
      · rename_i g; rw [if_pos g] at this; exact this
      · rename_i g; rw [if_neg g] at this
        first | exact this | (rw [tmod_pos (by omega)]; exact ⟨by decide, this⟩) | exact ⟨by decide, this⟩
  obtain ⟨q, h1, m', h2, h3⟩ := yx_of (y := 407) (M := xm_m407) (sc := sc) (d := d + 3) (as := [.inr (.inl (some 1)), .inr (.inl (some (8 + 2 * r))), .inl (w)]) (w := yy_W m t) (Q := fun q => ∃ m', q = (some (.inl (sg_told s r w (s (49 + 18 * r)))), yy_W m' t) ∧ (∀ c, c ≠ 6 → c ≠ 7 → m' c = m c)) rfl (key fun m' h => ⟨m', rfl, h⟩) (fun q ⟨m', h, _⟩ => by rw [h]; rfl) rfl (Nat.le_of_ble_eq_true rfl) (yy_hd rfl (by decide))
  exact ⟨m', by rw [h1, h2], h3⟩
set_option maxRecDepth 20000 in
theorem zc_sh_1 {m : Nat → Nat → Int} {t : xm_W} {K : xm_W → Prop} : xm_O (xm_copy (yy_W m t) 4 5 4 0 195) K = K (yy_W (yy_c m 4 (yy_cp (m 4) (m 4) 5 0 195)) t) := congrArg (fun x => xm_O x K) (yy_copy rfl rfl (by decide) (by decide) (by decide) (by decide) (by decide))
set_option maxRecDepth 20000 in
theorem c_408_1 {sc : List Int} {d : Nat} {t : xm_W} {m : Nat → Nat → Int} {r : Nat} {sh : Int} {s : Nat → Int} (hr : r < 5) (hM : yy_MR m 1 s) (hR : sg_R s) (h41 : s 3 = 40 → ∀ k, sg_clr (sg_K (sg_ap s (s (46 + 18 * r)) sh (sg_dp s r) (s 1) r) 1 (-1)) (sg_ap s (s (46 + 18 * r)) sh (sg_dp s r) (s 1) r) k = if k = 3 then 40 else if 134 ≤ k ∧ k < 334 then sg_ap s (s (46 + 18 * r)) sh (sg_dp s r) (s 1) r (k + 5) else sg_ap s (s (46 + 18 * r)) sh (sg_dp s r) (s 1) r k) : ∃ m', xm_X (xm_old sc) xm_mt (d + 2) 408 [.inr (.inl (some 1)), .inl ((r : Int)), .inr (.inl (some (8 + 2 * r))), .inl (sh)] (yy_W m t) = some (none, yy_W m' t) ∧ (∀ c, c ≠ 1 → c ≠ 4 → m' c = m c) ∧ yy_MR m' 1 (sg_le s (s (46 + 18 * r)) sh (sg_dp s r) (s 1) r) := by
  have key : ∀ {Q : Option xm_V × xm_W → Prop}, (∀ m', ((∀ c, c ≠ 1 → c ≠ 4 → m' c = m c) ∧ yy_MR m' 1 (sg_le s (s (46 + 18 * r)) sh (sg_dp s r) (s 1) r)) → Q (none, yy_W m' t)) → xm_EQ (xm_old sc) xm_sta (xm_X (xm_old sc) xm_mt (d + 1)) xm_m408.2.2.2.2.2.2.2 0 (xm_loc xm_m408.2.2.1 [.inr (.inl (some 1)), .inl ((r : Int)), .inr (.inl (some (8 + 2 * r))), .inl (sh)]) [] (yy_W m t) Q := by
    intro Q hQ
    obtain ⟨e1, e2, e3, e4, e5, e6, e7⟩ := id hM
    obtain ⟨b0, b1, b2, b3, hso, hrd⟩ := id hR
    obtain ⟨a0, a1, a2, a3, a4, a5, a6⟩ := hrd r hr
    have hq : yy_rd (8 + 2 * r) := yy_rdn8 hr
    have f0 : m (8 + 2 * r) 0 = s (44 + 18 * r) := (e7 r hr).1 0 (by decide)
    have f1 : m (8 + 2 * r) 1 = s (45 + 18 * r) := by rw [(e7 r hr).1 1 (by decide)]; congr 1; omega
    have f2 : m (8 + 2 * r) 2 = s (46 + 18 * r) := by rw [(e7 r hr).1 2 (by decide)]; congr 1; omega
    have f3 : m (8 + 2 * r) 3 = s (47 + 18 * r) := by rw [(e7 r hr).1 3 (by decide)]; congr 1; omega
    have hdp : sp_deep (s (44 + 18 * r)) (s (45 + 18 * r)) (s (47 + 18 * r)) = sg_dp s r := rfl
    refine xb_408_0 ?_
    by_cases g : s 3 < 40
    · have i0 : (s 3 * 5 + 0).toNat = 5 * (s 3).toNat := by omega
      have i1 : (s 3 * 5 + 1).toNat = 5 * (s 3).toNat + 1 := by omega
      have i2 : (s 3 * 5 + 2).toNat = 5 * (s 3).toNat + 2 := by omega
      have i3 : (s 3 * 5 + 3).toNat = 5 * (s 3).toNat + 3 := by omega
      have i4 : (s 3 * 5 + 4).toNat = 5 * (s 3).toNat + 4 := by omega
      simp (disch := first | omega | (unfold xm_w; omega)) only [↓zy_at, xm_O_some, xm_Oi_some, xm_Ov_some, xm_Oq_some, ↓reduceIte, ↓zz_t, ↓zz_f, ↓zi_t, ↓zi_f, eq_self, yy_d_0, Int.reduceEq, Int.reduceLT, Int.reduceLE, Int.reduceNe, Int.reduceToNat, Int.reduceAdd, Int.reduceSub, Int.reduceMul, Int.reduceNeg, Nat.reduceAdd, Nat.reduceMul, Nat.reduceSub, Nat.reduceEqDiff, Nat.reduceLT, ne_eq, not_false_eq_true, not_true_eq_false, true_and, and_true, and_self, yy_s_eq, yy_s_ne, yy_c_eq, yy_c_ne, yy_u_eq, yy_u_ne, xm_w_id, yy_at, tdiv_pos, tmod_pos, ↓zr_1_0, ↓zf_1_1, ↓zs_1_1, ↓zf_1_2, ↓zs_1_2, ↓zr_1_3, ↓zf_1_4, ↓zs_1_4, ↓zr_1_5, ↓zf_1_6, ↓zs_1_6, ↓zr_1_7, ↓zr_1_8, ↓zr_1_9, ↓zi_4, ↓zt_4, e4, e2, ↓gf_0 hq, ↓gf_1 hq, ↓gf_2 hq, ↓gf_3 hq, f0, f1, f2, f3, i0, i1, i2, i3, i4, ↓oc_153, hdp]
      have el : sg_le s (s (46 + 18 * r)) sh (sg_dp s r) (s 1) r = sg_ap s (s (46 + 18 * r)) sh (sg_dp s r) (s 1) r := by unfold sg_le; rw [if_neg (by omega)]
      have eo : ∀ k, k ≠ 3 → k < 134 → sg_ap s (s (46 + 18 * r)) sh (sg_dp s r) (s 1) r k = s k := fun k h1 h2 => sg_ap_o h1 (by omega)
      refine hQ _ ⟨fun c c1 c2 => by simp (disch := first | omega | (unfold xm_w; omega)) only [↓zy_at, xm_O_some, xm_Oi_some, xm_Ov_some, xm_Oq_some, ↓reduceIte, ↓zz_t, ↓zz_f, ↓zi_t, ↓zi_f, eq_self, yy_d_0, Int.reduceEq, Int.reduceLT, Int.reduceLE, Int.reduceNe, Int.reduceToNat, Int.reduceAdd, Int.reduceSub, Int.reduceMul, Int.reduceNeg, Nat.reduceAdd, Nat.reduceMul, Nat.reduceSub, Nat.reduceEqDiff, Nat.reduceLT, ne_eq, not_false_eq_true, not_true_eq_false, true_and, and_true, and_self, yy_s_eq, yy_s_ne, yy_c_eq, yy_c_ne, yy_u_eq, yy_u_ne, xm_w_id, yy_at, tdiv_pos, tmod_pos], ?_⟩
      rw [el]
      refine ⟨by simp (disch := first | omega | (unfold xm_w; omega)) only [↓zy_at, xm_O_some, xm_Oi_some, xm_Ov_some, xm_Oq_some, ↓reduceIte, ↓zz_t, ↓zz_f, ↓zi_t, ↓zi_f, eq_self, yy_d_0, Int.reduceEq, Int.reduceLT, Int.reduceLE, Int.reduceNe, Int.reduceToNat, Int.reduceAdd, Int.reduceSub, Int.reduceMul, Int.reduceNeg, Nat.reduceAdd, Nat.reduceMul, Nat.reduceSub, Nat.reduceEqDiff, Nat.reduceLT, ne_eq, not_false_eq_true, not_true_eq_false, true_and, and_true, and_self, yy_s_eq, yy_s_ne, yy_c_eq, yy_c_ne, yy_u_eq, yy_u_ne, xm_w_id, yy_at, tdiv_pos, tmod_pos]; rw [eo 2 (by decide) (by decide)]; exact e1, by simp (disch := first | omega | (unfold xm_w; omega)) only [↓zy_at, xm_O_some, xm_Oi_some, xm_Ov_some, xm_Oq_some, ↓reduceIte, ↓zz_t, ↓zz_f, ↓zi_t, ↓zi_f, eq_self, yy_d_0, Int.reduceEq, Int.reduceLT, Int.reduceLE, Int.reduceNe, Int.reduceToNat, Int.reduceAdd, Int.reduceSub, Int.reduceMul, Int.reduceNeg, Nat.reduceAdd, Nat.reduceMul, Nat.reduceSub, Nat.reduceEqDiff, Nat.reduceLT, ne_eq, not_false_eq_true, not_true_eq_false, true_and, and_true, and_self, yy_s_eq, yy_s_ne, yy_c_eq, yy_c_ne, yy_u_eq, yy_u_ne, xm_w_id, yy_at, tdiv_pos, tmod_pos]; rw [eo 1 (by decide) (by decide)]; exact e2, by simp (disch := first | omega | (unfold xm_w; omega)) only [↓zy_at, xm_O_some, xm_Oi_some, xm_Ov_some, xm_Oq_some, ↓reduceIte, ↓zz_t, ↓zz_f, ↓zi_t, ↓zi_f, eq_self, yy_d_0, Int.reduceEq, Int.reduceLT, Int.reduceLE, Int.reduceNe, Int.reduceToNat, Int.reduceAdd, Int.reduceSub, Int.reduceMul, Int.reduceNeg, Nat.reduceAdd, Nat.reduceMul, Nat.reduceSub, Nat.reduceEqDiff, Nat.reduceLT, ne_eq, not_false_eq_true, not_true_eq_false, true_and, and_true, and_self, yy_s_eq, yy_s_ne, yy_c_eq, yy_c_ne, yy_u_eq, yy_u_ne, xm_w_id, yy_at, tdiv_pos, tmod_pos]; rw [eo 0 (by decide) (by decide)]; exact e3, by simp (disch := first | omega | (unfold xm_w; omega)) only [↓zy_at, xm_O_some, xm_Oi_some, xm_Ov_some, xm_Oq_some, ↓reduceIte, ↓zz_t, ↓zz_f, ↓zi_t, ↓zi_f, eq_self, yy_d_0, Int.reduceEq, Int.reduceLT, Int.reduceLE, Int.reduceNe, Int.reduceToNat, Int.reduceAdd, Int.reduceSub, Int.reduceMul, Int.reduceNeg, Nat.reduceAdd, Nat.reduceMul, Nat.reduceSub, Nat.reduceEqDiff, Nat.reduceLT, ne_eq, not_false_eq_true, not_true_eq_false, true_and, and_true, and_self, yy_s_eq, yy_s_ne, yy_c_eq, yy_c_ne, yy_u_eq, yy_u_ne, xm_w_id, yy_at, tdiv_pos, tmod_pos]; rw [sg_ap_3], fun k hk => by simp (disch := first | omega | (unfold xm_w; omega)) only [↓zy_at, xm_O_some, xm_Oi_some, xm_Ov_some, xm_Oq_some, ↓reduceIte, ↓zz_t, ↓zz_f, ↓zi_t, ↓zi_f, eq_self, yy_d_0, Int.reduceEq, Int.reduceLT, Int.reduceLE, Int.reduceNe, Int.reduceToNat, Int.reduceAdd, Int.reduceSub, Int.reduceMul, Int.reduceNeg, Nat.reduceAdd, Nat.reduceMul, Nat.reduceSub, Nat.reduceEqDiff, Nat.reduceLT, ne_eq, not_false_eq_true, not_true_eq_false, true_and, and_true, and_self, yy_s_eq, yy_s_ne, yy_c_eq, yy_c_ne, yy_u_eq, yy_u_ne, xm_w_id, yy_at, tdiv_pos, tmod_pos]; rw [eo _ (by omega) (by omega)]; exact e5 k hk, fun k hk => ?_, fun i hi => ⟨fun k hk => by simp (disch := first | omega | (unfold xm_w; omega)) only [↓zy_at, xm_O_some, xm_Oi_some, xm_Ov_some, xm_Oq_some, ↓reduceIte, ↓zz_t, ↓zz_f, ↓zi_t, ↓zi_f, eq_self, yy_d_0, Int.reduceEq, Int.reduceLT, Int.reduceLE, Int.reduceNe, Int.reduceToNat, Int.reduceAdd, Int.reduceSub, Int.reduceMul, Int.reduceNeg, Nat.reduceAdd, Nat.reduceMul, Nat.reduceSub, Nat.reduceEqDiff, Nat.reduceLT, ne_eq, not_false_eq_true, not_true_eq_false, true_and, and_true, and_self, yy_s_eq, yy_s_ne, yy_c_eq, yy_c_ne, yy_u_eq, yy_u_ne, xm_w_id, yy_at, tdiv_pos, tmod_pos]; rw [eo _ (by omega) (by omega)]; exact (e7 i hi).1 k hk, fun k hk => by simp (disch := first | omega | (unfold xm_w; omega)) only [↓zy_at, xm_O_some, xm_Oi_some, xm_Ov_some, xm_Oq_some, ↓reduceIte, ↓zz_t, ↓zz_f, ↓zi_t, ↓zi_f, eq_self, yy_d_0, Int.reduceEq, Int.reduceLT, Int.reduceLE, Int.reduceNe, Int.reduceToNat, Int.reduceAdd, Int.reduceSub, Int.reduceMul, Int.reduceNeg, Nat.reduceAdd, Nat.reduceMul, Nat.reduceSub, Nat.reduceEqDiff, Nat.reduceLT, ne_eq, not_false_eq_true, not_true_eq_false, true_and, and_true, and_self, yy_s_eq, yy_s_ne, yy_c_eq, yy_c_ne, yy_u_eq, yy_u_ne, xm_w_id, yy_at, tdiv_pos, tmod_pos]; rw [eo _ (by omega) (by omega)]; exact (e7 i hi).2 k hk⟩⟩
      simp (disch := first | omega | (unfold xm_w; omega)) only [↓zy_at, xm_O_some, xm_Oi_some, xm_Ov_some, xm_Oq_some, ↓reduceIte, ↓zz_t, ↓zz_f, ↓zi_t, ↓zi_f, eq_self, yy_d_0, Int.reduceEq, Int.reduceLT, Int.reduceLE, Int.reduceNe, Int.reduceToNat, Int.reduceAdd, Int.reduceSub, Int.reduceMul, Int.reduceNeg, Nat.reduceAdd, Nat.reduceMul, Nat.reduceSub, Nat.reduceEqDiff, Nat.reduceLT, ne_eq, not_false_eq_true, not_true_eq_false, true_and, and_true, and_self, yy_s_eq, yy_s_ne, yy_c_eq, yy_c_ne, yy_u_eq, yy_u_ne, xm_w_id, yy_at, tdiv_pos, tmod_pos]
      unfold sg_ap yy_u
      have := e6 k hk
      repeat' split
      all_goals first | rfl | omega
    · have g3 : s 3 = 40 := by omega
      simp (disch := first | omega | (unfold xm_w; omega)) only [↓zy_at, xm_O_some, xm_Oi_some, xm_Ov_some, xm_Oq_some, ↓reduceIte, ↓zz_t, ↓zz_f, ↓zi_t, ↓zi_f, eq_self, yy_d_0, Int.reduceEq, Int.reduceLT, Int.reduceLE, Int.reduceNe, Int.reduceToNat, Int.reduceAdd, Int.reduceSub, Int.reduceMul, Int.reduceNeg, Nat.reduceAdd, Nat.reduceMul, Nat.reduceSub, Nat.reduceEqDiff, Nat.reduceLT, ne_eq, not_false_eq_true, not_true_eq_false, true_and, and_true, and_self, yy_s_eq, yy_s_ne, yy_c_eq, yy_c_ne, yy_u_eq, yy_u_ne, xm_w_id, yy_at, tdiv_pos, tmod_pos, ↓zr_1_0, ↓zf_1_1, ↓zs_1_1, ↓zf_1_2, ↓zs_1_2, ↓zr_1_3, ↓zf_1_4, ↓zs_1_4, ↓zr_1_5, ↓zf_1_6, ↓zs_1_6, ↓zr_1_7, ↓zr_1_8, ↓zr_1_9, ↓zi_4, ↓zt_4, e4, e2, ↓gf_0 hq, ↓gf_1 hq, ↓gf_2 hq, ↓gf_3 hq, f0, f1, f2, f3, ↓oc_153, hdp, ↓zc_sh_1]
      have n40 : (s 3).toNat = 40 := by omega
      have el : sg_le s (s (46 + 18 * r)) sh (sg_dp s r) (s 1) r = sg_clr (sg_K (sg_ap s (s (46 + 18 * r)) sh (sg_dp s r) (s 1) r) 1 (-1)) (sg_ap s (s (46 + 18 * r)) sh (sg_dp s r) (s 1) r) := by unfold sg_le; rw [if_pos (by omega)]
      have h42 := h41 g3
      have eo : ∀ k, k ≠ 3 → k < 134 → sg_clr (sg_K (sg_ap s (s (46 + 18 * r)) sh (sg_dp s r) (s 1) r) 1 (-1)) (sg_ap s (s (46 + 18 * r)) sh (sg_dp s r) (s 1) r) k = s k := fun k h1 h2 => by
        rw [h42, if_neg h1, if_neg (by omega)]; exact sg_ap_o h1 (by omega)
      refine hQ _ ⟨fun c c1 c2 => by simp (disch := first | omega | (unfold xm_w; omega)) only [↓zy_at, xm_O_some, xm_Oi_some, xm_Ov_some, xm_Oq_some, ↓reduceIte, ↓zz_t, ↓zz_f, ↓zi_t, ↓zi_f, eq_self, yy_d_0, Int.reduceEq, Int.reduceLT, Int.reduceLE, Int.reduceNe, Int.reduceToNat, Int.reduceAdd, Int.reduceSub, Int.reduceMul, Int.reduceNeg, Nat.reduceAdd, Nat.reduceMul, Nat.reduceSub, Nat.reduceEqDiff, Nat.reduceLT, ne_eq, not_false_eq_true, not_true_eq_false, true_and, and_true, and_self, yy_s_eq, yy_s_ne, yy_c_eq, yy_c_ne, yy_u_eq, yy_u_ne, xm_w_id, yy_at, tdiv_pos, tmod_pos], ?_⟩
      rw [el]
      refine ⟨by simp (disch := first | omega | (unfold xm_w; omega)) only [↓zy_at, xm_O_some, xm_Oi_some, xm_Ov_some, xm_Oq_some, ↓reduceIte, ↓zz_t, ↓zz_f, ↓zi_t, ↓zi_f, eq_self, yy_d_0, Int.reduceEq, Int.reduceLT, Int.reduceLE, Int.reduceNe, Int.reduceToNat, Int.reduceAdd, Int.reduceSub, Int.reduceMul, Int.reduceNeg, Nat.reduceAdd, Nat.reduceMul, Nat.reduceSub, Nat.reduceEqDiff, Nat.reduceLT, ne_eq, not_false_eq_true, not_true_eq_false, true_and, and_true, and_self, yy_s_eq, yy_s_ne, yy_c_eq, yy_c_ne, yy_u_eq, yy_u_ne, xm_w_id, yy_at, tdiv_pos, tmod_pos]; rw [eo 2 (by decide) (by decide)]; exact e1, by simp (disch := first | omega | (unfold xm_w; omega)) only [↓zy_at, xm_O_some, xm_Oi_some, xm_Ov_some, xm_Oq_some, ↓reduceIte, ↓zz_t, ↓zz_f, ↓zi_t, ↓zi_f, eq_self, yy_d_0, Int.reduceEq, Int.reduceLT, Int.reduceLE, Int.reduceNe, Int.reduceToNat, Int.reduceAdd, Int.reduceSub, Int.reduceMul, Int.reduceNeg, Nat.reduceAdd, Nat.reduceMul, Nat.reduceSub, Nat.reduceEqDiff, Nat.reduceLT, ne_eq, not_false_eq_true, not_true_eq_false, true_and, and_true, and_self, yy_s_eq, yy_s_ne, yy_c_eq, yy_c_ne, yy_u_eq, yy_u_ne, xm_w_id, yy_at, tdiv_pos, tmod_pos]; rw [eo 1 (by decide) (by decide)]; exact e2, by simp (disch := first | omega | (unfold xm_w; omega)) only [↓zy_at, xm_O_some, xm_Oi_some, xm_Ov_some, xm_Oq_some, ↓reduceIte, ↓zz_t, ↓zz_f, ↓zi_t, ↓zi_f, eq_self, yy_d_0, Int.reduceEq, Int.reduceLT, Int.reduceLE, Int.reduceNe, Int.reduceToNat, Int.reduceAdd, Int.reduceSub, Int.reduceMul, Int.reduceNeg, Nat.reduceAdd, Nat.reduceMul, Nat.reduceSub, Nat.reduceEqDiff, Nat.reduceLT, ne_eq, not_false_eq_true, not_true_eq_false, true_and, and_true, and_self, yy_s_eq, yy_s_ne, yy_c_eq, yy_c_ne, yy_u_eq, yy_u_ne, xm_w_id, yy_at, tdiv_pos, tmod_pos]; rw [eo 0 (by decide) (by decide)]; exact e3, by simp (disch := first | omega | (unfold xm_w; omega)) only [↓zy_at, xm_O_some, xm_Oi_some, xm_Ov_some, xm_Oq_some, ↓reduceIte, ↓zz_t, ↓zz_f, ↓zi_t, ↓zi_f, eq_self, yy_d_0, Int.reduceEq, Int.reduceLT, Int.reduceLE, Int.reduceNe, Int.reduceToNat, Int.reduceAdd, Int.reduceSub, Int.reduceMul, Int.reduceNeg, Nat.reduceAdd, Nat.reduceMul, Nat.reduceSub, Nat.reduceEqDiff, Nat.reduceLT, ne_eq, not_false_eq_true, not_true_eq_false, true_and, and_true, and_self, yy_s_eq, yy_s_ne, yy_c_eq, yy_c_ne, yy_u_eq, yy_u_ne, xm_w_id, yy_at, tdiv_pos, tmod_pos]; rw [h42, if_pos rfl], fun k hk => by simp (disch := first | omega | (unfold xm_w; omega)) only [↓zy_at, xm_O_some, xm_Oi_some, xm_Ov_some, xm_Oq_some, ↓reduceIte, ↓zz_t, ↓zz_f, ↓zi_t, ↓zi_f, eq_self, yy_d_0, Int.reduceEq, Int.reduceLT, Int.reduceLE, Int.reduceNe, Int.reduceToNat, Int.reduceAdd, Int.reduceSub, Int.reduceMul, Int.reduceNeg, Nat.reduceAdd, Nat.reduceMul, Nat.reduceSub, Nat.reduceEqDiff, Nat.reduceLT, ne_eq, not_false_eq_true, not_true_eq_false, true_and, and_true, and_self, yy_s_eq, yy_s_ne, yy_c_eq, yy_c_ne, yy_u_eq, yy_u_ne, xm_w_id, yy_at, tdiv_pos, tmod_pos]; rw [eo _ (by omega) (by omega)]; exact e5 k hk, fun k hk => ?_, fun i hi => ⟨fun k hk => by simp (disch := first | omega | (unfold xm_w; omega)) only [↓zy_at, xm_O_some, xm_Oi_some, xm_Ov_some, xm_Oq_some, ↓reduceIte, ↓zz_t, ↓zz_f, ↓zi_t, ↓zi_f, eq_self, yy_d_0, Int.reduceEq, Int.reduceLT, Int.reduceLE, Int.reduceNe, Int.reduceToNat, Int.reduceAdd, Int.reduceSub, Int.reduceMul, Int.reduceNeg, Nat.reduceAdd, Nat.reduceMul, Nat.reduceSub, Nat.reduceEqDiff, Nat.reduceLT, ne_eq, not_false_eq_true, not_true_eq_false, true_and, and_true, and_self, yy_s_eq, yy_s_ne, yy_c_eq, yy_c_ne, yy_u_eq, yy_u_ne, xm_w_id, yy_at, tdiv_pos, tmod_pos]; rw [eo _ (by omega) (by omega)]; exact (e7 i hi).1 k hk, fun k hk => by simp (disch := first | omega | (unfold xm_w; omega)) only [↓zy_at, xm_O_some, xm_Oi_some, xm_Ov_some, xm_Oq_some, ↓reduceIte, ↓zz_t, ↓zz_f, ↓zi_t, ↓zi_f, eq_self, yy_d_0, Int.reduceEq, Int.reduceLT, Int.reduceLE, Int.reduceNe, Int.reduceToNat, Int.reduceAdd, Int.reduceSub, Int.reduceMul, Int.reduceNeg, Nat.reduceAdd, Nat.reduceMul, Nat.reduceSub, Nat.reduceEqDiff, Nat.reduceLT, ne_eq, not_false_eq_true, not_true_eq_false, true_and, and_true, and_self, yy_s_eq, yy_s_ne, yy_c_eq, yy_c_ne, yy_u_eq, yy_u_ne, xm_w_id, yy_at, tdiv_pos, tmod_pos]; rw [eo _ (by omega) (by omega)]; exact (e7 i hi).2 k hk⟩⟩
      rw [h42, if_neg (by omega), if_pos (by omega)]
      rcases (show k < 195 ∨ k = 195 ∨ k = 196 ∨ k = 197 ∨ k = 198 ∨ k = 199 by omega) with h | h | h | h | h | h
      · simp (disch := first | omega | (unfold xm_w; omega)) only [↓zy_at, xm_O_some, xm_Oi_some, xm_Ov_some, xm_Oq_some, ↓reduceIte, ↓zz_t, ↓zz_f, ↓zi_t, ↓zi_f, eq_self, yy_d_0, Int.reduceEq, Int.reduceLT, Int.reduceLE, Int.reduceNe, Int.reduceToNat, Int.reduceAdd, Int.reduceSub, Int.reduceMul, Int.reduceNeg, Nat.reduceAdd, Nat.reduceMul, Nat.reduceSub, Nat.reduceEqDiff, Nat.reduceLT, ne_eq, not_false_eq_true, not_true_eq_false, true_and, and_true, and_self, yy_s_eq, yy_s_ne, yy_c_eq, yy_c_ne, yy_u_eq, yy_u_ne, xm_w_id, yy_at, tdiv_pos, tmod_pos]
        rw [sg_ap_o (by omega) (by omega)]
        unfold yy_cp
        rw [if_pos (by omega), e6 _ (by omega)]
        congr 1; omega
      · subst h; simp (disch := first | omega | (unfold xm_w; omega)) only [↓zy_at, xm_O_some, xm_Oi_some, xm_Ov_some, xm_Oq_some, ↓reduceIte, ↓zz_t, ↓zz_f, ↓zi_t, ↓zi_f, eq_self, yy_d_0, Int.reduceEq, Int.reduceLT, Int.reduceLE, Int.reduceNe, Int.reduceToNat, Int.reduceAdd, Int.reduceSub, Int.reduceMul, Int.reduceNeg, Nat.reduceAdd, Nat.reduceMul, Nat.reduceSub, Nat.reduceEqDiff, Nat.reduceLT, ne_eq, not_false_eq_true, not_true_eq_false, true_and, and_true, and_self, yy_s_eq, yy_s_ne, yy_c_eq, yy_c_ne, yy_u_eq, yy_u_ne, xm_w_id, yy_at, tdiv_pos, tmod_pos]; unfold sg_ap yy_u; rw [n40]; rfl
      · subst h; simp (disch := first | omega | (unfold xm_w; omega)) only [↓zy_at, xm_O_some, xm_Oi_some, xm_Ov_some, xm_Oq_some, ↓reduceIte, ↓zz_t, ↓zz_f, ↓zi_t, ↓zi_f, eq_self, yy_d_0, Int.reduceEq, Int.reduceLT, Int.reduceLE, Int.reduceNe, Int.reduceToNat, Int.reduceAdd, Int.reduceSub, Int.reduceMul, Int.reduceNeg, Nat.reduceAdd, Nat.reduceMul, Nat.reduceSub, Nat.reduceEqDiff, Nat.reduceLT, ne_eq, not_false_eq_true, not_true_eq_false, true_and, and_true, and_self, yy_s_eq, yy_s_ne, yy_c_eq, yy_c_ne, yy_u_eq, yy_u_ne, xm_w_id, yy_at, tdiv_pos, tmod_pos]; unfold sg_ap yy_u; rw [n40]; rfl
      · subst h; simp (disch := first | omega | (unfold xm_w; omega)) only [↓zy_at, xm_O_some, xm_Oi_some, xm_Ov_some, xm_Oq_some, ↓reduceIte, ↓zz_t, ↓zz_f, ↓zi_t, ↓zi_f, eq_self, yy_d_0, Int.reduceEq, Int.reduceLT, Int.reduceLE, Int.reduceNe, Int.reduceToNat, Int.reduceAdd, Int.reduceSub, Int.reduceMul, Int.reduceNeg, Nat.reduceAdd, Nat.reduceMul, Nat.reduceSub, Nat.reduceEqDiff, Nat.reduceLT, ne_eq, not_false_eq_true, not_true_eq_false, true_and, and_true, and_self, yy_s_eq, yy_s_ne, yy_c_eq, yy_c_ne, yy_u_eq, yy_u_ne, xm_w_id, yy_at, tdiv_pos, tmod_pos]; unfold sg_ap yy_u; rw [n40]; rfl
      · subst h; simp (disch := first | omega | (unfold xm_w; omega)) only [↓zy_at, xm_O_some, xm_Oi_some, xm_Ov_some, xm_Oq_some, ↓reduceIte, ↓zz_t, ↓zz_f, ↓zi_t, ↓zi_f, eq_self, yy_d_0, Int.reduceEq, Int.reduceLT, Int.reduceLE, Int.reduceNe, Int.reduceToNat, Int.reduceAdd, Int.reduceSub, Int.reduceMul, Int.reduceNeg, Nat.reduceAdd, Nat.reduceMul, Nat.reduceSub, Nat.reduceEqDiff, Nat.reduceLT, ne_eq, not_false_eq_true, not_true_eq_false, true_and, and_true, and_self, yy_s_eq, yy_s_ne, yy_c_eq, yy_c_ne, yy_u_eq, yy_u_ne, xm_w_id, yy_at, tdiv_pos, tmod_pos]; unfold sg_ap yy_u; rw [n40]; rfl
      · subst h; simp (disch := first | omega | (unfold xm_w; omega)) only [↓zy_at, xm_O_some, xm_Oi_some, xm_Ov_some, xm_Oq_some, ↓reduceIte, ↓zz_t, ↓zz_f, ↓zi_t, ↓zi_f, eq_self, yy_d_0, Int.reduceEq, Int.reduceLT, Int.reduceLE, Int.reduceNe, Int.reduceToNat, Int.reduceAdd, Int.reduceSub, Int.reduceMul, Int.reduceNeg, Nat.reduceAdd, Nat.reduceMul, Nat.reduceSub, Nat.reduceEqDiff, Nat.reduceLT, ne_eq, not_false_eq_true, not_true_eq_false, true_and, and_true, and_self, yy_s_eq, yy_s_ne, yy_c_eq, yy_c_ne, yy_u_eq, yy_u_ne, xm_w_id, yy_at, tdiv_pos, tmod_pos]; unfold sg_ap yy_u; rw [n40]; rfl
  obtain ⟨q, h1, m', h2, h3⟩ := yx_of (y := 408) (M := xm_m408) (sc := sc) (d := d + 1) (as := [.inr (.inl (some 1)), .inl ((r : Int)), .inr (.inl (some (8 + 2 * r))), .inl (sh)]) (w := yy_W m t) (Q := fun q => ∃ m', q = (none, yy_W m' t) ∧ ((∀ c, c ≠ 1 → c ≠ 4 → m' c = m c) ∧ yy_MR m' 1 (sg_le s (s (46 + 18 * r)) sh (sg_dp s r) (s 1) r))) rfl (key fun m' h => ⟨m', rfl, h⟩) (fun q ⟨m', h, _⟩ => by rw [h]; rfl) rfl (Nat.le_of_ble_eq_true rfl) (yy_hd rfl (by decide))
  exact ⟨m', by rw [h1, h2], h3⟩
set_option maxRecDepth 20000 in
theorem c_407_18 {sc : List Int} {d : Nat} {t : xm_W} {m : Nat → Nat → Int} {r : Nat} {w : Int} {s : Nat → Int} (hr : r < 5) (hM : yy_MR m 18 s) (hR : sg_R s) (hT : sg_T s 0) (hX : yy_TX t s 0 (m 22 0)) (hw : 0 ≤ w ∧ w ≤ 3) : ∃ m', xm_X (xm_old sc) xm_mt (d + 4) 407 [.inr (.inl (some 18)), .inr (.inl (some (25 + 2 * r))), .inl (w)] (yy_W m t) = some (some (.inl (sg_told s r w (s (49 + 18 * r)))), yy_W m' t) ∧ ∀ c, c ≠ 23 → c ≠ 24 → m' c = m c := by
  have key : ∀ {Q : Option xm_V × xm_W → Prop}, (∀ m', (∀ c, c ≠ 23 → c ≠ 24 → m' c = m c) → Q (some (.inl (sg_told s r w (s (49 + 18 * r)))), yy_W m' t)) → xm_EQ (xm_old sc) xm_sta (xm_X (xm_old sc) xm_mt (d + 3)) xm_m407.2.2.2.2.2.2.2 0 (xm_loc xm_m407.2.2.1 [.inr (.inl (some 18)), .inr (.inl (some (25 + 2 * r))), .inl (w)]) [] (yy_W m t) Q := by
    intro Q hQ
    obtain ⟨e1, e2, e3, e4, e5, e6, e7⟩ := id hM
    obtain ⟨-, -, -, -, hso, hrd⟩ := id hR
    obtain ⟨a0, a1, a2, a3, a4, a5, a6⟩ := hrd r hr
    have hq : yy_rd (25 + 2 * r) := yy_rdn25 hr
    have f1 : m (25 + 2 * r) 1 = s (45 + 18 * r) := by rw [(e7 r hr).1 1 (by decide)]; congr 1; omega
    have f2 : m (25 + 2 * r) 2 = s (46 + 18 * r) := by rw [(e7 r hr).1 2 (by decide)]; congr 1; omega
    have f5 : m (25 + 2 * r) 5 = s (49 + 18 * r) := by rw [(e7 r hr).1 5 (by decide)]; congr 1; omega
    have fg : m 19 (s (46 + 18 * r)).toNat = s (8 + s (46 + 18 * r)).toNat := by rw [e5 _ (by omega)]; congr 1; omega
    refine xb_407_0 ?_
    simp (disch := first | omega | (unfold xm_w; omega)) only [↓zy_at, xm_O_some, xm_Oi_some, xm_Ov_some, xm_Oq_some, ↓reduceIte, ↓zz_t, ↓zz_f, ↓zi_t, ↓zi_f, eq_self, yy_d_0, Int.reduceEq, Int.reduceLT, Int.reduceLE, Int.reduceNe, Int.reduceToNat, Int.reduceAdd, Int.reduceSub, Int.reduceMul, Int.reduceNeg, Nat.reduceAdd, Nat.reduceMul, Nat.reduceSub, Nat.reduceEqDiff, Nat.reduceLT, ne_eq, not_false_eq_true, not_true_eq_false, true_and, and_true, and_self, yy_s_eq, yy_s_ne, yy_c_eq, yy_c_ne, yy_u_eq, yy_u_ne, xm_w_id, yy_at, tdiv_pos, tmod_pos, ↓zr_18_0, ↓zf_18_1, ↓zs_18_1, ↓zf_18_2, ↓zs_18_2, ↓zr_18_3, ↓zf_18_4, ↓zs_18_4, ↓zr_18_5, ↓zf_18_6, ↓zs_18_6, ↓zr_18_7, ↓zr_18_8, ↓zr_18_9, ↓zq_22, ↓zq_tx, ↓gf_1 hq, f1]
    unfold sg_told at hQ
    rcases hX with ⟨h0, hz⟩ | ⟨h0, a, a', hz, hC⟩
    · rw [if_neg (by omega)] at hQ
      have := hQ m fun c _ _ => rfl
      unfold sg_s4 at this
      rw [if_neg (by omega)] at this
      rw [if_pos hz]
      exact this
    · rw [if_pos h0] at hQ
      rw [hz, if_neg (by simp)]
      simp (disch := first | omega | (unfold xm_w; omega)) only [↓zy_at, xm_O_some, xm_Oi_some, xm_Ov_some, xm_Oq_some, ↓reduceIte, ↓zz_t, ↓zz_f, ↓zi_t, ↓zi_f, eq_self, yy_d_0, Int.reduceEq, Int.reduceLT, Int.reduceLE, Int.reduceNe, Int.reduceToNat, Int.reduceAdd, Int.reduceSub, Int.reduceMul, Int.reduceNeg, Nat.reduceAdd, Nat.reduceMul, Nat.reduceSub, Nat.reduceEqDiff, Nat.reduceLT, ne_eq, not_false_eq_true, not_true_eq_false, true_and, and_true, and_self, yy_s_eq, yy_s_ne, yy_c_eq, yy_c_ne, yy_u_eq, yy_u_ne, xm_w_id, yy_at, tdiv_pos, tmod_pos, ↓zr_18_0, ↓zf_18_1, ↓zs_18_1, ↓zf_18_2, ↓zs_18_2, ↓zr_18_3, ↓zf_18_4, ↓zs_18_4, ↓zr_18_5, ↓zf_18_6, ↓zs_18_6, ↓zr_18_7, ↓zr_18_8, ↓zr_18_9, ↓zi_19, ↓zt_19, ↓zi_23, ↓zt_23, ↓gf_1 hq, ↓gf_2 hq, ↓gf_5 hq, f1, f2, f5, fg]
      obtain ⟨m1, e, g1⟩ := c_902_18 (sc := sc) (d := d + 1) (t := t) (m := yy_s (yy_s (yy_s (yy_s m 23 0 w) 23 1 (s (49 + 18 * r))) 23 2 (s (45 + 18 * r))) 23 3 (s (8 + s (46 + 18 * r)).toNat)) hT h0 hC
      have ev : sg_val s 0 (fun v => (yy_s (yy_s (yy_s (yy_s m 23 0 w) 23 1 (s (49 + 18 * r))) 23 2 (s (45 + 18 * r))) 23 3 (s (8 + s (46 + 18 * r)).toNat)) 23 (sg_ix 0 v).toNat) = sg_val s 0 (sg_nmS w (s (49 + 18 * r)) (s (45 + 18 * r)) (s (8 + s (46 + 18 * r)).toNat)) := by
        refine sg_val_congr hT (sg_ix_nm ?_ ?_ ?_ ?_)
        · simp (disch := first | omega | (unfold xm_w; omega)) only [↓zy_at, xm_O_some, xm_Oi_some, xm_Ov_some, xm_Oq_some, ↓reduceIte, ↓zz_t, ↓zz_f, ↓zi_t, ↓zi_f, eq_self, yy_d_0, Int.reduceEq, Int.reduceLT, Int.reduceLE, Int.reduceNe, Int.reduceToNat, Int.reduceAdd, Int.reduceSub, Int.reduceMul, Int.reduceNeg, Nat.reduceAdd, Nat.reduceMul, Nat.reduceSub, Nat.reduceEqDiff, Nat.reduceLT, ne_eq, not_false_eq_true, not_true_eq_false, true_and, and_true, and_self, yy_s_eq, yy_s_ne, yy_c_eq, yy_c_ne, yy_u_eq, yy_u_ne, xm_w_id, yy_at, tdiv_pos, tmod_pos]
        · simp (disch := first | omega | (unfold xm_w; omega)) only [↓zy_at, xm_O_some, xm_Oi_some, xm_Ov_some, xm_Oq_some, ↓reduceIte, ↓zz_t, ↓zz_f, ↓zi_t, ↓zi_f, eq_self, yy_d_0, Int.reduceEq, Int.reduceLT, Int.reduceLE, Int.reduceNe, Int.reduceToNat, Int.reduceAdd, Int.reduceSub, Int.reduceMul, Int.reduceNeg, Nat.reduceAdd, Nat.reduceMul, Nat.reduceSub, Nat.reduceEqDiff, Nat.reduceLT, ne_eq, not_false_eq_true, not_true_eq_false, true_and, and_true, and_self, yy_s_eq, yy_s_ne, yy_c_eq, yy_c_ne, yy_u_eq, yy_u_ne, xm_w_id, yy_at, tdiv_pos, tmod_pos]
        · simp (disch := first | omega | (unfold xm_w; omega)) only [↓zy_at, xm_O_some, xm_Oi_some, xm_Ov_some, xm_Oq_some, ↓reduceIte, ↓zz_t, ↓zz_f, ↓zi_t, ↓zi_f, eq_self, yy_d_0, Int.reduceEq, Int.reduceLT, Int.reduceLE, Int.reduceNe, Int.reduceToNat, Int.reduceAdd, Int.reduceSub, Int.reduceMul, Int.reduceNeg, Nat.reduceAdd, Nat.reduceMul, Nat.reduceSub, Nat.reduceEqDiff, Nat.reduceLT, ne_eq, not_false_eq_true, not_true_eq_false, true_and, and_true, and_self, yy_s_eq, yy_s_ne, yy_c_eq, yy_c_ne, yy_u_eq, yy_u_ne, xm_w_id, yy_at, tdiv_pos, tmod_pos]
        · simp (disch := first | omega | (unfold xm_w; omega)) only [↓zy_at, xm_O_some, xm_Oi_some, xm_Ov_some, xm_Oq_some, ↓reduceIte, ↓zz_t, ↓zz_f, ↓zi_t, ↓zi_f, eq_self, yy_d_0, Int.reduceEq, Int.reduceLT, Int.reduceLE, Int.reduceNe, Int.reduceToNat, Int.reduceAdd, Int.reduceSub, Int.reduceMul, Int.reduceNeg, Nat.reduceAdd, Nat.reduceMul, Nat.reduceSub, Nat.reduceEqDiff, Nat.reduceLT, ne_eq, not_false_eq_true, not_true_eq_false, true_and, and_true, and_self, yy_s_eq, yy_s_ne, yy_c_eq, yy_c_ne, yy_u_eq, yy_u_ne, xm_w_id, yy_at, tdiv_pos, tmod_pos]
      rw [ev] at e
      rw [e, xm_Oi_some]
      have fr : ∀ c, c ≠ 23 → c ≠ 24 → m1 c = m c := fun c h1 h2 => by rw [g1 c h2]; simp (disch := first | omega | (unfold xm_w; omega)) only [↓zy_at, xm_O_some, xm_Oi_some, xm_Ov_some, xm_Oq_some, ↓reduceIte, ↓zz_t, ↓zz_f, ↓zi_t, ↓zi_f, eq_self, yy_d_0, Int.reduceEq, Int.reduceLT, Int.reduceLE, Int.reduceNe, Int.reduceToNat, Int.reduceAdd, Int.reduceSub, Int.reduceMul, Int.reduceNeg, Nat.reduceAdd, Nat.reduceMul, Nat.reduceSub, Nat.reduceEqDiff, Nat.reduceLT, ne_eq, not_false_eq_true, not_true_eq_false, true_and, and_true, and_self, yy_s_eq, yy_s_ne, yy_c_eq, yy_c_ne, yy_u_eq, yy_u_ne, xm_w_id, yy_at, tdiv_pos, tmod_pos]
      have := hQ m1 fr
      unfold sg_s4 at this
      split
      · rename_i g; rw [if_pos g] at this; exact this
      · rename_i g; rw [if_neg g] at this
        first | exact this | (rw [tmod_pos (by omega)]; exact ⟨by decide, this⟩) | exact ⟨by decide, this⟩
  obtain ⟨q, h1, m', h2, h3⟩ := yx_of (y := 407) (M := xm_m407) (sc := sc) (d := d + 3) (as := [.inr (.inl (some 18)), .inr (.inl (some (25 + 2 * r))), .inl (w)]) (w := yy_W m t) (Q := fun q => ∃ m', q = (some (.inl (sg_told s r w (s (49 + 18 * r)))), yy_W m' t) ∧ (∀ c, c ≠ 23 → c ≠ 24 → m' c = m c)) rfl (key fun m' h => ⟨m', rfl, h⟩) (fun q ⟨m', h, _⟩ => by rw [h]; rfl) rfl (Nat.le_of_ble_eq_true rfl) (yy_hd rfl (by decide))
  exact ⟨m', by rw [h1, h2], h3⟩
set_option maxRecDepth 20000 in
theorem zc_sh_18 {m : Nat → Nat → Int} {t : xm_W} {K : xm_W → Prop} : xm_O (xm_copy (yy_W m t) 21 5 21 0 195) K = K (yy_W (yy_c m 21 (yy_cp (m 21) (m 21) 5 0 195)) t) := congrArg (fun x => xm_O x K) (yy_copy rfl rfl (by decide) (by decide) (by decide) (by decide) (by decide))
set_option maxRecDepth 20000 in
theorem c_408_18 {sc : List Int} {d : Nat} {t : xm_W} {m : Nat → Nat → Int} {r : Nat} {sh : Int} {s : Nat → Int} (hr : r < 5) (hM : yy_MR m 18 s) (hR : sg_R s) (h41 : s 3 = 40 → ∀ k, sg_clr (sg_K (sg_ap s (s (46 + 18 * r)) sh (sg_dp s r) (s 1) r) 1 (-1)) (sg_ap s (s (46 + 18 * r)) sh (sg_dp s r) (s 1) r) k = if k = 3 then 40 else if 134 ≤ k ∧ k < 334 then sg_ap s (s (46 + 18 * r)) sh (sg_dp s r) (s 1) r (k + 5) else sg_ap s (s (46 + 18 * r)) sh (sg_dp s r) (s 1) r k) : ∃ m', xm_X (xm_old sc) xm_mt (d + 2) 408 [.inr (.inl (some 18)), .inl ((r : Int)), .inr (.inl (some (25 + 2 * r))), .inl (sh)] (yy_W m t) = some (none, yy_W m' t) ∧ (∀ c, c ≠ 18 → c ≠ 21 → m' c = m c) ∧ yy_MR m' 18 (sg_le s (s (46 + 18 * r)) sh (sg_dp s r) (s 1) r) := by
  have key : ∀ {Q : Option xm_V × xm_W → Prop}, (∀ m', ((∀ c, c ≠ 18 → c ≠ 21 → m' c = m c) ∧ yy_MR m' 18 (sg_le s (s (46 + 18 * r)) sh (sg_dp s r) (s 1) r)) → Q (none, yy_W m' t)) → xm_EQ (xm_old sc) xm_sta (xm_X (xm_old sc) xm_mt (d + 1)) xm_m408.2.2.2.2.2.2.2 0 (xm_loc xm_m408.2.2.1 [.inr (.inl (some 18)), .inl ((r : Int)), .inr (.inl (some (25 + 2 * r))), .inl (sh)]) [] (yy_W m t) Q := by
    intro Q hQ
    obtain ⟨e1, e2, e3, e4, e5, e6, e7⟩ := id hM
    obtain ⟨b0, b1, b2, b3, hso, hrd⟩ := id hR
    obtain ⟨a0, a1, a2, a3, a4, a5, a6⟩ := hrd r hr
    have hq : yy_rd (25 + 2 * r) := yy_rdn25 hr
    have f0 : m (25 + 2 * r) 0 = s (44 + 18 * r) := (e7 r hr).1 0 (by decide)
    have f1 : m (25 + 2 * r) 1 = s (45 + 18 * r) := by rw [(e7 r hr).1 1 (by decide)]; congr 1; omega
    have f2 : m (25 + 2 * r) 2 = s (46 + 18 * r) := by rw [(e7 r hr).1 2 (by decide)]; congr 1; omega
    have f3 : m (25 + 2 * r) 3 = s (47 + 18 * r) := by rw [(e7 r hr).1 3 (by decide)]; congr 1; omega
    have hdp : sp_deep (s (44 + 18 * r)) (s (45 + 18 * r)) (s (47 + 18 * r)) = sg_dp s r := rfl
    refine xb_408_0 ?_
    by_cases g : s 3 < 40
    · have i0 : (s 3 * 5 + 0).toNat = 5 * (s 3).toNat := by omega
      have i1 : (s 3 * 5 + 1).toNat = 5 * (s 3).toNat + 1 := by omega
      have i2 : (s 3 * 5 + 2).toNat = 5 * (s 3).toNat + 2 := by omega
      have i3 : (s 3 * 5 + 3).toNat = 5 * (s 3).toNat + 3 := by omega
      have i4 : (s 3 * 5 + 4).toNat = 5 * (s 3).toNat + 4 := by omega
      simp (disch := first | omega | (unfold xm_w; omega)) only [↓zy_at, xm_O_some, xm_Oi_some, xm_Ov_some, xm_Oq_some, ↓reduceIte, ↓zz_t, ↓zz_f, ↓zi_t, ↓zi_f, eq_self, yy_d_0, Int.reduceEq, Int.reduceLT, Int.reduceLE, Int.reduceNe, Int.reduceToNat, Int.reduceAdd, Int.reduceSub, Int.reduceMul, Int.reduceNeg, Nat.reduceAdd, Nat.reduceMul, Nat.reduceSub, Nat.reduceEqDiff, Nat.reduceLT, ne_eq, not_false_eq_true, not_true_eq_false, true_and, and_true, and_self, yy_s_eq, yy_s_ne, yy_c_eq, yy_c_ne, yy_u_eq, yy_u_ne, xm_w_id, yy_at, tdiv_pos, tmod_pos, ↓zr_18_0, ↓zf_18_1, ↓zs_18_1, ↓zf_18_2, ↓zs_18_2, ↓zr_18_3, ↓zf_18_4, ↓zs_18_4, ↓zr_18_5, ↓zf_18_6, ↓zs_18_6, ↓zr_18_7, ↓zr_18_8, ↓zr_18_9, ↓zi_21, ↓zt_21, e4, e2, ↓gf_0 hq, ↓gf_1 hq, ↓gf_2 hq, ↓gf_3 hq, f0, f1, f2, f3, i0, i1, i2, i3, i4, ↓oc_153, hdp]
      have el : sg_le s (s (46 + 18 * r)) sh (sg_dp s r) (s 1) r = sg_ap s (s (46 + 18 * r)) sh (sg_dp s r) (s 1) r := by unfold sg_le; rw [if_neg (by omega)]
      have eo : ∀ k, k ≠ 3 → k < 134 → sg_ap s (s (46 + 18 * r)) sh (sg_dp s r) (s 1) r k = s k := fun k h1 h2 => sg_ap_o h1 (by omega)
      refine hQ _ ⟨fun c c1 c2 => by simp (disch := first | omega | (unfold xm_w; omega)) only [↓zy_at, xm_O_some, xm_Oi_some, xm_Ov_some, xm_Oq_some, ↓reduceIte, ↓zz_t, ↓zz_f, ↓zi_t, ↓zi_f, eq_self, yy_d_0, Int.reduceEq, Int.reduceLT, Int.reduceLE, Int.reduceNe, Int.reduceToNat, Int.reduceAdd, Int.reduceSub, Int.reduceMul, Int.reduceNeg, Nat.reduceAdd, Nat.reduceMul, Nat.reduceSub, Nat.reduceEqDiff, Nat.reduceLT, ne_eq, not_false_eq_true, not_true_eq_false, true_and, and_true, and_self, yy_s_eq, yy_s_ne, yy_c_eq, yy_c_ne, yy_u_eq, yy_u_ne, xm_w_id, yy_at, tdiv_pos, tmod_pos], ?_⟩
      rw [el]
      refine ⟨by simp (disch := first | omega | (unfold xm_w; omega)) only [↓zy_at, xm_O_some, xm_Oi_some, xm_Ov_some, xm_Oq_some, ↓reduceIte, ↓zz_t, ↓zz_f, ↓zi_t, ↓zi_f, eq_self, yy_d_0, Int.reduceEq, Int.reduceLT, Int.reduceLE, Int.reduceNe, Int.reduceToNat, Int.reduceAdd, Int.reduceSub, Int.reduceMul, Int.reduceNeg, Nat.reduceAdd, Nat.reduceMul, Nat.reduceSub, Nat.reduceEqDiff, Nat.reduceLT, ne_eq, not_false_eq_true, not_true_eq_false, true_and, and_true, and_self, yy_s_eq, yy_s_ne, yy_c_eq, yy_c_ne, yy_u_eq, yy_u_ne, xm_w_id, yy_at, tdiv_pos, tmod_pos]; rw [eo 2 (by decide) (by decide)]; exact e1, by simp (disch := first | omega | (unfold xm_w; omega)) only [↓zy_at, xm_O_some, xm_Oi_some, xm_Ov_some, xm_Oq_some, ↓reduceIte, ↓zz_t, ↓zz_f, ↓zi_t, ↓zi_f, eq_self, yy_d_0, Int.reduceEq, Int.reduceLT, Int.reduceLE, Int.reduceNe, Int.reduceToNat, Int.reduceAdd, Int.reduceSub, Int.reduceMul, Int.reduceNeg, Nat.reduceAdd, Nat.reduceMul, Nat.reduceSub, Nat.reduceEqDiff, Nat.reduceLT, ne_eq, not_false_eq_true, not_true_eq_false, true_and, and_true, and_self, yy_s_eq, yy_s_ne, yy_c_eq, yy_c_ne, yy_u_eq, yy_u_ne, xm_w_id, yy_at, tdiv_pos, tmod_pos]; rw [eo 1 (by decide) (by decide)]; exact e2, by simp (disch := first | omega | (unfold xm_w; omega)) only [↓zy_at, xm_O_some, xm_Oi_some, xm_Ov_some, xm_Oq_some, ↓reduceIte, ↓zz_t, ↓zz_f, ↓zi_t, ↓zi_f, eq_self, yy_d_0, Int.reduceEq, Int.reduceLT, Int.reduceLE, Int.reduceNe, Int.reduceToNat, Int.reduceAdd, Int.reduceSub, Int.reduceMul, Int.reduceNeg, Nat.reduceAdd, Nat.reduceMul, Nat.reduceSub, Nat.reduceEqDiff, Nat.reduceLT, ne_eq, not_false_eq_true, not_true_eq_false, true_and, and_true, and_self, yy_s_eq, yy_s_ne, yy_c_eq, yy_c_ne, yy_u_eq, yy_u_ne, xm_w_id, yy_at, tdiv_pos, tmod_pos]; rw [eo 0 (by decide) (by decide)]; exact e3, by simp (disch := first | omega | (unfold xm_w; omega)) only [↓zy_at, xm_O_some, xm_Oi_some, xm_Ov_some, xm_Oq_some, ↓reduceIte, ↓zz_t, ↓zz_f, ↓zi_t, ↓zi_f, eq_self, yy_d_0, Int.reduceEq, Int.reduceLT, Int.reduceLE, Int.reduceNe, Int.reduceToNat, Int.reduceAdd, Int.reduceSub, Int.reduceMul, Int.reduceNeg, Nat.reduceAdd, Nat.reduceMul, Nat.reduceSub, Nat.reduceEqDiff, Nat.reduceLT, ne_eq, not_false_eq_true, not_true_eq_false, true_and, and_true, and_self, yy_s_eq, yy_s_ne, yy_c_eq, yy_c_ne, yy_u_eq, yy_u_ne, xm_w_id, yy_at, tdiv_pos, tmod_pos]; rw [sg_ap_3], fun k hk => by simp (disch := first | omega | (unfold xm_w; omega)) only [↓zy_at, xm_O_some, xm_Oi_some, xm_Ov_some, xm_Oq_some, ↓reduceIte, ↓zz_t, ↓zz_f, ↓zi_t, ↓zi_f, eq_self, yy_d_0, Int.reduceEq, Int.reduceLT, Int.reduceLE, Int.reduceNe, Int.reduceToNat, Int.reduceAdd, Int.reduceSub, Int.reduceMul, Int.reduceNeg, Nat.reduceAdd, Nat.reduceMul, Nat.reduceSub, Nat.reduceEqDiff, Nat.reduceLT, ne_eq, not_false_eq_true, not_true_eq_false, true_and, and_true, and_self, yy_s_eq, yy_s_ne, yy_c_eq, yy_c_ne, yy_u_eq, yy_u_ne, xm_w_id, yy_at, tdiv_pos, tmod_pos]; rw [eo _ (by omega) (by omega)]; exact e5 k hk, fun k hk => ?_, fun i hi => ⟨fun k hk => by simp (disch := first | omega | (unfold xm_w; omega)) only [↓zy_at, xm_O_some, xm_Oi_some, xm_Ov_some, xm_Oq_some, ↓reduceIte, ↓zz_t, ↓zz_f, ↓zi_t, ↓zi_f, eq_self, yy_d_0, Int.reduceEq, Int.reduceLT, Int.reduceLE, Int.reduceNe, Int.reduceToNat, Int.reduceAdd, Int.reduceSub, Int.reduceMul, Int.reduceNeg, Nat.reduceAdd, Nat.reduceMul, Nat.reduceSub, Nat.reduceEqDiff, Nat.reduceLT, ne_eq, not_false_eq_true, not_true_eq_false, true_and, and_true, and_self, yy_s_eq, yy_s_ne, yy_c_eq, yy_c_ne, yy_u_eq, yy_u_ne, xm_w_id, yy_at, tdiv_pos, tmod_pos]; rw [eo _ (by omega) (by omega)]; exact (e7 i hi).1 k hk, fun k hk => by simp (disch := first | omega | (unfold xm_w; omega)) only [↓zy_at, xm_O_some, xm_Oi_some, xm_Ov_some, xm_Oq_some, ↓reduceIte, ↓zz_t, ↓zz_f, ↓zi_t, ↓zi_f, eq_self, yy_d_0, Int.reduceEq, Int.reduceLT, Int.reduceLE, Int.reduceNe, Int.reduceToNat, Int.reduceAdd, Int.reduceSub, Int.reduceMul, Int.reduceNeg, Nat.reduceAdd, Nat.reduceMul, Nat.reduceSub, Nat.reduceEqDiff, Nat.reduceLT, ne_eq, not_false_eq_true, not_true_eq_false, true_and, and_true, and_self, yy_s_eq, yy_s_ne, yy_c_eq, yy_c_ne, yy_u_eq, yy_u_ne, xm_w_id, yy_at, tdiv_pos, tmod_pos]; rw [eo _ (by omega) (by omega)]; exact (e7 i hi).2 k hk⟩⟩
      simp (disch := first | omega | (unfold xm_w; omega)) only [↓zy_at, xm_O_some, xm_Oi_some, xm_Ov_some, xm_Oq_some, ↓reduceIte, ↓zz_t, ↓zz_f, ↓zi_t, ↓zi_f, eq_self, yy_d_0, Int.reduceEq, Int.reduceLT, Int.reduceLE, Int.reduceNe, Int.reduceToNat, Int.reduceAdd, Int.reduceSub, Int.reduceMul, Int.reduceNeg, Nat.reduceAdd, Nat.reduceMul, Nat.reduceSub, Nat.reduceEqDiff, Nat.reduceLT, ne_eq, not_false_eq_true, not_true_eq_false, true_and, and_true, and_self, yy_s_eq, yy_s_ne, yy_c_eq, yy_c_ne, yy_u_eq, yy_u_ne, xm_w_id, yy_at, tdiv_pos, tmod_pos]
      unfold sg_ap yy_u
      have := e6 k hk
      repeat' split
      all_goals first | rfl | omega
    · have g3 : s 3 = 40 := by omega
      simp (disch := first | omega | (unfold xm_w; omega)) only [↓zy_at, xm_O_some, xm_Oi_some, xm_Ov_some, xm_Oq_some, ↓reduceIte, ↓zz_t, ↓zz_f, ↓zi_t, ↓zi_f, eq_self, yy_d_0, Int.reduceEq, Int.reduceLT, Int.reduceLE, Int.reduceNe, Int.reduceToNat, Int.reduceAdd, Int.reduceSub, Int.reduceMul, Int.reduceNeg, Nat.reduceAdd, Nat.reduceMul, Nat.reduceSub, Nat.reduceEqDiff, Nat.reduceLT, ne_eq, not_false_eq_true, not_true_eq_false, true_and, and_true, and_self, yy_s_eq, yy_s_ne, yy_c_eq, yy_c_ne, yy_u_eq, yy_u_ne, xm_w_id, yy_at, tdiv_pos, tmod_pos, ↓zr_18_0, ↓zf_18_1, ↓zs_18_1, ↓zf_18_2, ↓zs_18_2, ↓zr_18_3, ↓zf_18_4, ↓zs_18_4, ↓zr_18_5, ↓zf_18_6, ↓zs_18_6, ↓zr_18_7, ↓zr_18_8, ↓zr_18_9, ↓zi_21, ↓zt_21, e4, e2, ↓gf_0 hq, ↓gf_1 hq, ↓gf_2 hq, ↓gf_3 hq, f0, f1, f2, f3, ↓oc_153, hdp, ↓zc_sh_18]
      have n40 : (s 3).toNat = 40 := by omega
      have el : sg_le s (s (46 + 18 * r)) sh (sg_dp s r) (s 1) r = sg_clr (sg_K (sg_ap s (s (46 + 18 * r)) sh (sg_dp s r) (s 1) r) 1 (-1)) (sg_ap s (s (46 + 18 * r)) sh (sg_dp s r) (s 1) r) := by unfold sg_le; rw [if_pos (by omega)]
      have h42 := h41 g3
      have eo : ∀ k, k ≠ 3 → k < 134 → sg_clr (sg_K (sg_ap s (s (46 + 18 * r)) sh (sg_dp s r) (s 1) r) 1 (-1)) (sg_ap s (s (46 + 18 * r)) sh (sg_dp s r) (s 1) r) k = s k := fun k h1 h2 => by
        rw [h42, if_neg h1, if_neg (by omega)]; exact sg_ap_o h1 (by omega)
      refine hQ _ ⟨fun c c1 c2 => by simp (disch := first | omega | (unfold xm_w; omega)) only [↓zy_at, xm_O_some, xm_Oi_some, xm_Ov_some, xm_Oq_some, ↓reduceIte, ↓zz_t, ↓zz_f, ↓zi_t, ↓zi_f, eq_self, yy_d_0, Int.reduceEq, Int.reduceLT, Int.reduceLE, Int.reduceNe, Int.reduceToNat, Int.reduceAdd, Int.reduceSub, Int.reduceMul, Int.reduceNeg, Nat.reduceAdd, Nat.reduceMul, Nat.reduceSub, Nat.reduceEqDiff, Nat.reduceLT, ne_eq, not_false_eq_true, not_true_eq_false, true_and, and_true, and_self, yy_s_eq, yy_s_ne, yy_c_eq, yy_c_ne, yy_u_eq, yy_u_ne, xm_w_id, yy_at, tdiv_pos, tmod_pos], ?_⟩
      rw [el]
      refine ⟨by simp (disch := first | omega | (unfold xm_w; omega)) only [↓zy_at, xm_O_some, xm_Oi_some, xm_Ov_some, xm_Oq_some, ↓reduceIte, ↓zz_t, ↓zz_f, ↓zi_t, ↓zi_f, eq_self, yy_d_0, Int.reduceEq, Int.reduceLT, Int.reduceLE, Int.reduceNe, Int.reduceToNat, Int.reduceAdd, Int.reduceSub, Int.reduceMul, Int.reduceNeg, Nat.reduceAdd, Nat.reduceMul, Nat.reduceSub, Nat.reduceEqDiff, Nat.reduceLT, ne_eq, not_false_eq_true, not_true_eq_false, true_and, and_true, and_self, yy_s_eq, yy_s_ne, yy_c_eq, yy_c_ne, yy_u_eq, yy_u_ne, xm_w_id, yy_at, tdiv_pos, tmod_pos]; rw [eo 2 (by decide) (by decide)]; exact e1, by simp (disch := first | omega | (unfold xm_w; omega)) only [↓zy_at, xm_O_some, xm_Oi_some, xm_Ov_some, xm_Oq_some, ↓reduceIte, ↓zz_t, ↓zz_f, ↓zi_t, ↓zi_f, eq_self, yy_d_0, Int.reduceEq, Int.reduceLT, Int.reduceLE, Int.reduceNe, Int.reduceToNat, Int.reduceAdd, Int.reduceSub, Int.reduceMul, Int.reduceNeg, Nat.reduceAdd, Nat.reduceMul, Nat.reduceSub, Nat.reduceEqDiff, Nat.reduceLT, ne_eq, not_false_eq_true, not_true_eq_false, true_and, and_true, and_self, yy_s_eq, yy_s_ne, yy_c_eq, yy_c_ne, yy_u_eq, yy_u_ne, xm_w_id, yy_at, tdiv_pos, tmod_pos]; rw [eo 1 (by decide) (by decide)]; exact e2, by simp (disch := first | omega | (unfold xm_w; omega)) only [↓zy_at, xm_O_some, xm_Oi_some, xm_Ov_some, xm_Oq_some, ↓reduceIte, ↓zz_t, ↓zz_f, ↓zi_t, ↓zi_f, eq_self, yy_d_0, Int.reduceEq, Int.reduceLT, Int.reduceLE, Int.reduceNe, Int.reduceToNat, Int.reduceAdd, Int.reduceSub, Int.reduceMul, Int.reduceNeg, Nat.reduceAdd, Nat.reduceMul, Nat.reduceSub, Nat.reduceEqDiff, Nat.reduceLT, ne_eq, not_false_eq_true, not_true_eq_false, true_and, and_true, and_self, yy_s_eq, yy_s_ne, yy_c_eq, yy_c_ne, yy_u_eq, yy_u_ne, xm_w_id, yy_at, tdiv_pos, tmod_pos]; rw [eo 0 (by decide) (by decide)]; exact e3, by simp (disch := first | omega | (unfold xm_w; omega)) only [↓zy_at, xm_O_some, xm_Oi_some, xm_Ov_some, xm_Oq_some, ↓reduceIte, ↓zz_t, ↓zz_f, ↓zi_t, ↓zi_f, eq_self, yy_d_0, Int.reduceEq, Int.reduceLT, Int.reduceLE, Int.reduceNe, Int.reduceToNat, Int.reduceAdd, Int.reduceSub, Int.reduceMul, Int.reduceNeg, Nat.reduceAdd, Nat.reduceMul, Nat.reduceSub, Nat.reduceEqDiff, Nat.reduceLT, ne_eq, not_false_eq_true, not_true_eq_false, true_and, and_true, and_self, yy_s_eq, yy_s_ne, yy_c_eq, yy_c_ne, yy_u_eq, yy_u_ne, xm_w_id, yy_at, tdiv_pos, tmod_pos]; rw [h42, if_pos rfl], fun k hk => by simp (disch := first | omega | (unfold xm_w; omega)) only [↓zy_at, xm_O_some, xm_Oi_some, xm_Ov_some, xm_Oq_some, ↓reduceIte, ↓zz_t, ↓zz_f, ↓zi_t, ↓zi_f, eq_self, yy_d_0, Int.reduceEq, Int.reduceLT, Int.reduceLE, Int.reduceNe, Int.reduceToNat, Int.reduceAdd, Int.reduceSub, Int.reduceMul, Int.reduceNeg, Nat.reduceAdd, Nat.reduceMul, Nat.reduceSub, Nat.reduceEqDiff, Nat.reduceLT, ne_eq, not_false_eq_true, not_true_eq_false, true_and, and_true, and_self, yy_s_eq, yy_s_ne, yy_c_eq, yy_c_ne, yy_u_eq, yy_u_ne, xm_w_id, yy_at, tdiv_pos, tmod_pos]; rw [eo _ (by omega) (by omega)]; exact e5 k hk, fun k hk => ?_, fun i hi => ⟨fun k hk => by simp (disch := first | omega | (unfold xm_w; omega)) only [↓zy_at, xm_O_some, xm_Oi_some, xm_Ov_some, xm_Oq_some, ↓reduceIte, ↓zz_t, ↓zz_f, ↓zi_t, ↓zi_f, eq_self, yy_d_0, Int.reduceEq, Int.reduceLT, Int.reduceLE, Int.reduceNe, Int.reduceToNat, Int.reduceAdd, Int.reduceSub, Int.reduceMul, Int.reduceNeg, Nat.reduceAdd, Nat.reduceMul, Nat.reduceSub, Nat.reduceEqDiff, Nat.reduceLT, ne_eq, not_false_eq_true, not_true_eq_false, true_and, and_true, and_self, yy_s_eq, yy_s_ne, yy_c_eq, yy_c_ne, yy_u_eq, yy_u_ne, xm_w_id, yy_at, tdiv_pos, tmod_pos]; rw [eo _ (by omega) (by omega)]; exact (e7 i hi).1 k hk, fun k hk => by simp (disch := first | omega | (unfold xm_w; omega)) only [↓zy_at, xm_O_some, xm_Oi_some, xm_Ov_some, xm_Oq_some, ↓reduceIte, ↓zz_t, ↓zz_f, ↓zi_t, ↓zi_f, eq_self, yy_d_0, Int.reduceEq, Int.reduceLT, Int.reduceLE, Int.reduceNe, Int.reduceToNat, Int.reduceAdd, Int.reduceSub, Int.reduceMul, Int.reduceNeg, Nat.reduceAdd, Nat.reduceMul, Nat.reduceSub, Nat.reduceEqDiff, Nat.reduceLT, ne_eq, not_false_eq_true, not_true_eq_false, true_and, and_true, and_self, yy_s_eq, yy_s_ne, yy_c_eq, yy_c_ne, yy_u_eq, yy_u_ne, xm_w_id, yy_at, tdiv_pos, tmod_pos]; rw [eo _ (by omega) (by omega)]; exact (e7 i hi).2 k hk⟩⟩
      rw [h42, if_neg (by omega), if_pos (by omega)]
      rcases (show k < 195 ∨ k = 195 ∨ k = 196 ∨ k = 197 ∨ k = 198 ∨ k = 199 by omega) with h | h | h | h | h | h
      · simp (disch := first | omega | (unfold xm_w; omega)) only [↓zy_at, xm_O_some, xm_Oi_some, xm_Ov_some, xm_Oq_some, ↓reduceIte, ↓zz_t, ↓zz_f, ↓zi_t, ↓zi_f, eq_self, yy_d_0, Int.reduceEq, Int.reduceLT, Int.reduceLE, Int.reduceNe, Int.reduceToNat, Int.reduceAdd, Int.reduceSub, Int.reduceMul, Int.reduceNeg, Nat.reduceAdd, Nat.reduceMul, Nat.reduceSub, Nat.reduceEqDiff, Nat.reduceLT, ne_eq, not_false_eq_true, not_true_eq_false, true_and, and_true, and_self, yy_s_eq, yy_s_ne, yy_c_eq, yy_c_ne, yy_u_eq, yy_u_ne, xm_w_id, yy_at, tdiv_pos, tmod_pos]
        rw [sg_ap_o (by omega) (by omega)]
        unfold yy_cp
        rw [if_pos (by omega), e6 _ (by omega)]
        congr 1; omega
      · subst h; simp (disch := first | omega | (unfold xm_w; omega)) only [↓zy_at, xm_O_some, xm_Oi_some, xm_Ov_some, xm_Oq_some, ↓reduceIte, ↓zz_t, ↓zz_f, ↓zi_t, ↓zi_f, eq_self, yy_d_0, Int.reduceEq, Int.reduceLT, Int.reduceLE, Int.reduceNe, Int.reduceToNat, Int.reduceAdd, Int.reduceSub, Int.reduceMul, Int.reduceNeg, Nat.reduceAdd, Nat.reduceMul, Nat.reduceSub, Nat.reduceEqDiff, Nat.reduceLT, ne_eq, not_false_eq_true, not_true_eq_false, true_and, and_true, and_self, yy_s_eq, yy_s_ne, yy_c_eq, yy_c_ne, yy_u_eq, yy_u_ne, xm_w_id, yy_at, tdiv_pos, tmod_pos]; unfold sg_ap yy_u; rw [n40]; rfl
      · subst h; simp (disch := first | omega | (unfold xm_w; omega)) only [↓zy_at, xm_O_some, xm_Oi_some, xm_Ov_some, xm_Oq_some, ↓reduceIte, ↓zz_t, ↓zz_f, ↓zi_t, ↓zi_f, eq_self, yy_d_0, Int.reduceEq, Int.reduceLT, Int.reduceLE, Int.reduceNe, Int.reduceToNat, Int.reduceAdd, Int.reduceSub, Int.reduceMul, Int.reduceNeg, Nat.reduceAdd, Nat.reduceMul, Nat.reduceSub, Nat.reduceEqDiff, Nat.reduceLT, ne_eq, not_false_eq_true, not_true_eq_false, true_and, and_true, and_self, yy_s_eq, yy_s_ne, yy_c_eq, yy_c_ne, yy_u_eq, yy_u_ne, xm_w_id, yy_at, tdiv_pos, tmod_pos]; unfold sg_ap yy_u; rw [n40]; rfl
      · subst h; simp (disch := first | omega | (unfold xm_w; omega)) only [↓zy_at, xm_O_some, xm_Oi_some, xm_Ov_some, xm_Oq_some, ↓reduceIte, ↓zz_t, ↓zz_f, ↓zi_t, ↓zi_f, eq_self, yy_d_0, Int.reduceEq, Int.reduceLT, Int.reduceLE, Int.reduceNe, Int.reduceToNat, Int.reduceAdd, Int.reduceSub, Int.reduceMul, Int.reduceNeg, Nat.reduceAdd, Nat.reduceMul, Nat.reduceSub, Nat.reduceEqDiff, Nat.reduceLT, ne_eq, not_false_eq_true, not_true_eq_false, true_and, and_true, and_self, yy_s_eq, yy_s_ne, yy_c_eq, yy_c_ne, yy_u_eq, yy_u_ne, xm_w_id, yy_at, tdiv_pos, tmod_pos]; unfold sg_ap yy_u; rw [n40]; rfl
      · subst h; simp (disch := first | omega | (unfold xm_w; omega)) only [↓zy_at, xm_O_some, xm_Oi_some, xm_Ov_some, xm_Oq_some, ↓reduceIte, ↓zz_t, ↓zz_f, ↓zi_t, ↓zi_f, eq_self, yy_d_0, Int.reduceEq, Int.reduceLT, Int.reduceLE, Int.reduceNe, Int.reduceToNat, Int.reduceAdd, Int.reduceSub, Int.reduceMul, Int.reduceNeg, Nat.reduceAdd, Nat.reduceMul, Nat.reduceSub, Nat.reduceEqDiff, Nat.reduceLT, ne_eq, not_false_eq_true, not_true_eq_false, true_and, and_true, and_self, yy_s_eq, yy_s_ne, yy_c_eq, yy_c_ne, yy_u_eq, yy_u_ne, xm_w_id, yy_at, tdiv_pos, tmod_pos]; unfold sg_ap yy_u; rw [n40]; rfl
      · subst h; simp (disch := first | omega | (unfold xm_w; omega)) only [↓zy_at, xm_O_some, xm_Oi_some, xm_Ov_some, xm_Oq_some, ↓reduceIte, ↓zz_t, ↓zz_f, ↓zi_t, ↓zi_f, eq_self, yy_d_0, Int.reduceEq, Int.reduceLT, Int.reduceLE, Int.reduceNe, Int.reduceToNat, Int.reduceAdd, Int.reduceSub, Int.reduceMul, Int.reduceNeg, Nat.reduceAdd, Nat.reduceMul, Nat.reduceSub, Nat.reduceEqDiff, Nat.reduceLT, ne_eq, not_false_eq_true, not_true_eq_false, true_and, and_true, and_self, yy_s_eq, yy_s_ne, yy_c_eq, yy_c_ne, yy_u_eq, yy_u_ne, xm_w_id, yy_at, tdiv_pos, tmod_pos]; unfold sg_ap yy_u; rw [n40]; rfl
  obtain ⟨q, h1, m', h2, h3⟩ := yx_of (y := 408) (M := xm_m408) (sc := sc) (d := d + 1) (as := [.inr (.inl (some 18)), .inl ((r : Int)), .inr (.inl (some (25 + 2 * r))), .inl (sh)]) (w := yy_W m t) (Q := fun q => ∃ m', q = (none, yy_W m' t) ∧ ((∀ c, c ≠ 18 → c ≠ 21 → m' c = m c) ∧ yy_MR m' 18 (sg_le s (s (46 + 18 * r)) sh (sg_dp s r) (s 1) r))) rfl (key fun m' h => ⟨m', rfl, h⟩) (fun q ⟨m', h, _⟩ => by rw [h]; rfl) rfl (Nat.le_of_ble_eq_true rfl) (yy_hd rfl (by decide))
  exact ⟨m', by rw [h1, h2], h3⟩
end
section
/-! a Moor with its texts and what holds of its row -/
def yy_MX (t : xm_W) (m : Nat → Nat → Int) (b : Nat) (s : Nat → Int) : Prop := yy_MR m b s ∧ yy_TX t s 0 (m (b + 4) 0) ∧ yy_TX t s 1 (m (b + 4) 1)
set_option maxRecDepth 20000 in
theorem yy_TC_eq {t : xm_W} {s s' : Nat → Int} {u a a' : Nat} (hu : u < 2) (hs : sg_tn s u ≤ 60) (h : ∀ k, 339 ≤ k → k < 589 → s' k = s k) (hC : yy_TC t s u a a') : yy_TC t s' u a a' := by
  have hn : sg_tn s' u = sg_tn s u := h _ (by omega) (by omega)
  refine ⟨hC.1, ?_⟩
  rw [hC.2, hn]
  refine congrArg (fun l => some (Sum.inl l)) (yy_R_congr fun k hk => ?_)
  have e1 : sg_tw s' u k = sg_tw s u k := h _ (by omega) (by omega)
  have e2 : sg_tv s' u k = sg_tv s u k := h _ (by omega) (by omega)
  unfold sg_sg
  rw [e1, e2]
set_option maxRecDepth 20000 in
theorem yy_TX_eq {t : xm_W} {s s' : Nat → Int} {u : Nat} {z : Int} (hu : u < 2) (hs : sg_tn s u ≤ 60) (h : ∀ k, 339 ≤ k → k < 589 → s' k = s k) (hX : yy_TX t s u z) : yy_TX t s' u z := by
  have hn : sg_tn s' u = sg_tn s u := h _ (by omega) (by omega)
  rcases hX with ⟨h0, hz⟩ | ⟨h0, a, a', hz, hC⟩
  · exact Or.inl ⟨by rw [hn]; exact h0, hz⟩
  · exact Or.inr ⟨by rw [hn]; exact h0, a, a', hz, yy_TC_eq hu hs h hC⟩
set_option maxRecDepth 20000 in
theorem sg_lv_le {s : Nat → Int} {r : Nat} {w step : Int} (h1 : ¬ sg_sh s r w step = -1) (h2 : ¬ sg_k s (s (46 + 18 * r)) = 0) : sg_lv s r w step = sg_le s (s (46 + 18 * r)) (sg_sh s r w step) (sg_dp s r) (s 1) r := by
  unfold sg_lv sg_le
  rw [if_neg (by omega)]
set_option maxRecDepth 20000 in
theorem sg_lv_s {s : Nat → Int} {r : Nat} {w step : Int} (h : sg_sh s r w step = -1 ∨ sg_k s (s (46 + 18 * r)) = 0) : sg_lv s r w step = s := by
  unfold sg_lv; rw [if_pos h]
/-! a rider's cell and step, behind a print -/
set_option maxRecDepth 20000 in
theorem yy_MR_rd_1 {m : Nat → Nat → Int} {s : Nat → Int} {r : Nat} {c p : Int} (hr : r < 5) (hM : yy_MR m 1 s) : yy_MR (yy_s (yy_s m (8 + 2 * r) 2 c) (8 + 2 * r) 5 p) 1 (yy_u (yy_u s (46 + 18 * r) c) (49 + 18 * r) p) := by
  obtain ⟨e1, e2, e3, e4, e5, e6, e7⟩ := hM
  have o : ∀ k, k ≠ 46 + 18 * r → k ≠ 49 + 18 * r → yy_u (yy_u s (46 + 18 * r) c) (49 + 18 * r) p k = s k := fun k h1 h2 => by rw [yy_u_ne h2, yy_u_ne h1]
  refine ⟨by rw [o _ (by omega) (by omega)]; simp (disch := first | omega | (unfold xm_w; omega)) only [↓zy_at, xm_O_some, xm_Oi_some, xm_Ov_some, xm_Oq_some, ↓reduceIte, ↓zz_t, ↓zz_f, ↓zi_t, ↓zi_f, eq_self, yy_d_0, Int.reduceEq, Int.reduceLT, Int.reduceLE, Int.reduceNe, Int.reduceToNat, Int.reduceAdd, Int.reduceSub, Int.reduceMul, Int.reduceNeg, Nat.reduceAdd, Nat.reduceMul, Nat.reduceSub, Nat.reduceEqDiff, Nat.reduceLT, ne_eq, not_false_eq_true, not_true_eq_false, true_and, and_true, and_self, yy_s_eq, yy_s_ne, yy_c_eq, yy_c_ne, yy_u_eq, yy_u_ne, xm_w_id, yy_at, tdiv_pos, tmod_pos]; exact e1, by rw [o _ (by omega) (by omega)]; simp (disch := first | omega | (unfold xm_w; omega)) only [↓zy_at, xm_O_some, xm_Oi_some, xm_Ov_some, xm_Oq_some, ↓reduceIte, ↓zz_t, ↓zz_f, ↓zi_t, ↓zi_f, eq_self, yy_d_0, Int.reduceEq, Int.reduceLT, Int.reduceLE, Int.reduceNe, Int.reduceToNat, Int.reduceAdd, Int.reduceSub, Int.reduceMul, Int.reduceNeg, Nat.reduceAdd, Nat.reduceMul, Nat.reduceSub, Nat.reduceEqDiff, Nat.reduceLT, ne_eq, not_false_eq_true, not_true_eq_false, true_and, and_true, and_self, yy_s_eq, yy_s_ne, yy_c_eq, yy_c_ne, yy_u_eq, yy_u_ne, xm_w_id, yy_at, tdiv_pos, tmod_pos]; exact e2, by rw [o _ (by omega) (by omega)]; simp (disch := first | omega | (unfold xm_w; omega)) only [↓zy_at, xm_O_some, xm_Oi_some, xm_Ov_some, xm_Oq_some, ↓reduceIte, ↓zz_t, ↓zz_f, ↓zi_t, ↓zi_f, eq_self, yy_d_0, Int.reduceEq, Int.reduceLT, Int.reduceLE, Int.reduceNe, Int.reduceToNat, Int.reduceAdd, Int.reduceSub, Int.reduceMul, Int.reduceNeg, Nat.reduceAdd, Nat.reduceMul, Nat.reduceSub, Nat.reduceEqDiff, Nat.reduceLT, ne_eq, not_false_eq_true, not_true_eq_false, true_and, and_true, and_self, yy_s_eq, yy_s_ne, yy_c_eq, yy_c_ne, yy_u_eq, yy_u_ne, xm_w_id, yy_at, tdiv_pos, tmod_pos]; exact e3, by rw [o _ (by omega) (by omega)]; simp (disch := first | omega | (unfold xm_w; omega)) only [↓zy_at, xm_O_some, xm_Oi_some, xm_Ov_some, xm_Oq_some, ↓reduceIte, ↓zz_t, ↓zz_f, ↓zi_t, ↓zi_f, eq_self, yy_d_0, Int.reduceEq, Int.reduceLT, Int.reduceLE, Int.reduceNe, Int.reduceToNat, Int.reduceAdd, Int.reduceSub, Int.reduceMul, Int.reduceNeg, Nat.reduceAdd, Nat.reduceMul, Nat.reduceSub, Nat.reduceEqDiff, Nat.reduceLT, ne_eq, not_false_eq_true, not_true_eq_false, true_and, and_true, and_self, yy_s_eq, yy_s_ne, yy_c_eq, yy_c_ne, yy_u_eq, yy_u_ne, xm_w_id, yy_at, tdiv_pos, tmod_pos]; exact e4, fun k hk => by rw [o _ (by omega) (by omega)]; simp (disch := first | omega | (unfold xm_w; omega)) only [↓zy_at, xm_O_some, xm_Oi_some, xm_Ov_some, xm_Oq_some, ↓reduceIte, ↓zz_t, ↓zz_f, ↓zi_t, ↓zi_f, eq_self, yy_d_0, Int.reduceEq, Int.reduceLT, Int.reduceLE, Int.reduceNe, Int.reduceToNat, Int.reduceAdd, Int.reduceSub, Int.reduceMul, Int.reduceNeg, Nat.reduceAdd, Nat.reduceMul, Nat.reduceSub, Nat.reduceEqDiff, Nat.reduceLT, ne_eq, not_false_eq_true, not_true_eq_false, true_and, and_true, and_self, yy_s_eq, yy_s_ne, yy_c_eq, yy_c_ne, yy_u_eq, yy_u_ne, xm_w_id, yy_at, tdiv_pos, tmod_pos]; exact e5 k hk, fun k hk => by rw [o _ (by omega) (by omega)]; simp (disch := first | omega | (unfold xm_w; omega)) only [↓zy_at, xm_O_some, xm_Oi_some, xm_Ov_some, xm_Oq_some, ↓reduceIte, ↓zz_t, ↓zz_f, ↓zi_t, ↓zi_f, eq_self, yy_d_0, Int.reduceEq, Int.reduceLT, Int.reduceLE, Int.reduceNe, Int.reduceToNat, Int.reduceAdd, Int.reduceSub, Int.reduceMul, Int.reduceNeg, Nat.reduceAdd, Nat.reduceMul, Nat.reduceSub, Nat.reduceEqDiff, Nat.reduceLT, ne_eq, not_false_eq_true, not_true_eq_false, true_and, and_true, and_self, yy_s_eq, yy_s_ne, yy_c_eq, yy_c_ne, yy_u_eq, yy_u_ne, xm_w_id, yy_at, tdiv_pos, tmod_pos]; exact e6 k hk, fun i hi => ⟨fun k hk => ?_, fun k hk => ?_⟩⟩
  · by_cases e : i = r
    · subst e
      rw [yy_s_s, yy_c_eq]
      by_cases k5 : k = 5
      · subst k5; rw [yy_u_eq, show 44 + 18 * i + 5 = 49 + 18 * i by omega, yy_u_eq]
      · by_cases k2 : k = 2
        · subst k2; rw [yy_u_ne (by decide), yy_u_eq, show 44 + 18 * i + 2 = 46 + 18 * i by omega, yy_u_ne (by omega), yy_u_eq]
        · rw [yy_u_ne k5, yy_u_ne k2, o _ (by omega) (by omega)]; exact (e7 i hi).1 k hk
    · rw [o _ (by omega) (by omega), yy_s_ne (by omega), yy_s_ne (by omega)]; exact (e7 i hi).1 k hk
  · rw [o _ (by omega) (by omega), yy_s_ne (by omega), yy_s_ne (by omega)]; exact (e7 i hi).2 k hk
set_option maxRecDepth 20000 in
theorem yy_MR_r1_1 {m : Nat → Nat → Int} {s : Nat → Int} {r : Nat} {p : Int} (hr : r < 5) (hM : yy_MR m 1 s) : yy_MR (yy_s m (8 + 2 * r) 5 p) 1 (yy_u s (49 + 18 * r) p) := by
  have := yy_MR_rd_1 (c := s (46 + 18 * r)) (p := p) hr hM
  have e : s (46 + 18 * r) = m (8 + 2 * r) 2 := by rw [(hM.2.2.2.2.2.2 r hr).1 2 (by decide)]; congr 1; omega
  rw [yy_u_id] at this
  rw [e, yy_s_id] at this
  exact this
set_option maxRecDepth 20000 in
theorem c_406_1 {sc : List Int} {d : Nat} {t : xm_W} {m : Nat → Nat → Int} {r : Nat} {s : Nat → Int} (hr : r < 5) (hM : yy_MX t m 1 s) (hW : sg_W s r) (hst : s (49 + 18 * r) < s (48 + 18 * r)) : ∃ m', xm_X (xm_old sc) xm_mt (d + 5) 406 [.inr (.inl (some 1)), .inl ((r : Int)), .inr (.inl (some (8 + 2 * r)))] (yy_W m t) = some (none, yy_W m' t) ∧ yy_Fb m m' 1 ∧ yy_MR m' 1 (sg_rd s r) := by
  have key : ∀ {Q : Option xm_V × xm_W → Prop}, (∀ m', (yy_Fb m m' 1 ∧ yy_MR m' 1 (sg_rd s r)) → Q (none, yy_W m' t)) → xm_EQ (xm_old sc) xm_sta (xm_X (xm_old sc) xm_mt (d + 4)) xm_m406.2.2.2.2.2.2.2 0 (xm_loc xm_m406.2.2.1 [.inr (.inl (some 1)), .inl ((r : Int)), .inr (.inl (some (8 + 2 * r)))]) [] (yy_W m t) Q := by
    intro Q hQ
    obtain ⟨hR, hO, hS, hT, hT1⟩ := id hW
    have hw := sg_way_r hr hR hst
    obtain ⟨hMR, hX, hX1⟩ := id hM
    obtain ⟨e1, e2, e3, e4, e5, e6, e7⟩ := id hMR
    obtain ⟨b0, b1, b2, b3, hso, hrd⟩ := id hR
    obtain ⟨a0, a1, a2, a3, a4, a5, a6⟩ := hrd r hr
    have hq : yy_rd (8 + 2 * r) := yy_rdn8 hr
    have f0 : m (8 + 2 * r) 0 = s (44 + 18 * r) := (e7 r hr).1 0 (by decide)
    have f2 : m (8 + 2 * r) 2 = s (46 + 18 * r) := by rw [(e7 r hr).1 2 (by decide)]; congr 1; omega
    have f5 : m (8 + 2 * r) 5 = s (49 + 18 * r) := by rw [(e7 r hr).1 5 (by decide)]; congr 1; omega
    have fw : m (8 + 2 * r + 1) (s (49 + 18 * r)).toNat = sg_way s r := by
      have := (e7 r hr).2 (s (49 + 18 * r)).toNat (by omega)
      rw [show 9 + 2 * r = 8 + 2 * r + 1 by omega] at this
      exact this
    have hnr := sg_next_r (w := sg_way s r) a2
    refine xb_406_0 ?_
    rw [gr_6 hq, gf_5 hq, gi_1 hq, f5, zy_at (by omega) (by omega), fw, gf_2 hq, f2, oc_150 a2.1 (by omega)]
    unfold sg_rd at hQ
    by_cases g1 : sp_next (s (46 + 18 * r)) (sg_way s r) = -1
    · rw [if_pos g1] at hQ
      rw [if_pos (by omega), gf_5 hq, f5, xm_w_id (by omega) (by omega), gs_5 hq]
      exact hQ _ ⟨fun c hc => yy_s_ne (by omega), yy_MR_r1_1 hr hMR⟩
    · rw [if_neg g1] at hQ
      rw [if_neg (by omega), gf_0 hq, f0]
      have fin : ∀ m1, yy_Fb m m1 1 → m1 (8 + 2 * r) = m (8 + 2 * r) → yy_MR m1 1 (sg_lv s r (sg_way s r) (s (49 + 18 * r))) → xm_O (xm_setf (yy_W m1 t) (8 + 2 * r) 4 2 0 (.inl (sp_next (s (46 + 18 * r)) (sg_way s r)))) (fun w30 => xm_O (xm_fi (xm_old sc) w30 (8 + 2 * r) 4 5) (fun z31 => xm_O (xm_setf w30 (8 + 2 * r) 4 5 0 (.inl (xm_w (z31 + 1)))) (fun w32 => Q (none, w32)))) := by
        intro m1 h1 h2 h3
        rw [gs_2 hq, gf_5 hq, yy_s_eq, yy_u_ne (by decide), h2, f5, xm_w_id (by omega) (by omega), gs_5 hq]
        exact hQ _ ⟨fun c hc => by rw [yy_s_ne (by omega), yy_s_ne (by omega)]; exact h1 c hc, yy_MR_rd_1 hr h3⟩
      have h41 : ∀ sh, 0 ≤ sh ∧ sh ≤ 3 → s 3 = 40 → ∀ k, sg_clr (sg_K (sg_ap s (s (46 + 18 * r)) sh (sg_dp s r) (s 1) r) 1 (-1)) (sg_ap s (s (46 + 18 * r)) sh (sg_dp s r) (s 1) r) k = if k = 3 then 40 else if 134 ≤ k ∧ k < 334 then sg_ap s (s (46 + 18 * r)) sh (sg_dp s r) (s 1) r (k + 5) else sg_ap s (s (46 + 18 * r)) sh (sg_dp s r) (s 1) r k := by
        intro sh hsh h40
        have dp := sg_deep_r (k := s (44 + 18 * r)) a1 a3
        exact sg_shift (by rw [sg_ap_3]; omega) (sg_ap_O (c := s (46 + 18 * r)) (sh := sh) (dp := sg_dp s r) b3.1 hO b1 a2 hsh dp (by omega)) (sg_ap_S hR hO hS a2)
      have shr := sg_sh_r (s := s) (r := r) (step := s (49 + 18 * r)) hw
      have rest : ∀ m1 z, z = sg_sh s r (sg_way s r) (s (49 + 18 * r)) → (∀ c, c ≠ 6 → c ≠ 7 → m1 c = m c) → xm_O (xm_fi (xm_old sc) (yy_W m1 t) (8 + 2 * r) 4 2) (fun z33 => xm_Oi (xm_X (xm_old sc) xm_mt (d + 4) 403 [.inr (.inl (some 1)), .inl (z33)] (yy_W (m1) t)) (fun z35 w34 => if (0 : Int) < z35 then xm_Ov (xm_X (xm_old sc) xm_mt (d + 4) 408 [.inr (.inl (some 1)), .inl (r : Int), .inr (.inl (some (8 + 2 * r))), .inl z] w34) (fun w39 => xm_O (xm_setf w39 (8 + 2 * r) 4 2 0 (.inl (sp_next (s (46 + 18 * r)) (sg_way s r)))) (fun w40 => xm_O (xm_fi (xm_old sc) w40 (8 + 2 * r) 4 5) (fun z41 => xm_O (xm_setf w40 (8 + 2 * r) 4 5 0 (.inl (xm_w (z41 + 1)))) (fun w42 => Q (none, w42))))) else xm_O (xm_setf w34 (8 + 2 * r) 4 2 0 (.inl (sp_next (s (46 + 18 * r)) (sg_way s r)))) (fun w36 => xm_O (xm_fi (xm_old sc) w36 (8 + 2 * r) 4 5) (fun z37 => xm_O (xm_setf w36 (8 + 2 * r) 4 5 0 (.inl (xm_w (z37 + 1)))) (fun w38 => Q (none, w38)))))) ∨ z = -1 := by
        intro m1 z hz h1
        by_cases hz1 : z = -1
        · exact Or.inr hz1
        · left
          have hM1 : yy_MR m1 1 s := yy_MR_fr (fun c hc => h1 c (by omega) (by omega)) hMR
          have f2' : m1 (8 + 2 * r) 2 = s (46 + 18 * r) := by rw [h1 _ (by omega) (by omega)]; exact f2
          have hF1 : yy_Fb m m1 1 := fun c hc => h1 c (by omega) (by omega)
          have kr := sg_k_r (c := s (46 + 18 * r)) b2
          rw [gf_2 hq, f2', oc_403_1 (d := d + 3) hM1 a2 b2]
          by_cases gk : sg_k s (s (46 + 18 * r)) = 0
          · rw [if_neg (by omega)]
            exact fin m1 hF1 (h1 _ (by omega) (by omega)) (by rw [sg_lv_s (Or.inr gk)]; exact hM1)
          · rw [if_pos (by omega)]
            obtain ⟨m2, e, g2, g3⟩ := c_408_1 (sc := sc) (d := d + 2) (t := t) (m := m1) (r := r) (sh := z) hr hM1 hR (h41 z (by omega))
            rw [e, xm_Ov_some]
            exact fin m2 (fun c hc => by rw [g2 c (by omega) (by omega)]; exact hF1 c hc) (by rw [g2 _ (by omega) (by omega)]; exact h1 _ (by omega) (by omega)) (by rw [sg_lv_le (by rw [← hz]; exact hz1) gk, ← hz]; exact g3)
      by_cases g6 : s (44 + 18 * r) = 6
      · rw [if_pos g6]
        obtain ⟨m1, e, g2⟩ := c_407_1 (sc := sc) (d := d) (t := t) (m := m) (r := r) (w := sg_way s r) hr hMR hR hT hX hw
        have es : sg_told s r (sg_way s r) (s (49 + 18 * r)) = sg_sh s r (sg_way s r) (s (49 + 18 * r)) := by unfold sg_sh; rw [if_pos g6]
        rw [e, xm_Oi_some, es]
        by_cases gz : sg_sh s r (sg_way s r) (s (49 + 18 * r)) = -1
        · rw [if_pos (by omega)]
          exact fin m1 (fun c hc => g2 c (by omega) (by omega)) (g2 _ (by omega) (by omega)) (by rw [sg_lv_s (Or.inl gz)]; exact yy_MR_fr (fun c hc => g2 c (by omega) (by omega)) hMR)
        · rw [if_neg (by omega)]
          exact (rest m1 _ rfl g2).resolve_right gz
      · rw [if_neg g6, gf_0 hq, gf_5 hq, f0, f5, oc_152 (by omega) (by omega) (by omega)]
        have es : sp_shown (s (44 + 18 * r)) (sg_way s r) (s (49 + 18 * r)) = sg_sh s r (sg_way s r) (s (49 + 18 * r)) := by unfold sg_sh; rw [if_neg g6]
        rw [es]
        by_cases gz : sg_sh s r (sg_way s r) (s (49 + 18 * r)) = -1
        · rw [if_pos (by omega)]
          exact fin m (fun c hc => rfl) rfl (by rw [sg_lv_s (Or.inl gz)]; exact hMR)
        · rw [if_neg (by omega)]
          exact (rest m _ rfl (fun _ _ _ => rfl)).resolve_right gz
  obtain ⟨q, h1, m', h2, h3⟩ := yx_of (y := 406) (M := xm_m406) (sc := sc) (d := d + 4) (as := [.inr (.inl (some 1)), .inl ((r : Int)), .inr (.inl (some (8 + 2 * r)))]) (w := yy_W m t) (Q := fun q => ∃ m', q = (none, yy_W m' t) ∧ (yy_Fb m m' 1 ∧ yy_MR m' 1 (sg_rd s r))) rfl (key fun m' h => ⟨m', rfl, h⟩) (fun q ⟨m', h, _⟩ => by rw [h]; rfl) rfl (Nat.le_of_ble_eq_true rfl) (yy_hd rfl (by decide))
  exact ⟨m', by rw [h1, h2], h3⟩
/-! a rider's cell and step, behind a print -/
set_option maxRecDepth 20000 in
theorem yy_MR_rd_18 {m : Nat → Nat → Int} {s : Nat → Int} {r : Nat} {c p : Int} (hr : r < 5) (hM : yy_MR m 18 s) : yy_MR (yy_s (yy_s m (25 + 2 * r) 2 c) (25 + 2 * r) 5 p) 18 (yy_u (yy_u s (46 + 18 * r) c) (49 + 18 * r) p) := by
  obtain ⟨e1, e2, e3, e4, e5, e6, e7⟩ := hM
  have o : ∀ k, k ≠ 46 + 18 * r → k ≠ 49 + 18 * r → yy_u (yy_u s (46 + 18 * r) c) (49 + 18 * r) p k = s k := fun k h1 h2 => by rw [yy_u_ne h2, yy_u_ne h1]
  refine ⟨by rw [o _ (by omega) (by omega)]; simp (disch := first | omega | (unfold xm_w; omega)) only [↓zy_at, xm_O_some, xm_Oi_some, xm_Ov_some, xm_Oq_some, ↓reduceIte, ↓zz_t, ↓zz_f, ↓zi_t, ↓zi_f, eq_self, yy_d_0, Int.reduceEq, Int.reduceLT, Int.reduceLE, Int.reduceNe, Int.reduceToNat, Int.reduceAdd, Int.reduceSub, Int.reduceMul, Int.reduceNeg, Nat.reduceAdd, Nat.reduceMul, Nat.reduceSub, Nat.reduceEqDiff, Nat.reduceLT, ne_eq, not_false_eq_true, not_true_eq_false, true_and, and_true, and_self, yy_s_eq, yy_s_ne, yy_c_eq, yy_c_ne, yy_u_eq, yy_u_ne, xm_w_id, yy_at, tdiv_pos, tmod_pos]; exact e1, by rw [o _ (by omega) (by omega)]; simp (disch := first | omega | (unfold xm_w; omega)) only [↓zy_at, xm_O_some, xm_Oi_some, xm_Ov_some, xm_Oq_some, ↓reduceIte, ↓zz_t, ↓zz_f, ↓zi_t, ↓zi_f, eq_self, yy_d_0, Int.reduceEq, Int.reduceLT, Int.reduceLE, Int.reduceNe, Int.reduceToNat, Int.reduceAdd, Int.reduceSub, Int.reduceMul, Int.reduceNeg, Nat.reduceAdd, Nat.reduceMul, Nat.reduceSub, Nat.reduceEqDiff, Nat.reduceLT, ne_eq, not_false_eq_true, not_true_eq_false, true_and, and_true, and_self, yy_s_eq, yy_s_ne, yy_c_eq, yy_c_ne, yy_u_eq, yy_u_ne, xm_w_id, yy_at, tdiv_pos, tmod_pos]; exact e2, by rw [o _ (by omega) (by omega)]; simp (disch := first | omega | (unfold xm_w; omega)) only [↓zy_at, xm_O_some, xm_Oi_some, xm_Ov_some, xm_Oq_some, ↓reduceIte, ↓zz_t, ↓zz_f, ↓zi_t, ↓zi_f, eq_self, yy_d_0, Int.reduceEq, Int.reduceLT, Int.reduceLE, Int.reduceNe, Int.reduceToNat, Int.reduceAdd, Int.reduceSub, Int.reduceMul, Int.reduceNeg, Nat.reduceAdd, Nat.reduceMul, Nat.reduceSub, Nat.reduceEqDiff, Nat.reduceLT, ne_eq, not_false_eq_true, not_true_eq_false, true_and, and_true, and_self, yy_s_eq, yy_s_ne, yy_c_eq, yy_c_ne, yy_u_eq, yy_u_ne, xm_w_id, yy_at, tdiv_pos, tmod_pos]; exact e3, by rw [o _ (by omega) (by omega)]; simp (disch := first | omega | (unfold xm_w; omega)) only [↓zy_at, xm_O_some, xm_Oi_some, xm_Ov_some, xm_Oq_some, ↓reduceIte, ↓zz_t, ↓zz_f, ↓zi_t, ↓zi_f, eq_self, yy_d_0, Int.reduceEq, Int.reduceLT, Int.reduceLE, Int.reduceNe, Int.reduceToNat, Int.reduceAdd, Int.reduceSub, Int.reduceMul, Int.reduceNeg, Nat.reduceAdd, Nat.reduceMul, Nat.reduceSub, Nat.reduceEqDiff, Nat.reduceLT, ne_eq, not_false_eq_true, not_true_eq_false, true_and, and_true, and_self, yy_s_eq, yy_s_ne, yy_c_eq, yy_c_ne, yy_u_eq, yy_u_ne, xm_w_id, yy_at, tdiv_pos, tmod_pos]; exact e4, fun k hk => by rw [o _ (by omega) (by omega)]; simp (disch := first | omega | (unfold xm_w; omega)) only [↓zy_at, xm_O_some, xm_Oi_some, xm_Ov_some, xm_Oq_some, ↓reduceIte, ↓zz_t, ↓zz_f, ↓zi_t, ↓zi_f, eq_self, yy_d_0, Int.reduceEq, Int.reduceLT, Int.reduceLE, Int.reduceNe, Int.reduceToNat, Int.reduceAdd, Int.reduceSub, Int.reduceMul, Int.reduceNeg, Nat.reduceAdd, Nat.reduceMul, Nat.reduceSub, Nat.reduceEqDiff, Nat.reduceLT, ne_eq, not_false_eq_true, not_true_eq_false, true_and, and_true, and_self, yy_s_eq, yy_s_ne, yy_c_eq, yy_c_ne, yy_u_eq, yy_u_ne, xm_w_id, yy_at, tdiv_pos, tmod_pos]; exact e5 k hk, fun k hk => by rw [o _ (by omega) (by omega)]; simp (disch := first | omega | (unfold xm_w; omega)) only [↓zy_at, xm_O_some, xm_Oi_some, xm_Ov_some, xm_Oq_some, ↓reduceIte, ↓zz_t, ↓zz_f, ↓zi_t, ↓zi_f, eq_self, yy_d_0, Int.reduceEq, Int.reduceLT, Int.reduceLE, Int.reduceNe, Int.reduceToNat, Int.reduceAdd, Int.reduceSub, Int.reduceMul, Int.reduceNeg, Nat.reduceAdd, Nat.reduceMul, Nat.reduceSub, Nat.reduceEqDiff, Nat.reduceLT, ne_eq, not_false_eq_true, not_true_eq_false, true_and, and_true, and_self, yy_s_eq, yy_s_ne, yy_c_eq, yy_c_ne, yy_u_eq, yy_u_ne, xm_w_id, yy_at, tdiv_pos, tmod_pos]; exact e6 k hk, fun i hi => ⟨fun k hk => ?_, fun k hk => ?_⟩⟩
  · by_cases e : i = r
    · subst e
      rw [yy_s_s, yy_c_eq]
      by_cases k5 : k = 5
      · subst k5; rw [yy_u_eq, show 44 + 18 * i + 5 = 49 + 18 * i by omega, yy_u_eq]
      · by_cases k2 : k = 2
        · subst k2; rw [yy_u_ne (by decide), yy_u_eq, show 44 + 18 * i + 2 = 46 + 18 * i by omega, yy_u_ne (by omega), yy_u_eq]
        · rw [yy_u_ne k5, yy_u_ne k2, o _ (by omega) (by omega)]; exact (e7 i hi).1 k hk
    · rw [o _ (by omega) (by omega), yy_s_ne (by omega), yy_s_ne (by omega)]; exact (e7 i hi).1 k hk
  · rw [o _ (by omega) (by omega), yy_s_ne (by omega), yy_s_ne (by omega)]; exact (e7 i hi).2 k hk
set_option maxRecDepth 20000 in
theorem yy_MR_r1_18 {m : Nat → Nat → Int} {s : Nat → Int} {r : Nat} {p : Int} (hr : r < 5) (hM : yy_MR m 18 s) : yy_MR (yy_s m (25 + 2 * r) 5 p) 18 (yy_u s (49 + 18 * r) p) := by
  have := yy_MR_rd_18 (c := s (46 + 18 * r)) (p := p) hr hM
  have e : s (46 + 18 * r) = m (25 + 2 * r) 2 := by rw [(hM.2.2.2.2.2.2 r hr).1 2 (by decide)]; congr 1; omega
  rw [yy_u_id] at this
  rw [e, yy_s_id] at this
  exact this
set_option maxRecDepth 20000 in
theorem c_406_18 {sc : List Int} {d : Nat} {t : xm_W} {m : Nat → Nat → Int} {r : Nat} {s : Nat → Int} (hr : r < 5) (hM : yy_MX t m 18 s) (hW : sg_W s r) (hst : s (49 + 18 * r) < s (48 + 18 * r)) : ∃ m', xm_X (xm_old sc) xm_mt (d + 5) 406 [.inr (.inl (some 18)), .inl ((r : Int)), .inr (.inl (some (25 + 2 * r)))] (yy_W m t) = some (none, yy_W m' t) ∧ yy_Fb m m' 18 ∧ yy_MR m' 18 (sg_rd s r) := by
  have key : ∀ {Q : Option xm_V × xm_W → Prop}, (∀ m', (yy_Fb m m' 18 ∧ yy_MR m' 18 (sg_rd s r)) → Q (none, yy_W m' t)) → xm_EQ (xm_old sc) xm_sta (xm_X (xm_old sc) xm_mt (d + 4)) xm_m406.2.2.2.2.2.2.2 0 (xm_loc xm_m406.2.2.1 [.inr (.inl (some 18)), .inl ((r : Int)), .inr (.inl (some (25 + 2 * r)))]) [] (yy_W m t) Q := by
    intro Q hQ
    obtain ⟨hR, hO, hS, hT, hT1⟩ := id hW
    have hw := sg_way_r hr hR hst
    obtain ⟨hMR, hX, hX1⟩ := id hM
    obtain ⟨e1, e2, e3, e4, e5, e6, e7⟩ := id hMR
    obtain ⟨b0, b1, b2, b3, hso, hrd⟩ := id hR
    obtain ⟨a0, a1, a2, a3, a4, a5, a6⟩ := hrd r hr
    have hq : yy_rd (25 + 2 * r) := yy_rdn25 hr
    have f0 : m (25 + 2 * r) 0 = s (44 + 18 * r) := (e7 r hr).1 0 (by decide)
    have f2 : m (25 + 2 * r) 2 = s (46 + 18 * r) := by rw [(e7 r hr).1 2 (by decide)]; congr 1; omega
    have f5 : m (25 + 2 * r) 5 = s (49 + 18 * r) := by rw [(e7 r hr).1 5 (by decide)]; congr 1; omega
    have fw : m (25 + 2 * r + 1) (s (49 + 18 * r)).toNat = sg_way s r := by
      have := (e7 r hr).2 (s (49 + 18 * r)).toNat (by omega)
      rw [show 26 + 2 * r = 25 + 2 * r + 1 by omega] at this
      exact this
    have hnr := sg_next_r (w := sg_way s r) a2
    refine xb_406_0 ?_
    rw [gr_6 hq, gf_5 hq, gi_1 hq, f5, zy_at (by omega) (by omega), fw, gf_2 hq, f2, oc_150 a2.1 (by omega)]
    unfold sg_rd at hQ
    by_cases g1 : sp_next (s (46 + 18 * r)) (sg_way s r) = -1
    · rw [if_pos g1] at hQ
      rw [if_pos (by omega), gf_5 hq, f5, xm_w_id (by omega) (by omega), gs_5 hq]
      exact hQ _ ⟨fun c hc => yy_s_ne (by omega), yy_MR_r1_18 hr hMR⟩
    · rw [if_neg g1] at hQ
      rw [if_neg (by omega), gf_0 hq, f0]
      have fin : ∀ m1, yy_Fb m m1 18 → m1 (25 + 2 * r) = m (25 + 2 * r) → yy_MR m1 18 (sg_lv s r (sg_way s r) (s (49 + 18 * r))) → xm_O (xm_setf (yy_W m1 t) (25 + 2 * r) 4 2 0 (.inl (sp_next (s (46 + 18 * r)) (sg_way s r)))) (fun w30 => xm_O (xm_fi (xm_old sc) w30 (25 + 2 * r) 4 5) (fun z31 => xm_O (xm_setf w30 (25 + 2 * r) 4 5 0 (.inl (xm_w (z31 + 1)))) (fun w32 => Q (none, w32)))) := by
        intro m1 h1 h2 h3
        rw [gs_2 hq, gf_5 hq, yy_s_eq, yy_u_ne (by decide), h2, f5, xm_w_id (by omega) (by omega), gs_5 hq]
        exact hQ _ ⟨fun c hc => by rw [yy_s_ne (by omega), yy_s_ne (by omega)]; exact h1 c hc, yy_MR_rd_18 hr h3⟩
      have h41 : ∀ sh, 0 ≤ sh ∧ sh ≤ 3 → s 3 = 40 → ∀ k, sg_clr (sg_K (sg_ap s (s (46 + 18 * r)) sh (sg_dp s r) (s 1) r) 1 (-1)) (sg_ap s (s (46 + 18 * r)) sh (sg_dp s r) (s 1) r) k = if k = 3 then 40 else if 134 ≤ k ∧ k < 334 then sg_ap s (s (46 + 18 * r)) sh (sg_dp s r) (s 1) r (k + 5) else sg_ap s (s (46 + 18 * r)) sh (sg_dp s r) (s 1) r k := by
        intro sh hsh h40
        have dp := sg_deep_r (k := s (44 + 18 * r)) a1 a3
        exact sg_shift (by rw [sg_ap_3]; omega) (sg_ap_O (c := s (46 + 18 * r)) (sh := sh) (dp := sg_dp s r) b3.1 hO b1 a2 hsh dp (by omega)) (sg_ap_S hR hO hS a2)
      have shr := sg_sh_r (s := s) (r := r) (step := s (49 + 18 * r)) hw
      have rest : ∀ m1 z, z = sg_sh s r (sg_way s r) (s (49 + 18 * r)) → (∀ c, c ≠ 23 → c ≠ 24 → m1 c = m c) → xm_O (xm_fi (xm_old sc) (yy_W m1 t) (25 + 2 * r) 4 2) (fun z33 => xm_Oi (xm_X (xm_old sc) xm_mt (d + 4) 403 [.inr (.inl (some 18)), .inl (z33)] (yy_W (m1) t)) (fun z35 w34 => if (0 : Int) < z35 then xm_Ov (xm_X (xm_old sc) xm_mt (d + 4) 408 [.inr (.inl (some 18)), .inl (r : Int), .inr (.inl (some (25 + 2 * r))), .inl z] w34) (fun w39 => xm_O (xm_setf w39 (25 + 2 * r) 4 2 0 (.inl (sp_next (s (46 + 18 * r)) (sg_way s r)))) (fun w40 => xm_O (xm_fi (xm_old sc) w40 (25 + 2 * r) 4 5) (fun z41 => xm_O (xm_setf w40 (25 + 2 * r) 4 5 0 (.inl (xm_w (z41 + 1)))) (fun w42 => Q (none, w42))))) else xm_O (xm_setf w34 (25 + 2 * r) 4 2 0 (.inl (sp_next (s (46 + 18 * r)) (sg_way s r)))) (fun w36 => xm_O (xm_fi (xm_old sc) w36 (25 + 2 * r) 4 5) (fun z37 => xm_O (xm_setf w36 (25 + 2 * r) 4 5 0 (.inl (xm_w (z37 + 1)))) (fun w38 => Q (none, w38)))))) ∨ z = -1 := by
        intro m1 z hz h1
        by_cases hz1 : z = -1
        · exact Or.inr hz1
        · left
          have hM1 : yy_MR m1 18 s := yy_MR_fr (fun c hc => h1 c (by omega) (by omega)) hMR
          have f2' : m1 (25 + 2 * r) 2 = s (46 + 18 * r) := by rw [h1 _ (by omega) (by omega)]; exact f2
          have hF1 : yy_Fb m m1 18 := fun c hc => h1 c (by omega) (by omega)
          have kr := sg_k_r (c := s (46 + 18 * r)) b2
          rw [gf_2 hq, f2', oc_403_18 (d := d + 3) hM1 a2 b2]
          by_cases gk : sg_k s (s (46 + 18 * r)) = 0
          · rw [if_neg (by omega)]
            exact fin m1 hF1 (h1 _ (by omega) (by omega)) (by rw [sg_lv_s (Or.inr gk)]; exact hM1)
          · rw [if_pos (by omega)]
            obtain ⟨m2, e, g2, g3⟩ := c_408_18 (sc := sc) (d := d + 2) (t := t) (m := m1) (r := r) (sh := z) hr hM1 hR (h41 z (by omega))
            rw [e, xm_Ov_some]
            exact fin m2 (fun c hc => by rw [g2 c (by omega) (by omega)]; exact hF1 c hc) (by rw [g2 _ (by omega) (by omega)]; exact h1 _ (by omega) (by omega)) (by rw [sg_lv_le (by rw [← hz]; exact hz1) gk, ← hz]; exact g3)
      by_cases g6 : s (44 + 18 * r) = 6
      · rw [if_pos g6]
        obtain ⟨m1, e, g2⟩ := c_407_18 (sc := sc) (d := d) (t := t) (m := m) (r := r) (w := sg_way s r) hr hMR hR hT hX hw
        have es : sg_told s r (sg_way s r) (s (49 + 18 * r)) = sg_sh s r (sg_way s r) (s (49 + 18 * r)) := by unfold sg_sh; rw [if_pos g6]
        rw [e, xm_Oi_some, es]
        by_cases gz : sg_sh s r (sg_way s r) (s (49 + 18 * r)) = -1
        · rw [if_pos (by omega)]
          exact fin m1 (fun c hc => g2 c (by omega) (by omega)) (g2 _ (by omega) (by omega)) (by rw [sg_lv_s (Or.inl gz)]; exact yy_MR_fr (fun c hc => g2 c (by omega) (by omega)) hMR)
        · rw [if_neg (by omega)]
          exact (rest m1 _ rfl g2).resolve_right gz
      · rw [if_neg g6, gf_0 hq, gf_5 hq, f0, f5, oc_152 (by omega) (by omega) (by omega)]
        have es : sp_shown (s (44 + 18 * r)) (sg_way s r) (s (49 + 18 * r)) = sg_sh s r (sg_way s r) (s (49 + 18 * r)) := by unfold sg_sh; rw [if_neg g6]
        rw [es]
        by_cases gz : sg_sh s r (sg_way s r) (s (49 + 18 * r)) = -1
        · rw [if_pos (by omega)]
          exact fin m (fun c hc => rfl) rfl (by rw [sg_lv_s (Or.inl gz)]; exact hMR)
        · rw [if_neg (by omega)]
          exact (rest m _ rfl (fun _ _ _ => rfl)).resolve_right gz
  obtain ⟨q, h1, m', h2, h3⟩ := yx_of (y := 406) (M := xm_m406) (sc := sc) (d := d + 4) (as := [.inr (.inl (some 18)), .inl ((r : Int)), .inr (.inl (some (25 + 2 * r)))]) (w := yy_W m t) (Q := fun q => ∃ m', q = (none, yy_W m' t) ∧ (yy_Fb m m' 18 ∧ yy_MR m' 18 (sg_rd s r))) rfl (key fun m' h => ⟨m', rfl, h⟩) (fun q ⟨m', h, _⟩ => by rw [h]; rfl) rfl (Nat.le_of_ble_eq_true rfl) (yy_hd rfl (by decide))
  exact ⟨m', by rw [h1, h2], h3⟩
end
section
set_option maxRecDepth 20000 in
theorem yy_MX_fr {t : xm_W} {m m' : Nat → Nat → Int} {b : Nat} {s s' : Nat → Int} (hT : sg_tn s 0 ≤ 60 ∧ sg_tn s 1 ≤ 60) (hM : yy_MX t m b s) (h4 : m' (b + 4) = m (b + 4)) (hR : yy_MR m' b s') (h : ∀ k, 339 ≤ k → k < 589 → s' k = s k) : yy_MX t m' b s' :=
  ⟨hR, by rw [h4]; exact yy_TX_eq (by decide) hT.1 h hM.2.1, by rw [h4]; exact yy_TX_eq (by decide) hT.2 h hM.2.2⟩
set_option maxRecDepth 20000 in
theorem sg_W_T {s : Nat → Int} {r : Int} (h : sg_W s r) : sg_tn s 0 ≤ 60 ∧ sg_tn s 1 ≤ 60 := ⟨h.2.2.2.1.1.2, h.2.2.2.2.1.2⟩
set_option maxRecDepth 20000 in
theorem l_405_1 {sc : List Int} {d : Nat} {t : xm_W} {Q : Option xm_V × xm_W → Prop} {m0 : Nat → Nat → Int} {s0 : Nat → Int} {n : Int} (hn : n = s0 0) (h1 : s0 1 < 20000) (hW0 : sg_W s0 0) (hQ : ∀ m', yy_Fb m0 m' 1 → yy_MX t m' 1 (sg_hour (-1) s0) → Q ((none, (yy_W (m') t)))) : ∀ (k r : Nat) (m : Nat → Nat → Int) (s : Nat → Int), ((r + k : Nat) : Int) = n → sg_W s r → yy_MX t m 1 s → yy_Fb m0 m 1 → s 0 = s0 0 → s 1 = s0 1 → sg_hl (-1) k r s = sg_hl (-1) (s0 0).toNat 0 s0 → xm_EQ (xm_old sc) xm_sta (xm_X (xm_old sc) xm_mt (d + 5)) xm_c405 2 [some (.inr (.inl (some 1))), some (.inl ((r : Int)))] [] (yy_W (m) t) Q
  | 0, r, m, s, hk, hW, hM, hF, h0, h2, hh => by
    obtain ⟨hMR, hX, hX1⟩ := id hM
    obtain ⟨e1, e2, e3, e4, e5, e6, e7⟩ := id hMR
    have b1 := hW.1.2.1
    have hB := sg_h1_B (st := -1) hW0 h1
    refine xb_405_2 ?_
    simp (disch := first | omega | (unfold xm_w; omega)) only [↓zy_at, xm_O_some, xm_Oi_some, xm_Ov_some, xm_Oq_some, ↓reduceIte, ↓zz_t, ↓zz_f, ↓zi_t, ↓zi_f, eq_self, yy_d_0, Int.reduceEq, Int.reduceLT, Int.reduceLE, Int.reduceNe, Int.reduceToNat, Int.reduceAdd, Int.reduceSub, Int.reduceMul, Int.reduceNeg, Nat.reduceAdd, Nat.reduceMul, Nat.reduceSub, Nat.reduceEqDiff, Nat.reduceLT, ne_eq, not_false_eq_true, not_true_eq_false, true_and, and_true, and_self, yy_s_eq, yy_s_ne, yy_c_eq, yy_c_ne, yy_u_eq, yy_u_ne, xm_w_id, yy_at, tdiv_pos, tmod_pos, ↓zr_1_0, ↓zf_1_1, ↓zs_1_1, ↓zf_1_2, ↓zs_1_2, ↓zr_1_3, ↓zf_1_4, ↓zs_1_4, ↓zr_1_5, ↓zf_1_6, ↓zs_1_6, ↓zr_1_7, ↓zr_1_8, ↓zr_1_9, e3, e2, h0]
    have hh2 : s = sg_hl (-1) (s0 0).toNat 0 s0 := hh
    obtain ⟨x1, x2, x3, x4, x5, x6, x7⟩ := hB
    have eh : ∀ q, q ≠ 1 → sg_h1 (-1) s0 q = s q := fun q hq => by unfold sg_h1; rw [yy_u_ne hq, ← hh2]
    have hM2 : yy_MR (yy_s m 1 2 (s 1 + 1)) 1 (sg_h1 (-1) s0) := by
      refine ⟨by rw [eh 2 (by decide)]; simp (disch := first | omega | (unfold xm_w; omega)) only [↓zy_at, xm_O_some, xm_Oi_some, xm_Ov_some, xm_Oq_some, ↓reduceIte, ↓zz_t, ↓zz_f, ↓zi_t, ↓zi_f, eq_self, yy_d_0, Int.reduceEq, Int.reduceLT, Int.reduceLE, Int.reduceNe, Int.reduceToNat, Int.reduceAdd, Int.reduceSub, Int.reduceMul, Int.reduceNeg, Nat.reduceAdd, Nat.reduceMul, Nat.reduceSub, Nat.reduceEqDiff, Nat.reduceLT, ne_eq, not_false_eq_true, not_true_eq_false, true_and, and_true, and_self, yy_s_eq, yy_s_ne, yy_c_eq, yy_c_ne, yy_u_eq, yy_u_ne, xm_w_id, yy_at, tdiv_pos, tmod_pos]; exact e1, by rw [x3]; simp (disch := first | omega | (unfold xm_w; omega)) only [↓zy_at, xm_O_some, xm_Oi_some, xm_Ov_some, xm_Oq_some, ↓reduceIte, ↓zz_t, ↓zz_f, ↓zi_t, ↓zi_f, eq_self, yy_d_0, Int.reduceEq, Int.reduceLT, Int.reduceLE, Int.reduceNe, Int.reduceToNat, Int.reduceAdd, Int.reduceSub, Int.reduceMul, Int.reduceNeg, Nat.reduceAdd, Nat.reduceMul, Nat.reduceSub, Nat.reduceEqDiff, Nat.reduceLT, ne_eq, not_false_eq_true, not_true_eq_false, true_and, and_true, and_self, yy_s_eq, yy_s_ne, yy_c_eq, yy_c_ne, yy_u_eq, yy_u_ne, xm_w_id, yy_at, tdiv_pos, tmod_pos]; omega, by rw [eh 0 (by decide)]; simp (disch := first | omega | (unfold xm_w; omega)) only [↓zy_at, xm_O_some, xm_Oi_some, xm_Ov_some, xm_Oq_some, ↓reduceIte, ↓zz_t, ↓zz_f, ↓zi_t, ↓zi_f, eq_self, yy_d_0, Int.reduceEq, Int.reduceLT, Int.reduceLE, Int.reduceNe, Int.reduceToNat, Int.reduceAdd, Int.reduceSub, Int.reduceMul, Int.reduceNeg, Nat.reduceAdd, Nat.reduceMul, Nat.reduceSub, Nat.reduceEqDiff, Nat.reduceLT, ne_eq, not_false_eq_true, not_true_eq_false, true_and, and_true, and_self, yy_s_eq, yy_s_ne, yy_c_eq, yy_c_ne, yy_u_eq, yy_u_ne, xm_w_id, yy_at, tdiv_pos, tmod_pos]; exact e3, by rw [eh 3 (by decide)]; simp (disch := first | omega | (unfold xm_w; omega)) only [↓zy_at, xm_O_some, xm_Oi_some, xm_Ov_some, xm_Oq_some, ↓reduceIte, ↓zz_t, ↓zz_f, ↓zi_t, ↓zi_f, eq_self, yy_d_0, Int.reduceEq, Int.reduceLT, Int.reduceLE, Int.reduceNe, Int.reduceToNat, Int.reduceAdd, Int.reduceSub, Int.reduceMul, Int.reduceNeg, Nat.reduceAdd, Nat.reduceMul, Nat.reduceSub, Nat.reduceEqDiff, Nat.reduceLT, ne_eq, not_false_eq_true, not_true_eq_false, true_and, and_true, and_self, yy_s_eq, yy_s_ne, yy_c_eq, yy_c_ne, yy_u_eq, yy_u_ne, xm_w_id, yy_at, tdiv_pos, tmod_pos]; exact e4, fun k hk => by rw [eh _ (by omega)]; simp (disch := first | omega | (unfold xm_w; omega)) only [↓zy_at, xm_O_some, xm_Oi_some, xm_Ov_some, xm_Oq_some, ↓reduceIte, ↓zz_t, ↓zz_f, ↓zi_t, ↓zi_f, eq_self, yy_d_0, Int.reduceEq, Int.reduceLT, Int.reduceLE, Int.reduceNe, Int.reduceToNat, Int.reduceAdd, Int.reduceSub, Int.reduceMul, Int.reduceNeg, Nat.reduceAdd, Nat.reduceMul, Nat.reduceSub, Nat.reduceEqDiff, Nat.reduceLT, ne_eq, not_false_eq_true, not_true_eq_false, true_and, and_true, and_self, yy_s_eq, yy_s_ne, yy_c_eq, yy_c_ne, yy_u_eq, yy_u_ne, xm_w_id, yy_at, tdiv_pos, tmod_pos]; exact e5 k hk, fun k hk => by rw [eh _ (by omega)]; simp (disch := first | omega | (unfold xm_w; omega)) only [↓zy_at, xm_O_some, xm_Oi_some, xm_Ov_some, xm_Oq_some, ↓reduceIte, ↓zz_t, ↓zz_f, ↓zi_t, ↓zi_f, eq_self, yy_d_0, Int.reduceEq, Int.reduceLT, Int.reduceLE, Int.reduceNe, Int.reduceToNat, Int.reduceAdd, Int.reduceSub, Int.reduceMul, Int.reduceNeg, Nat.reduceAdd, Nat.reduceMul, Nat.reduceSub, Nat.reduceEqDiff, Nat.reduceLT, ne_eq, not_false_eq_true, not_true_eq_false, true_and, and_true, and_self, yy_s_eq, yy_s_ne, yy_c_eq, yy_c_ne, yy_u_eq, yy_u_ne, xm_w_id, yy_at, tdiv_pos, tmod_pos]; exact e6 k hk, fun i hi => ⟨fun k hk => by rw [eh _ (by omega)]; simp (disch := first | omega | (unfold xm_w; omega)) only [↓zy_at, xm_O_some, xm_Oi_some, xm_Ov_some, xm_Oq_some, ↓reduceIte, ↓zz_t, ↓zz_f, ↓zi_t, ↓zi_f, eq_self, yy_d_0, Int.reduceEq, Int.reduceLT, Int.reduceLE, Int.reduceNe, Int.reduceToNat, Int.reduceAdd, Int.reduceSub, Int.reduceMul, Int.reduceNeg, Nat.reduceAdd, Nat.reduceMul, Nat.reduceSub, Nat.reduceEqDiff, Nat.reduceLT, ne_eq, not_false_eq_true, not_true_eq_false, true_and, and_true, and_self, yy_s_eq, yy_s_ne, yy_c_eq, yy_c_ne, yy_u_eq, yy_u_ne, xm_w_id, yy_at, tdiv_pos, tmod_pos]; exact (e7 i hi).1 k hk, fun k hk => by rw [eh _ (by omega)]; simp (disch := first | omega | (unfold xm_w; omega)) only [↓zy_at, xm_O_some, xm_Oi_some, xm_Ov_some, xm_Oq_some, ↓reduceIte, ↓zz_t, ↓zz_f, ↓zi_t, ↓zi_f, eq_self, yy_d_0, Int.reduceEq, Int.reduceLT, Int.reduceLE, Int.reduceNe, Int.reduceToNat, Int.reduceAdd, Int.reduceSub, Int.reduceMul, Int.reduceNeg, Nat.reduceAdd, Nat.reduceMul, Nat.reduceSub, Nat.reduceEqDiff, Nat.reduceLT, ne_eq, not_false_eq_true, not_true_eq_false, true_and, and_true, and_self, yy_s_eq, yy_s_ne, yy_c_eq, yy_c_ne, yy_u_eq, yy_u_ne, xm_w_id, yy_at, tdiv_pos, tmod_pos]; exact (e7 i hi).2 k hk⟩⟩
    have hB2 : sg_B (sg_h1 (-1) s0) := by
      refine ⟨?_, by omega, fun i hi => ⟨(x6.1 i hi).1.1, (x6.1 i hi).1.2.2.2.1⟩⟩
      rw [x5 2 (Or.inl (by decide)) (by decide) (by decide)]
      exact hW0.1.2.2.1
    obtain ⟨m1, e, g1, g2, g3⟩ := c_409_1g (sc := sc) (d := d + 2) (t := t) (m := yy_s m 1 2 (s 1 + 1)) hM2 hB2 x7.2
    rw [e]
    refine hQ m1 (fun c hc => by rw [g1 c hc, yy_s_ne (by omega)]; exact hF c hc) ?_
    obtain ⟨w1, w2, w3⟩ := sg_hour_W (st := -1) hW0 h1
    refine yy_MX_fr (sg_W_T hW) hM (by rw [g3 _ (by decide) (by decide), yy_s_ne (by decide)]) g2 (fun k hk hk2 => ?_)
    have := w3 k (Or.inr hk) (by omega) (by omega)
    show sg_hour (-1) s0 k = s k
    rw [this, hh2, x2 k (Or.inr hk) (by omega)]
  | k + 1, r, m, s, hk, hW, hM, hF, h0, h2, hh => by
    have hn5 := hW0.1.1
    obtain ⟨hMR, hX, hX1⟩ := id hM
    obtain ⟨e1, e2, e3, e4, e5, e6, e7⟩ := id hMR
    have hq : yy_rd (8 + 2 * r) := yy_rdn8 (by omega)
    have f5 : m (8 + 2 * r) 5 = s (49 + 18 * r) := by rw [(e7 r (by omega)).1 5 (by decide)]; congr 1; omega
    have f4 : m (8 + 2 * r) 4 = s (48 + 18 * r) := by rw [(e7 r (by omega)).1 4 (by decide)]; congr 1; omega
    have er : ((r : Int)).toNat = r := Int.toNat_natCast r
    have next : ∀ m1 s1, sg_W s1 (r + 1 : Nat) → yy_MX t m1 1 s1 → yy_Fb m0 m1 1 → s1 0 = s0 0 → s1 1 = s0 1 → sg_hl (-1) k (r + 1) s1 = sg_hl (-1) (s0 0).toNat 0 s0 → xm_EQ (xm_old sc) xm_sta (xm_X (xm_old sc) xm_mt (d + 5)) xm_c405 2 [some (.inr (.inl (some 1))), some (.inl ((r : Int) + 1))] [] (yy_W (m1) t) Q := by
      intro m1 s1 a1 a2 a3 a4 a5 a6
      have := l_405_1 (sc := sc) (d := d) (t := t) (Q := Q) hn h1 hW0 hQ k (r + 1) m1 s1 (by omega) a1 a2 a3 a4 a5 a6
      rw [show ((r + 1 : Nat) : Int) = (r : Int) + 1 by omega] at this
      exact this
    rw [sg_hl_s] at hh
    refine xb_405_2 ?_
    simp (disch := first | omega | (unfold xm_w; omega)) only [↓zy_at, xm_O_some, xm_Oi_some, xm_Ov_some, xm_Oq_some, ↓reduceIte, ↓zz_t, ↓zz_f, ↓zi_t, ↓zi_f, eq_self, yy_d_0, Int.reduceEq, Int.reduceLT, Int.reduceLE, Int.reduceNe, Int.reduceToNat, Int.reduceAdd, Int.reduceSub, Int.reduceMul, Int.reduceNeg, Nat.reduceAdd, Nat.reduceMul, Nat.reduceSub, Nat.reduceEqDiff, Nat.reduceLT, ne_eq, not_false_eq_true, not_true_eq_false, true_and, and_true, and_self, yy_s_eq, yy_s_ne, yy_c_eq, yy_c_ne, yy_u_eq, yy_u_ne, xm_w_id, yy_at, tdiv_pos, tmod_pos, ↓zr_1_0, ↓zf_1_1, ↓zs_1_1, ↓zf_1_2, ↓zs_1_2, ↓zr_1_3, ↓zf_1_4, ↓zs_1_4, ↓zr_1_5, ↓zf_1_6, ↓zs_1_6, ↓zr_1_7, ↓zr_1_8, ↓zr_1_9, ↓zq_3, e3, h0, ↓zq_r1, er, ↓gf_5 hq, ↓gf_4 hq, f5, f4]
    by_cases g2 : s (49 + 18 * r) < s (48 + 18 * r)
    · rw [if_pos ⟨by omega, g2⟩] at hh
      rw [if_pos g2]
      obtain ⟨m1, e, g3, g4⟩ := c_406_1 (sc := sc) (d := d) (t := t) (m := m) (r := r) (by omega) hM hW g2
      obtain ⟨w1, w2⟩ := sg_rd_W (by omega) hW g2
      rw [e]
      refine next m1 (sg_rd s r) w1 (yy_MX_fr (sg_W_T hW) hM (g3 _ (by omega)) g4 (fun k hk hk2 => w2 k (Or.inr hk) (by omega) (by omega) (by omega))) (fun c hc => by rw [g3 c hc]; exact hF c hc) ?_ ?_ hh
      · rw [w2 0 (Or.inl (by decide)) (by decide) (by omega) (by omega)]; exact h0
      · rw [w2 1 (Or.inl (by decide)) (by decide) (by omega) (by omega)]; exact h2
    · rw [if_neg (fun h => g2 h.2)] at hh
      rw [if_neg g2]
      exact next m s (sg_W_mono (by omega) hW) hM hF h0 h2 hh
set_option maxRecDepth 20000 in
theorem c_405_1g {sc : List Int} {d : Nat} {t : xm_W} {m : Nat → Nat → Int} {s : Nat → Int} (hM : yy_MX t m 1 s) (hW : sg_W s 0) (h1 : s 1 < 20000) : ∃ m', xm_X (xm_old sc) xm_mt (d + 6) 405 [.inr (.inl (some 1))] (yy_W m t) = some (none, yy_W m' t) ∧ yy_Fb m m' 1 ∧ yy_MX t m' 1 (sg_hour (-1) s) := by
  have key : ∀ {Q : Option xm_V × xm_W → Prop}, (∀ m', (yy_Fb m m' 1 ∧ yy_MX t m' 1 (sg_hour (-1) s)) → Q (none, yy_W m' t)) → xm_EQ (xm_old sc) xm_sta (xm_X (xm_old sc) xm_mt (d + 5)) xm_m405.2.2.2.2.2.2.2 0 (xm_loc xm_m405.2.2.1 [.inr (.inl (some 1))]) [] (yy_W m t) Q := by
    intro Q hQ
    refine xb_405_0 ?_
    exact l_405_1 (d := d) rfl h1 hW (fun m' a b => hQ m' ⟨a, b⟩) (s 0).toNat 0 m s (by have := hW.1.1; omega) hW hM (fun _ _ => rfl) rfl rfl rfl
  obtain ⟨q, h1, m', h2, h3⟩ := yx_of (y := 405) (M := xm_m405) (sc := sc) (d := d + 5) (as := [.inr (.inl (some 1))]) (w := yy_W m t) (Q := fun q => ∃ m', q = (none, yy_W m' t) ∧ (yy_Fb m m' 1 ∧ yy_MX t m' 1 (sg_hour (-1) s))) rfl (key fun m' h => ⟨m', rfl, h⟩) (fun q ⟨m', h, _⟩ => by rw [h]; rfl) rfl (Nat.le_of_ble_eq_true rfl) (yy_hd rfl (by decide))
  exact ⟨m', by rw [h1, h2], h3⟩
set_option maxRecDepth 20000 in
theorem l_404_1g {sc : List Int} {d : Nat} {t : xm_W} {Q : Option xm_V × xm_W → Prop} {m0 : Nat → Nat → Int} {n : Int} {s' : Nat → Int} (hn : n ≤ 24) (hQ : ∀ m', yy_Fb m0 m' 1 → yy_MX t m' 1 s' → Q ((none, (yy_W (m') t)))) : ∀ (k : Nat) (i : Int) (m : Nat → Nat → Int) (s : Nat → Int), n - i = k → 0 ≤ i → sg_W s 0 → yy_MX t m 1 s → s 1 + k ≤ 20000 → yy_Fb m0 m 1 → sg_go (-1) k s = s' → xm_EQ (xm_old sc) xm_sta (xm_X (xm_old sc) xm_mt (d + 6)) xm_c404 2 [some (.inr (.inl (some 1))), some (.inl (n)), some (.inl (i))] [] (yy_W (m) t) Q
  | 0, i, m, s, hk, hi, hW, hM, h1, hF, hs => by
    refine xb_404_2 ?_
    rw [if_neg (by omega)]
    exact hQ m hF (by rw [← hs]; exact hM)
  | k + 1, i, m, s, hk, hi, hW, hM, h1, hF, hs => by
    refine xb_404_2 ?_
    obtain ⟨m1, e1, f1, g1⟩ := c_405_1g (sc := sc) (d := d) (t := t) (m := m) hM hW (by omega)
    obtain ⟨w1, w2, w3⟩ := sg_hour_W (st := -1) hW (by omega)
    rw [if_pos (by omega), e1, xm_Ov_some, xm_w_id (by omega) (by omega)]
    exact l_404_1g hn hQ k (i + 1) m1 (sg_hour (-1) s) (by omega) (by omega) w1 g1 (by rw [w2]; omega) (fun c hc => by rw [f1 c hc]; exact hF c hc) hs
set_option maxRecDepth 20000 in
theorem c_404_1g {sc : List Int} {d : Nat} {t : xm_W} {m : Nat → Nat → Int} {n : Int} {s : Nat → Int} (h0 : 0 ≤ n ∧ n ≤ 24) (hM : yy_MX t m 1 s) (hW : sg_W s 0) (h1 : s 1 + n ≤ 20000) : ∃ m', xm_X (xm_old sc) xm_mt (d + 7) 404 [.inr (.inl (some 1)), .inl (n)] (yy_W m t) = some (none, yy_W m' t) ∧ yy_Fb m m' 1 ∧ yy_MX t m' 1 (sg_go (-1) n.toNat s) := by
  have key : ∀ {Q : Option xm_V × xm_W → Prop}, (∀ m', (yy_Fb m m' 1 ∧ yy_MX t m' 1 (sg_go (-1) n.toNat s)) → Q (none, yy_W m' t)) → xm_EQ (xm_old sc) xm_sta (xm_X (xm_old sc) xm_mt (d + 6)) xm_m404.2.2.2.2.2.2.2 0 (xm_loc xm_m404.2.2.1 [.inr (.inl (some 1)), .inl (n)]) [] (yy_W m t) Q := by
    intro Q hQ
    refine xb_404_0 ?_
    exact l_404_1g (d := d) h0.2 (fun m' a b => hQ m' ⟨a, b⟩) n.toNat 0 m s (by omega) (by decide) hW hM (by omega) (fun _ _ => rfl) rfl
  obtain ⟨q, h1, m', h2, h3⟩ := yx_of (y := 404) (M := xm_m404) (sc := sc) (d := d + 6) (as := [.inr (.inl (some 1)), .inl (n)]) (w := yy_W m t) (Q := fun q => ∃ m', q = (none, yy_W m' t) ∧ (yy_Fb m m' 1 ∧ yy_MX t m' 1 (sg_go (-1) n.toNat s))) rfl (key fun m' h => ⟨m', rfl, h⟩) (fun q ⟨m', h, _⟩ => by rw [h]; rfl) rfl (Nat.le_of_ble_eq_true rfl) (yy_hd rfl (by decide))
  exact ⟨m', by rw [h1, h2], h3⟩
set_option maxRecDepth 20000 in
theorem l_405_18 {sc : List Int} {d : Nat} {t : xm_W} {Q : Option xm_V × xm_W → Prop} {m0 : Nat → Nat → Int} {s0 : Nat → Int} {n : Int} (hn : n = s0 0) (h1 : s0 1 < 20000) (hW0 : sg_W s0 0) (hQ : ∀ m', yy_Fb m0 m' 18 → yy_MX t m' 18 (sg_hour (-1) s0) → Q ((none, (yy_W (m') t)))) : ∀ (k r : Nat) (m : Nat → Nat → Int) (s : Nat → Int), ((r + k : Nat) : Int) = n → sg_W s r → yy_MX t m 18 s → yy_Fb m0 m 18 → s 0 = s0 0 → s 1 = s0 1 → sg_hl (-1) k r s = sg_hl (-1) (s0 0).toNat 0 s0 → xm_EQ (xm_old sc) xm_sta (xm_X (xm_old sc) xm_mt (d + 5)) xm_c405 2 [some (.inr (.inl (some 18))), some (.inl ((r : Int)))] [] (yy_W (m) t) Q
  | 0, r, m, s, hk, hW, hM, hF, h0, h2, hh => by
    obtain ⟨hMR, hX, hX1⟩ := id hM
    obtain ⟨e1, e2, e3, e4, e5, e6, e7⟩ := id hMR
    have b1 := hW.1.2.1
    have hB := sg_h1_B (st := -1) hW0 h1
    refine xb_405_2 ?_
    simp (disch := first | omega | (unfold xm_w; omega)) only [↓zy_at, xm_O_some, xm_Oi_some, xm_Ov_some, xm_Oq_some, ↓reduceIte, ↓zz_t, ↓zz_f, ↓zi_t, ↓zi_f, eq_self, yy_d_0, Int.reduceEq, Int.reduceLT, Int.reduceLE, Int.reduceNe, Int.reduceToNat, Int.reduceAdd, Int.reduceSub, Int.reduceMul, Int.reduceNeg, Nat.reduceAdd, Nat.reduceMul, Nat.reduceSub, Nat.reduceEqDiff, Nat.reduceLT, ne_eq, not_false_eq_true, not_true_eq_false, true_and, and_true, and_self, yy_s_eq, yy_s_ne, yy_c_eq, yy_c_ne, yy_u_eq, yy_u_ne, xm_w_id, yy_at, tdiv_pos, tmod_pos, ↓zr_18_0, ↓zf_18_1, ↓zs_18_1, ↓zf_18_2, ↓zs_18_2, ↓zr_18_3, ↓zf_18_4, ↓zs_18_4, ↓zr_18_5, ↓zf_18_6, ↓zs_18_6, ↓zr_18_7, ↓zr_18_8, ↓zr_18_9, e3, e2, h0]
    have hh2 : s = sg_hl (-1) (s0 0).toNat 0 s0 := hh
    obtain ⟨x1, x2, x3, x4, x5, x6, x7⟩ := hB
    have eh : ∀ q, q ≠ 1 → sg_h1 (-1) s0 q = s q := fun q hq => by unfold sg_h1; rw [yy_u_ne hq, ← hh2]
    have hM2 : yy_MR (yy_s m 18 2 (s 1 + 1)) 18 (sg_h1 (-1) s0) := by
      refine ⟨by rw [eh 2 (by decide)]; simp (disch := first | omega | (unfold xm_w; omega)) only [↓zy_at, xm_O_some, xm_Oi_some, xm_Ov_some, xm_Oq_some, ↓reduceIte, ↓zz_t, ↓zz_f, ↓zi_t, ↓zi_f, eq_self, yy_d_0, Int.reduceEq, Int.reduceLT, Int.reduceLE, Int.reduceNe, Int.reduceToNat, Int.reduceAdd, Int.reduceSub, Int.reduceMul, Int.reduceNeg, Nat.reduceAdd, Nat.reduceMul, Nat.reduceSub, Nat.reduceEqDiff, Nat.reduceLT, ne_eq, not_false_eq_true, not_true_eq_false, true_and, and_true, and_self, yy_s_eq, yy_s_ne, yy_c_eq, yy_c_ne, yy_u_eq, yy_u_ne, xm_w_id, yy_at, tdiv_pos, tmod_pos]; exact e1, by rw [x3]; simp (disch := first | omega | (unfold xm_w; omega)) only [↓zy_at, xm_O_some, xm_Oi_some, xm_Ov_some, xm_Oq_some, ↓reduceIte, ↓zz_t, ↓zz_f, ↓zi_t, ↓zi_f, eq_self, yy_d_0, Int.reduceEq, Int.reduceLT, Int.reduceLE, Int.reduceNe, Int.reduceToNat, Int.reduceAdd, Int.reduceSub, Int.reduceMul, Int.reduceNeg, Nat.reduceAdd, Nat.reduceMul, Nat.reduceSub, Nat.reduceEqDiff, Nat.reduceLT, ne_eq, not_false_eq_true, not_true_eq_false, true_and, and_true, and_self, yy_s_eq, yy_s_ne, yy_c_eq, yy_c_ne, yy_u_eq, yy_u_ne, xm_w_id, yy_at, tdiv_pos, tmod_pos]; omega, by rw [eh 0 (by decide)]; simp (disch := first | omega | (unfold xm_w; omega)) only [↓zy_at, xm_O_some, xm_Oi_some, xm_Ov_some, xm_Oq_some, ↓reduceIte, ↓zz_t, ↓zz_f, ↓zi_t, ↓zi_f, eq_self, yy_d_0, Int.reduceEq, Int.reduceLT, Int.reduceLE, Int.reduceNe, Int.reduceToNat, Int.reduceAdd, Int.reduceSub, Int.reduceMul, Int.reduceNeg, Nat.reduceAdd, Nat.reduceMul, Nat.reduceSub, Nat.reduceEqDiff, Nat.reduceLT, ne_eq, not_false_eq_true, not_true_eq_false, true_and, and_true, and_self, yy_s_eq, yy_s_ne, yy_c_eq, yy_c_ne, yy_u_eq, yy_u_ne, xm_w_id, yy_at, tdiv_pos, tmod_pos]; exact e3, by rw [eh 3 (by decide)]; simp (disch := first | omega | (unfold xm_w; omega)) only [↓zy_at, xm_O_some, xm_Oi_some, xm_Ov_some, xm_Oq_some, ↓reduceIte, ↓zz_t, ↓zz_f, ↓zi_t, ↓zi_f, eq_self, yy_d_0, Int.reduceEq, Int.reduceLT, Int.reduceLE, Int.reduceNe, Int.reduceToNat, Int.reduceAdd, Int.reduceSub, Int.reduceMul, Int.reduceNeg, Nat.reduceAdd, Nat.reduceMul, Nat.reduceSub, Nat.reduceEqDiff, Nat.reduceLT, ne_eq, not_false_eq_true, not_true_eq_false, true_and, and_true, and_self, yy_s_eq, yy_s_ne, yy_c_eq, yy_c_ne, yy_u_eq, yy_u_ne, xm_w_id, yy_at, tdiv_pos, tmod_pos]; exact e4, fun k hk => by rw [eh _ (by omega)]; simp (disch := first | omega | (unfold xm_w; omega)) only [↓zy_at, xm_O_some, xm_Oi_some, xm_Ov_some, xm_Oq_some, ↓reduceIte, ↓zz_t, ↓zz_f, ↓zi_t, ↓zi_f, eq_self, yy_d_0, Int.reduceEq, Int.reduceLT, Int.reduceLE, Int.reduceNe, Int.reduceToNat, Int.reduceAdd, Int.reduceSub, Int.reduceMul, Int.reduceNeg, Nat.reduceAdd, Nat.reduceMul, Nat.reduceSub, Nat.reduceEqDiff, Nat.reduceLT, ne_eq, not_false_eq_true, not_true_eq_false, true_and, and_true, and_self, yy_s_eq, yy_s_ne, yy_c_eq, yy_c_ne, yy_u_eq, yy_u_ne, xm_w_id, yy_at, tdiv_pos, tmod_pos]; exact e5 k hk, fun k hk => by rw [eh _ (by omega)]; simp (disch := first | omega | (unfold xm_w; omega)) only [↓zy_at, xm_O_some, xm_Oi_some, xm_Ov_some, xm_Oq_some, ↓reduceIte, ↓zz_t, ↓zz_f, ↓zi_t, ↓zi_f, eq_self, yy_d_0, Int.reduceEq, Int.reduceLT, Int.reduceLE, Int.reduceNe, Int.reduceToNat, Int.reduceAdd, Int.reduceSub, Int.reduceMul, Int.reduceNeg, Nat.reduceAdd, Nat.reduceMul, Nat.reduceSub, Nat.reduceEqDiff, Nat.reduceLT, ne_eq, not_false_eq_true, not_true_eq_false, true_and, and_true, and_self, yy_s_eq, yy_s_ne, yy_c_eq, yy_c_ne, yy_u_eq, yy_u_ne, xm_w_id, yy_at, tdiv_pos, tmod_pos]; exact e6 k hk, fun i hi => ⟨fun k hk => by rw [eh _ (by omega)]; simp (disch := first | omega | (unfold xm_w; omega)) only [↓zy_at, xm_O_some, xm_Oi_some, xm_Ov_some, xm_Oq_some, ↓reduceIte, ↓zz_t, ↓zz_f, ↓zi_t, ↓zi_f, eq_self, yy_d_0, Int.reduceEq, Int.reduceLT, Int.reduceLE, Int.reduceNe, Int.reduceToNat, Int.reduceAdd, Int.reduceSub, Int.reduceMul, Int.reduceNeg, Nat.reduceAdd, Nat.reduceMul, Nat.reduceSub, Nat.reduceEqDiff, Nat.reduceLT, ne_eq, not_false_eq_true, not_true_eq_false, true_and, and_true, and_self, yy_s_eq, yy_s_ne, yy_c_eq, yy_c_ne, yy_u_eq, yy_u_ne, xm_w_id, yy_at, tdiv_pos, tmod_pos]; exact (e7 i hi).1 k hk, fun k hk => by rw [eh _ (by omega)]; simp (disch := first | omega | (unfold xm_w; omega)) only [↓zy_at, xm_O_some, xm_Oi_some, xm_Ov_some, xm_Oq_some, ↓reduceIte, ↓zz_t, ↓zz_f, ↓zi_t, ↓zi_f, eq_self, yy_d_0, Int.reduceEq, Int.reduceLT, Int.reduceLE, Int.reduceNe, Int.reduceToNat, Int.reduceAdd, Int.reduceSub, Int.reduceMul, Int.reduceNeg, Nat.reduceAdd, Nat.reduceMul, Nat.reduceSub, Nat.reduceEqDiff, Nat.reduceLT, ne_eq, not_false_eq_true, not_true_eq_false, true_and, and_true, and_self, yy_s_eq, yy_s_ne, yy_c_eq, yy_c_ne, yy_u_eq, yy_u_ne, xm_w_id, yy_at, tdiv_pos, tmod_pos]; exact (e7 i hi).2 k hk⟩⟩
    have hB2 : sg_B (sg_h1 (-1) s0) := by
      refine ⟨?_, by omega, fun i hi => ⟨(x6.1 i hi).1.1, (x6.1 i hi).1.2.2.2.1⟩⟩
      rw [x5 2 (Or.inl (by decide)) (by decide) (by decide)]
      exact hW0.1.2.2.1
    obtain ⟨m1, e, g1, g2, g3⟩ := c_409_18g (sc := sc) (d := d + 2) (t := t) (m := yy_s m 18 2 (s 1 + 1)) hM2 hB2 x7.2
    rw [e]
    refine hQ m1 (fun c hc => by rw [g1 c hc, yy_s_ne (by omega)]; exact hF c hc) ?_
    obtain ⟨w1, w2, w3⟩ := sg_hour_W (st := -1) hW0 h1
    refine yy_MX_fr (sg_W_T hW) hM (by rw [g3 _ (by decide) (by decide), yy_s_ne (by decide)]) g2 (fun k hk hk2 => ?_)
    have := w3 k (Or.inr hk) (by omega) (by omega)
    show sg_hour (-1) s0 k = s k
    rw [this, hh2, x2 k (Or.inr hk) (by omega)]
  | k + 1, r, m, s, hk, hW, hM, hF, h0, h2, hh => by
    have hn5 := hW0.1.1
    obtain ⟨hMR, hX, hX1⟩ := id hM
    obtain ⟨e1, e2, e3, e4, e5, e6, e7⟩ := id hMR
    have hq : yy_rd (25 + 2 * r) := yy_rdn25 (by omega)
    have f5 : m (25 + 2 * r) 5 = s (49 + 18 * r) := by rw [(e7 r (by omega)).1 5 (by decide)]; congr 1; omega
    have f4 : m (25 + 2 * r) 4 = s (48 + 18 * r) := by rw [(e7 r (by omega)).1 4 (by decide)]; congr 1; omega
    have er : ((r : Int)).toNat = r := Int.toNat_natCast r
    have next : ∀ m1 s1, sg_W s1 (r + 1 : Nat) → yy_MX t m1 18 s1 → yy_Fb m0 m1 18 → s1 0 = s0 0 → s1 1 = s0 1 → sg_hl (-1) k (r + 1) s1 = sg_hl (-1) (s0 0).toNat 0 s0 → xm_EQ (xm_old sc) xm_sta (xm_X (xm_old sc) xm_mt (d + 5)) xm_c405 2 [some (.inr (.inl (some 18))), some (.inl ((r : Int) + 1))] [] (yy_W (m1) t) Q := by
      intro m1 s1 a1 a2 a3 a4 a5 a6
      have := l_405_18 (sc := sc) (d := d) (t := t) (Q := Q) hn h1 hW0 hQ k (r + 1) m1 s1 (by omega) a1 a2 a3 a4 a5 a6
      rw [show ((r + 1 : Nat) : Int) = (r : Int) + 1 by omega] at this
      exact this
    rw [sg_hl_s] at hh
    refine xb_405_2 ?_
    simp (disch := first | omega | (unfold xm_w; omega)) only [↓zy_at, xm_O_some, xm_Oi_some, xm_Ov_some, xm_Oq_some, ↓reduceIte, ↓zz_t, ↓zz_f, ↓zi_t, ↓zi_f, eq_self, yy_d_0, Int.reduceEq, Int.reduceLT, Int.reduceLE, Int.reduceNe, Int.reduceToNat, Int.reduceAdd, Int.reduceSub, Int.reduceMul, Int.reduceNeg, Nat.reduceAdd, Nat.reduceMul, Nat.reduceSub, Nat.reduceEqDiff, Nat.reduceLT, ne_eq, not_false_eq_true, not_true_eq_false, true_and, and_true, and_self, yy_s_eq, yy_s_ne, yy_c_eq, yy_c_ne, yy_u_eq, yy_u_ne, xm_w_id, yy_at, tdiv_pos, tmod_pos, ↓zr_18_0, ↓zf_18_1, ↓zs_18_1, ↓zf_18_2, ↓zs_18_2, ↓zr_18_3, ↓zf_18_4, ↓zs_18_4, ↓zr_18_5, ↓zf_18_6, ↓zs_18_6, ↓zr_18_7, ↓zr_18_8, ↓zr_18_9, ↓zq_20, e3, h0, ↓zq_r18, er, ↓gf_5 hq, ↓gf_4 hq, f5, f4]
    by_cases g2 : s (49 + 18 * r) < s (48 + 18 * r)
    · rw [if_pos ⟨by omega, g2⟩] at hh
      rw [if_pos g2]
      obtain ⟨m1, e, g3, g4⟩ := c_406_18 (sc := sc) (d := d) (t := t) (m := m) (r := r) (by omega) hM hW g2
      obtain ⟨w1, w2⟩ := sg_rd_W (by omega) hW g2
      rw [e]
      refine next m1 (sg_rd s r) w1 (yy_MX_fr (sg_W_T hW) hM (g3 _ (by omega)) g4 (fun k hk hk2 => w2 k (Or.inr hk) (by omega) (by omega) (by omega))) (fun c hc => by rw [g3 c hc]; exact hF c hc) ?_ ?_ hh
      · rw [w2 0 (Or.inl (by decide)) (by decide) (by omega) (by omega)]; exact h0
      · rw [w2 1 (Or.inl (by decide)) (by decide) (by omega) (by omega)]; exact h2
    · rw [if_neg (fun h => g2 h.2)] at hh
      rw [if_neg g2]
      exact next m s (sg_W_mono (by omega) hW) hM hF h0 h2 hh
set_option maxRecDepth 20000 in
theorem c_405_18g {sc : List Int} {d : Nat} {t : xm_W} {m : Nat → Nat → Int} {s : Nat → Int} (hM : yy_MX t m 18 s) (hW : sg_W s 0) (h1 : s 1 < 20000) : ∃ m', xm_X (xm_old sc) xm_mt (d + 6) 405 [.inr (.inl (some 18))] (yy_W m t) = some (none, yy_W m' t) ∧ yy_Fb m m' 18 ∧ yy_MX t m' 18 (sg_hour (-1) s) := by
  have key : ∀ {Q : Option xm_V × xm_W → Prop}, (∀ m', (yy_Fb m m' 18 ∧ yy_MX t m' 18 (sg_hour (-1) s)) → Q (none, yy_W m' t)) → xm_EQ (xm_old sc) xm_sta (xm_X (xm_old sc) xm_mt (d + 5)) xm_m405.2.2.2.2.2.2.2 0 (xm_loc xm_m405.2.2.1 [.inr (.inl (some 18))]) [] (yy_W m t) Q := by
    intro Q hQ
    refine xb_405_0 ?_
    exact l_405_18 (d := d) rfl h1 hW (fun m' a b => hQ m' ⟨a, b⟩) (s 0).toNat 0 m s (by have := hW.1.1; omega) hW hM (fun _ _ => rfl) rfl rfl rfl
  obtain ⟨q, h1, m', h2, h3⟩ := yx_of (y := 405) (M := xm_m405) (sc := sc) (d := d + 5) (as := [.inr (.inl (some 18))]) (w := yy_W m t) (Q := fun q => ∃ m', q = (none, yy_W m' t) ∧ (yy_Fb m m' 18 ∧ yy_MX t m' 18 (sg_hour (-1) s))) rfl (key fun m' h => ⟨m', rfl, h⟩) (fun q ⟨m', h, _⟩ => by rw [h]; rfl) rfl (Nat.le_of_ble_eq_true rfl) (yy_hd rfl (by decide))
  exact ⟨m', by rw [h1, h2], h3⟩
set_option maxRecDepth 20000 in
theorem l_404_18g {sc : List Int} {d : Nat} {t : xm_W} {Q : Option xm_V × xm_W → Prop} {m0 : Nat → Nat → Int} {n : Int} {s' : Nat → Int} (hn : n ≤ 24) (hQ : ∀ m', yy_Fb m0 m' 18 → yy_MX t m' 18 s' → Q ((none, (yy_W (m') t)))) : ∀ (k : Nat) (i : Int) (m : Nat → Nat → Int) (s : Nat → Int), n - i = k → 0 ≤ i → sg_W s 0 → yy_MX t m 18 s → s 1 + k ≤ 20000 → yy_Fb m0 m 18 → sg_go (-1) k s = s' → xm_EQ (xm_old sc) xm_sta (xm_X (xm_old sc) xm_mt (d + 6)) xm_c404 2 [some (.inr (.inl (some 18))), some (.inl (n)), some (.inl (i))] [] (yy_W (m) t) Q
  | 0, i, m, s, hk, hi, hW, hM, h1, hF, hs => by
    refine xb_404_2 ?_
    rw [if_neg (by omega)]
    exact hQ m hF (by rw [← hs]; exact hM)
  | k + 1, i, m, s, hk, hi, hW, hM, h1, hF, hs => by
    refine xb_404_2 ?_
    obtain ⟨m1, e1, f1, g1⟩ := c_405_18g (sc := sc) (d := d) (t := t) (m := m) hM hW (by omega)
    obtain ⟨w1, w2, w3⟩ := sg_hour_W (st := -1) hW (by omega)
    rw [if_pos (by omega), e1, xm_Ov_some, xm_w_id (by omega) (by omega)]
    exact l_404_18g hn hQ k (i + 1) m1 (sg_hour (-1) s) (by omega) (by omega) w1 g1 (by rw [w2]; omega) (fun c hc => by rw [f1 c hc]; exact hF c hc) hs
set_option maxRecDepth 20000 in
theorem c_404_18g {sc : List Int} {d : Nat} {t : xm_W} {m : Nat → Nat → Int} {n : Int} {s : Nat → Int} (h0 : 0 ≤ n ∧ n ≤ 24) (hM : yy_MX t m 18 s) (hW : sg_W s 0) (h1 : s 1 + n ≤ 20000) : ∃ m', xm_X (xm_old sc) xm_mt (d + 7) 404 [.inr (.inl (some 18)), .inl (n)] (yy_W m t) = some (none, yy_W m' t) ∧ yy_Fb m m' 18 ∧ yy_MX t m' 18 (sg_go (-1) n.toNat s) := by
  have key : ∀ {Q : Option xm_V × xm_W → Prop}, (∀ m', (yy_Fb m m' 18 ∧ yy_MX t m' 18 (sg_go (-1) n.toNat s)) → Q (none, yy_W m' t)) → xm_EQ (xm_old sc) xm_sta (xm_X (xm_old sc) xm_mt (d + 6)) xm_m404.2.2.2.2.2.2.2 0 (xm_loc xm_m404.2.2.1 [.inr (.inl (some 18)), .inl (n)]) [] (yy_W m t) Q := by
    intro Q hQ
    refine xb_404_0 ?_
    exact l_404_18g (d := d) h0.2 (fun m' a b => hQ m' ⟨a, b⟩) n.toNat 0 m s (by omega) (by decide) hW hM (by omega) (fun _ _ => rfl) rfl
  obtain ⟨q, h1, m', h2, h3⟩ := yx_of (y := 404) (M := xm_m404) (sc := sc) (d := d + 6) (as := [.inr (.inl (some 18)), .inl (n)]) (w := yy_W m t) (Q := fun q => ∃ m', q = (none, yy_W m' t) ∧ (yy_Fb m m' 18 ∧ yy_MX t m' 18 (sg_go (-1) n.toNat s))) rfl (key fun m' h => ⟨m', rfl, h⟩) (fun q ⟨m', h, _⟩ => by rw [h]; rfl) rfl (Nat.le_of_ble_eq_true rfl) (yy_hd rfl (by decide))
  exact ⟨m', by rw [h1, h2], h3⟩
end
section
/-! WHAT IS READ off the prints -/
def sg_cn (s : Nat → Int) (w : Nat) (v : Int) : Nat → Int
  | 0 => 0
  | n + 1 => sg_cn s w v n + (if sg_p s n w = v then 1 else 0)
def sg_la (s : Nat → Int) (c : Int) : Nat → Int
  | 0 => -1
  | n + 1 => if sg_p s n 0 = c then n else sg_la s c n
def sg_de (s : Nat → Int) (c : Int) : Nat → Int
  | 0 => 0
  | n + 1 => if sg_p s n 0 = c then (if sg_de s c n < sg_p s n 2 then sg_p s n 2 else sg_de s c n) else sg_de s c n
def sg_N (s : Nat → Int) : Nat := (s 3).toNat
set_option maxRecDepth 20000 in
theorem sg_cn_b {s : Nat → Int} {w : Nat} {v : Int} : ∀ n : Nat, 0 ≤ sg_cn s w v n ∧ sg_cn s w v n ≤ n
  | 0 => by unfold sg_cn; omega
  | n + 1 => by
    have := sg_cn_b (s := s) (w := w) (v := v) n
    unfold sg_cn; split <;> omega
set_option maxRecDepth 20000 in
theorem sg_la_b {s : Nat → Int} {c : Int} : ∀ n : Nat, sg_la s c n = -1 ∨ (0 ≤ sg_la s c n ∧ sg_la s c n < n ∧ sg_p s (sg_la s c n).toNat 0 = c)
  | 0 => Or.inl rfl
  | n + 1 => by
    unfold sg_la
    by_cases e : sg_p s n 0 = c
    · rw [if_pos e]; exact Or.inr ⟨by omega, by omega, by rw [Int.toNat_natCast]; exact e⟩
    · rw [if_neg e]
      rcases sg_la_b (s := s) (c := c) n with h | ⟨h1, h2, h3⟩
      · exact Or.inl h
      · exact Or.inr ⟨h1, by omega, h3⟩
set_option maxRecDepth 20000 in
theorem sg_de_b {s : Nat → Int} {c : Int} (h : ∀ i : Nat, (i : Int) < s 3 → sg_E s i) : ∀ n : Nat, (n : Int) ≤ s 3 → 0 ≤ sg_de s c n ∧ sg_de s c n ≤ 99
  | 0, _ => by unfold sg_de; omega
  | n + 1, hn => by
    have := sg_de_b (c := c) h n (by omega)
    have e := (h n (by omega)).2.2.1
    unfold sg_de; repeat' split
    all_goals omega
def sg_nmD (n dd a : Int) : Int → Int := fun v => if v = 110 then n else if v = 100 then dd else a
def sg_hd (v : Int) : Int := if v < 0 then 0 else if 99 < v then 99 else v
def sg_age (s : Nat → Int) (c : Int) : Int := if sg_la s c (sg_N s) = -1 then 99 else s 1 - sg_p s (sg_la s c (sg_N s)).toNat 3
def sg_db (s : Nat → Int) (c : Int) : Int := if 0 < sg_tn s 1 then sg_hd (sg_val s 1 (sg_nmD (sg_cn s 0 c (sg_N s)) (sg_de s c (sg_N s)) (sg_age s c))) else sg_age s c
def sg_cf (s : Nat → Int) (c y : Int) : Int := if y = 0 then s (8 + c).toNat else if y = 1 then sg_cn s 0 c (sg_N s) else if y = 2 then (if sg_la s c (sg_N s) = -1 then -1 else sg_p s (sg_la s c (sg_N s)).toNat 1) else if y = 3 then sg_de s c (sg_N s) else sg_db s c
def sg_rf (s : Nat → Int) (r : Nat) (y : Int) : Int := if y = 7 then sg_cn s 4 r (sg_N s) else if 7 < y then (if y - 8 < s (48 + 18 * r) then s (50 + 18 * r + (y - 8).toNat) else -1) else if y = 6 then sg_dp s r else s (44 + 18 * r + y.toNat)
def sg_tr (s : Nat → Int) (bl : Int) : Nat → Int → Int → Int × Int
  | 0, at1, st => (at1, st)
  | k + 1, at1, st => if sg_la s at1 (sg_N s) = -1 then (at1, st) else if sp_next at1 (if bl = 0 then sg_p s (sg_la s at1 (sg_N s)).toNat 1 else sp_back (sg_p s (sg_la s at1 (sg_N s)).toNat 1)) = -1 then (at1, st) else sg_tr s bl k (sp_next at1 (if bl = 0 then sg_p s (sg_la s at1 (sg_N s)).toNat 1 else sp_back (sg_p s (sg_la s at1 (sg_N s)).toNat 1))) (st + 1)
set_option maxRecDepth 20000 in
theorem sg_nmD_ok {nc : Nat → Int} {n dd a : Int} (h0 : nc 0 = n) (h1 : nc 1 = dd) (h2 : nc 2 = a) : ∀ v, sg_nm 1 v → (fun v => nc (sg_ix 1 v).toNat) v = sg_nmD n dd a v := by
  intro v hv
  unfold sg_nm at hv
  rw [if_neg (by decide)] at hv
  unfold sg_nmD
  show nc (sg_ix 1 v).toNat = _
  unfold sg_ix
  rw [if_neg (by decide)]
  rcases hv with h | h | h <;> subst h
  · rw [if_pos rfl, if_pos rfl]; exact h0
  · rw [if_neg (by decide), if_pos rfl, if_neg (by decide), if_pos rfl]; exact h1
  · rw [if_neg (by decide), if_neg (by decide), if_neg (by decide), if_neg (by decide)]; exact h2
set_option maxRecDepth 20000 in
theorem l_414_1 {sc : List Int} {d : Nat} {t : xm_W} {m : Nat → Nat → Int} {s : Nat → Int} {Q : Option xm_V × xm_W → Prop} {w : Nat} {v : Int} (hw : w < 5) (hM : yy_MR m 1 s) (h3 : 0 ≤ s 3 ∧ s 3 ≤ 40) (hQ : Q ((some (.inl (sg_cn s w v (sg_N s))), (yy_W (m) t)))) : ∀ (k i : Nat), ((i + k : Nat) : Int) = s 3 → xm_EQ (xm_old sc) xm_sta (xm_X (xm_old sc) xm_mt (d)) xm_c414 4 [some (.inr (.inl (some 1))), some (.inl ((w : Int))), some (.inl (v)), some (.inl ((sg_cn s w v i))), some (.inl ((i : Int)))] [] (yy_W (m) t) Q
  | 0, i, hk => by
    have e : i = sg_N s := by unfold sg_N; omega
    refine xb_414_4 ?_
    simp (disch := first | omega | (unfold xm_w; omega)) only [↓zy_at, xm_O_some, xm_Oi_some, xm_Ov_some, xm_Oq_some, ↓reduceIte, ↓zz_t, ↓zz_f, ↓zi_t, ↓zi_f, eq_self, yy_d_0, Int.reduceEq, Int.reduceLT, Int.reduceLE, Int.reduceNe, Int.reduceToNat, Int.reduceAdd, Int.reduceSub, Int.reduceMul, Int.reduceNeg, Nat.reduceAdd, Nat.reduceMul, Nat.reduceSub, Nat.reduceEqDiff, Nat.reduceLT, ne_eq, not_false_eq_true, not_true_eq_false, true_and, and_true, and_self, yy_s_eq, yy_s_ne, yy_c_eq, yy_c_ne, yy_u_eq, yy_u_ne, xm_w_id, yy_at, tdiv_pos, tmod_pos, ↓zr_1_0, ↓zf_1_1, ↓zs_1_1, ↓zf_1_2, ↓zs_1_2, ↓zr_1_3, ↓zf_1_4, ↓zs_1_4, ↓zr_1_5, ↓zf_1_6, ↓zs_1_6, ↓zr_1_7, ↓zr_1_8, ↓zr_1_9, hM.2.2.2.1]
    rw [e]; exact hQ
  | k + 1, i, hk => by
    have cb := sg_cn_b (s := s) (w := w) (v := v) i
    have i0 : ((i : Int) * 5 + (w : Int)).toNat = 5 * i + w := by omega
    have f : m 4 (5 * i + w) = sg_p s i w := by rw [hM.2.2.2.2.2.1 _ (by omega)]; unfold sg_p; first | rfl | (congr 1; omega)
    have := l_414_1 (sc := sc) (d := d) (t := t) (Q := Q) hw hM h3 hQ k (i + 1) (by omega)
    rw [show ((i + 1 : Nat) : Int) = (i : Int) + 1 by omega] at this
    unfold sg_cn at this
    refine xb_414_4 ?_
    simp (disch := first | omega | (unfold xm_w; omega)) only [↓zy_at, xm_O_some, xm_Oi_some, xm_Ov_some, xm_Oq_some, ↓reduceIte, ↓zz_t, ↓zz_f, ↓zi_t, ↓zi_f, eq_self, yy_d_0, Int.reduceEq, Int.reduceLT, Int.reduceLE, Int.reduceNe, Int.reduceToNat, Int.reduceAdd, Int.reduceSub, Int.reduceMul, Int.reduceNeg, Nat.reduceAdd, Nat.reduceMul, Nat.reduceSub, Nat.reduceEqDiff, Nat.reduceLT, ne_eq, not_false_eq_true, not_true_eq_false, true_and, and_true, and_self, yy_s_eq, yy_s_ne, yy_c_eq, yy_c_ne, yy_u_eq, yy_u_ne, xm_w_id, yy_at, tdiv_pos, tmod_pos, ↓zr_1_0, ↓zf_1_1, ↓zs_1_1, ↓zf_1_2, ↓zs_1_2, ↓zr_1_3, ↓zf_1_4, ↓zs_1_4, ↓zr_1_5, ↓zf_1_6, ↓zs_1_6, ↓zr_1_7, ↓zr_1_8, ↓zr_1_9, ↓zi_4, ↓zt_4, hM.2.2.2.1, i0, f]
    split
    · rename_i g; rw [if_pos g] at this; exact this
    · rename_i g; rw [if_neg g, Int.add_zero] at this; exact this
set_option maxRecDepth 20000 in
theorem c_414_1g {sc : List Int} {d : Nat} {t : xm_W} {m : Nat → Nat → Int} {s : Nat → Int} {w : Nat} {v : Int} (hw : w < 5) (hM : yy_MR m 1 s) (h3 : 0 ≤ s 3 ∧ s 3 ≤ 40) : xm_X (xm_old sc) xm_mt (d + 1) 414 [.inr (.inl (some 1)), .inl ((w : Int)), .inl (v)] (yy_W (m) t) = some (some (.inl (sg_cn s w v (sg_N s))), (yy_W (m) t)) := by
  refine xm_X_of (M := xm_m414) rfl ⟨xm_EQ.eq (xb_414_0 ?_), rfl, rfl, Nat.le_of_ble_eq_true rfl, yy_hd rfl (by decide)⟩
  exact l_414_1 (d := d) hw hM h3 rfl (sg_N s) 0 (by unfold sg_N; omega)
set_option maxRecDepth 20000 in
theorem oc_414_1g {F : Int → xm_W → Prop} {sc : List Int} {d : Nat} {t : xm_W} {m : Nat → Nat → Int} {s : Nat → Int} {w : Nat} {v : Int} (hw : w < 5) (hM : yy_MR m 1 s) (h3 : 0 ≤ s 3 ∧ s 3 ≤ 40) : xm_Oi (xm_X (xm_old sc) xm_mt (d + 1) 414 [.inr (.inl (some 1)), .inl ((w : Int)), .inl (v)] (yy_W (m) t)) F = F (sg_cn s w v (sg_N s)) (yy_W (m) t) := congrArg (fun x => xm_Oi x F) (c_414_1g hw hM h3)
set_option maxRecDepth 20000 in
theorem c_414_1_0 {sc : List Int} {d : Nat} {t : xm_W} {m : Nat → Nat → Int} {s : Nat → Int} {v : Int} (hM : yy_MR m 1 s) (h3 : 0 ≤ s 3 ∧ s 3 ≤ 40) : xm_X (xm_old sc) xm_mt (d + 1) 414 [.inr (.inl (some 1)), .inl (0), .inl (v)] (yy_W (m) t) = some (some (.inl (sg_cn s 0 v (sg_N s))), (yy_W (m) t)) := by
  exact c_414_1g (w := 0) (by decide) hM h3
set_option maxRecDepth 20000 in
theorem oc_414_1_0 {F : Int → xm_W → Prop} {sc : List Int} {d : Nat} {t : xm_W} {m : Nat → Nat → Int} {s : Nat → Int} {v : Int} (hM : yy_MR m 1 s) (h3 : 0 ≤ s 3 ∧ s 3 ≤ 40) : xm_Oi (xm_X (xm_old sc) xm_mt (d + 1) 414 [.inr (.inl (some 1)), .inl (0), .inl (v)] (yy_W (m) t)) F = F (sg_cn s 0 v (sg_N s)) (yy_W (m) t) := congrArg (fun x => xm_Oi x F) (c_414_1_0 hM h3)
set_option maxRecDepth 20000 in
theorem c_414_1_4 {sc : List Int} {d : Nat} {t : xm_W} {m : Nat → Nat → Int} {s : Nat → Int} {v : Int} (hM : yy_MR m 1 s) (h3 : 0 ≤ s 3 ∧ s 3 ≤ 40) : xm_X (xm_old sc) xm_mt (d + 1) 414 [.inr (.inl (some 1)), .inl (4), .inl (v)] (yy_W (m) t) = some (some (.inl (sg_cn s 4 v (sg_N s))), (yy_W (m) t)) := by
  exact c_414_1g (w := 4) (by decide) hM h3
set_option maxRecDepth 20000 in
theorem oc_414_1_4 {F : Int → xm_W → Prop} {sc : List Int} {d : Nat} {t : xm_W} {m : Nat → Nat → Int} {s : Nat → Int} {v : Int} (hM : yy_MR m 1 s) (h3 : 0 ≤ s 3 ∧ s 3 ≤ 40) : xm_Oi (xm_X (xm_old sc) xm_mt (d + 1) 414 [.inr (.inl (some 1)), .inl (4), .inl (v)] (yy_W (m) t)) F = F (sg_cn s 4 v (sg_N s)) (yy_W (m) t) := congrArg (fun x => xm_Oi x F) (c_414_1_4 hM h3)
set_option maxRecDepth 20000 in
theorem l_415_1 {sc : List Int} {d : Nat} {t : xm_W} {m : Nat → Nat → Int} {s : Nat → Int} {Q : Option xm_V × xm_W → Prop} {c : Int} (hM : yy_MR m 1 s) (h3 : 0 ≤ s 3 ∧ s 3 ≤ 40) (hQ : Q ((some (.inl (sg_la s c (sg_N s))), (yy_W (m) t)))) : ∀ (k i : Nat), ((i + k : Nat) : Int) = s 3 → xm_EQ (xm_old sc) xm_sta (xm_X (xm_old sc) xm_mt (d)) xm_c415 4 [some (.inr (.inl (some 1))), some (.inl (c)), some (.inl ((sg_la s c i))), some (.inl ((i : Int)))] [] (yy_W (m) t) Q
  | 0, i, hk => by
    have e : i = sg_N s := by unfold sg_N; omega
    refine xb_415_4 ?_
    simp (disch := first | omega | (unfold xm_w; omega)) only [↓zy_at, xm_O_some, xm_Oi_some, xm_Ov_some, xm_Oq_some, ↓reduceIte, ↓zz_t, ↓zz_f, ↓zi_t, ↓zi_f, eq_self, yy_d_0, Int.reduceEq, Int.reduceLT, Int.reduceLE, Int.reduceNe, Int.reduceToNat, Int.reduceAdd, Int.reduceSub, Int.reduceMul, Int.reduceNeg, Nat.reduceAdd, Nat.reduceMul, Nat.reduceSub, Nat.reduceEqDiff, Nat.reduceLT, ne_eq, not_false_eq_true, not_true_eq_false, true_and, and_true, and_self, yy_s_eq, yy_s_ne, yy_c_eq, yy_c_ne, yy_u_eq, yy_u_ne, xm_w_id, yy_at, tdiv_pos, tmod_pos, ↓zr_1_0, ↓zf_1_1, ↓zs_1_1, ↓zf_1_2, ↓zs_1_2, ↓zr_1_3, ↓zf_1_4, ↓zs_1_4, ↓zr_1_5, ↓zf_1_6, ↓zs_1_6, ↓zr_1_7, ↓zr_1_8, ↓zr_1_9, hM.2.2.2.1]
    rw [e]; exact hQ
  | k + 1, i, hk => by
    have i0 : ((i : Int) * 5 + 0).toNat = 5 * i := by omega
    have f : m 4 (5 * i) = sg_p s i 0 := by rw [hM.2.2.2.2.2.1 _ (by omega)]; unfold sg_p; first | rfl | (congr 1; omega)
    have := l_415_1 (sc := sc) (d := d) (t := t) (Q := Q) hM h3 hQ k (i + 1) (by omega)
    rw [show ((i + 1 : Nat) : Int) = (i : Int) + 1 by omega] at this
    unfold sg_la at this
    refine xb_415_4 ?_
    simp (disch := first | omega | (unfold xm_w; omega)) only [↓zy_at, xm_O_some, xm_Oi_some, xm_Ov_some, xm_Oq_some, ↓reduceIte, ↓zz_t, ↓zz_f, ↓zi_t, ↓zi_f, eq_self, yy_d_0, Int.reduceEq, Int.reduceLT, Int.reduceLE, Int.reduceNe, Int.reduceToNat, Int.reduceAdd, Int.reduceSub, Int.reduceMul, Int.reduceNeg, Nat.reduceAdd, Nat.reduceMul, Nat.reduceSub, Nat.reduceEqDiff, Nat.reduceLT, ne_eq, not_false_eq_true, not_true_eq_false, true_and, and_true, and_self, yy_s_eq, yy_s_ne, yy_c_eq, yy_c_ne, yy_u_eq, yy_u_ne, xm_w_id, yy_at, tdiv_pos, tmod_pos, ↓zr_1_0, ↓zf_1_1, ↓zs_1_1, ↓zf_1_2, ↓zs_1_2, ↓zr_1_3, ↓zf_1_4, ↓zs_1_4, ↓zr_1_5, ↓zf_1_6, ↓zs_1_6, ↓zr_1_7, ↓zr_1_8, ↓zr_1_9, ↓zi_4, ↓zt_4, hM.2.2.2.1, i0, f]
    split
    · rename_i g; rw [if_pos g] at this; exact this
    · rename_i g; rw [if_neg g] at this; exact this
set_option maxRecDepth 20000 in
theorem c_415_1g {sc : List Int} {d : Nat} {t : xm_W} {m : Nat → Nat → Int} {s : Nat → Int} {c : Int} (hM : yy_MR m 1 s) (h3 : 0 ≤ s 3 ∧ s 3 ≤ 40) : xm_X (xm_old sc) xm_mt (d + 1) 415 [.inr (.inl (some 1)), .inl (c)] (yy_W (m) t) = some (some (.inl (sg_la s c (sg_N s))), (yy_W (m) t)) := by
  refine xm_X_of (M := xm_m415) rfl ⟨xm_EQ.eq (xb_415_0 ?_), rfl, rfl, Nat.le_of_ble_eq_true rfl, yy_hd rfl (by decide)⟩
  exact l_415_1 (d := d) hM h3 rfl (sg_N s) 0 (by unfold sg_N; omega)
set_option maxRecDepth 20000 in
theorem oc_415_1g {F : Int → xm_W → Prop} {sc : List Int} {d : Nat} {t : xm_W} {m : Nat → Nat → Int} {s : Nat → Int} {c : Int} (hM : yy_MR m 1 s) (h3 : 0 ≤ s 3 ∧ s 3 ≤ 40) : xm_Oi (xm_X (xm_old sc) xm_mt (d + 1) 415 [.inr (.inl (some 1)), .inl (c)] (yy_W (m) t)) F = F (sg_la s c (sg_N s)) (yy_W (m) t) := congrArg (fun x => xm_Oi x F) (c_415_1g hM h3)
set_option maxRecDepth 20000 in
theorem l_416_1 {sc : List Int} {d : Nat} {t : xm_W} {m : Nat → Nat → Int} {s : Nat → Int} {Q : Option xm_V × xm_W → Prop} {c : Int} (hM : yy_MR m 1 s) (h3 : 0 ≤ s 3 ∧ s 3 ≤ 40) (hQ : Q ((some (.inl (sg_de s c (sg_N s))), (yy_W (m) t)))) : ∀ (k i : Nat), ((i + k : Nat) : Int) = s 3 → xm_EQ (xm_old sc) xm_sta (xm_X (xm_old sc) xm_mt (d)) xm_c416 4 [some (.inr (.inl (some 1))), some (.inl (c)), some (.inl ((sg_de s c i))), some (.inl ((i : Int)))] [] (yy_W (m) t) Q
  | 0, i, hk => by
    have e : i = sg_N s := by unfold sg_N; omega
    refine xb_416_4 ?_
    simp (disch := first | omega | (unfold xm_w; omega)) only [↓zy_at, xm_O_some, xm_Oi_some, xm_Ov_some, xm_Oq_some, ↓reduceIte, ↓zz_t, ↓zz_f, ↓zi_t, ↓zi_f, eq_self, yy_d_0, Int.reduceEq, Int.reduceLT, Int.reduceLE, Int.reduceNe, Int.reduceToNat, Int.reduceAdd, Int.reduceSub, Int.reduceMul, Int.reduceNeg, Nat.reduceAdd, Nat.reduceMul, Nat.reduceSub, Nat.reduceEqDiff, Nat.reduceLT, ne_eq, not_false_eq_true, not_true_eq_false, true_and, and_true, and_self, yy_s_eq, yy_s_ne, yy_c_eq, yy_c_ne, yy_u_eq, yy_u_ne, xm_w_id, yy_at, tdiv_pos, tmod_pos, ↓zr_1_0, ↓zf_1_1, ↓zs_1_1, ↓zf_1_2, ↓zs_1_2, ↓zr_1_3, ↓zf_1_4, ↓zs_1_4, ↓zr_1_5, ↓zf_1_6, ↓zs_1_6, ↓zr_1_7, ↓zr_1_8, ↓zr_1_9, hM.2.2.2.1]
    rw [e]; exact hQ
  | k + 1, i, hk => by
    have i0 : ((i : Int) * 5 + 0).toNat = 5 * i := by omega
    have i2 : ((i : Int) * 5 + 2).toNat = 5 * i + 2 := by omega
    have f : m 4 (5 * i) = sg_p s i 0 := by rw [hM.2.2.2.2.2.1 _ (by omega)]; unfold sg_p; first | rfl | (congr 1; omega)
    have f2 : m 4 (5 * i + 2) = sg_p s i 2 := by rw [hM.2.2.2.2.2.1 _ (by omega)]; unfold sg_p; first | rfl | (congr 1; omega)
    have := l_416_1 (sc := sc) (d := d) (t := t) (Q := Q) hM h3 hQ k (i + 1) (by omega)
    rw [show ((i + 1 : Nat) : Int) = (i : Int) + 1 by omega] at this
    unfold sg_de at this
    refine xb_416_4 ?_
    simp (disch := first | omega | (unfold xm_w; omega)) only [↓zy_at, xm_O_some, xm_Oi_some, xm_Ov_some, xm_Oq_some, ↓reduceIte, ↓zz_t, ↓zz_f, ↓zi_t, ↓zi_f, eq_self, yy_d_0, Int.reduceEq, Int.reduceLT, Int.reduceLE, Int.reduceNe, Int.reduceToNat, Int.reduceAdd, Int.reduceSub, Int.reduceMul, Int.reduceNeg, Nat.reduceAdd, Nat.reduceMul, Nat.reduceSub, Nat.reduceEqDiff, Nat.reduceLT, ne_eq, not_false_eq_true, not_true_eq_false, true_and, and_true, and_self, yy_s_eq, yy_s_ne, yy_c_eq, yy_c_ne, yy_u_eq, yy_u_ne, xm_w_id, yy_at, tdiv_pos, tmod_pos, ↓zr_1_0, ↓zf_1_1, ↓zs_1_1, ↓zf_1_2, ↓zs_1_2, ↓zr_1_3, ↓zf_1_4, ↓zs_1_4, ↓zr_1_5, ↓zf_1_6, ↓zs_1_6, ↓zr_1_7, ↓zr_1_8, ↓zr_1_9, ↓zi_4, ↓zt_4, hM.2.2.2.1, i0, i2, f, f2]
    split
    · rename_i g; rw [if_pos g] at this; exact this
    · rename_i g; rw [if_neg g] at this; exact this
set_option maxRecDepth 20000 in
theorem c_416_1g {sc : List Int} {d : Nat} {t : xm_W} {m : Nat → Nat → Int} {s : Nat → Int} {c : Int} (hM : yy_MR m 1 s) (h3 : 0 ≤ s 3 ∧ s 3 ≤ 40) : xm_X (xm_old sc) xm_mt (d + 1) 416 [.inr (.inl (some 1)), .inl (c)] (yy_W (m) t) = some (some (.inl (sg_de s c (sg_N s))), (yy_W (m) t)) := by
  refine xm_X_of (M := xm_m416) rfl ⟨xm_EQ.eq (xb_416_0 ?_), rfl, rfl, Nat.le_of_ble_eq_true rfl, yy_hd rfl (by decide)⟩
  exact l_416_1 (d := d) hM h3 rfl (sg_N s) 0 (by unfold sg_N; omega)
set_option maxRecDepth 20000 in
theorem oc_416_1g {F : Int → xm_W → Prop} {sc : List Int} {d : Nat} {t : xm_W} {m : Nat → Nat → Int} {s : Nat → Int} {c : Int} (hM : yy_MR m 1 s) (h3 : 0 ≤ s 3 ∧ s 3 ≤ 40) : xm_Oi (xm_X (xm_old sc) xm_mt (d + 1) 416 [.inr (.inl (some 1)), .inl (c)] (yy_W (m) t)) F = F (sg_de s c (sg_N s)) (yy_W (m) t) := congrArg (fun x => xm_Oi x F) (c_416_1g hM h3)
set_option maxRecDepth 20000 in
theorem c_417_1g {sc : List Int} {d : Nat} {t : xm_W} {m : Nat → Nat → Int} {s : Nat → Int} {c : Int} (hM : yy_MX t m 1 s) (hW : sg_W s 0) (hc : 0 ≤ c ∧ c ≤ 35) : ∃ m', xm_X (xm_old sc) xm_mt (d + 4) 417 [.inr (.inl (some 1)), .inl (c)] (yy_W m t) = some (some (.inl (sg_db s c)), yy_W m' t) ∧ ∀ c, c ≠ 6 → c ≠ 7 → m' c = m c := by
  have key : ∀ {Q : Option xm_V × xm_W → Prop}, (∀ m', (∀ c, c ≠ 6 → c ≠ 7 → m' c = m c) → Q (some (.inl (sg_db s c)), yy_W m' t)) → xm_EQ (xm_old sc) xm_sta (xm_X (xm_old sc) xm_mt (d + 3)) xm_m417.2.2.2.2.2.2.2 0 (xm_loc xm_m417.2.2.1 [.inr (.inl (some 1)), .inl (c)]) [] (yy_W m t) Q := by
    intro Q hQ
    obtain ⟨hR, hO, hS, hT, hT1⟩ := id hW
    obtain ⟨hMR, hX, hX1⟩ := id hM
    obtain ⟨e1, e2, e3, e4, e5, e6, e7⟩ := id hMR
    obtain ⟨b0, b1, b2, b3, hso, hrd⟩ := id hR
    have la := sg_la_b (s := s) (c := c) (sg_N s)
    have hN : ((sg_N s : Nat) : Int) = s 3 := by unfold sg_N; omega
    have ag : 0 ≤ sg_age s c ∧ sg_age s c ≤ 99 := by
      unfold sg_age
      rcases la with h | ⟨h, h', h2⟩
      · rw [if_pos h]; omega
      · rw [if_neg (by omega)]
        have x := hO.1 (sg_la s c (sg_N s)).toNat (by omega)
        have y := hS (sg_la s c (sg_N s)).toNat (by omega)
        have z := sg_k_r (c := sg_p s (sg_la s c (sg_N s)).toNat 0) b2
        omega
    have done : ∀ A, A = sg_age s c → ∀ (D : Prop), (yy_d (m 5 1) ≠ none → D) → (if (yy_d (m 5 1) : Option Nat) = none then Q (some (.inl (A)), (yy_W (m) t)) else D) := by
      intro A hr D hD
      subst hr
      rcases hX1 with ⟨h0, hz⟩ | ⟨h0, a, a', hz, hC⟩
      · rw [if_pos hz]
        have := hQ m fun c _ _ => rfl
        unfold sg_db at this
        rw [if_neg (by omega)] at this
        exact this
      · rw [if_neg (by rw [hz]; simp)]
        exact hD (by rw [hz]; simp)
    have text : ∀ m1 : Nat → Nat → Int, (∀ c, c ≠ 6 → m1 c = m c) → m1 6 0 = sg_cn s 0 c (sg_N s) → m1 6 1 = sg_de s c (sg_N s) → m1 6 2 = sg_age s c → yy_d (m 5 1) ≠ none → xm_Oi (xm_X (xm_old sc) xm_mt (d + 3) 902 [.inr (.inl (yy_d (m 5 1))), .inr (.inl (some 6)), .inr (.inl (some 7))] (yy_W m1 t)) (fun z23 w22 => Q (some (.inl (if 0 < (if z23 < 99 then z23 else 99) then (if z23 < 99 then z23 else 99) else 0)), w22)) := by
      intro m1 h1 n0 n1 n2 hne
      rcases hX1 with ⟨h0, hz⟩ | ⟨h0, a, a', hz, hC⟩
      · exact absurd hz hne
      · rw [hz]
        obtain ⟨m2, e, g1⟩ := c_902_1 (sc := sc) (d := d + 1) (t := t) (m := m1) hT1 h0 hC
        rw [sg_val_congr hT1 (sg_nmD_ok n0 n1 n2)] at e
        rw [e, xm_Oi_some]
        have := hQ m2 fun c c1 c2 => by rw [g1 c c2, h1 c c1]
        unfold sg_db at this
        rw [if_pos h0] at this
        unfold sg_hd at this
        generalize sg_val s 1 (sg_nmD (sg_cn s 0 c (sg_N s)) (sg_de s c (sg_N s)) (sg_age s c)) = z at this ⊢
        have ez : (if 0 < (if z < 99 then z else 99) then (if z < 99 then z else 99) else 0) = (if z < 0 then 0 else if 99 < z then 99 else z) := by
          repeat' split
          all_goals omega
        rw [ez]; exact this
    refine xb_417_0 ?_
    rw [oc_415_1g hMR b3]
    rcases la with h | ⟨h, h', h2⟩
    · have ea : sg_age s c = 99 := by unfold sg_age; rw [if_pos h]
      rw [if_pos (by omega)]
      simp (disch := first | omega | (unfold xm_w; omega)) only [↓zy_at, xm_O_some, xm_Oi_some, xm_Ov_some, xm_Oq_some, ↓reduceIte, ↓zz_t, ↓zz_f, ↓zi_t, ↓zi_f, eq_self, yy_d_0, Int.reduceEq, Int.reduceLT, Int.reduceLE, Int.reduceNe, Int.reduceToNat, Int.reduceAdd, Int.reduceSub, Int.reduceMul, Int.reduceNeg, Nat.reduceAdd, Nat.reduceMul, Nat.reduceSub, Nat.reduceEqDiff, Nat.reduceLT, ne_eq, not_false_eq_true, not_true_eq_false, true_and, and_true, and_self, yy_s_eq, yy_s_ne, yy_c_eq, yy_c_ne, yy_u_eq, yy_u_ne, xm_w_id, yy_at, tdiv_pos, tmod_pos, ↓zr_1_0, ↓zf_1_1, ↓zs_1_1, ↓zf_1_2, ↓zs_1_2, ↓zr_1_3, ↓zf_1_4, ↓zs_1_4, ↓zr_1_5, ↓zf_1_6, ↓zs_1_6, ↓zr_1_7, ↓zr_1_8, ↓zr_1_9, ↓zq_5, ↓zq_tx]
      refine done 99 ea.symm _ (fun hne => ?_)
      rw [oc_414_1_0 hMR b3]
      simp (disch := first | omega | (unfold xm_w; omega)) only [↓zy_at, xm_O_some, xm_Oi_some, xm_Ov_some, xm_Oq_some, ↓reduceIte, ↓zz_t, ↓zz_f, ↓zi_t, ↓zi_f, eq_self, yy_d_0, Int.reduceEq, Int.reduceLT, Int.reduceLE, Int.reduceNe, Int.reduceToNat, Int.reduceAdd, Int.reduceSub, Int.reduceMul, Int.reduceNeg, Nat.reduceAdd, Nat.reduceMul, Nat.reduceSub, Nat.reduceEqDiff, Nat.reduceLT, ne_eq, not_false_eq_true, not_true_eq_false, true_and, and_true, and_self, yy_s_eq, yy_s_ne, yy_c_eq, yy_c_ne, yy_u_eq, yy_u_ne, xm_w_id, yy_at, tdiv_pos, tmod_pos, ↓zr_1_0, ↓zf_1_1, ↓zs_1_1, ↓zf_1_2, ↓zs_1_2, ↓zr_1_3, ↓zf_1_4, ↓zs_1_4, ↓zr_1_5, ↓zf_1_6, ↓zs_1_6, ↓zr_1_7, ↓zr_1_8, ↓zr_1_9, ↓zi_6, ↓zt_6]
      rw [oc_416_1g (m := yy_s m 6 0 (sg_cn s 0 c (sg_N s))) (yy_MR_fr (fun c hc => by simp (disch := first | omega | (unfold xm_w; omega)) only [↓zy_at, xm_O_some, xm_Oi_some, xm_Ov_some, xm_Oq_some, ↓reduceIte, ↓zz_t, ↓zz_f, ↓zi_t, ↓zi_f, eq_self, yy_d_0, Int.reduceEq, Int.reduceLT, Int.reduceLE, Int.reduceNe, Int.reduceToNat, Int.reduceAdd, Int.reduceSub, Int.reduceMul, Int.reduceNeg, Nat.reduceAdd, Nat.reduceMul, Nat.reduceSub, Nat.reduceEqDiff, Nat.reduceLT, ne_eq, not_false_eq_true, not_true_eq_false, true_and, and_true, and_self, yy_s_eq, yy_s_ne, yy_c_eq, yy_c_ne, yy_u_eq, yy_u_ne, xm_w_id, yy_at, tdiv_pos, tmod_pos]) hMR) b3]
      simp (disch := first | omega | (unfold xm_w; omega)) only [↓zy_at, xm_O_some, xm_Oi_some, xm_Ov_some, xm_Oq_some, ↓reduceIte, ↓zz_t, ↓zz_f, ↓zi_t, ↓zi_f, eq_self, yy_d_0, Int.reduceEq, Int.reduceLT, Int.reduceLE, Int.reduceNe, Int.reduceToNat, Int.reduceAdd, Int.reduceSub, Int.reduceMul, Int.reduceNeg, Nat.reduceAdd, Nat.reduceMul, Nat.reduceSub, Nat.reduceEqDiff, Nat.reduceLT, ne_eq, not_false_eq_true, not_true_eq_false, true_and, and_true, and_self, yy_s_eq, yy_s_ne, yy_c_eq, yy_c_ne, yy_u_eq, yy_u_ne, xm_w_id, yy_at, tdiv_pos, tmod_pos, ↓zr_1_0, ↓zf_1_1, ↓zs_1_1, ↓zf_1_2, ↓zs_1_2, ↓zr_1_3, ↓zf_1_4, ↓zs_1_4, ↓zr_1_5, ↓zf_1_6, ↓zs_1_6, ↓zr_1_7, ↓zr_1_8, ↓zr_1_9, ↓zi_6, ↓zt_6]
      refine text _ (fun c hc => ?_) ?_ ?_ ?_ hne
      · simp (disch := first | omega | (unfold xm_w; omega)) only [↓zy_at, xm_O_some, xm_Oi_some, xm_Ov_some, xm_Oq_some, ↓reduceIte, ↓zz_t, ↓zz_f, ↓zi_t, ↓zi_f, eq_self, yy_d_0, Int.reduceEq, Int.reduceLT, Int.reduceLE, Int.reduceNe, Int.reduceToNat, Int.reduceAdd, Int.reduceSub, Int.reduceMul, Int.reduceNeg, Nat.reduceAdd, Nat.reduceMul, Nat.reduceSub, Nat.reduceEqDiff, Nat.reduceLT, ne_eq, not_false_eq_true, not_true_eq_false, true_and, and_true, and_self, yy_s_eq, yy_s_ne, yy_c_eq, yy_c_ne, yy_u_eq, yy_u_ne, xm_w_id, yy_at, tdiv_pos, tmod_pos]
      · simp (disch := first | omega | (unfold xm_w; omega)) only [↓zy_at, xm_O_some, xm_Oi_some, xm_Ov_some, xm_Oq_some, ↓reduceIte, ↓zz_t, ↓zz_f, ↓zi_t, ↓zi_f, eq_self, yy_d_0, Int.reduceEq, Int.reduceLT, Int.reduceLE, Int.reduceNe, Int.reduceToNat, Int.reduceAdd, Int.reduceSub, Int.reduceMul, Int.reduceNeg, Nat.reduceAdd, Nat.reduceMul, Nat.reduceSub, Nat.reduceEqDiff, Nat.reduceLT, ne_eq, not_false_eq_true, not_true_eq_false, true_and, and_true, and_self, yy_s_eq, yy_s_ne, yy_c_eq, yy_c_ne, yy_u_eq, yy_u_ne, xm_w_id, yy_at, tdiv_pos, tmod_pos]
      · simp (disch := first | omega | (unfold xm_w; omega)) only [↓zy_at, xm_O_some, xm_Oi_some, xm_Ov_some, xm_Oq_some, ↓reduceIte, ↓zz_t, ↓zz_f, ↓zi_t, ↓zi_f, eq_self, yy_d_0, Int.reduceEq, Int.reduceLT, Int.reduceLE, Int.reduceNe, Int.reduceToNat, Int.reduceAdd, Int.reduceSub, Int.reduceMul, Int.reduceNeg, Nat.reduceAdd, Nat.reduceMul, Nat.reduceSub, Nat.reduceEqDiff, Nat.reduceLT, ne_eq, not_false_eq_true, not_true_eq_false, true_and, and_true, and_self, yy_s_eq, yy_s_ne, yy_c_eq, yy_c_ne, yy_u_eq, yy_u_ne, xm_w_id, yy_at, tdiv_pos, tmod_pos]
      · simp (disch := first | omega | (unfold xm_w; omega)) only [↓zy_at, xm_O_some, xm_Oi_some, xm_Ov_some, xm_Oq_some, ↓reduceIte, ↓zz_t, ↓zz_f, ↓zi_t, ↓zi_f, eq_self, yy_d_0, Int.reduceEq, Int.reduceLT, Int.reduceLE, Int.reduceNe, Int.reduceToNat, Int.reduceAdd, Int.reduceSub, Int.reduceMul, Int.reduceNeg, Nat.reduceAdd, Nat.reduceMul, Nat.reduceSub, Nat.reduceEqDiff, Nat.reduceLT, ne_eq, not_false_eq_true, not_true_eq_false, true_and, and_true, and_self, yy_s_eq, yy_s_ne, yy_c_eq, yy_c_ne, yy_u_eq, yy_u_ne, xm_w_id, yy_at, tdiv_pos, tmod_pos]; exact ea.symm
    · have i3 : (sg_la s c (sg_N s) * 5 + 3).toNat = 5 * (sg_la s c (sg_N s)).toNat + 3 := by omega
      have f3 : m 4 (5 * (sg_la s c (sg_N s)).toNat + 3) = sg_p s (sg_la s c (sg_N s)).toNat 3 := by rw [e6 _ (by omega)]; unfold sg_p; first | rfl | (congr 1; omega)
      have ea : s 1 - sg_p s (sg_la s c (sg_N s)).toNat 3 = sg_age s c := by unfold sg_age; rw [if_neg (by omega)]
      rw [if_neg (by omega)]
      simp (disch := first | omega | (unfold xm_w; omega)) only [↓zy_at, xm_O_some, xm_Oi_some, xm_Ov_some, xm_Oq_some, ↓reduceIte, ↓zz_t, ↓zz_f, ↓zi_t, ↓zi_f, eq_self, yy_d_0, Int.reduceEq, Int.reduceLT, Int.reduceLE, Int.reduceNe, Int.reduceToNat, Int.reduceAdd, Int.reduceSub, Int.reduceMul, Int.reduceNeg, Nat.reduceAdd, Nat.reduceMul, Nat.reduceSub, Nat.reduceEqDiff, Nat.reduceLT, ne_eq, not_false_eq_true, not_true_eq_false, true_and, and_true, and_self, yy_s_eq, yy_s_ne, yy_c_eq, yy_c_ne, yy_u_eq, yy_u_ne, xm_w_id, yy_at, tdiv_pos, tmod_pos, ↓zr_1_0, ↓zf_1_1, ↓zs_1_1, ↓zf_1_2, ↓zs_1_2, ↓zr_1_3, ↓zf_1_4, ↓zs_1_4, ↓zr_1_5, ↓zf_1_6, ↓zs_1_6, ↓zr_1_7, ↓zr_1_8, ↓zr_1_9, ↓zi_4, ↓zt_4, ↓zq_5, ↓zq_tx, e2, i3, f3]
      refine done _ ea _ (fun hne => ?_)
      rw [oc_414_1_0 hMR b3]
      simp (disch := first | omega | (unfold xm_w; omega)) only [↓zy_at, xm_O_some, xm_Oi_some, xm_Ov_some, xm_Oq_some, ↓reduceIte, ↓zz_t, ↓zz_f, ↓zi_t, ↓zi_f, eq_self, yy_d_0, Int.reduceEq, Int.reduceLT, Int.reduceLE, Int.reduceNe, Int.reduceToNat, Int.reduceAdd, Int.reduceSub, Int.reduceMul, Int.reduceNeg, Nat.reduceAdd, Nat.reduceMul, Nat.reduceSub, Nat.reduceEqDiff, Nat.reduceLT, ne_eq, not_false_eq_true, not_true_eq_false, true_and, and_true, and_self, yy_s_eq, yy_s_ne, yy_c_eq, yy_c_ne, yy_u_eq, yy_u_ne, xm_w_id, yy_at, tdiv_pos, tmod_pos, ↓zr_1_0, ↓zf_1_1, ↓zs_1_1, ↓zf_1_2, ↓zs_1_2, ↓zr_1_3, ↓zf_1_4, ↓zs_1_4, ↓zr_1_5, ↓zf_1_6, ↓zs_1_6, ↓zr_1_7, ↓zr_1_8, ↓zr_1_9, ↓zi_6, ↓zt_6]
      rw [oc_416_1g (m := yy_s m 6 0 (sg_cn s 0 c (sg_N s))) (yy_MR_fr (fun c hc => by simp (disch := first | omega | (unfold xm_w; omega)) only [↓zy_at, xm_O_some, xm_Oi_some, xm_Ov_some, xm_Oq_some, ↓reduceIte, ↓zz_t, ↓zz_f, ↓zi_t, ↓zi_f, eq_self, yy_d_0, Int.reduceEq, Int.reduceLT, Int.reduceLE, Int.reduceNe, Int.reduceToNat, Int.reduceAdd, Int.reduceSub, Int.reduceMul, Int.reduceNeg, Nat.reduceAdd, Nat.reduceMul, Nat.reduceSub, Nat.reduceEqDiff, Nat.reduceLT, ne_eq, not_false_eq_true, not_true_eq_false, true_and, and_true, and_self, yy_s_eq, yy_s_ne, yy_c_eq, yy_c_ne, yy_u_eq, yy_u_ne, xm_w_id, yy_at, tdiv_pos, tmod_pos]) hMR) b3]
      simp (disch := first | omega | (unfold xm_w; omega)) only [↓zy_at, xm_O_some, xm_Oi_some, xm_Ov_some, xm_Oq_some, ↓reduceIte, ↓zz_t, ↓zz_f, ↓zi_t, ↓zi_f, eq_self, yy_d_0, Int.reduceEq, Int.reduceLT, Int.reduceLE, Int.reduceNe, Int.reduceToNat, Int.reduceAdd, Int.reduceSub, Int.reduceMul, Int.reduceNeg, Nat.reduceAdd, Nat.reduceMul, Nat.reduceSub, Nat.reduceEqDiff, Nat.reduceLT, ne_eq, not_false_eq_true, not_true_eq_false, true_and, and_true, and_self, yy_s_eq, yy_s_ne, yy_c_eq, yy_c_ne, yy_u_eq, yy_u_ne, xm_w_id, yy_at, tdiv_pos, tmod_pos, ↓zr_1_0, ↓zf_1_1, ↓zs_1_1, ↓zf_1_2, ↓zs_1_2, ↓zr_1_3, ↓zf_1_4, ↓zs_1_4, ↓zr_1_5, ↓zf_1_6, ↓zs_1_6, ↓zr_1_7, ↓zr_1_8, ↓zr_1_9, ↓zi_6, ↓zt_6]
      refine text _ (fun c hc => ?_) ?_ ?_ ?_ hne
      · simp (disch := first | omega | (unfold xm_w; omega)) only [↓zy_at, xm_O_some, xm_Oi_some, xm_Ov_some, xm_Oq_some, ↓reduceIte, ↓zz_t, ↓zz_f, ↓zi_t, ↓zi_f, eq_self, yy_d_0, Int.reduceEq, Int.reduceLT, Int.reduceLE, Int.reduceNe, Int.reduceToNat, Int.reduceAdd, Int.reduceSub, Int.reduceMul, Int.reduceNeg, Nat.reduceAdd, Nat.reduceMul, Nat.reduceSub, Nat.reduceEqDiff, Nat.reduceLT, ne_eq, not_false_eq_true, not_true_eq_false, true_and, and_true, and_self, yy_s_eq, yy_s_ne, yy_c_eq, yy_c_ne, yy_u_eq, yy_u_ne, xm_w_id, yy_at, tdiv_pos, tmod_pos]
      · simp (disch := first | omega | (unfold xm_w; omega)) only [↓zy_at, xm_O_some, xm_Oi_some, xm_Ov_some, xm_Oq_some, ↓reduceIte, ↓zz_t, ↓zz_f, ↓zi_t, ↓zi_f, eq_self, yy_d_0, Int.reduceEq, Int.reduceLT, Int.reduceLE, Int.reduceNe, Int.reduceToNat, Int.reduceAdd, Int.reduceSub, Int.reduceMul, Int.reduceNeg, Nat.reduceAdd, Nat.reduceMul, Nat.reduceSub, Nat.reduceEqDiff, Nat.reduceLT, ne_eq, not_false_eq_true, not_true_eq_false, true_and, and_true, and_self, yy_s_eq, yy_s_ne, yy_c_eq, yy_c_ne, yy_u_eq, yy_u_ne, xm_w_id, yy_at, tdiv_pos, tmod_pos]
      · simp (disch := first | omega | (unfold xm_w; omega)) only [↓zy_at, xm_O_some, xm_Oi_some, xm_Ov_some, xm_Oq_some, ↓reduceIte, ↓zz_t, ↓zz_f, ↓zi_t, ↓zi_f, eq_self, yy_d_0, Int.reduceEq, Int.reduceLT, Int.reduceLE, Int.reduceNe, Int.reduceToNat, Int.reduceAdd, Int.reduceSub, Int.reduceMul, Int.reduceNeg, Nat.reduceAdd, Nat.reduceMul, Nat.reduceSub, Nat.reduceEqDiff, Nat.reduceLT, ne_eq, not_false_eq_true, not_true_eq_false, true_and, and_true, and_self, yy_s_eq, yy_s_ne, yy_c_eq, yy_c_ne, yy_u_eq, yy_u_ne, xm_w_id, yy_at, tdiv_pos, tmod_pos]
      · simp (disch := first | omega | (unfold xm_w; omega)) only [↓zy_at, xm_O_some, xm_Oi_some, xm_Ov_some, xm_Oq_some, ↓reduceIte, ↓zz_t, ↓zz_f, ↓zi_t, ↓zi_f, eq_self, yy_d_0, Int.reduceEq, Int.reduceLT, Int.reduceLE, Int.reduceNe, Int.reduceToNat, Int.reduceAdd, Int.reduceSub, Int.reduceMul, Int.reduceNeg, Nat.reduceAdd, Nat.reduceMul, Nat.reduceSub, Nat.reduceEqDiff, Nat.reduceLT, ne_eq, not_false_eq_true, not_true_eq_false, true_and, and_true, and_self, yy_s_eq, yy_s_ne, yy_c_eq, yy_c_ne, yy_u_eq, yy_u_ne, xm_w_id, yy_at, tdiv_pos, tmod_pos]; exact ea
  obtain ⟨q, h1, m', h2, h3⟩ := yx_of (y := 417) (M := xm_m417) (sc := sc) (d := d + 3) (as := [.inr (.inl (some 1)), .inl (c)]) (w := yy_W m t) (Q := fun q => ∃ m', q = (some (.inl (sg_db s c)), yy_W m' t) ∧ (∀ c, c ≠ 6 → c ≠ 7 → m' c = m c)) rfl (key fun m' h => ⟨m', rfl, h⟩) (fun q ⟨m', h, _⟩ => by rw [h]; rfl) rfl (Nat.le_of_ble_eq_true rfl) (yy_hd rfl (by decide))
  exact ⟨m', by rw [h1, h2], h3⟩
set_option maxRecDepth 20000 in
theorem l_414_18 {sc : List Int} {d : Nat} {t : xm_W} {m : Nat → Nat → Int} {s : Nat → Int} {Q : Option xm_V × xm_W → Prop} {w : Nat} {v : Int} (hw : w < 5) (hM : yy_MR m 18 s) (h3 : 0 ≤ s 3 ∧ s 3 ≤ 40) (hQ : Q ((some (.inl (sg_cn s w v (sg_N s))), (yy_W (m) t)))) : ∀ (k i : Nat), ((i + k : Nat) : Int) = s 3 → xm_EQ (xm_old sc) xm_sta (xm_X (xm_old sc) xm_mt (d)) xm_c414 4 [some (.inr (.inl (some 18))), some (.inl ((w : Int))), some (.inl (v)), some (.inl ((sg_cn s w v i))), some (.inl ((i : Int)))] [] (yy_W (m) t) Q
  | 0, i, hk => by
    have e : i = sg_N s := by unfold sg_N; omega
    refine xb_414_4 ?_
    simp (disch := first | omega | (unfold xm_w; omega)) only [↓zy_at, xm_O_some, xm_Oi_some, xm_Ov_some, xm_Oq_some, ↓reduceIte, ↓zz_t, ↓zz_f, ↓zi_t, ↓zi_f, eq_self, yy_d_0, Int.reduceEq, Int.reduceLT, Int.reduceLE, Int.reduceNe, Int.reduceToNat, Int.reduceAdd, Int.reduceSub, Int.reduceMul, Int.reduceNeg, Nat.reduceAdd, Nat.reduceMul, Nat.reduceSub, Nat.reduceEqDiff, Nat.reduceLT, ne_eq, not_false_eq_true, not_true_eq_false, true_and, and_true, and_self, yy_s_eq, yy_s_ne, yy_c_eq, yy_c_ne, yy_u_eq, yy_u_ne, xm_w_id, yy_at, tdiv_pos, tmod_pos, ↓zr_18_0, ↓zf_18_1, ↓zs_18_1, ↓zf_18_2, ↓zs_18_2, ↓zr_18_3, ↓zf_18_4, ↓zs_18_4, ↓zr_18_5, ↓zf_18_6, ↓zs_18_6, ↓zr_18_7, ↓zr_18_8, ↓zr_18_9, hM.2.2.2.1]
    rw [e]; exact hQ
  | k + 1, i, hk => by
    have cb := sg_cn_b (s := s) (w := w) (v := v) i
    have i0 : ((i : Int) * 5 + (w : Int)).toNat = 5 * i + w := by omega
    have f : m 21 (5 * i + w) = sg_p s i w := by rw [hM.2.2.2.2.2.1 _ (by omega)]; unfold sg_p; first | rfl | (congr 1; omega)
    have := l_414_18 (sc := sc) (d := d) (t := t) (Q := Q) hw hM h3 hQ k (i + 1) (by omega)
    rw [show ((i + 1 : Nat) : Int) = (i : Int) + 1 by omega] at this
    unfold sg_cn at this
    refine xb_414_4 ?_
    simp (disch := first | omega | (unfold xm_w; omega)) only [↓zy_at, xm_O_some, xm_Oi_some, xm_Ov_some, xm_Oq_some, ↓reduceIte, ↓zz_t, ↓zz_f, ↓zi_t, ↓zi_f, eq_self, yy_d_0, Int.reduceEq, Int.reduceLT, Int.reduceLE, Int.reduceNe, Int.reduceToNat, Int.reduceAdd, Int.reduceSub, Int.reduceMul, Int.reduceNeg, Nat.reduceAdd, Nat.reduceMul, Nat.reduceSub, Nat.reduceEqDiff, Nat.reduceLT, ne_eq, not_false_eq_true, not_true_eq_false, true_and, and_true, and_self, yy_s_eq, yy_s_ne, yy_c_eq, yy_c_ne, yy_u_eq, yy_u_ne, xm_w_id, yy_at, tdiv_pos, tmod_pos, ↓zr_18_0, ↓zf_18_1, ↓zs_18_1, ↓zf_18_2, ↓zs_18_2, ↓zr_18_3, ↓zf_18_4, ↓zs_18_4, ↓zr_18_5, ↓zf_18_6, ↓zs_18_6, ↓zr_18_7, ↓zr_18_8, ↓zr_18_9, ↓zi_21, ↓zt_21, hM.2.2.2.1, i0, f]
    split
    · rename_i g; rw [if_pos g] at this; exact this
    · rename_i g; rw [if_neg g, Int.add_zero] at this; exact this
set_option maxRecDepth 20000 in
theorem c_414_18g {sc : List Int} {d : Nat} {t : xm_W} {m : Nat → Nat → Int} {s : Nat → Int} {w : Nat} {v : Int} (hw : w < 5) (hM : yy_MR m 18 s) (h3 : 0 ≤ s 3 ∧ s 3 ≤ 40) : xm_X (xm_old sc) xm_mt (d + 1) 414 [.inr (.inl (some 18)), .inl ((w : Int)), .inl (v)] (yy_W (m) t) = some (some (.inl (sg_cn s w v (sg_N s))), (yy_W (m) t)) := by
  refine xm_X_of (M := xm_m414) rfl ⟨xm_EQ.eq (xb_414_0 ?_), rfl, rfl, Nat.le_of_ble_eq_true rfl, yy_hd rfl (by decide)⟩
  exact l_414_18 (d := d) hw hM h3 rfl (sg_N s) 0 (by unfold sg_N; omega)
set_option maxRecDepth 20000 in
theorem oc_414_18g {F : Int → xm_W → Prop} {sc : List Int} {d : Nat} {t : xm_W} {m : Nat → Nat → Int} {s : Nat → Int} {w : Nat} {v : Int} (hw : w < 5) (hM : yy_MR m 18 s) (h3 : 0 ≤ s 3 ∧ s 3 ≤ 40) : xm_Oi (xm_X (xm_old sc) xm_mt (d + 1) 414 [.inr (.inl (some 18)), .inl ((w : Int)), .inl (v)] (yy_W (m) t)) F = F (sg_cn s w v (sg_N s)) (yy_W (m) t) := congrArg (fun x => xm_Oi x F) (c_414_18g hw hM h3)
set_option maxRecDepth 20000 in
theorem c_414_18_0 {sc : List Int} {d : Nat} {t : xm_W} {m : Nat → Nat → Int} {s : Nat → Int} {v : Int} (hM : yy_MR m 18 s) (h3 : 0 ≤ s 3 ∧ s 3 ≤ 40) : xm_X (xm_old sc) xm_mt (d + 1) 414 [.inr (.inl (some 18)), .inl (0), .inl (v)] (yy_W (m) t) = some (some (.inl (sg_cn s 0 v (sg_N s))), (yy_W (m) t)) := by
  exact c_414_18g (w := 0) (by decide) hM h3
set_option maxRecDepth 20000 in
theorem oc_414_18_0 {F : Int → xm_W → Prop} {sc : List Int} {d : Nat} {t : xm_W} {m : Nat → Nat → Int} {s : Nat → Int} {v : Int} (hM : yy_MR m 18 s) (h3 : 0 ≤ s 3 ∧ s 3 ≤ 40) : xm_Oi (xm_X (xm_old sc) xm_mt (d + 1) 414 [.inr (.inl (some 18)), .inl (0), .inl (v)] (yy_W (m) t)) F = F (sg_cn s 0 v (sg_N s)) (yy_W (m) t) := congrArg (fun x => xm_Oi x F) (c_414_18_0 hM h3)
set_option maxRecDepth 20000 in
theorem c_414_18_4 {sc : List Int} {d : Nat} {t : xm_W} {m : Nat → Nat → Int} {s : Nat → Int} {v : Int} (hM : yy_MR m 18 s) (h3 : 0 ≤ s 3 ∧ s 3 ≤ 40) : xm_X (xm_old sc) xm_mt (d + 1) 414 [.inr (.inl (some 18)), .inl (4), .inl (v)] (yy_W (m) t) = some (some (.inl (sg_cn s 4 v (sg_N s))), (yy_W (m) t)) := by
  exact c_414_18g (w := 4) (by decide) hM h3
set_option maxRecDepth 20000 in
theorem oc_414_18_4 {F : Int → xm_W → Prop} {sc : List Int} {d : Nat} {t : xm_W} {m : Nat → Nat → Int} {s : Nat → Int} {v : Int} (hM : yy_MR m 18 s) (h3 : 0 ≤ s 3 ∧ s 3 ≤ 40) : xm_Oi (xm_X (xm_old sc) xm_mt (d + 1) 414 [.inr (.inl (some 18)), .inl (4), .inl (v)] (yy_W (m) t)) F = F (sg_cn s 4 v (sg_N s)) (yy_W (m) t) := congrArg (fun x => xm_Oi x F) (c_414_18_4 hM h3)
set_option maxRecDepth 20000 in
theorem l_415_18 {sc : List Int} {d : Nat} {t : xm_W} {m : Nat → Nat → Int} {s : Nat → Int} {Q : Option xm_V × xm_W → Prop} {c : Int} (hM : yy_MR m 18 s) (h3 : 0 ≤ s 3 ∧ s 3 ≤ 40) (hQ : Q ((some (.inl (sg_la s c (sg_N s))), (yy_W (m) t)))) : ∀ (k i : Nat), ((i + k : Nat) : Int) = s 3 → xm_EQ (xm_old sc) xm_sta (xm_X (xm_old sc) xm_mt (d)) xm_c415 4 [some (.inr (.inl (some 18))), some (.inl (c)), some (.inl ((sg_la s c i))), some (.inl ((i : Int)))] [] (yy_W (m) t) Q
  | 0, i, hk => by
    have e : i = sg_N s := by unfold sg_N; omega
    refine xb_415_4 ?_
    simp (disch := first | omega | (unfold xm_w; omega)) only [↓zy_at, xm_O_some, xm_Oi_some, xm_Ov_some, xm_Oq_some, ↓reduceIte, ↓zz_t, ↓zz_f, ↓zi_t, ↓zi_f, eq_self, yy_d_0, Int.reduceEq, Int.reduceLT, Int.reduceLE, Int.reduceNe, Int.reduceToNat, Int.reduceAdd, Int.reduceSub, Int.reduceMul, Int.reduceNeg, Nat.reduceAdd, Nat.reduceMul, Nat.reduceSub, Nat.reduceEqDiff, Nat.reduceLT, ne_eq, not_false_eq_true, not_true_eq_false, true_and, and_true, and_self, yy_s_eq, yy_s_ne, yy_c_eq, yy_c_ne, yy_u_eq, yy_u_ne, xm_w_id, yy_at, tdiv_pos, tmod_pos, ↓zr_18_0, ↓zf_18_1, ↓zs_18_1, ↓zf_18_2, ↓zs_18_2, ↓zr_18_3, ↓zf_18_4, ↓zs_18_4, ↓zr_18_5, ↓zf_18_6, ↓zs_18_6, ↓zr_18_7, ↓zr_18_8, ↓zr_18_9, hM.2.2.2.1]
    rw [e]; exact hQ
  | k + 1, i, hk => by
    have i0 : ((i : Int) * 5 + 0).toNat = 5 * i := by omega
    have f : m 21 (5 * i) = sg_p s i 0 := by rw [hM.2.2.2.2.2.1 _ (by omega)]; unfold sg_p; first | rfl | (congr 1; omega)
    have := l_415_18 (sc := sc) (d := d) (t := t) (Q := Q) hM h3 hQ k (i + 1) (by omega)
    rw [show ((i + 1 : Nat) : Int) = (i : Int) + 1 by omega] at this
    unfold sg_la at this
    refine xb_415_4 ?_
    simp (disch := first | omega | (unfold xm_w; omega)) only [↓zy_at, xm_O_some, xm_Oi_some, xm_Ov_some, xm_Oq_some, ↓reduceIte, ↓zz_t, ↓zz_f, ↓zi_t, ↓zi_f, eq_self, yy_d_0, Int.reduceEq, Int.reduceLT, Int.reduceLE, Int.reduceNe, Int.reduceToNat, Int.reduceAdd, Int.reduceSub, Int.reduceMul, Int.reduceNeg, Nat.reduceAdd, Nat.reduceMul, Nat.reduceSub, Nat.reduceEqDiff, Nat.reduceLT, ne_eq, not_false_eq_true, not_true_eq_false, true_and, and_true, and_self, yy_s_eq, yy_s_ne, yy_c_eq, yy_c_ne, yy_u_eq, yy_u_ne, xm_w_id, yy_at, tdiv_pos, tmod_pos, ↓zr_18_0, ↓zf_18_1, ↓zs_18_1, ↓zf_18_2, ↓zs_18_2, ↓zr_18_3, ↓zf_18_4, ↓zs_18_4, ↓zr_18_5, ↓zf_18_6, ↓zs_18_6, ↓zr_18_7, ↓zr_18_8, ↓zr_18_9, ↓zi_21, ↓zt_21, hM.2.2.2.1, i0, f]
    split
    · rename_i g; rw [if_pos g] at this; exact this
    · rename_i g; rw [if_neg g] at this; exact this
set_option maxRecDepth 20000 in
theorem c_415_18g {sc : List Int} {d : Nat} {t : xm_W} {m : Nat → Nat → Int} {s : Nat → Int} {c : Int} (hM : yy_MR m 18 s) (h3 : 0 ≤ s 3 ∧ s 3 ≤ 40) : xm_X (xm_old sc) xm_mt (d + 1) 415 [.inr (.inl (some 18)), .inl (c)] (yy_W (m) t) = some (some (.inl (sg_la s c (sg_N s))), (yy_W (m) t)) := by
  refine xm_X_of (M := xm_m415) rfl ⟨xm_EQ.eq (xb_415_0 ?_), rfl, rfl, Nat.le_of_ble_eq_true rfl, yy_hd rfl (by decide)⟩
  exact l_415_18 (d := d) hM h3 rfl (sg_N s) 0 (by unfold sg_N; omega)
set_option maxRecDepth 20000 in
theorem oc_415_18g {F : Int → xm_W → Prop} {sc : List Int} {d : Nat} {t : xm_W} {m : Nat → Nat → Int} {s : Nat → Int} {c : Int} (hM : yy_MR m 18 s) (h3 : 0 ≤ s 3 ∧ s 3 ≤ 40) : xm_Oi (xm_X (xm_old sc) xm_mt (d + 1) 415 [.inr (.inl (some 18)), .inl (c)] (yy_W (m) t)) F = F (sg_la s c (sg_N s)) (yy_W (m) t) := congrArg (fun x => xm_Oi x F) (c_415_18g hM h3)
set_option maxRecDepth 20000 in
theorem l_416_18 {sc : List Int} {d : Nat} {t : xm_W} {m : Nat → Nat → Int} {s : Nat → Int} {Q : Option xm_V × xm_W → Prop} {c : Int} (hM : yy_MR m 18 s) (h3 : 0 ≤ s 3 ∧ s 3 ≤ 40) (hQ : Q ((some (.inl (sg_de s c (sg_N s))), (yy_W (m) t)))) : ∀ (k i : Nat), ((i + k : Nat) : Int) = s 3 → xm_EQ (xm_old sc) xm_sta (xm_X (xm_old sc) xm_mt (d)) xm_c416 4 [some (.inr (.inl (some 18))), some (.inl (c)), some (.inl ((sg_de s c i))), some (.inl ((i : Int)))] [] (yy_W (m) t) Q
  | 0, i, hk => by
    have e : i = sg_N s := by unfold sg_N; omega
    refine xb_416_4 ?_
    simp (disch := first | omega | (unfold xm_w; omega)) only [↓zy_at, xm_O_some, xm_Oi_some, xm_Ov_some, xm_Oq_some, ↓reduceIte, ↓zz_t, ↓zz_f, ↓zi_t, ↓zi_f, eq_self, yy_d_0, Int.reduceEq, Int.reduceLT, Int.reduceLE, Int.reduceNe, Int.reduceToNat, Int.reduceAdd, Int.reduceSub, Int.reduceMul, Int.reduceNeg, Nat.reduceAdd, Nat.reduceMul, Nat.reduceSub, Nat.reduceEqDiff, Nat.reduceLT, ne_eq, not_false_eq_true, not_true_eq_false, true_and, and_true, and_self, yy_s_eq, yy_s_ne, yy_c_eq, yy_c_ne, yy_u_eq, yy_u_ne, xm_w_id, yy_at, tdiv_pos, tmod_pos, ↓zr_18_0, ↓zf_18_1, ↓zs_18_1, ↓zf_18_2, ↓zs_18_2, ↓zr_18_3, ↓zf_18_4, ↓zs_18_4, ↓zr_18_5, ↓zf_18_6, ↓zs_18_6, ↓zr_18_7, ↓zr_18_8, ↓zr_18_9, hM.2.2.2.1]
    rw [e]; exact hQ
  | k + 1, i, hk => by
    have i0 : ((i : Int) * 5 + 0).toNat = 5 * i := by omega
    have i2 : ((i : Int) * 5 + 2).toNat = 5 * i + 2 := by omega
    have f : m 21 (5 * i) = sg_p s i 0 := by rw [hM.2.2.2.2.2.1 _ (by omega)]; unfold sg_p; first | rfl | (congr 1; omega)
    have f2 : m 21 (5 * i + 2) = sg_p s i 2 := by rw [hM.2.2.2.2.2.1 _ (by omega)]; unfold sg_p; first | rfl | (congr 1; omega)
    have := l_416_18 (sc := sc) (d := d) (t := t) (Q := Q) hM h3 hQ k (i + 1) (by omega)
    rw [show ((i + 1 : Nat) : Int) = (i : Int) + 1 by omega] at this
    unfold sg_de at this
    refine xb_416_4 ?_
    simp (disch := first | omega | (unfold xm_w; omega)) only [↓zy_at, xm_O_some, xm_Oi_some, xm_Ov_some, xm_Oq_some, ↓reduceIte, ↓zz_t, ↓zz_f, ↓zi_t, ↓zi_f, eq_self, yy_d_0, Int.reduceEq, Int.reduceLT, Int.reduceLE, Int.reduceNe, Int.reduceToNat, Int.reduceAdd, Int.reduceSub, Int.reduceMul, Int.reduceNeg, Nat.reduceAdd, Nat.reduceMul, Nat.reduceSub, Nat.reduceEqDiff, Nat.reduceLT, ne_eq, not_false_eq_true, not_true_eq_false, true_and, and_true, and_self, yy_s_eq, yy_s_ne, yy_c_eq, yy_c_ne, yy_u_eq, yy_u_ne, xm_w_id, yy_at, tdiv_pos, tmod_pos, ↓zr_18_0, ↓zf_18_1, ↓zs_18_1, ↓zf_18_2, ↓zs_18_2, ↓zr_18_3, ↓zf_18_4, ↓zs_18_4, ↓zr_18_5, ↓zf_18_6, ↓zs_18_6, ↓zr_18_7, ↓zr_18_8, ↓zr_18_9, ↓zi_21, ↓zt_21, hM.2.2.2.1, i0, i2, f, f2]
    split
    · rename_i g; rw [if_pos g] at this; exact this
    · rename_i g; rw [if_neg g] at this; exact this
set_option maxRecDepth 20000 in
theorem c_416_18g {sc : List Int} {d : Nat} {t : xm_W} {m : Nat → Nat → Int} {s : Nat → Int} {c : Int} (hM : yy_MR m 18 s) (h3 : 0 ≤ s 3 ∧ s 3 ≤ 40) : xm_X (xm_old sc) xm_mt (d + 1) 416 [.inr (.inl (some 18)), .inl (c)] (yy_W (m) t) = some (some (.inl (sg_de s c (sg_N s))), (yy_W (m) t)) := by
  refine xm_X_of (M := xm_m416) rfl ⟨xm_EQ.eq (xb_416_0 ?_), rfl, rfl, Nat.le_of_ble_eq_true rfl, yy_hd rfl (by decide)⟩
  exact l_416_18 (d := d) hM h3 rfl (sg_N s) 0 (by unfold sg_N; omega)
set_option maxRecDepth 20000 in
theorem oc_416_18g {F : Int → xm_W → Prop} {sc : List Int} {d : Nat} {t : xm_W} {m : Nat → Nat → Int} {s : Nat → Int} {c : Int} (hM : yy_MR m 18 s) (h3 : 0 ≤ s 3 ∧ s 3 ≤ 40) : xm_Oi (xm_X (xm_old sc) xm_mt (d + 1) 416 [.inr (.inl (some 18)), .inl (c)] (yy_W (m) t)) F = F (sg_de s c (sg_N s)) (yy_W (m) t) := congrArg (fun x => xm_Oi x F) (c_416_18g hM h3)
set_option maxRecDepth 20000 in
theorem c_417_18g {sc : List Int} {d : Nat} {t : xm_W} {m : Nat → Nat → Int} {s : Nat → Int} {c : Int} (hM : yy_MX t m 18 s) (hW : sg_W s 0) (hc : 0 ≤ c ∧ c ≤ 35) : ∃ m', xm_X (xm_old sc) xm_mt (d + 4) 417 [.inr (.inl (some 18)), .inl (c)] (yy_W m t) = some (some (.inl (sg_db s c)), yy_W m' t) ∧ ∀ c, c ≠ 23 → c ≠ 24 → m' c = m c := by
  have key : ∀ {Q : Option xm_V × xm_W → Prop}, (∀ m', (∀ c, c ≠ 23 → c ≠ 24 → m' c = m c) → Q (some (.inl (sg_db s c)), yy_W m' t)) → xm_EQ (xm_old sc) xm_sta (xm_X (xm_old sc) xm_mt (d + 3)) xm_m417.2.2.2.2.2.2.2 0 (xm_loc xm_m417.2.2.1 [.inr (.inl (some 18)), .inl (c)]) [] (yy_W m t) Q := by
    intro Q hQ
    obtain ⟨hR, hO, hS, hT, hT1⟩ := id hW
    obtain ⟨hMR, hX, hX1⟩ := id hM
    obtain ⟨e1, e2, e3, e4, e5, e6, e7⟩ := id hMR
    obtain ⟨b0, b1, b2, b3, hso, hrd⟩ := id hR
    have la := sg_la_b (s := s) (c := c) (sg_N s)
    have hN : ((sg_N s : Nat) : Int) = s 3 := by unfold sg_N; omega
    have ag : 0 ≤ sg_age s c ∧ sg_age s c ≤ 99 := by
      unfold sg_age
      rcases la with h | ⟨h, h', h2⟩
      · rw [if_pos h]; omega
      · rw [if_neg (by omega)]
        have x := hO.1 (sg_la s c (sg_N s)).toNat (by omega)
        have y := hS (sg_la s c (sg_N s)).toNat (by omega)
        have z := sg_k_r (c := sg_p s (sg_la s c (sg_N s)).toNat 0) b2
        omega
    have done : ∀ A, A = sg_age s c → ∀ (D : Prop), (yy_d (m 22 1) ≠ none → D) → (if (yy_d (m 22 1) : Option Nat) = none then Q (some (.inl (A)), (yy_W (m) t)) else D) := by
      intro A hr D hD
      subst hr
      rcases hX1 with ⟨h0, hz⟩ | ⟨h0, a, a', hz, hC⟩
      · rw [if_pos hz]
        have := hQ m fun c _ _ => rfl
        unfold sg_db at this
        rw [if_neg (by omega)] at this
        exact this
      · rw [if_neg (by rw [hz]; simp)]
        exact hD (by rw [hz]; simp)
    have text : ∀ m1 : Nat → Nat → Int, (∀ c, c ≠ 23 → m1 c = m c) → m1 23 0 = sg_cn s 0 c (sg_N s) → m1 23 1 = sg_de s c (sg_N s) → m1 23 2 = sg_age s c → yy_d (m 22 1) ≠ none → xm_Oi (xm_X (xm_old sc) xm_mt (d + 3) 902 [.inr (.inl (yy_d (m 22 1))), .inr (.inl (some 23)), .inr (.inl (some 24))] (yy_W m1 t)) (fun z23 w22 => Q (some (.inl (if 0 < (if z23 < 99 then z23 else 99) then (if z23 < 99 then z23 else 99) else 0)), w22)) := by
      intro m1 h1 n0 n1 n2 hne
      rcases hX1 with ⟨h0, hz⟩ | ⟨h0, a, a', hz, hC⟩
      · exact absurd hz hne
      · rw [hz]
        obtain ⟨m2, e, g1⟩ := c_902_18 (sc := sc) (d := d + 1) (t := t) (m := m1) hT1 h0 hC
        rw [sg_val_congr hT1 (sg_nmD_ok n0 n1 n2)] at e
        rw [e, xm_Oi_some]
        have := hQ m2 fun c c1 c2 => by rw [g1 c c2, h1 c c1]
        unfold sg_db at this
        rw [if_pos h0] at this
        unfold sg_hd at this
        generalize sg_val s 1 (sg_nmD (sg_cn s 0 c (sg_N s)) (sg_de s c (sg_N s)) (sg_age s c)) = z at this ⊢
        have ez : (if 0 < (if z < 99 then z else 99) then (if z < 99 then z else 99) else 0) = (if z < 0 then 0 else if 99 < z then 99 else z) := by
          repeat' split
          all_goals omega
        rw [ez]; exact this
    refine xb_417_0 ?_
    rw [oc_415_18g hMR b3]
    rcases la with h | ⟨h, h', h2⟩
    · have ea : sg_age s c = 99 := by unfold sg_age; rw [if_pos h]
      rw [if_pos (by omega)]
      simp (disch := first | omega | (unfold xm_w; omega)) only [↓zy_at, xm_O_some, xm_Oi_some, xm_Ov_some, xm_Oq_some, ↓reduceIte, ↓zz_t, ↓zz_f, ↓zi_t, ↓zi_f, eq_self, yy_d_0, Int.reduceEq, Int.reduceLT, Int.reduceLE, Int.reduceNe, Int.reduceToNat, Int.reduceAdd, Int.reduceSub, Int.reduceMul, Int.reduceNeg, Nat.reduceAdd, Nat.reduceMul, Nat.reduceSub, Nat.reduceEqDiff, Nat.reduceLT, ne_eq, not_false_eq_true, not_true_eq_false, true_and, and_true, and_self, yy_s_eq, yy_s_ne, yy_c_eq, yy_c_ne, yy_u_eq, yy_u_ne, xm_w_id, yy_at, tdiv_pos, tmod_pos, ↓zr_18_0, ↓zf_18_1, ↓zs_18_1, ↓zf_18_2, ↓zs_18_2, ↓zr_18_3, ↓zf_18_4, ↓zs_18_4, ↓zr_18_5, ↓zf_18_6, ↓zs_18_6, ↓zr_18_7, ↓zr_18_8, ↓zr_18_9, ↓zq_22, ↓zq_tx]
      refine done 99 ea.symm _ (fun hne => ?_)
      rw [oc_414_18_0 hMR b3]
      simp (disch := first | omega | (unfold xm_w; omega)) only [↓zy_at, xm_O_some, xm_Oi_some, xm_Ov_some, xm_Oq_some, ↓reduceIte, ↓zz_t, ↓zz_f, ↓zi_t, ↓zi_f, eq_self, yy_d_0, Int.reduceEq, Int.reduceLT, Int.reduceLE, Int.reduceNe, Int.reduceToNat, Int.reduceAdd, Int.reduceSub, Int.reduceMul, Int.reduceNeg, Nat.reduceAdd, Nat.reduceMul, Nat.reduceSub, Nat.reduceEqDiff, Nat.reduceLT, ne_eq, not_false_eq_true, not_true_eq_false, true_and, and_true, and_self, yy_s_eq, yy_s_ne, yy_c_eq, yy_c_ne, yy_u_eq, yy_u_ne, xm_w_id, yy_at, tdiv_pos, tmod_pos, ↓zr_18_0, ↓zf_18_1, ↓zs_18_1, ↓zf_18_2, ↓zs_18_2, ↓zr_18_3, ↓zf_18_4, ↓zs_18_4, ↓zr_18_5, ↓zf_18_6, ↓zs_18_6, ↓zr_18_7, ↓zr_18_8, ↓zr_18_9, ↓zi_23, ↓zt_23]
      rw [oc_416_18g (m := yy_s m 23 0 (sg_cn s 0 c (sg_N s))) (yy_MR_fr (fun c hc => by simp (disch := first | omega | (unfold xm_w; omega)) only [↓zy_at, xm_O_some, xm_Oi_some, xm_Ov_some, xm_Oq_some, ↓reduceIte, ↓zz_t, ↓zz_f, ↓zi_t, ↓zi_f, eq_self, yy_d_0, Int.reduceEq, Int.reduceLT, Int.reduceLE, Int.reduceNe, Int.reduceToNat, Int.reduceAdd, Int.reduceSub, Int.reduceMul, Int.reduceNeg, Nat.reduceAdd, Nat.reduceMul, Nat.reduceSub, Nat.reduceEqDiff, Nat.reduceLT, ne_eq, not_false_eq_true, not_true_eq_false, true_and, and_true, and_self, yy_s_eq, yy_s_ne, yy_c_eq, yy_c_ne, yy_u_eq, yy_u_ne, xm_w_id, yy_at, tdiv_pos, tmod_pos]) hMR) b3]
      simp (disch := first | omega | (unfold xm_w; omega)) only [↓zy_at, xm_O_some, xm_Oi_some, xm_Ov_some, xm_Oq_some, ↓reduceIte, ↓zz_t, ↓zz_f, ↓zi_t, ↓zi_f, eq_self, yy_d_0, Int.reduceEq, Int.reduceLT, Int.reduceLE, Int.reduceNe, Int.reduceToNat, Int.reduceAdd, Int.reduceSub, Int.reduceMul, Int.reduceNeg, Nat.reduceAdd, Nat.reduceMul, Nat.reduceSub, Nat.reduceEqDiff, Nat.reduceLT, ne_eq, not_false_eq_true, not_true_eq_false, true_and, and_true, and_self, yy_s_eq, yy_s_ne, yy_c_eq, yy_c_ne, yy_u_eq, yy_u_ne, xm_w_id, yy_at, tdiv_pos, tmod_pos, ↓zr_18_0, ↓zf_18_1, ↓zs_18_1, ↓zf_18_2, ↓zs_18_2, ↓zr_18_3, ↓zf_18_4, ↓zs_18_4, ↓zr_18_5, ↓zf_18_6, ↓zs_18_6, ↓zr_18_7, ↓zr_18_8, ↓zr_18_9, ↓zi_23, ↓zt_23]
      refine text _ (fun c hc => ?_) ?_ ?_ ?_ hne
      · simp (disch := first | omega | (unfold xm_w; omega)) only [↓zy_at, xm_O_some, xm_Oi_some, xm_Ov_some, xm_Oq_some, ↓reduceIte, ↓zz_t, ↓zz_f, ↓zi_t, ↓zi_f, eq_self, yy_d_0, Int.reduceEq, Int.reduceLT, Int.reduceLE, Int.reduceNe, Int.reduceToNat, Int.reduceAdd, Int.reduceSub, Int.reduceMul, Int.reduceNeg, Nat.reduceAdd, Nat.reduceMul, Nat.reduceSub, Nat.reduceEqDiff, Nat.reduceLT, ne_eq, not_false_eq_true, not_true_eq_false, true_and, and_true, and_self, yy_s_eq, yy_s_ne, yy_c_eq, yy_c_ne, yy_u_eq, yy_u_ne, xm_w_id, yy_at, tdiv_pos, tmod_pos]
      · simp (disch := first | omega | (unfold xm_w; omega)) only [↓zy_at, xm_O_some, xm_Oi_some, xm_Ov_some, xm_Oq_some, ↓reduceIte, ↓zz_t, ↓zz_f, ↓zi_t, ↓zi_f, eq_self, yy_d_0, Int.reduceEq, Int.reduceLT, Int.reduceLE, Int.reduceNe, Int.reduceToNat, Int.reduceAdd, Int.reduceSub, Int.reduceMul, Int.reduceNeg, Nat.reduceAdd, Nat.reduceMul, Nat.reduceSub, Nat.reduceEqDiff, Nat.reduceLT, ne_eq, not_false_eq_true, not_true_eq_false, true_and, and_true, and_self, yy_s_eq, yy_s_ne, yy_c_eq, yy_c_ne, yy_u_eq, yy_u_ne, xm_w_id, yy_at, tdiv_pos, tmod_pos]
      · simp (disch := first | omega | (unfold xm_w; omega)) only [↓zy_at, xm_O_some, xm_Oi_some, xm_Ov_some, xm_Oq_some, ↓reduceIte, ↓zz_t, ↓zz_f, ↓zi_t, ↓zi_f, eq_self, yy_d_0, Int.reduceEq, Int.reduceLT, Int.reduceLE, Int.reduceNe, Int.reduceToNat, Int.reduceAdd, Int.reduceSub, Int.reduceMul, Int.reduceNeg, Nat.reduceAdd, Nat.reduceMul, Nat.reduceSub, Nat.reduceEqDiff, Nat.reduceLT, ne_eq, not_false_eq_true, not_true_eq_false, true_and, and_true, and_self, yy_s_eq, yy_s_ne, yy_c_eq, yy_c_ne, yy_u_eq, yy_u_ne, xm_w_id, yy_at, tdiv_pos, tmod_pos]
      · simp (disch := first | omega | (unfold xm_w; omega)) only [↓zy_at, xm_O_some, xm_Oi_some, xm_Ov_some, xm_Oq_some, ↓reduceIte, ↓zz_t, ↓zz_f, ↓zi_t, ↓zi_f, eq_self, yy_d_0, Int.reduceEq, Int.reduceLT, Int.reduceLE, Int.reduceNe, Int.reduceToNat, Int.reduceAdd, Int.reduceSub, Int.reduceMul, Int.reduceNeg, Nat.reduceAdd, Nat.reduceMul, Nat.reduceSub, Nat.reduceEqDiff, Nat.reduceLT, ne_eq, not_false_eq_true, not_true_eq_false, true_and, and_true, and_self, yy_s_eq, yy_s_ne, yy_c_eq, yy_c_ne, yy_u_eq, yy_u_ne, xm_w_id, yy_at, tdiv_pos, tmod_pos]; exact ea.symm
    · have i3 : (sg_la s c (sg_N s) * 5 + 3).toNat = 5 * (sg_la s c (sg_N s)).toNat + 3 := by omega
      have f3 : m 21 (5 * (sg_la s c (sg_N s)).toNat + 3) = sg_p s (sg_la s c (sg_N s)).toNat 3 := by rw [e6 _ (by omega)]; unfold sg_p; first | rfl | (congr 1; omega)
      have ea : s 1 - sg_p s (sg_la s c (sg_N s)).toNat 3 = sg_age s c := by unfold sg_age; rw [if_neg (by omega)]
      rw [if_neg (by omega)]
      simp (disch := first | omega | (unfold xm_w; omega)) only [↓zy_at, xm_O_some, xm_Oi_some, xm_Ov_some, xm_Oq_some, ↓reduceIte, ↓zz_t, ↓zz_f, ↓zi_t, ↓zi_f, eq_self, yy_d_0, Int.reduceEq, Int.reduceLT, Int.reduceLE, Int.reduceNe, Int.reduceToNat, Int.reduceAdd, Int.reduceSub, Int.reduceMul, Int.reduceNeg, Nat.reduceAdd, Nat.reduceMul, Nat.reduceSub, Nat.reduceEqDiff, Nat.reduceLT, ne_eq, not_false_eq_true, not_true_eq_false, true_and, and_true, and_self, yy_s_eq, yy_s_ne, yy_c_eq, yy_c_ne, yy_u_eq, yy_u_ne, xm_w_id, yy_at, tdiv_pos, tmod_pos, ↓zr_18_0, ↓zf_18_1, ↓zs_18_1, ↓zf_18_2, ↓zs_18_2, ↓zr_18_3, ↓zf_18_4, ↓zs_18_4, ↓zr_18_5, ↓zf_18_6, ↓zs_18_6, ↓zr_18_7, ↓zr_18_8, ↓zr_18_9, ↓zi_21, ↓zt_21, ↓zq_22, ↓zq_tx, e2, i3, f3]
      refine done _ ea _ (fun hne => ?_)
      rw [oc_414_18_0 hMR b3]
      simp (disch := first | omega | (unfold xm_w; omega)) only [↓zy_at, xm_O_some, xm_Oi_some, xm_Ov_some, xm_Oq_some, ↓reduceIte, ↓zz_t, ↓zz_f, ↓zi_t, ↓zi_f, eq_self, yy_d_0, Int.reduceEq, Int.reduceLT, Int.reduceLE, Int.reduceNe, Int.reduceToNat, Int.reduceAdd, Int.reduceSub, Int.reduceMul, Int.reduceNeg, Nat.reduceAdd, Nat.reduceMul, Nat.reduceSub, Nat.reduceEqDiff, Nat.reduceLT, ne_eq, not_false_eq_true, not_true_eq_false, true_and, and_true, and_self, yy_s_eq, yy_s_ne, yy_c_eq, yy_c_ne, yy_u_eq, yy_u_ne, xm_w_id, yy_at, tdiv_pos, tmod_pos, ↓zr_18_0, ↓zf_18_1, ↓zs_18_1, ↓zf_18_2, ↓zs_18_2, ↓zr_18_3, ↓zf_18_4, ↓zs_18_4, ↓zr_18_5, ↓zf_18_6, ↓zs_18_6, ↓zr_18_7, ↓zr_18_8, ↓zr_18_9, ↓zi_23, ↓zt_23]
      rw [oc_416_18g (m := yy_s m 23 0 (sg_cn s 0 c (sg_N s))) (yy_MR_fr (fun c hc => by simp (disch := first | omega | (unfold xm_w; omega)) only [↓zy_at, xm_O_some, xm_Oi_some, xm_Ov_some, xm_Oq_some, ↓reduceIte, ↓zz_t, ↓zz_f, ↓zi_t, ↓zi_f, eq_self, yy_d_0, Int.reduceEq, Int.reduceLT, Int.reduceLE, Int.reduceNe, Int.reduceToNat, Int.reduceAdd, Int.reduceSub, Int.reduceMul, Int.reduceNeg, Nat.reduceAdd, Nat.reduceMul, Nat.reduceSub, Nat.reduceEqDiff, Nat.reduceLT, ne_eq, not_false_eq_true, not_true_eq_false, true_and, and_true, and_self, yy_s_eq, yy_s_ne, yy_c_eq, yy_c_ne, yy_u_eq, yy_u_ne, xm_w_id, yy_at, tdiv_pos, tmod_pos]) hMR) b3]
      simp (disch := first | omega | (unfold xm_w; omega)) only [↓zy_at, xm_O_some, xm_Oi_some, xm_Ov_some, xm_Oq_some, ↓reduceIte, ↓zz_t, ↓zz_f, ↓zi_t, ↓zi_f, eq_self, yy_d_0, Int.reduceEq, Int.reduceLT, Int.reduceLE, Int.reduceNe, Int.reduceToNat, Int.reduceAdd, Int.reduceSub, Int.reduceMul, Int.reduceNeg, Nat.reduceAdd, Nat.reduceMul, Nat.reduceSub, Nat.reduceEqDiff, Nat.reduceLT, ne_eq, not_false_eq_true, not_true_eq_false, true_and, and_true, and_self, yy_s_eq, yy_s_ne, yy_c_eq, yy_c_ne, yy_u_eq, yy_u_ne, xm_w_id, yy_at, tdiv_pos, tmod_pos, ↓zr_18_0, ↓zf_18_1, ↓zs_18_1, ↓zf_18_2, ↓zs_18_2, ↓zr_18_3, ↓zf_18_4, ↓zs_18_4, ↓zr_18_5, ↓zf_18_6, ↓zs_18_6, ↓zr_18_7, ↓zr_18_8, ↓zr_18_9, ↓zi_23, ↓zt_23]
      refine text _ (fun c hc => ?_) ?_ ?_ ?_ hne
      · simp (disch := first | omega | (unfold xm_w; omega)) only [↓zy_at, xm_O_some, xm_Oi_some, xm_Ov_some, xm_Oq_some, ↓reduceIte, ↓zz_t, ↓zz_f, ↓zi_t, ↓zi_f, eq_self, yy_d_0, Int.reduceEq, Int.reduceLT, Int.reduceLE, Int.reduceNe, Int.reduceToNat, Int.reduceAdd, Int.reduceSub, Int.reduceMul, Int.reduceNeg, Nat.reduceAdd, Nat.reduceMul, Nat.reduceSub, Nat.reduceEqDiff, Nat.reduceLT, ne_eq, not_false_eq_true, not_true_eq_false, true_and, and_true, and_self, yy_s_eq, yy_s_ne, yy_c_eq, yy_c_ne, yy_u_eq, yy_u_ne, xm_w_id, yy_at, tdiv_pos, tmod_pos]
      · simp (disch := first | omega | (unfold xm_w; omega)) only [↓zy_at, xm_O_some, xm_Oi_some, xm_Ov_some, xm_Oq_some, ↓reduceIte, ↓zz_t, ↓zz_f, ↓zi_t, ↓zi_f, eq_self, yy_d_0, Int.reduceEq, Int.reduceLT, Int.reduceLE, Int.reduceNe, Int.reduceToNat, Int.reduceAdd, Int.reduceSub, Int.reduceMul, Int.reduceNeg, Nat.reduceAdd, Nat.reduceMul, Nat.reduceSub, Nat.reduceEqDiff, Nat.reduceLT, ne_eq, not_false_eq_true, not_true_eq_false, true_and, and_true, and_self, yy_s_eq, yy_s_ne, yy_c_eq, yy_c_ne, yy_u_eq, yy_u_ne, xm_w_id, yy_at, tdiv_pos, tmod_pos]
      · simp (disch := first | omega | (unfold xm_w; omega)) only [↓zy_at, xm_O_some, xm_Oi_some, xm_Ov_some, xm_Oq_some, ↓reduceIte, ↓zz_t, ↓zz_f, ↓zi_t, ↓zi_f, eq_self, yy_d_0, Int.reduceEq, Int.reduceLT, Int.reduceLE, Int.reduceNe, Int.reduceToNat, Int.reduceAdd, Int.reduceSub, Int.reduceMul, Int.reduceNeg, Nat.reduceAdd, Nat.reduceMul, Nat.reduceSub, Nat.reduceEqDiff, Nat.reduceLT, ne_eq, not_false_eq_true, not_true_eq_false, true_and, and_true, and_self, yy_s_eq, yy_s_ne, yy_c_eq, yy_c_ne, yy_u_eq, yy_u_ne, xm_w_id, yy_at, tdiv_pos, tmod_pos]
      · simp (disch := first | omega | (unfold xm_w; omega)) only [↓zy_at, xm_O_some, xm_Oi_some, xm_Ov_some, xm_Oq_some, ↓reduceIte, ↓zz_t, ↓zz_f, ↓zi_t, ↓zi_f, eq_self, yy_d_0, Int.reduceEq, Int.reduceLT, Int.reduceLE, Int.reduceNe, Int.reduceToNat, Int.reduceAdd, Int.reduceSub, Int.reduceMul, Int.reduceNeg, Nat.reduceAdd, Nat.reduceMul, Nat.reduceSub, Nat.reduceEqDiff, Nat.reduceLT, ne_eq, not_false_eq_true, not_true_eq_false, true_and, and_true, and_self, yy_s_eq, yy_s_ne, yy_c_eq, yy_c_ne, yy_u_eq, yy_u_ne, xm_w_id, yy_at, tdiv_pos, tmod_pos]; exact ea
  obtain ⟨q, h1, m', h2, h3⟩ := yx_of (y := 417) (M := xm_m417) (sc := sc) (d := d + 3) (as := [.inr (.inl (some 18)), .inl (c)]) (w := yy_W m t) (Q := fun q => ∃ m', q = (some (.inl (sg_db s c)), yy_W m' t) ∧ (∀ c, c ≠ 23 → c ≠ 24 → m' c = m c)) rfl (key fun m' h => ⟨m', rfl, h⟩) (fun q ⟨m', h, _⟩ => by rw [h]; rfl) rfl (Nat.le_of_ble_eq_true rfl) (yy_hd rfl (by decide))
  exact ⟨m', by rw [h1, h2], h3⟩
end
section
set_option maxRecDepth 20000 in
theorem sg_la_p {s : Nat → Int} {c : Int} (hO : sg_O s 0) (h3 : 0 ≤ s 3) (h : ¬ sg_la s c (sg_N s) = -1) : 0 ≤ sg_la s c (sg_N s) ∧ sg_la s c (sg_N s) < s 3 ∧ sg_E s (sg_la s c (sg_N s)).toNat := by
  have hN : ((sg_N s : Nat) : Int) = s 3 := by unfold sg_N; omega
  rcases sg_la_b (s := s) (c := c) (sg_N s) with x | ⟨x, y, z⟩
  · exact absurd x h
  · exact ⟨x, by omega, (hO.1 _ (by omega)).1⟩
set_option maxRecDepth 20000 in
theorem c_413_1g {sc : List Int} {d : Nat} {t : xm_W} {m : Nat → Nat → Int} {s : Nat → Int} {c y : Int} (hM : yy_MX t m 1 s) (hW : sg_W s 0) (hc : 0 ≤ c ∧ c ≤ 35) : ∃ m', xm_X (xm_old sc) xm_mt (d + 5) 413 [.inr (.inl (some 1)), .inl (c), .inl (y)] (yy_W m t) = some (some (.inl (sg_cf s c y)), yy_W m' t) ∧ ∀ c, c ≠ 6 → c ≠ 7 → m' c = m c := by
  have key : ∀ {Q : Option xm_V × xm_W → Prop}, (∀ m', (∀ c, c ≠ 6 → c ≠ 7 → m' c = m c) → Q (some (.inl (sg_cf s c y)), yy_W m' t)) → xm_EQ (xm_old sc) xm_sta (xm_X (xm_old sc) xm_mt (d + 4)) xm_m413.2.2.2.2.2.2.2 0 (xm_loc xm_m413.2.2.1 [.inr (.inl (some 1)), .inl (c), .inl (y)]) [] (yy_W m t) Q := by
    intro Q hQ
    obtain ⟨hR, hO, hS, hT, hT1⟩ := id hW
    obtain ⟨hMR, hX, hX1⟩ := id hM
    obtain ⟨e1, e2, e3, e4, e5, e6, e7⟩ := id hMR
    obtain ⟨b0, b1, b2, b3, hso, hrd⟩ := id hR
    unfold sg_cf at hQ
    refine xb_413_0 ?_
    by_cases g0 : y = 0
    · rw [if_pos g0] at hQ ⊢
      have := hQ m fun _ _ _ => rfl
      have f : m 2 c.toNat = s (8 + c).toNat := by rw [e5 _ (by omega)]; congr 1; omega
      simp (disch := first | omega | (unfold xm_w; omega)) only [↓zy_at, xm_O_some, xm_Oi_some, xm_Ov_some, xm_Oq_some, ↓reduceIte, ↓zz_t, ↓zz_f, ↓zi_t, ↓zi_f, eq_self, yy_d_0, Int.reduceEq, Int.reduceLT, Int.reduceLE, Int.reduceNe, Int.reduceToNat, Int.reduceAdd, Int.reduceSub, Int.reduceMul, Int.reduceNeg, Nat.reduceAdd, Nat.reduceMul, Nat.reduceSub, Nat.reduceEqDiff, Nat.reduceLT, ne_eq, not_false_eq_true, not_true_eq_false, true_and, and_true, and_self, yy_s_eq, yy_s_ne, yy_c_eq, yy_c_ne, yy_u_eq, yy_u_ne, xm_w_id, yy_at, tdiv_pos, tmod_pos, ↓zr_1_0, ↓zf_1_1, ↓zs_1_1, ↓zf_1_2, ↓zs_1_2, ↓zr_1_3, ↓zf_1_4, ↓zs_1_4, ↓zr_1_5, ↓zf_1_6, ↓zs_1_6, ↓zr_1_7, ↓zr_1_8, ↓zr_1_9, ↓zi_2, ↓zt_2, f]
      exact this
    · rw [if_neg g0] at hQ ⊢
      by_cases g1 : y = 1
      · rw [if_pos g1] at hQ ⊢
        rw [oc_414_1_0 hMR b3]
        exact hQ m fun _ _ _ => rfl
      · rw [if_neg g1] at hQ ⊢
        by_cases g2 : y = 2
        · rw [if_pos g2] at hQ ⊢
          rw [oc_415_1g hMR b3]
          have := hQ m fun _ _ _ => rfl
          by_cases g : sg_la s c (sg_N s) = -1
          · rw [if_pos g] at this
            rw [if_pos (by omega)]; exact this
          · obtain ⟨x1, x2, x3⟩ := sg_la_p hO b3.1 g
            rw [if_neg g] at this
            rw [if_neg (by omega)]
            have i1 : (sg_la s c (sg_N s) * 5 + 1).toNat = 5 * (sg_la s c (sg_N s)).toNat + 1 := by omega
            have f : m 4 (5 * (sg_la s c (sg_N s)).toNat + 1) = sg_p s (sg_la s c (sg_N s)).toNat 1 := by rw [e6 _ (by omega)]; unfold sg_p; first | rfl | (congr 1; omega)
            simp (disch := first | omega | (unfold xm_w; omega)) only [↓zy_at, xm_O_some, xm_Oi_some, xm_Ov_some, xm_Oq_some, ↓reduceIte, ↓zz_t, ↓zz_f, ↓zi_t, ↓zi_f, eq_self, yy_d_0, Int.reduceEq, Int.reduceLT, Int.reduceLE, Int.reduceNe, Int.reduceToNat, Int.reduceAdd, Int.reduceSub, Int.reduceMul, Int.reduceNeg, Nat.reduceAdd, Nat.reduceMul, Nat.reduceSub, Nat.reduceEqDiff, Nat.reduceLT, ne_eq, not_false_eq_true, not_true_eq_false, true_and, and_true, and_self, yy_s_eq, yy_s_ne, yy_c_eq, yy_c_ne, yy_u_eq, yy_u_ne, xm_w_id, yy_at, tdiv_pos, tmod_pos, ↓zr_1_0, ↓zf_1_1, ↓zs_1_1, ↓zf_1_2, ↓zs_1_2, ↓zr_1_3, ↓zf_1_4, ↓zs_1_4, ↓zr_1_5, ↓zf_1_6, ↓zs_1_6, ↓zr_1_7, ↓zr_1_8, ↓zr_1_9, ↓zi_4, ↓zt_4, i1, f]
            exact this
        · rw [if_neg g2] at hQ ⊢
          by_cases g3 : y = 3
          · rw [if_pos g3] at hQ ⊢
            rw [oc_416_1g hMR b3]
            exact hQ m fun _ _ _ => rfl
          · rw [if_neg g3] at hQ ⊢
            obtain ⟨m1, e, f1⟩ := c_417_1g (sc := sc) (d := d) (t := t) (m := m) hM hW hc
            rw [e, xm_Oi_some]
            exact hQ m1 f1
  obtain ⟨q, h1, m', h2, h3⟩ := yx_of (y := 413) (M := xm_m413) (sc := sc) (d := d + 4) (as := [.inr (.inl (some 1)), .inl (c), .inl (y)]) (w := yy_W m t) (Q := fun q => ∃ m', q = (some (.inl (sg_cf s c y)), yy_W m' t) ∧ (∀ c, c ≠ 6 → c ≠ 7 → m' c = m c)) rfl (key fun m' h => ⟨m', rfl, h⟩) (fun q ⟨m', h, _⟩ => by rw [h]; rfl) rfl (Nat.le_of_ble_eq_true rfl) (yy_hd rfl (by decide))
  exact ⟨m', by rw [h1, h2], h3⟩
set_option maxRecDepth 20000 in
theorem c_412_1 {sc : List Int} {d : Nat} {t : xm_W} {m : Nat → Nat → Int} {s : Nat → Int} {r : Nat} {y : Int} (hr : r < 5) (hM : yy_MR m 1 s) (hR : sg_R s) (hy : 0 ≤ y ∧ y ≤ 19) : xm_X (xm_old sc) xm_mt (d + 3) 412 [.inr (.inl (some 1)), .inl ((r : Int)), .inl (y)] (yy_W (m) t) = some (some (.inl (sg_rf s r y)), (yy_W (m) t)) := by
  obtain ⟨e1, e2, e3, e4, e5, e6, e7⟩ := id hM
  obtain ⟨b0, b1, b2, b3, hso, hrd⟩ := id hR
  obtain ⟨a0, a1, a2, a3, a4, a5, a6⟩ := hrd r hr
  have hq : yy_rd (8 + 2 * r) := yy_rdn8 hr
  have er : ((r : Int)).toNat = r := Int.toNat_natCast r
  refine xm_X_of (M := xm_m412) rfl ⟨xm_EQ.eq (xb_412_0 ?_), rfl, rfl, Nat.le_of_ble_eq_true rfl, yy_hd rfl (by decide)⟩
  unfold sg_rf
  by_cases g7 : y = 7
  · rw [if_pos g7, if_pos g7, oc_414_1_4 hM b3]
  · rw [if_neg g7, if_neg g7]
    simp (disch := first | omega | (unfold xm_w; omega)) only [↓zy_at, xm_O_some, xm_Oi_some, xm_Ov_some, xm_Oq_some, ↓reduceIte, ↓zz_t, ↓zz_f, ↓zi_t, ↓zi_f, eq_self, yy_d_0, Int.reduceEq, Int.reduceLT, Int.reduceLE, Int.reduceNe, Int.reduceToNat, Int.reduceAdd, Int.reduceSub, Int.reduceMul, Int.reduceNeg, Nat.reduceAdd, Nat.reduceMul, Nat.reduceSub, Nat.reduceEqDiff, Nat.reduceLT, ne_eq, not_false_eq_true, not_true_eq_false, true_and, and_true, and_self, yy_s_eq, yy_s_ne, yy_c_eq, yy_c_ne, yy_u_eq, yy_u_ne, xm_w_id, yy_at, tdiv_pos, tmod_pos, ↓zr_1_0, ↓zf_1_1, ↓zs_1_1, ↓zf_1_2, ↓zs_1_2, ↓zr_1_3, ↓zf_1_4, ↓zs_1_4, ↓zr_1_5, ↓zf_1_6, ↓zs_1_6, ↓zr_1_7, ↓zr_1_8, ↓zr_1_9, ↓zq_3, ↓zq_r1, er]
    have f : ∀ k, k < 6 → m (8 + 2 * r) k = s (44 + 18 * r + k) := fun k hk => (e7 r hr).1 k hk
    have f0 := f 0 (by decide)
    have f1 := f 1 (by decide)
    have f2 := f 2 (by decide)
    have f3 := f 3 (by decide)
    have f4 := f 4 (by decide)
    have f5 := f 5 (by decide)
    have key : xm_X (xm_old sc) xm_mt (d + 1 + 1) 607 [.inr (.inl (some (8 + 2 * r))), .inl y] (yy_W m t) = some (some (.inl (if 7 < y then (if y - 8 < s (48 + 18 * r) then s (50 + 18 * r + (y - 8).toNat) else -1) else if y = 6 then sg_dp s r else s (44 + 18 * r + y.toNat))), yy_W m t) := by
      refine xm_X_of (M := xm_m607) rfl ⟨xm_EQ.eq (xb_607_0 ?_), rfl, rfl, Nat.le_of_ble_eq_true rfl, yy_hdr hq⟩
      rcases (show y = 0 ∨ y = 1 ∨ y = 2 ∨ y = 3 ∨ y = 4 ∨ y = 5 ∨ y = 6 ∨ 7 < y by omega) with h | h | h | h | h | h | h | h
      · subst h; simp (disch := first | omega | (unfold xm_w; omega)) only [↓zy_at, xm_O_some, xm_Oi_some, xm_Ov_some, xm_Oq_some, ↓reduceIte, ↓zz_t, ↓zz_f, ↓zi_t, ↓zi_f, eq_self, yy_d_0, Int.reduceEq, Int.reduceLT, Int.reduceLE, Int.reduceNe, Int.reduceToNat, Int.reduceAdd, Int.reduceSub, Int.reduceMul, Int.reduceNeg, Nat.reduceAdd, Nat.reduceMul, Nat.reduceSub, Nat.reduceEqDiff, Nat.reduceLT, ne_eq, not_false_eq_true, not_true_eq_false, true_and, and_true, and_self, yy_s_eq, yy_s_ne, yy_c_eq, yy_c_ne, yy_u_eq, yy_u_ne, xm_w_id, yy_at, tdiv_pos, tmod_pos, ↓gf_0 hq, f0]
      · subst h; simp (disch := first | omega | (unfold xm_w; omega)) only [↓zy_at, xm_O_some, xm_Oi_some, xm_Ov_some, xm_Oq_some, ↓reduceIte, ↓zz_t, ↓zz_f, ↓zi_t, ↓zi_f, eq_self, yy_d_0, Int.reduceEq, Int.reduceLT, Int.reduceLE, Int.reduceNe, Int.reduceToNat, Int.reduceAdd, Int.reduceSub, Int.reduceMul, Int.reduceNeg, Nat.reduceAdd, Nat.reduceMul, Nat.reduceSub, Nat.reduceEqDiff, Nat.reduceLT, ne_eq, not_false_eq_true, not_true_eq_false, true_and, and_true, and_self, yy_s_eq, yy_s_ne, yy_c_eq, yy_c_ne, yy_u_eq, yy_u_ne, xm_w_id, yy_at, tdiv_pos, tmod_pos, ↓gf_1 hq, f1]
      · subst h; simp (disch := first | omega | (unfold xm_w; omega)) only [↓zy_at, xm_O_some, xm_Oi_some, xm_Ov_some, xm_Oq_some, ↓reduceIte, ↓zz_t, ↓zz_f, ↓zi_t, ↓zi_f, eq_self, yy_d_0, Int.reduceEq, Int.reduceLT, Int.reduceLE, Int.reduceNe, Int.reduceToNat, Int.reduceAdd, Int.reduceSub, Int.reduceMul, Int.reduceNeg, Nat.reduceAdd, Nat.reduceMul, Nat.reduceSub, Nat.reduceEqDiff, Nat.reduceLT, ne_eq, not_false_eq_true, not_true_eq_false, true_and, and_true, and_self, yy_s_eq, yy_s_ne, yy_c_eq, yy_c_ne, yy_u_eq, yy_u_ne, xm_w_id, yy_at, tdiv_pos, tmod_pos, ↓gf_2 hq, f2]
      · subst h; simp (disch := first | omega | (unfold xm_w; omega)) only [↓zy_at, xm_O_some, xm_Oi_some, xm_Ov_some, xm_Oq_some, ↓reduceIte, ↓zz_t, ↓zz_f, ↓zi_t, ↓zi_f, eq_self, yy_d_0, Int.reduceEq, Int.reduceLT, Int.reduceLE, Int.reduceNe, Int.reduceToNat, Int.reduceAdd, Int.reduceSub, Int.reduceMul, Int.reduceNeg, Nat.reduceAdd, Nat.reduceMul, Nat.reduceSub, Nat.reduceEqDiff, Nat.reduceLT, ne_eq, not_false_eq_true, not_true_eq_false, true_and, and_true, and_self, yy_s_eq, yy_s_ne, yy_c_eq, yy_c_ne, yy_u_eq, yy_u_ne, xm_w_id, yy_at, tdiv_pos, tmod_pos, ↓gf_3 hq, f3]
      · subst h; simp (disch := first | omega | (unfold xm_w; omega)) only [↓zy_at, xm_O_some, xm_Oi_some, xm_Ov_some, xm_Oq_some, ↓reduceIte, ↓zz_t, ↓zz_f, ↓zi_t, ↓zi_f, eq_self, yy_d_0, Int.reduceEq, Int.reduceLT, Int.reduceLE, Int.reduceNe, Int.reduceToNat, Int.reduceAdd, Int.reduceSub, Int.reduceMul, Int.reduceNeg, Nat.reduceAdd, Nat.reduceMul, Nat.reduceSub, Nat.reduceEqDiff, Nat.reduceLT, ne_eq, not_false_eq_true, not_true_eq_false, true_and, and_true, and_self, yy_s_eq, yy_s_ne, yy_c_eq, yy_c_ne, yy_u_eq, yy_u_ne, xm_w_id, yy_at, tdiv_pos, tmod_pos, ↓gf_4 hq, f4]
      · subst h; simp (disch := first | omega | (unfold xm_w; omega)) only [↓zy_at, xm_O_some, xm_Oi_some, xm_Ov_some, xm_Oq_some, ↓reduceIte, ↓zz_t, ↓zz_f, ↓zi_t, ↓zi_f, eq_self, yy_d_0, Int.reduceEq, Int.reduceLT, Int.reduceLE, Int.reduceNe, Int.reduceToNat, Int.reduceAdd, Int.reduceSub, Int.reduceMul, Int.reduceNeg, Nat.reduceAdd, Nat.reduceMul, Nat.reduceSub, Nat.reduceEqDiff, Nat.reduceLT, ne_eq, not_false_eq_true, not_true_eq_false, true_and, and_true, and_self, yy_s_eq, yy_s_ne, yy_c_eq, yy_c_ne, yy_u_eq, yy_u_ne, xm_w_id, yy_at, tdiv_pos, tmod_pos, ↓gf_5 hq, f5]
      · subst h
        have g1 : s (44 + 18 * r + 1) = s (45 + 18 * r) := by congr 1; omega
        have g3 : s (44 + 18 * r + 3) = s (47 + 18 * r) := by congr 1; omega
        rw [if_neg (by decide), if_neg (by decide), if_neg (by decide), if_neg (by decide), if_neg (by decide), if_neg (by decide), if_pos rfl, gf_0 hq, gf_1 hq, gf_3 hq, f0, f1, f3, g1, g3, oc_153 a3.1 (by omega) a1.1 (by omega)]
        rfl
      · have g4 : s (44 + 18 * r + 4) = s (48 + 18 * r) := by congr 1; omega
        rw [if_neg (by omega), if_neg (by omega), if_neg (by omega), if_neg (by omega), if_neg (by omega), if_neg (by omega), if_neg (by omega), gf_4 hq, f4, g4, oc_142, xm_w_id (by omega) (by omega), xm_w_id (by omega) (by omega)]
        rw [if_pos h]
        by_cases g : y - 8 < s (48 + 18 * r)
        · rw [zz_t (by omega), if_pos g, gr_6 hq, gi_1 hq, zy_at (by omega) (by omega)]
          have := (e7 r hr).2 (y - 8).toNat (by omega)
          rw [show 9 + 2 * r = 8 + 2 * r + 1 by omega] at this
          rw [this]
        · rw [zz_f (by omega), if_neg g]
    rw [key]
    rfl
set_option maxRecDepth 20000 in
theorem oc_412_1 {F : Int → xm_W → Prop} {sc : List Int} {d : Nat} {t : xm_W} {m : Nat → Nat → Int} {s : Nat → Int} {r : Nat} {y : Int} (hr : r < 5) (hM : yy_MR m 1 s) (hR : sg_R s) (hy : 0 ≤ y ∧ y ≤ 19) : xm_Oi (xm_X (xm_old sc) xm_mt (d + 3) 412 [.inr (.inl (some 1)), .inl ((r : Int)), .inl (y)] (yy_W (m) t)) F = F (sg_rf s r y) (yy_W (m) t) := congrArg (fun x => xm_Oi x F) (c_412_1 hr hM hR hy)
set_option maxRecDepth 20000 in
theorem l_418_1 {sc : List Int} {d : Nat} {t : xm_W} {m : Nat → Nat → Int} {s : Nat → Int} {Q : Option xm_V × xm_W → Prop} {c0 bl n y : Int} (hM : yy_MR m 1 s) (hW : sg_W s 0) (hn : n ≤ 40) : ∀ (k : Nat) (at1 st : Int) (u7 u8 u9 : Option xm_V), n - st = k → 0 ≤ st → 0 ≤ at1 ∧ at1 ≤ 35 → Q ((some (.inl (if y = 0 then (sg_tr s bl k at1 st).1 else (sg_tr s bl k at1 st).2)), (yy_W (m) t))) → xm_EQ (xm_old sc) xm_sta (xm_X (xm_old sc) xm_mt (d + 2)) xm_c418 4 [some (.inr (.inl (some 1))), some (.inl (c0)), some (.inl (bl)), some (.inl (n)), some (.inl (y)), some (.inl (at1)), some (.inl (st)), u7, u8, u9] [] (yy_W (m) t) Q
  | 0, at1, st, u7, u8, u9, hk, hs, ha, hQ => by
    refine xb_418_4 ?_
    rw [if_neg (by omega)]
    unfold sg_tr at hQ
    split
    · rename_i g; rw [if_pos g] at hQ; exact hQ
    · rename_i g; rw [if_neg g] at hQ; exact hQ
  | k + 1, at1, st, u7, u8, u9, hk, hs, ha, hQ => by
    obtain ⟨hR, hO, hS, hT, hT1⟩ := id hW
    obtain ⟨e1, e2, e3, e4, e5, e6, e7⟩ := id hM
    obtain ⟨b0, b1, b2, b3, hso, hrd⟩ := id hR
    have stop : (sg_tr s bl (k + 1) at1 st = (at1, st)) → (if y = 0 then Q (some (.inl (at1)), (yy_W (m) t)) else Q (some (.inl (st)), (yy_W (m) t))) := by
      intro h
      rw [h] at hQ
      split
      · rename_i g; rw [if_pos g] at hQ; exact hQ
      · rename_i g; rw [if_neg g] at hQ; exact hQ
    refine xb_418_4 ?_
    rw [if_pos (by omega), oc_415_1g hM b3]
    by_cases g : sg_la s at1 (sg_N s) = -1
    · rw [if_pos (by omega)]
      exact stop (by unfold sg_tr; rw [if_pos g])
    · obtain ⟨x1, x2, x3⟩ := sg_la_p hO b3.1 g
      have sh := x3.2.1
      rw [if_neg (by omega)]
      have i1 : (sg_la s at1 (sg_N s) * 5 + 1).toNat = 5 * (sg_la s at1 (sg_N s)).toNat + 1 := by omega
      have f : m 4 (5 * (sg_la s at1 (sg_N s)).toNat + 1) = sg_p s (sg_la s at1 (sg_N s)).toNat 1 := by rw [e6 _ (by omega)]; unfold sg_p; first | rfl | (congr 1; omega)
      rw [zr_1_5, zi_4, xm_w_id (z := sg_la s at1 (sg_N s) * 5) (by omega) (by omega), xm_w_id (z := sg_la s at1 (sg_N s) * 5 + 1) (by omega) (by omega), zy_at (by omega) (by omega), i1, f]
      have nr : ∀ w, sp_next at1 w = -1 ∨ (0 ≤ sp_next at1 w ∧ sp_next at1 w ≤ 35) := fun w => sg_next_r ha
      by_cases gb : bl = 0
      · rw [if_pos gb, oc_150 ha.1 (by omega)]
        have := nr (sg_p s (sg_la s at1 (sg_N s)).toNat 1)
        by_cases gn : sp_next at1 (sg_p s (sg_la s at1 (sg_N s)).toNat 1) = -1
        · rw [if_pos (by omega)]
          exact stop (by unfold sg_tr; rw [if_neg g, if_pos gb, if_pos gn])
        · rw [if_neg (by omega), xm_w_id (by omega) (by omega)]
          refine l_418_1 hM hW hn k _ (st + 1) _ _ _ (by omega) (by omega) (by omega) ?_
          have e : sg_tr s bl (k + 1) at1 st = sg_tr s bl k (sp_next at1 (sg_p s (sg_la s at1 (sg_N s)).toNat 1)) (st + 1) := by
            show (if sg_la s at1 (sg_N s) = -1 then _ else _) = _
            rw [if_neg g, if_pos gb, if_neg gn]
          rw [← e]; exact hQ
      · rw [if_neg gb, oc_151 sh.1 (by omega), oc_150 ha.1 (by omega)]
        have := nr (sp_back (sg_p s (sg_la s at1 (sg_N s)).toNat 1))
        by_cases gn : sp_next at1 (sp_back (sg_p s (sg_la s at1 (sg_N s)).toNat 1)) = -1
        · rw [if_pos (by omega)]
          exact stop (by unfold sg_tr; rw [if_neg g, if_neg gb, if_pos gn])
        · rw [if_neg (by omega), xm_w_id (by omega) (by omega)]
          refine l_418_1 hM hW hn k _ (st + 1) _ _ _ (by omega) (by omega) (by omega) ?_
          have e : sg_tr s bl (k + 1) at1 st = sg_tr s bl k (sp_next at1 (sp_back (sg_p s (sg_la s at1 (sg_N s)).toNat 1))) (st + 1) := by
            show (if sg_la s at1 (sg_N s) = -1 then _ else _) = _
            rw [if_neg g, if_neg gb, if_neg gn]
          rw [← e]; exact hQ
set_option maxRecDepth 20000 in
theorem c_418_1g {sc : List Int} {d : Nat} {t : xm_W} {m : Nat → Nat → Int} {s : Nat → Int} {c bl n y : Int} (hM : yy_MR m 1 s) (hW : sg_W s 0) (hc : 0 ≤ c ∧ c ≤ 35) (hn : 0 ≤ n ∧ n ≤ 40) : xm_X (xm_old sc) xm_mt (d + 3) 418 [.inr (.inl (some 1)), .inl (c), .inl (bl), .inl (n), .inl (y)] (yy_W (m) t) = some (some (.inl (if y = 0 then (sg_tr s bl n.toNat c 0).1 else (sg_tr s bl n.toNat c 0).2)), (yy_W (m) t)) := by
  refine xm_X_of (M := xm_m418) rfl ⟨xm_EQ.eq (xb_418_0 ?_), rfl, rfl, Nat.le_of_ble_eq_true rfl, yy_hd rfl (by decide)⟩
  exact l_418_1 (d := d) hM hW hn.2 n.toNat c 0 none none none (by omega) (by decide) hc rfl
set_option maxRecDepth 20000 in
theorem oc_418_1g {F : Int → xm_W → Prop} {sc : List Int} {d : Nat} {t : xm_W} {m : Nat → Nat → Int} {s : Nat → Int} {c bl n y : Int} (hM : yy_MR m 1 s) (hW : sg_W s 0) (hc : 0 ≤ c ∧ c ≤ 35) (hn : 0 ≤ n ∧ n ≤ 40) : xm_Oi (xm_X (xm_old sc) xm_mt (d + 3) 418 [.inr (.inl (some 1)), .inl (c), .inl (bl), .inl (n), .inl (y)] (yy_W (m) t)) F = F (if y = 0 then (sg_tr s bl n.toNat c 0).1 else (sg_tr s bl n.toNat c 0).2) (yy_W (m) t) := congrArg (fun x => xm_Oi x F) (c_418_1g hM hW hc hn)
set_option maxRecDepth 20000 in
theorem c_413_18g {sc : List Int} {d : Nat} {t : xm_W} {m : Nat → Nat → Int} {s : Nat → Int} {c y : Int} (hM : yy_MX t m 18 s) (hW : sg_W s 0) (hc : 0 ≤ c ∧ c ≤ 35) : ∃ m', xm_X (xm_old sc) xm_mt (d + 5) 413 [.inr (.inl (some 18)), .inl (c), .inl (y)] (yy_W m t) = some (some (.inl (sg_cf s c y)), yy_W m' t) ∧ ∀ c, c ≠ 23 → c ≠ 24 → m' c = m c := by
  have key : ∀ {Q : Option xm_V × xm_W → Prop}, (∀ m', (∀ c, c ≠ 23 → c ≠ 24 → m' c = m c) → Q (some (.inl (sg_cf s c y)), yy_W m' t)) → xm_EQ (xm_old sc) xm_sta (xm_X (xm_old sc) xm_mt (d + 4)) xm_m413.2.2.2.2.2.2.2 0 (xm_loc xm_m413.2.2.1 [.inr (.inl (some 18)), .inl (c), .inl (y)]) [] (yy_W m t) Q := by
    intro Q hQ
    obtain ⟨hR, hO, hS, hT, hT1⟩ := id hW
    obtain ⟨hMR, hX, hX1⟩ := id hM
    obtain ⟨e1, e2, e3, e4, e5, e6, e7⟩ := id hMR
    obtain ⟨b0, b1, b2, b3, hso, hrd⟩ := id hR
    unfold sg_cf at hQ
    refine xb_413_0 ?_
    by_cases g0 : y = 0
    · rw [if_pos g0] at hQ ⊢
      have := hQ m fun _ _ _ => rfl
      have f : m 19 c.toNat = s (8 + c).toNat := by rw [e5 _ (by omega)]; congr 1; omega
      simp (disch := first | omega | (unfold xm_w; omega)) only [↓zy_at, xm_O_some, xm_Oi_some, xm_Ov_some, xm_Oq_some, ↓reduceIte, ↓zz_t, ↓zz_f, ↓zi_t, ↓zi_f, eq_self, yy_d_0, Int.reduceEq, Int.reduceLT, Int.reduceLE, Int.reduceNe, Int.reduceToNat, Int.reduceAdd, Int.reduceSub, Int.reduceMul, Int.reduceNeg, Nat.reduceAdd, Nat.reduceMul, Nat.reduceSub, Nat.reduceEqDiff, Nat.reduceLT, ne_eq, not_false_eq_true, not_true_eq_false, true_and, and_true, and_self, yy_s_eq, yy_s_ne, yy_c_eq, yy_c_ne, yy_u_eq, yy_u_ne, xm_w_id, yy_at, tdiv_pos, tmod_pos, ↓zr_18_0, ↓zf_18_1, ↓zs_18_1, ↓zf_18_2, ↓zs_18_2, ↓zr_18_3, ↓zf_18_4, ↓zs_18_4, ↓zr_18_5, ↓zf_18_6, ↓zs_18_6, ↓zr_18_7, ↓zr_18_8, ↓zr_18_9, ↓zi_19, ↓zt_19, f]
      exact this
    · rw [if_neg g0] at hQ ⊢
      by_cases g1 : y = 1
      · rw [if_pos g1] at hQ ⊢
        rw [oc_414_18_0 hMR b3]
        exact hQ m fun _ _ _ => rfl
      · rw [if_neg g1] at hQ ⊢
        by_cases g2 : y = 2
        · rw [if_pos g2] at hQ ⊢
          rw [oc_415_18g hMR b3]
          have := hQ m fun _ _ _ => rfl
          by_cases g : sg_la s c (sg_N s) = -1
          · rw [if_pos g] at this
            rw [if_pos (by omega)]; exact this
          · obtain ⟨x1, x2, x3⟩ := sg_la_p hO b3.1 g
            rw [if_neg g] at this
            rw [if_neg (by omega)]
            have i1 : (sg_la s c (sg_N s) * 5 + 1).toNat = 5 * (sg_la s c (sg_N s)).toNat + 1 := by omega
            have f : m 21 (5 * (sg_la s c (sg_N s)).toNat + 1) = sg_p s (sg_la s c (sg_N s)).toNat 1 := by rw [e6 _ (by omega)]; unfold sg_p; first | rfl | (congr 1; omega)
            simp (disch := first | omega | (unfold xm_w; omega)) only [↓zy_at, xm_O_some, xm_Oi_some, xm_Ov_some, xm_Oq_some, ↓reduceIte, ↓zz_t, ↓zz_f, ↓zi_t, ↓zi_f, eq_self, yy_d_0, Int.reduceEq, Int.reduceLT, Int.reduceLE, Int.reduceNe, Int.reduceToNat, Int.reduceAdd, Int.reduceSub, Int.reduceMul, Int.reduceNeg, Nat.reduceAdd, Nat.reduceMul, Nat.reduceSub, Nat.reduceEqDiff, Nat.reduceLT, ne_eq, not_false_eq_true, not_true_eq_false, true_and, and_true, and_self, yy_s_eq, yy_s_ne, yy_c_eq, yy_c_ne, yy_u_eq, yy_u_ne, xm_w_id, yy_at, tdiv_pos, tmod_pos, ↓zr_18_0, ↓zf_18_1, ↓zs_18_1, ↓zf_18_2, ↓zs_18_2, ↓zr_18_3, ↓zf_18_4, ↓zs_18_4, ↓zr_18_5, ↓zf_18_6, ↓zs_18_6, ↓zr_18_7, ↓zr_18_8, ↓zr_18_9, ↓zi_21, ↓zt_21, i1, f]
            exact this
        · rw [if_neg g2] at hQ ⊢
          by_cases g3 : y = 3
          · rw [if_pos g3] at hQ ⊢
            rw [oc_416_18g hMR b3]
            exact hQ m fun _ _ _ => rfl
          · rw [if_neg g3] at hQ ⊢
            obtain ⟨m1, e, f1⟩ := c_417_18g (sc := sc) (d := d) (t := t) (m := m) hM hW hc
            rw [e, xm_Oi_some]
            exact hQ m1 f1
  obtain ⟨q, h1, m', h2, h3⟩ := yx_of (y := 413) (M := xm_m413) (sc := sc) (d := d + 4) (as := [.inr (.inl (some 18)), .inl (c), .inl (y)]) (w := yy_W m t) (Q := fun q => ∃ m', q = (some (.inl (sg_cf s c y)), yy_W m' t) ∧ (∀ c, c ≠ 23 → c ≠ 24 → m' c = m c)) rfl (key fun m' h => ⟨m', rfl, h⟩) (fun q ⟨m', h, _⟩ => by rw [h]; rfl) rfl (Nat.le_of_ble_eq_true rfl) (yy_hd rfl (by decide))
  exact ⟨m', by rw [h1, h2], h3⟩
set_option maxRecDepth 20000 in
theorem c_412_18 {sc : List Int} {d : Nat} {t : xm_W} {m : Nat → Nat → Int} {s : Nat → Int} {r : Nat} {y : Int} (hr : r < 5) (hM : yy_MR m 18 s) (hR : sg_R s) (hy : 0 ≤ y ∧ y ≤ 19) : xm_X (xm_old sc) xm_mt (d + 3) 412 [.inr (.inl (some 18)), .inl ((r : Int)), .inl (y)] (yy_W (m) t) = some (some (.inl (sg_rf s r y)), (yy_W (m) t)) := by
  obtain ⟨e1, e2, e3, e4, e5, e6, e7⟩ := id hM
  obtain ⟨b0, b1, b2, b3, hso, hrd⟩ := id hR
  obtain ⟨a0, a1, a2, a3, a4, a5, a6⟩ := hrd r hr
  have hq : yy_rd (25 + 2 * r) := yy_rdn25 hr
  have er : ((r : Int)).toNat = r := Int.toNat_natCast r
  refine xm_X_of (M := xm_m412) rfl ⟨xm_EQ.eq (xb_412_0 ?_), rfl, rfl, Nat.le_of_ble_eq_true rfl, yy_hd rfl (by decide)⟩
  unfold sg_rf
  by_cases g7 : y = 7
  · rw [if_pos g7, if_pos g7, oc_414_18_4 hM b3]
  · rw [if_neg g7, if_neg g7]
    simp (disch := first | omega | (unfold xm_w; omega)) only [↓zy_at, xm_O_some, xm_Oi_some, xm_Ov_some, xm_Oq_some, ↓reduceIte, ↓zz_t, ↓zz_f, ↓zi_t, ↓zi_f, eq_self, yy_d_0, Int.reduceEq, Int.reduceLT, Int.reduceLE, Int.reduceNe, Int.reduceToNat, Int.reduceAdd, Int.reduceSub, Int.reduceMul, Int.reduceNeg, Nat.reduceAdd, Nat.reduceMul, Nat.reduceSub, Nat.reduceEqDiff, Nat.reduceLT, ne_eq, not_false_eq_true, not_true_eq_false, true_and, and_true, and_self, yy_s_eq, yy_s_ne, yy_c_eq, yy_c_ne, yy_u_eq, yy_u_ne, xm_w_id, yy_at, tdiv_pos, tmod_pos, ↓zr_18_0, ↓zf_18_1, ↓zs_18_1, ↓zf_18_2, ↓zs_18_2, ↓zr_18_3, ↓zf_18_4, ↓zs_18_4, ↓zr_18_5, ↓zf_18_6, ↓zs_18_6, ↓zr_18_7, ↓zr_18_8, ↓zr_18_9, ↓zq_20, ↓zq_r18, er]
    have f : ∀ k, k < 6 → m (25 + 2 * r) k = s (44 + 18 * r + k) := fun k hk => (e7 r hr).1 k hk
    have f0 := f 0 (by decide)
    have f1 := f 1 (by decide)
    have f2 := f 2 (by decide)
    have f3 := f 3 (by decide)
    have f4 := f 4 (by decide)
    have f5 := f 5 (by decide)
    have key : xm_X (xm_old sc) xm_mt (d + 1 + 1) 607 [.inr (.inl (some (25 + 2 * r))), .inl y] (yy_W m t) = some (some (.inl (if 7 < y then (if y - 8 < s (48 + 18 * r) then s (50 + 18 * r + (y - 8).toNat) else -1) else if y = 6 then sg_dp s r else s (44 + 18 * r + y.toNat))), yy_W m t) := by
      refine xm_X_of (M := xm_m607) rfl ⟨xm_EQ.eq (xb_607_0 ?_), rfl, rfl, Nat.le_of_ble_eq_true rfl, yy_hdr hq⟩
      rcases (show y = 0 ∨ y = 1 ∨ y = 2 ∨ y = 3 ∨ y = 4 ∨ y = 5 ∨ y = 6 ∨ 7 < y by omega) with h | h | h | h | h | h | h | h
      · subst h; simp (disch := first | omega | (unfold xm_w; omega)) only [↓zy_at, xm_O_some, xm_Oi_some, xm_Ov_some, xm_Oq_some, ↓reduceIte, ↓zz_t, ↓zz_f, ↓zi_t, ↓zi_f, eq_self, yy_d_0, Int.reduceEq, Int.reduceLT, Int.reduceLE, Int.reduceNe, Int.reduceToNat, Int.reduceAdd, Int.reduceSub, Int.reduceMul, Int.reduceNeg, Nat.reduceAdd, Nat.reduceMul, Nat.reduceSub, Nat.reduceEqDiff, Nat.reduceLT, ne_eq, not_false_eq_true, not_true_eq_false, true_and, and_true, and_self, yy_s_eq, yy_s_ne, yy_c_eq, yy_c_ne, yy_u_eq, yy_u_ne, xm_w_id, yy_at, tdiv_pos, tmod_pos, ↓gf_0 hq, f0]
      · subst h; simp (disch := first | omega | (unfold xm_w; omega)) only [↓zy_at, xm_O_some, xm_Oi_some, xm_Ov_some, xm_Oq_some, ↓reduceIte, ↓zz_t, ↓zz_f, ↓zi_t, ↓zi_f, eq_self, yy_d_0, Int.reduceEq, Int.reduceLT, Int.reduceLE, Int.reduceNe, Int.reduceToNat, Int.reduceAdd, Int.reduceSub, Int.reduceMul, Int.reduceNeg, Nat.reduceAdd, Nat.reduceMul, Nat.reduceSub, Nat.reduceEqDiff, Nat.reduceLT, ne_eq, not_false_eq_true, not_true_eq_false, true_and, and_true, and_self, yy_s_eq, yy_s_ne, yy_c_eq, yy_c_ne, yy_u_eq, yy_u_ne, xm_w_id, yy_at, tdiv_pos, tmod_pos, ↓gf_1 hq, f1]
      · subst h; simp (disch := first | omega | (unfold xm_w; omega)) only [↓zy_at, xm_O_some, xm_Oi_some, xm_Ov_some, xm_Oq_some, ↓reduceIte, ↓zz_t, ↓zz_f, ↓zi_t, ↓zi_f, eq_self, yy_d_0, Int.reduceEq, Int.reduceLT, Int.reduceLE, Int.reduceNe, Int.reduceToNat, Int.reduceAdd, Int.reduceSub, Int.reduceMul, Int.reduceNeg, Nat.reduceAdd, Nat.reduceMul, Nat.reduceSub, Nat.reduceEqDiff, Nat.reduceLT, ne_eq, not_false_eq_true, not_true_eq_false, true_and, and_true, and_self, yy_s_eq, yy_s_ne, yy_c_eq, yy_c_ne, yy_u_eq, yy_u_ne, xm_w_id, yy_at, tdiv_pos, tmod_pos, ↓gf_2 hq, f2]
      · subst h; simp (disch := first | omega | (unfold xm_w; omega)) only [↓zy_at, xm_O_some, xm_Oi_some, xm_Ov_some, xm_Oq_some, ↓reduceIte, ↓zz_t, ↓zz_f, ↓zi_t, ↓zi_f, eq_self, yy_d_0, Int.reduceEq, Int.reduceLT, Int.reduceLE, Int.reduceNe, Int.reduceToNat, Int.reduceAdd, Int.reduceSub, Int.reduceMul, Int.reduceNeg, Nat.reduceAdd, Nat.reduceMul, Nat.reduceSub, Nat.reduceEqDiff, Nat.reduceLT, ne_eq, not_false_eq_true, not_true_eq_false, true_and, and_true, and_self, yy_s_eq, yy_s_ne, yy_c_eq, yy_c_ne, yy_u_eq, yy_u_ne, xm_w_id, yy_at, tdiv_pos, tmod_pos, ↓gf_3 hq, f3]
      · subst h; simp (disch := first | omega | (unfold xm_w; omega)) only [↓zy_at, xm_O_some, xm_Oi_some, xm_Ov_some, xm_Oq_some, ↓reduceIte, ↓zz_t, ↓zz_f, ↓zi_t, ↓zi_f, eq_self, yy_d_0, Int.reduceEq, Int.reduceLT, Int.reduceLE, Int.reduceNe, Int.reduceToNat, Int.reduceAdd, Int.reduceSub, Int.reduceMul, Int.reduceNeg, Nat.reduceAdd, Nat.reduceMul, Nat.reduceSub, Nat.reduceEqDiff, Nat.reduceLT, ne_eq, not_false_eq_true, not_true_eq_false, true_and, and_true, and_self, yy_s_eq, yy_s_ne, yy_c_eq, yy_c_ne, yy_u_eq, yy_u_ne, xm_w_id, yy_at, tdiv_pos, tmod_pos, ↓gf_4 hq, f4]
      · subst h; simp (disch := first | omega | (unfold xm_w; omega)) only [↓zy_at, xm_O_some, xm_Oi_some, xm_Ov_some, xm_Oq_some, ↓reduceIte, ↓zz_t, ↓zz_f, ↓zi_t, ↓zi_f, eq_self, yy_d_0, Int.reduceEq, Int.reduceLT, Int.reduceLE, Int.reduceNe, Int.reduceToNat, Int.reduceAdd, Int.reduceSub, Int.reduceMul, Int.reduceNeg, Nat.reduceAdd, Nat.reduceMul, Nat.reduceSub, Nat.reduceEqDiff, Nat.reduceLT, ne_eq, not_false_eq_true, not_true_eq_false, true_and, and_true, and_self, yy_s_eq, yy_s_ne, yy_c_eq, yy_c_ne, yy_u_eq, yy_u_ne, xm_w_id, yy_at, tdiv_pos, tmod_pos, ↓gf_5 hq, f5]
      · subst h
        have g1 : s (44 + 18 * r + 1) = s (45 + 18 * r) := by congr 1; omega
        have g3 : s (44 + 18 * r + 3) = s (47 + 18 * r) := by congr 1; omega
        rw [if_neg (by decide), if_neg (by decide), if_neg (by decide), if_neg (by decide), if_neg (by decide), if_neg (by decide), if_pos rfl, gf_0 hq, gf_1 hq, gf_3 hq, f0, f1, f3, g1, g3, oc_153 a3.1 (by omega) a1.1 (by omega)]
        rfl
      · have g4 : s (44 + 18 * r + 4) = s (48 + 18 * r) := by congr 1; omega
        rw [if_neg (by omega), if_neg (by omega), if_neg (by omega), if_neg (by omega), if_neg (by omega), if_neg (by omega), if_neg (by omega), gf_4 hq, f4, g4, oc_142, xm_w_id (by omega) (by omega), xm_w_id (by omega) (by omega)]
        rw [if_pos h]
        by_cases g : y - 8 < s (48 + 18 * r)
        · rw [zz_t (by omega), if_pos g, gr_6 hq, gi_1 hq, zy_at (by omega) (by omega)]
          have := (e7 r hr).2 (y - 8).toNat (by omega)
          rw [show 26 + 2 * r = 25 + 2 * r + 1 by omega] at this
          rw [this]
        · rw [zz_f (by omega), if_neg g]
    rw [key]
    rfl
set_option maxRecDepth 20000 in
theorem oc_412_18 {F : Int → xm_W → Prop} {sc : List Int} {d : Nat} {t : xm_W} {m : Nat → Nat → Int} {s : Nat → Int} {r : Nat} {y : Int} (hr : r < 5) (hM : yy_MR m 18 s) (hR : sg_R s) (hy : 0 ≤ y ∧ y ≤ 19) : xm_Oi (xm_X (xm_old sc) xm_mt (d + 3) 412 [.inr (.inl (some 18)), .inl ((r : Int)), .inl (y)] (yy_W (m) t)) F = F (sg_rf s r y) (yy_W (m) t) := congrArg (fun x => xm_Oi x F) (c_412_18 hr hM hR hy)
set_option maxRecDepth 20000 in
theorem l_418_18 {sc : List Int} {d : Nat} {t : xm_W} {m : Nat → Nat → Int} {s : Nat → Int} {Q : Option xm_V × xm_W → Prop} {c0 bl n y : Int} (hM : yy_MR m 18 s) (hW : sg_W s 0) (hn : n ≤ 40) : ∀ (k : Nat) (at1 st : Int) (u7 u8 u9 : Option xm_V), n - st = k → 0 ≤ st → 0 ≤ at1 ∧ at1 ≤ 35 → Q ((some (.inl (if y = 0 then (sg_tr s bl k at1 st).1 else (sg_tr s bl k at1 st).2)), (yy_W (m) t))) → xm_EQ (xm_old sc) xm_sta (xm_X (xm_old sc) xm_mt (d + 2)) xm_c418 4 [some (.inr (.inl (some 18))), some (.inl (c0)), some (.inl (bl)), some (.inl (n)), some (.inl (y)), some (.inl (at1)), some (.inl (st)), u7, u8, u9] [] (yy_W (m) t) Q
  | 0, at1, st, u7, u8, u9, hk, hs, ha, hQ => by
    refine xb_418_4 ?_
    rw [if_neg (by omega)]
    unfold sg_tr at hQ
    split
    · rename_i g; rw [if_pos g] at hQ; exact hQ
    · rename_i g; rw [if_neg g] at hQ; exact hQ
  | k + 1, at1, st, u7, u8, u9, hk, hs, ha, hQ => by
    obtain ⟨hR, hO, hS, hT, hT1⟩ := id hW
    obtain ⟨e1, e2, e3, e4, e5, e6, e7⟩ := id hM
    obtain ⟨b0, b1, b2, b3, hso, hrd⟩ := id hR
    have stop : (sg_tr s bl (k + 1) at1 st = (at1, st)) → (if y = 0 then Q (some (.inl (at1)), (yy_W (m) t)) else Q (some (.inl (st)), (yy_W (m) t))) := by
      intro h
      rw [h] at hQ
      split
      · rename_i g; rw [if_pos g] at hQ; exact hQ
      · rename_i g; rw [if_neg g] at hQ; exact hQ
    refine xb_418_4 ?_
    rw [if_pos (by omega), oc_415_18g hM b3]
    by_cases g : sg_la s at1 (sg_N s) = -1
    · rw [if_pos (by omega)]
      exact stop (by unfold sg_tr; rw [if_pos g])
    · obtain ⟨x1, x2, x3⟩ := sg_la_p hO b3.1 g
      have sh := x3.2.1
      rw [if_neg (by omega)]
      have i1 : (sg_la s at1 (sg_N s) * 5 + 1).toNat = 5 * (sg_la s at1 (sg_N s)).toNat + 1 := by omega
      have f : m 21 (5 * (sg_la s at1 (sg_N s)).toNat + 1) = sg_p s (sg_la s at1 (sg_N s)).toNat 1 := by rw [e6 _ (by omega)]; unfold sg_p; first | rfl | (congr 1; omega)
      rw [zr_18_5, zi_21, xm_w_id (z := sg_la s at1 (sg_N s) * 5) (by omega) (by omega), xm_w_id (z := sg_la s at1 (sg_N s) * 5 + 1) (by omega) (by omega), zy_at (by omega) (by omega), i1, f]
      have nr : ∀ w, sp_next at1 w = -1 ∨ (0 ≤ sp_next at1 w ∧ sp_next at1 w ≤ 35) := fun w => sg_next_r ha
      by_cases gb : bl = 0
      · rw [if_pos gb, oc_150 ha.1 (by omega)]
        have := nr (sg_p s (sg_la s at1 (sg_N s)).toNat 1)
        by_cases gn : sp_next at1 (sg_p s (sg_la s at1 (sg_N s)).toNat 1) = -1
        · rw [if_pos (by omega)]
          exact stop (by unfold sg_tr; rw [if_neg g, if_pos gb, if_pos gn])
        · rw [if_neg (by omega), xm_w_id (by omega) (by omega)]
          refine l_418_18 hM hW hn k _ (st + 1) _ _ _ (by omega) (by omega) (by omega) ?_
          have e : sg_tr s bl (k + 1) at1 st = sg_tr s bl k (sp_next at1 (sg_p s (sg_la s at1 (sg_N s)).toNat 1)) (st + 1) := by
            show (if sg_la s at1 (sg_N s) = -1 then _ else _) = _
            rw [if_neg g, if_pos gb, if_neg gn]
          rw [← e]; exact hQ
      · rw [if_neg gb, oc_151 sh.1 (by omega), oc_150 ha.1 (by omega)]
        have := nr (sp_back (sg_p s (sg_la s at1 (sg_N s)).toNat 1))
        by_cases gn : sp_next at1 (sp_back (sg_p s (sg_la s at1 (sg_N s)).toNat 1)) = -1
        · rw [if_pos (by omega)]
          exact stop (by unfold sg_tr; rw [if_neg g, if_neg gb, if_pos gn])
        · rw [if_neg (by omega), xm_w_id (by omega) (by omega)]
          refine l_418_18 hM hW hn k _ (st + 1) _ _ _ (by omega) (by omega) (by omega) ?_
          have e : sg_tr s bl (k + 1) at1 st = sg_tr s bl k (sp_next at1 (sp_back (sg_p s (sg_la s at1 (sg_N s)).toNat 1))) (st + 1) := by
            show (if sg_la s at1 (sg_N s) = -1 then _ else _) = _
            rw [if_neg g, if_neg gb, if_neg gn]
          rw [← e]; exact hQ
set_option maxRecDepth 20000 in
theorem c_418_18g {sc : List Int} {d : Nat} {t : xm_W} {m : Nat → Nat → Int} {s : Nat → Int} {c bl n y : Int} (hM : yy_MR m 18 s) (hW : sg_W s 0) (hc : 0 ≤ c ∧ c ≤ 35) (hn : 0 ≤ n ∧ n ≤ 40) : xm_X (xm_old sc) xm_mt (d + 3) 418 [.inr (.inl (some 18)), .inl (c), .inl (bl), .inl (n), .inl (y)] (yy_W (m) t) = some (some (.inl (if y = 0 then (sg_tr s bl n.toNat c 0).1 else (sg_tr s bl n.toNat c 0).2)), (yy_W (m) t)) := by
  refine xm_X_of (M := xm_m418) rfl ⟨xm_EQ.eq (xb_418_0 ?_), rfl, rfl, Nat.le_of_ble_eq_true rfl, yy_hd rfl (by decide)⟩
  exact l_418_18 (d := d) hM hW hn.2 n.toNat c 0 none none none (by omega) (by decide) hc rfl
set_option maxRecDepth 20000 in
theorem oc_418_18g {F : Int → xm_W → Prop} {sc : List Int} {d : Nat} {t : xm_W} {m : Nat → Nat → Int} {s : Nat → Int} {c bl n y : Int} (hM : yy_MR m 18 s) (hW : sg_W s 0) (hc : 0 ≤ c ∧ c ≤ 35) (hn : 0 ≤ n ∧ n ≤ 40) : xm_Oi (xm_X (xm_old sc) xm_mt (d + 3) 418 [.inr (.inl (some 18)), .inl (c), .inl (bl), .inl (n), .inl (y)] (yy_W (m) t)) F = F (if y = 0 then (sg_tr s bl n.toNat c 0).1 else (sg_tr s bl n.toNat c 0).2) (yy_W (m) t) := congrArg (fun x => xm_Oi x F) (c_418_18g hM hW hc hn)
end
section
set_option maxRecDepth 20000 in
theorem sg_N_i {s : Nat → Int} (h : 0 ≤ s 3) : ((sg_N s : Nat) : Int) = s 3 := by unfold sg_N; omega
set_option maxRecDepth 20000 in
theorem l_1143g {sc : List Int} {d : Nat} {t : xm_W} {m : Nat → Nat → Int} {s : Nat → Int} {Q : Option xm_V × xm_W → Prop} {v : Int} (hs : m 75 = s) (h3 : 0 ≤ s 3 ∧ s 3 ≤ 40) (hQ : Q ((some (.inl (sg_cn s 4 v (sg_N s))), (yy_W (m) t)))) : ∀ (k i : Nat), ((i + k : Nat) : Int) = s 3 → xm_EQ (xm_old sc) xm_sta (xm_X (xm_old sc) xm_mt (d + 1)) xm_c1143 4 [some (.inr (.inl (some 74))), some (.inl (v)), some (.inl ((sg_cn s 4 v i))), some (.inl ((i : Int)))] [] (yy_W (m) t) Q
  | 0, i, hk => by
    have e : i = sg_N s := by unfold sg_N; omega
    refine xb_1143_4 ?_
    simp (disch := first | omega | (unfold xm_w; omega)) only [↓zy_at, xm_O_some, xm_Oi_some, xm_Ov_some, xm_Oq_some, ↓reduceIte, ↓zz_t, ↓zz_f, ↓zi_t, ↓zi_f, eq_self, yy_d_0, Int.reduceEq, Int.reduceLT, Int.reduceLE, Int.reduceNe, Int.reduceToNat, Int.reduceAdd, Int.reduceSub, Int.reduceMul, Int.reduceNeg, Nat.reduceAdd, Nat.reduceMul, Nat.reduceSub, Nat.reduceEqDiff, Nat.reduceLT, ne_eq, not_false_eq_true, not_true_eq_false, true_and, and_true, and_self, yy_s_eq, yy_s_ne, yy_c_eq, yy_c_ne, yy_u_eq, yy_u_ne, xm_w_id, yy_at, tdiv_pos, tmod_pos, ↓zr_74_0, ↓zr_74_1, ↓zr_74_2, ↓zf_74_3, ↓zs_74_3, ↓zf_74_4, ↓zs_74_4, ↓zr_74_5, ↓zf_74_6, ↓zs_74_6, ↓zf_74_7, ↓zs_74_7, ↓zf_74_8, ↓zs_74_8, ↓zf_74_9, ↓zs_74_9, ↓zr_74_10, ↓zr_74_11, ↓zr_74_12, ↓zf_74_13, ↓zs_74_13, ↓zr_74_14, ↓zf_74_15, ↓zs_74_15, ↓zf_74_16, ↓zs_74_16, ↓zf_74_17, ↓zs_74_17, ↓zr_74_18, ↓zr_74_19, ↓zr_74_20, ↓zr_74_21, ↓zi_75, ↓zt_75, hs]
    rw [e]; exact hQ
  | k + 1, i, hk => by
    have cb := sg_cn_b (s := s) (w := 4) (v := v) i
    have := l_1143g (sc := sc) (d := d) (t := t) (Q := Q) hs h3 hQ k (i + 1) (by omega)
    rw [show ((i + 1 : Nat) : Int) = (i : Int) + 1 by omega] at this
    unfold sg_cn at this
    refine xb_1143_4 ?_
    simp (disch := first | omega | (unfold xm_w; omega)) only [↓zy_at, xm_O_some, xm_Oi_some, xm_Ov_some, xm_Oq_some, ↓reduceIte, ↓zz_t, ↓zz_f, ↓zi_t, ↓zi_f, eq_self, yy_d_0, Int.reduceEq, Int.reduceLT, Int.reduceLE, Int.reduceNe, Int.reduceToNat, Int.reduceAdd, Int.reduceSub, Int.reduceMul, Int.reduceNeg, Nat.reduceAdd, Nat.reduceMul, Nat.reduceSub, Nat.reduceEqDiff, Nat.reduceLT, ne_eq, not_false_eq_true, not_true_eq_false, true_and, and_true, and_self, yy_s_eq, yy_s_ne, yy_c_eq, yy_c_ne, yy_u_eq, yy_u_ne, xm_w_id, yy_at, tdiv_pos, tmod_pos, ↓zr_74_0, ↓zr_74_1, ↓zr_74_2, ↓zf_74_3, ↓zs_74_3, ↓zf_74_4, ↓zs_74_4, ↓zr_74_5, ↓zf_74_6, ↓zs_74_6, ↓zf_74_7, ↓zs_74_7, ↓zf_74_8, ↓zs_74_8, ↓zf_74_9, ↓zs_74_9, ↓zr_74_10, ↓zr_74_11, ↓zr_74_12, ↓zf_74_13, ↓zs_74_13, ↓zr_74_14, ↓zf_74_15, ↓zs_74_15, ↓zf_74_16, ↓zs_74_16, ↓zf_74_17, ↓zs_74_17, ↓zr_74_18, ↓zr_74_19, ↓zr_74_20, ↓zr_74_21, ↓zi_75, ↓zt_75, hs]
    rw [oc_1112_4 (by omega), hs]
    split
    · rename_i g; rw [if_pos g] at this; exact this
    · rename_i g; rw [if_neg g] at this; exact this
set_option maxRecDepth 20000 in
theorem c_1143 {sc : List Int} {d : Nat} {t : xm_W} {m : Nat → Nat → Int} {s : Nat → Int} {v : Int} (hs : m 75 = s) (h3 : 0 ≤ s 3 ∧ s 3 ≤ 40) : xm_X (xm_old sc) xm_mt (d + 2) 1143 [.inr (.inl (some 74)), .inl (v)] (yy_W (m) t) = some (some (.inl (sg_cn s 4 v (sg_N s))), (yy_W (m) t)) := by
  refine xm_X_of (M := xm_m1143) rfl ⟨xm_EQ.eq (xb_1143_0 ?_), rfl, rfl, Nat.le_of_ble_eq_true rfl, yy_hd rfl (by decide)⟩
  exact l_1143g (d := d) hs h3 rfl (sg_N s) 0 (by unfold sg_N; omega)
set_option maxRecDepth 20000 in
theorem oc_1143 {F : Int → xm_W → Prop} {sc : List Int} {d : Nat} {t : xm_W} {m : Nat → Nat → Int} {s : Nat → Int} {v : Int} (hs : m 75 = s) (h3 : 0 ≤ s 3 ∧ s 3 ≤ 40) : xm_Oi (xm_X (xm_old sc) xm_mt (d + 2) 1143 [.inr (.inl (some 74)), .inl (v)] (yy_W (m) t)) F = F (sg_cn s 4 v (sg_N s)) (yy_W (m) t) := congrArg (fun x => xm_Oi x F) (c_1143 hs h3)
set_option maxRecDepth 20000 in
theorem l_1164g {sc : List Int} {d : Nat} {t : xm_W} {m : Nat → Nat → Int} {s : Nat → Int} {Q : Option xm_V × xm_W → Prop} {v : Int} (hs : m 75 = s) (h3 : 0 ≤ s 3 ∧ s 3 ≤ 40) (hQ : Q ((some (.inl (sg_cn s 0 v (sg_N s))), (yy_W (m) t)))) : ∀ (k i : Nat), ((i + k : Nat) : Int) = s 3 → xm_EQ (xm_old sc) xm_sta (xm_X (xm_old sc) xm_mt (d + 1)) xm_c1164 4 [some (.inr (.inl (some 74))), some (.inl (v)), some (.inl ((sg_cn s 0 v i))), some (.inl ((i : Int)))] [] (yy_W (m) t) Q
  | 0, i, hk => by
    have e : i = sg_N s := by unfold sg_N; omega
    refine xb_1164_4 ?_
    simp (disch := first | omega | (unfold xm_w; omega)) only [↓zy_at, xm_O_some, xm_Oi_some, xm_Ov_some, xm_Oq_some, ↓reduceIte, ↓zz_t, ↓zz_f, ↓zi_t, ↓zi_f, eq_self, yy_d_0, Int.reduceEq, Int.reduceLT, Int.reduceLE, Int.reduceNe, Int.reduceToNat, Int.reduceAdd, Int.reduceSub, Int.reduceMul, Int.reduceNeg, Nat.reduceAdd, Nat.reduceMul, Nat.reduceSub, Nat.reduceEqDiff, Nat.reduceLT, ne_eq, not_false_eq_true, not_true_eq_false, true_and, and_true, and_self, yy_s_eq, yy_s_ne, yy_c_eq, yy_c_ne, yy_u_eq, yy_u_ne, xm_w_id, yy_at, tdiv_pos, tmod_pos, ↓zr_74_0, ↓zr_74_1, ↓zr_74_2, ↓zf_74_3, ↓zs_74_3, ↓zf_74_4, ↓zs_74_4, ↓zr_74_5, ↓zf_74_6, ↓zs_74_6, ↓zf_74_7, ↓zs_74_7, ↓zf_74_8, ↓zs_74_8, ↓zf_74_9, ↓zs_74_9, ↓zr_74_10, ↓zr_74_11, ↓zr_74_12, ↓zf_74_13, ↓zs_74_13, ↓zr_74_14, ↓zf_74_15, ↓zs_74_15, ↓zf_74_16, ↓zs_74_16, ↓zf_74_17, ↓zs_74_17, ↓zr_74_18, ↓zr_74_19, ↓zr_74_20, ↓zr_74_21, ↓zi_75, ↓zt_75, hs]
    rw [e]; exact hQ
  | k + 1, i, hk => by
    have cb := sg_cn_b (s := s) (w := 0) (v := v) i
    have := l_1164g (sc := sc) (d := d) (t := t) (Q := Q) hs h3 hQ k (i + 1) (by omega)
    rw [show ((i + 1 : Nat) : Int) = (i : Int) + 1 by omega] at this
    unfold sg_cn at this
    refine xb_1164_4 ?_
    simp (disch := first | omega | (unfold xm_w; omega)) only [↓zy_at, xm_O_some, xm_Oi_some, xm_Ov_some, xm_Oq_some, ↓reduceIte, ↓zz_t, ↓zz_f, ↓zi_t, ↓zi_f, eq_self, yy_d_0, Int.reduceEq, Int.reduceLT, Int.reduceLE, Int.reduceNe, Int.reduceToNat, Int.reduceAdd, Int.reduceSub, Int.reduceMul, Int.reduceNeg, Nat.reduceAdd, Nat.reduceMul, Nat.reduceSub, Nat.reduceEqDiff, Nat.reduceLT, ne_eq, not_false_eq_true, not_true_eq_false, true_and, and_true, and_self, yy_s_eq, yy_s_ne, yy_c_eq, yy_c_ne, yy_u_eq, yy_u_ne, xm_w_id, yy_at, tdiv_pos, tmod_pos, ↓zr_74_0, ↓zr_74_1, ↓zr_74_2, ↓zf_74_3, ↓zs_74_3, ↓zf_74_4, ↓zs_74_4, ↓zr_74_5, ↓zf_74_6, ↓zs_74_6, ↓zf_74_7, ↓zs_74_7, ↓zf_74_8, ↓zs_74_8, ↓zf_74_9, ↓zs_74_9, ↓zr_74_10, ↓zr_74_11, ↓zr_74_12, ↓zf_74_13, ↓zs_74_13, ↓zr_74_14, ↓zf_74_15, ↓zs_74_15, ↓zf_74_16, ↓zs_74_16, ↓zf_74_17, ↓zs_74_17, ↓zr_74_18, ↓zr_74_19, ↓zr_74_20, ↓zr_74_21, ↓zi_75, ↓zt_75, hs]
    rw [oc_1112_0 (by omega), hs]
    split
    · rename_i g; rw [if_pos g] at this; exact this
    · rename_i g; rw [if_neg g] at this; exact this
set_option maxRecDepth 20000 in
theorem c_1164 {sc : List Int} {d : Nat} {t : xm_W} {m : Nat → Nat → Int} {s : Nat → Int} {v : Int} (hs : m 75 = s) (h3 : 0 ≤ s 3 ∧ s 3 ≤ 40) : xm_X (xm_old sc) xm_mt (d + 2) 1164 [.inr (.inl (some 74)), .inl (v)] (yy_W (m) t) = some (some (.inl (sg_cn s 0 v (sg_N s))), (yy_W (m) t)) := by
  refine xm_X_of (M := xm_m1164) rfl ⟨xm_EQ.eq (xb_1164_0 ?_), rfl, rfl, Nat.le_of_ble_eq_true rfl, yy_hd rfl (by decide)⟩
  exact l_1164g (d := d) hs h3 rfl (sg_N s) 0 (by unfold sg_N; omega)
set_option maxRecDepth 20000 in
theorem oc_1164 {F : Int → xm_W → Prop} {sc : List Int} {d : Nat} {t : xm_W} {m : Nat → Nat → Int} {s : Nat → Int} {v : Int} (hs : m 75 = s) (h3 : 0 ≤ s 3 ∧ s 3 ≤ 40) : xm_Oi (xm_X (xm_old sc) xm_mt (d + 2) 1164 [.inr (.inl (some 74)), .inl (v)] (yy_W (m) t)) F = F (sg_cn s 0 v (sg_N s)) (yy_W (m) t) := congrArg (fun x => xm_Oi x F) (c_1164 hs h3)
set_option maxRecDepth 20000 in
theorem l_1163 {sc : List Int} {d : Nat} {t : xm_W} {m : Nat → Nat → Int} {s : Nat → Int} {Q : Option xm_V × xm_W → Prop} {c : Int} (hs : m 75 = s) (h3 : 0 ≤ s 3 ∧ s 3 ≤ 40) (hO : sg_O s 0) (hQ : Q ((some (.inl (sg_la s c (sg_N s))), (yy_W (m) t)))) : ∀ (k i : Nat) (u : Option xm_V), ((i + k : Nat) : Int) = s 3 → xm_EQ (xm_old sc) xm_sta (xm_X (xm_old sc) xm_mt (d + 1)) xm_c1163 4 [some (.inr (.inl (some 74))), some (.inl (c)), some (.inl ((sg_la s c i))), some (.inl ((i : Int))), u] [] (yy_W (m) t) Q
  | 0, i, u, hk => by
    have e : i = sg_N s := by unfold sg_N; omega
    refine xb_1163_4 ?_
    simp (disch := first | omega | (unfold xm_w; omega)) only [↓zy_at, xm_O_some, xm_Oi_some, xm_Ov_some, xm_Oq_some, ↓reduceIte, ↓zz_t, ↓zz_f, ↓zi_t, ↓zi_f, eq_self, yy_d_0, Int.reduceEq, Int.reduceLT, Int.reduceLE, Int.reduceNe, Int.reduceToNat, Int.reduceAdd, Int.reduceSub, Int.reduceMul, Int.reduceNeg, Nat.reduceAdd, Nat.reduceMul, Nat.reduceSub, Nat.reduceEqDiff, Nat.reduceLT, ne_eq, not_false_eq_true, not_true_eq_false, true_and, and_true, and_self, yy_s_eq, yy_s_ne, yy_c_eq, yy_c_ne, yy_u_eq, yy_u_ne, xm_w_id, yy_at, tdiv_pos, tmod_pos, ↓zr_74_0, ↓zr_74_1, ↓zr_74_2, ↓zf_74_3, ↓zs_74_3, ↓zf_74_4, ↓zs_74_4, ↓zr_74_5, ↓zf_74_6, ↓zs_74_6, ↓zf_74_7, ↓zs_74_7, ↓zf_74_8, ↓zs_74_8, ↓zf_74_9, ↓zs_74_9, ↓zr_74_10, ↓zr_74_11, ↓zr_74_12, ↓zf_74_13, ↓zs_74_13, ↓zr_74_14, ↓zf_74_15, ↓zs_74_15, ↓zf_74_16, ↓zs_74_16, ↓zf_74_17, ↓zs_74_17, ↓zr_74_18, ↓zr_74_19, ↓zr_74_20, ↓zr_74_21, ↓zi_75, ↓zt_75, hs]
    rw [e]; exact hQ
  | k + 1, i, u, hk => by
    have := fun u => l_1163 (sc := sc) (d := d) (t := t) (Q := Q) (c := c) hs h3 hO hQ k (i + 1) u (by omega)
    rw [show ((i + 1 : Nat) : Int) = (i : Int) + 1 by omega] at this
    unfold sg_la at this
    refine xb_1163_4 ?_
    rw [zr_74_0, zi_75, hs, zy_at (by decide) (by decide), show (3 : Int).toNat = 3 from rfl, if_pos (by omega), oc_1112_0 (by omega), hs, xm_w_id (by omega) (by omega)]
    by_cases g : sg_p s i 0 = c
    · rw [if_pos g] at this ⊢
      by_cases g1 : sg_la s c i = -1
      · rw [if_pos g1, if_neg (by decide)]
        exact this _
      · rw [if_neg g1]
        have lb := (sg_la_b (s := s) (c := c) i).resolve_left g1
        have el : sg_la s c i = (((sg_la s c i).toNat : Nat) : Int) := by omega
        have lt := hO.2 (sg_la s c i).toNat i (by omega) (by omega)
        unfold sg_lt at lt
        rw [oc_1112_3 (by omega), hs]
        rw [el, oc_1112_3 (by omega), hs]
        by_cases g2 : sg_p s (sg_la s c i).toNat 3 < sg_p s i 3
        · rw [if_pos g2, if_neg (by decide)]
          exact this _
        · rw [if_neg g2, oc_1112_3 (by omega), oc_1112_3 (by omega), hs, if_pos (by omega), oc_1112_4 (by omega), oc_1112_4 (by omega), hs, if_pos (by omega), if_neg (by decide)]
          exact this _
    · rw [if_neg g] at this ⊢
      exact this _
set_option maxRecDepth 20000 in
theorem c_1163 {sc : List Int} {d : Nat} {t : xm_W} {m : Nat → Nat → Int} {s : Nat → Int} {c : Int} (hs : m 75 = s) (h3 : 0 ≤ s 3 ∧ s 3 ≤ 40) (hO : sg_O s 0) : xm_X (xm_old sc) xm_mt (d + 2) 1163 [.inr (.inl (some 74)), .inl (c)] (yy_W (m) t) = some (some (.inl (sg_la s c (sg_N s))), (yy_W (m) t)) := by
  refine xm_X_of (M := xm_m1163) rfl ⟨xm_EQ.eq (xb_1163_0 ?_), rfl, rfl, Nat.le_of_ble_eq_true rfl, yy_hd rfl (by decide)⟩
  exact l_1163 (d := d) hs h3 hO rfl (sg_N s) 0 none (by unfold sg_N; omega)
set_option maxRecDepth 20000 in
theorem oc_1163 {F : Int → xm_W → Prop} {sc : List Int} {d : Nat} {t : xm_W} {m : Nat → Nat → Int} {s : Nat → Int} {c : Int} (hs : m 75 = s) (h3 : 0 ≤ s 3 ∧ s 3 ≤ 40) (hO : sg_O s 0) : xm_Oi (xm_X (xm_old sc) xm_mt (d + 2) 1163 [.inr (.inl (some 74)), .inl (c)] (yy_W (m) t)) F = F (sg_la s c (sg_N s)) (yy_W (m) t) := congrArg (fun x => xm_Oi x F) (c_1163 hs h3 hO)
set_option maxRecDepth 20000 in
theorem l_1165 {sc : List Int} {d : Nat} {t : xm_W} {m : Nat → Nat → Int} {s : Nat → Int} {Q : Option xm_V × xm_W → Prop} {c : Int} (hs : m 75 = s) (h3 : 0 ≤ s 3 ∧ s 3 ≤ 40) (hQ : Q ((some (.inl (sg_de s c (sg_N s))), (yy_W (m) t)))) : ∀ (k i : Nat), ((i + k : Nat) : Int) = s 3 → xm_EQ (xm_old sc) xm_sta (xm_X (xm_old sc) xm_mt (d + 1)) xm_c1165 4 [some (.inr (.inl (some 74))), some (.inl (c)), some (.inl ((sg_de s c i))), some (.inl ((i : Int)))] [] (yy_W (m) t) Q
  | 0, i, hk => by
    have e : i = sg_N s := by unfold sg_N; omega
    refine xb_1165_4 ?_
    simp (disch := first | omega | (unfold xm_w; omega)) only [↓zy_at, xm_O_some, xm_Oi_some, xm_Ov_some, xm_Oq_some, ↓reduceIte, ↓zz_t, ↓zz_f, ↓zi_t, ↓zi_f, eq_self, yy_d_0, Int.reduceEq, Int.reduceLT, Int.reduceLE, Int.reduceNe, Int.reduceToNat, Int.reduceAdd, Int.reduceSub, Int.reduceMul, Int.reduceNeg, Nat.reduceAdd, Nat.reduceMul, Nat.reduceSub, Nat.reduceEqDiff, Nat.reduceLT, ne_eq, not_false_eq_true, not_true_eq_false, true_and, and_true, and_self, yy_s_eq, yy_s_ne, yy_c_eq, yy_c_ne, yy_u_eq, yy_u_ne, xm_w_id, yy_at, tdiv_pos, tmod_pos, ↓zr_74_0, ↓zr_74_1, ↓zr_74_2, ↓zf_74_3, ↓zs_74_3, ↓zf_74_4, ↓zs_74_4, ↓zr_74_5, ↓zf_74_6, ↓zs_74_6, ↓zf_74_7, ↓zs_74_7, ↓zf_74_8, ↓zs_74_8, ↓zf_74_9, ↓zs_74_9, ↓zr_74_10, ↓zr_74_11, ↓zr_74_12, ↓zf_74_13, ↓zs_74_13, ↓zr_74_14, ↓zf_74_15, ↓zs_74_15, ↓zf_74_16, ↓zs_74_16, ↓zf_74_17, ↓zs_74_17, ↓zr_74_18, ↓zr_74_19, ↓zr_74_20, ↓zr_74_21, ↓zi_75, ↓zt_75, hs]
    rw [e]; exact hQ
  | k + 1, i, hk => by
    have := l_1165 (sc := sc) (d := d) (t := t) (Q := Q) hs h3 hQ k (i + 1) (by omega)
    rw [show ((i + 1 : Nat) : Int) = (i : Int) + 1 by omega] at this
    unfold sg_de at this
    refine xb_1165_4 ?_
    rw [zr_74_0, zi_75, hs, zy_at (by decide) (by decide), show (3 : Int).toNat = 3 from rfl, if_pos (by omega), oc_1112_0 (by omega), hs, xm_w_id (by omega) (by omega)]
    by_cases g : sg_p s i 0 = c
    · rw [if_pos g] at this ⊢
      rw [oc_1112_2 (by omega), hs]
      by_cases g2 : sg_de s c i < sg_p s i 2
      · rw [if_pos g2] at this ⊢
        rw [oc_1112_2 (by omega), hs]; exact this
      · rw [if_neg g2] at this ⊢; exact this
    · rw [if_neg g] at this ⊢; exact this
set_option maxRecDepth 20000 in
theorem c_1165 {sc : List Int} {d : Nat} {t : xm_W} {m : Nat → Nat → Int} {s : Nat → Int} {c : Int} (hs : m 75 = s) (h3 : 0 ≤ s 3 ∧ s 3 ≤ 40) : xm_X (xm_old sc) xm_mt (d + 2) 1165 [.inr (.inl (some 74)), .inl (c)] (yy_W (m) t) = some (some (.inl (sg_de s c (sg_N s))), (yy_W (m) t)) := by
  refine xm_X_of (M := xm_m1165) rfl ⟨xm_EQ.eq (xb_1165_0 ?_), rfl, rfl, Nat.le_of_ble_eq_true rfl, yy_hd rfl (by decide)⟩
  exact l_1165 (d := d) hs h3 rfl (sg_N s) 0 (by unfold sg_N; omega)
set_option maxRecDepth 20000 in
theorem oc_1165 {F : Int → xm_W → Prop} {sc : List Int} {d : Nat} {t : xm_W} {m : Nat → Nat → Int} {s : Nat → Int} {c : Int} (hs : m 75 = s) (h3 : 0 ≤ s 3 ∧ s 3 ≤ 40) : xm_Oi (xm_X (xm_old sc) xm_mt (d + 2) 1165 [.inr (.inl (some 74)), .inl (c)] (yy_W (m) t)) F = F (sg_de s c (sg_N s)) (yy_W (m) t) := congrArg (fun x => xm_Oi x F) (c_1165 hs h3)
set_option maxRecDepth 20000 in
theorem sg_nmD_ok2 {na : Nat → Int} {n dd a : Int} (h0 : na 110 = n) (h1 : na 100 = dd) (h2 : na 97 = a) : ∀ v, sg_nm 1 v → (fun v : Int => na v.toNat) v = sg_nmD n dd a v := by
  intro v hv
  unfold sg_nm at hv
  rw [if_neg (by decide)] at hv
  unfold sg_nmD
  show na v.toNat = _
  rcases hv with h | h | h <;> subst h
  · rw [if_pos rfl]; exact h0
  · rw [if_neg (by decide), if_pos rfl]; exact h1
  · rw [if_neg (by decide), if_neg (by decide)]; exact h2
set_option maxRecDepth 20000 in
theorem sg_age_b {s : Nat → Int} {c : Int} (hW : sg_W s 0) : 0 ≤ sg_age s c ∧ sg_age s c ≤ 99 := by
  obtain ⟨hR, hO, hS, hT, hT1⟩ := id hW
  obtain ⟨b0, b1, b2, b3, hso, hrd⟩ := id hR
  have hN := sg_N_i b3.1
  unfold sg_age
  rcases sg_la_b (s := s) (c := c) (sg_N s) with h | ⟨h, h', h2⟩
  · rw [if_pos h]; omega
  · rw [if_neg (by omega)]
    have x := hO.1 (sg_la s c (sg_N s)).toNat (by omega)
    have y := hS (sg_la s c (sg_N s)).toNat (by omega)
    have z := sg_k_r (c := sg_p s (sg_la s c (sg_N s)).toNat 0) b2
    omega
set_option maxRecDepth 20000 in
theorem c_1166 {sc : List Int} {d : Nat} {t : xm_W} {m : Nat → Nat → Int} {s : Nat → Int} {c : Int} (hs : m 75 = s) (hW : sg_W s 0) (hc : 0 ≤ c ∧ c ≤ 35) : ∃ m', xm_X (xm_old sc) xm_mt (d + 4) 1166 [.inr (.inl (some 74)), .inl (c)] (yy_W m t) = some (some (.inl (sg_db s c)), yy_W m' t) ∧ ∀ c, c ≠ 80 → c ≠ 81 → m' c = m c := by
  have key : ∀ {Q : Option xm_V × xm_W → Prop}, (∀ m', (∀ c, c ≠ 80 → c ≠ 81 → m' c = m c) → Q (some (.inl (sg_db s c)), yy_W m' t)) → xm_EQ (xm_old sc) xm_sta (xm_X (xm_old sc) xm_mt (d + 3)) xm_m1166.2.2.2.2.2.2.2 0 (xm_loc xm_m1166.2.2.1 [.inr (.inl (some 74)), .inl (c)]) [] (yy_W m t) Q := by
    intro Q hQ
    obtain ⟨hR, hO, hS, hT, hT1⟩ := id hW
    obtain ⟨b0, b1, b2, b3, hso, hrd⟩ := id hR
    have ag := sg_age_b (c := c) hW
    have hN := sg_N_i b3.1
    have h464 : m 75 (339 + 125 * (1 : Int)).toNat = sg_tn s 1 := by rw [hs]; rfl
    have rest : ∀ {F : Int → xm_W → Prop} A, A = sg_age s c → (∀ m1, (∀ c, c ≠ 80 → c ≠ 81 → m1 c = m c) → F (sg_db s c) (yy_W m1 t)) → ∀ (P : Prop), xm_Oi (xm_X (xm_old sc) xm_mt (d + 3) 1104 [.inl (A), .inl (0), .inl (99)] (yy_W (m) t)) F = P → ∀ (R : Prop), (0 < sg_tn s 1 → R) → (if (if 0 < sg_tn s 1 then (1 : Int) else 0) = 0 then P else R) := by
      intro F A hA hF P hP R hR
      by_cases h : 0 < sg_tn s 1
      · rw [zz_t h]; exact hR h
      · rw [zz_f h, ← hP, oc_1104]
        have := hF m fun _ _ _ => rfl
        unfold sg_db at this
        rw [if_neg h, ← hA] at this
        rw [if_neg (by omega), if_neg (by omega)]
        exact this
    have text : ∀ m1 : Nat → Nat → Int, (∀ c, c ≠ 80 → m1 c = m c) → m1 80 110 = sg_cn s 0 c (sg_N s) → m1 80 100 = sg_de s c (sg_N s) → m1 80 97 = sg_age s c → 0 < sg_tn s 1 → xm_Oi (xm_X (xm_old sc) xm_mt (d + 3) 1129 [.inr (.inl (some 74)), .inl (1)] (yy_W (m1) t)) (fun z23 w22 => xm_Oi (xm_X (xm_old sc) xm_mt (d + 3) 1104 [.inl z23, .inl 0, .inl 99] w22) (fun z25 w24 => Q (some (.inl z25), w24))) := by
      intro m1 h1 n0 n1 n2 h0
      obtain ⟨m2, e, g1⟩ := c_1129 (sc := sc) (d := d + 1) (t := t) (u := 1) (m := m1) (by decide) (by rw [h1 75 (by decide), hs]; exact hT1) (by rw [h1 75 (by decide), hs]; exact h0)
      rw [show ((1 : Nat) : Int) = 1 from rfl, h1 75 (by decide), hs, sg_val_congr hT1 (sg_nmD_ok2 n0 n1 n2)] at e
      rw [e, xm_Oi_some, oc_1104]
      have := hQ m2 fun c c1 c2 => by rw [g1 c c2, h1 c c1]
      unfold sg_db at this
      rw [if_pos h0] at this
      exact this
    refine xb_1166_0 ?_
    rw [oc_1163 hs b3 hO]
    rcases sg_la_b (s := s) (c := c) (sg_N s) with h | ⟨h, h', h2⟩
    · have ea : sg_age s c = 99 := by unfold sg_age; rw [if_pos h]
      rw [if_pos h, oc_1125 (by decide), h464]
      refine rest 99 ea.symm (fun m1 h => hQ m1 h) _ rfl _ (fun h0 => ?_)
      rw [zr_74_11, oc_1164 hs b3, zt_80 (by decide) (by decide), show (110 : Int).toNat = 110 from rfl, zr_74_11, oc_1165 (m := yy_s m 80 110 _) (by rw [yy_s_ne (by decide)]; exact hs) b3, zt_80 (by decide) (by decide), show (100 : Int).toNat = 100 from rfl, zr_74_11, zt_80 (by decide) (by decide), show (97 : Int).toNat = 97 from rfl]
      refine text _ (fun c hc => ?_) ?_ ?_ ?_ h0
      · simp (disch := first | omega | (unfold xm_w; omega)) only [↓zy_at, xm_O_some, xm_Oi_some, xm_Ov_some, xm_Oq_some, ↓reduceIte, ↓zz_t, ↓zz_f, ↓zi_t, ↓zi_f, eq_self, yy_d_0, Int.reduceEq, Int.reduceLT, Int.reduceLE, Int.reduceNe, Int.reduceToNat, Int.reduceAdd, Int.reduceSub, Int.reduceMul, Int.reduceNeg, Nat.reduceAdd, Nat.reduceMul, Nat.reduceSub, Nat.reduceEqDiff, Nat.reduceLT, ne_eq, not_false_eq_true, not_true_eq_false, true_and, and_true, and_self, yy_s_eq, yy_s_ne, yy_c_eq, yy_c_ne, yy_u_eq, yy_u_ne, xm_w_id, yy_at, tdiv_pos, tmod_pos]
      · simp (disch := first | omega | (unfold xm_w; omega)) only [↓zy_at, xm_O_some, xm_Oi_some, xm_Ov_some, xm_Oq_some, ↓reduceIte, ↓zz_t, ↓zz_f, ↓zi_t, ↓zi_f, eq_self, yy_d_0, Int.reduceEq, Int.reduceLT, Int.reduceLE, Int.reduceNe, Int.reduceToNat, Int.reduceAdd, Int.reduceSub, Int.reduceMul, Int.reduceNeg, Nat.reduceAdd, Nat.reduceMul, Nat.reduceSub, Nat.reduceEqDiff, Nat.reduceLT, ne_eq, not_false_eq_true, not_true_eq_false, true_and, and_true, and_self, yy_s_eq, yy_s_ne, yy_c_eq, yy_c_ne, yy_u_eq, yy_u_ne, xm_w_id, yy_at, tdiv_pos, tmod_pos]
      · simp (disch := first | omega | (unfold xm_w; omega)) only [↓zy_at, xm_O_some, xm_Oi_some, xm_Ov_some, xm_Oq_some, ↓reduceIte, ↓zz_t, ↓zz_f, ↓zi_t, ↓zi_f, eq_self, yy_d_0, Int.reduceEq, Int.reduceLT, Int.reduceLE, Int.reduceNe, Int.reduceToNat, Int.reduceAdd, Int.reduceSub, Int.reduceMul, Int.reduceNeg, Nat.reduceAdd, Nat.reduceMul, Nat.reduceSub, Nat.reduceEqDiff, Nat.reduceLT, ne_eq, not_false_eq_true, not_true_eq_false, true_and, and_true, and_self, yy_s_eq, yy_s_ne, yy_c_eq, yy_c_ne, yy_u_eq, yy_u_ne, xm_w_id, yy_at, tdiv_pos, tmod_pos]
      · simp (disch := first | omega | (unfold xm_w; omega)) only [↓zy_at, xm_O_some, xm_Oi_some, xm_Ov_some, xm_Oq_some, ↓reduceIte, ↓zz_t, ↓zz_f, ↓zi_t, ↓zi_f, eq_self, yy_d_0, Int.reduceEq, Int.reduceLT, Int.reduceLE, Int.reduceNe, Int.reduceToNat, Int.reduceAdd, Int.reduceSub, Int.reduceMul, Int.reduceNeg, Nat.reduceAdd, Nat.reduceMul, Nat.reduceSub, Nat.reduceEqDiff, Nat.reduceLT, ne_eq, not_false_eq_true, not_true_eq_false, true_and, and_true, and_self, yy_s_eq, yy_s_ne, yy_c_eq, yy_c_ne, yy_u_eq, yy_u_ne, xm_w_id, yy_at, tdiv_pos, tmod_pos]; exact ea.symm
    · have el : sg_la s c (sg_N s) = (((sg_la s c (sg_N s)).toNat : Nat) : Int) := by omega
      have ea : s 1 - sg_p s (sg_la s c (sg_N s)).toNat 3 = sg_age s c := by unfold sg_age; rw [if_neg (by omega)]
      rw [if_neg (by omega), zr_74_0, zi_75, hs, zy_at (by decide) (by decide), show (1 : Int).toNat = 1 from rfl]
      rw [el, oc_1112_3 (by omega), hs, oc_1125 (by decide), h464, ea, xm_w_id (by omega) (by omega)]
      refine rest _ rfl (fun m1 h => hQ m1 h) _ rfl _ (fun h0 => ?_)
      rw [zr_74_11, oc_1164 hs b3, zt_80 (by decide) (by decide), show (110 : Int).toNat = 110 from rfl, zr_74_11, oc_1165 (m := yy_s m 80 110 _) (by rw [yy_s_ne (by decide)]; exact hs) b3, zt_80 (by decide) (by decide), show (100 : Int).toNat = 100 from rfl, zr_74_11, zt_80 (by decide) (by decide), show (97 : Int).toNat = 97 from rfl]
      refine text _ (fun c hc => ?_) ?_ ?_ ?_ h0
      · simp (disch := first | omega | (unfold xm_w; omega)) only [↓zy_at, xm_O_some, xm_Oi_some, xm_Ov_some, xm_Oq_some, ↓reduceIte, ↓zz_t, ↓zz_f, ↓zi_t, ↓zi_f, eq_self, yy_d_0, Int.reduceEq, Int.reduceLT, Int.reduceLE, Int.reduceNe, Int.reduceToNat, Int.reduceAdd, Int.reduceSub, Int.reduceMul, Int.reduceNeg, Nat.reduceAdd, Nat.reduceMul, Nat.reduceSub, Nat.reduceEqDiff, Nat.reduceLT, ne_eq, not_false_eq_true, not_true_eq_false, true_and, and_true, and_self, yy_s_eq, yy_s_ne, yy_c_eq, yy_c_ne, yy_u_eq, yy_u_ne, xm_w_id, yy_at, tdiv_pos, tmod_pos]
      · simp (disch := first | omega | (unfold xm_w; omega)) only [↓zy_at, xm_O_some, xm_Oi_some, xm_Ov_some, xm_Oq_some, ↓reduceIte, ↓zz_t, ↓zz_f, ↓zi_t, ↓zi_f, eq_self, yy_d_0, Int.reduceEq, Int.reduceLT, Int.reduceLE, Int.reduceNe, Int.reduceToNat, Int.reduceAdd, Int.reduceSub, Int.reduceMul, Int.reduceNeg, Nat.reduceAdd, Nat.reduceMul, Nat.reduceSub, Nat.reduceEqDiff, Nat.reduceLT, ne_eq, not_false_eq_true, not_true_eq_false, true_and, and_true, and_self, yy_s_eq, yy_s_ne, yy_c_eq, yy_c_ne, yy_u_eq, yy_u_ne, xm_w_id, yy_at, tdiv_pos, tmod_pos]
      · simp (disch := first | omega | (unfold xm_w; omega)) only [↓zy_at, xm_O_some, xm_Oi_some, xm_Ov_some, xm_Oq_some, ↓reduceIte, ↓zz_t, ↓zz_f, ↓zi_t, ↓zi_f, eq_self, yy_d_0, Int.reduceEq, Int.reduceLT, Int.reduceLE, Int.reduceNe, Int.reduceToNat, Int.reduceAdd, Int.reduceSub, Int.reduceMul, Int.reduceNeg, Nat.reduceAdd, Nat.reduceMul, Nat.reduceSub, Nat.reduceEqDiff, Nat.reduceLT, ne_eq, not_false_eq_true, not_true_eq_false, true_and, and_true, and_self, yy_s_eq, yy_s_ne, yy_c_eq, yy_c_ne, yy_u_eq, yy_u_ne, xm_w_id, yy_at, tdiv_pos, tmod_pos]
      · simp (disch := first | omega | (unfold xm_w; omega)) only [↓zy_at, xm_O_some, xm_Oi_some, xm_Ov_some, xm_Oq_some, ↓reduceIte, ↓zz_t, ↓zz_f, ↓zi_t, ↓zi_f, eq_self, yy_d_0, Int.reduceEq, Int.reduceLT, Int.reduceLE, Int.reduceNe, Int.reduceToNat, Int.reduceAdd, Int.reduceSub, Int.reduceMul, Int.reduceNeg, Nat.reduceAdd, Nat.reduceMul, Nat.reduceSub, Nat.reduceEqDiff, Nat.reduceLT, ne_eq, not_false_eq_true, not_true_eq_false, true_and, and_true, and_self, yy_s_eq, yy_s_ne, yy_c_eq, yy_c_ne, yy_u_eq, yy_u_ne, xm_w_id, yy_at, tdiv_pos, tmod_pos]
  obtain ⟨q, h1, m', h2, h3⟩ := yx_of (y := 1166) (M := xm_m1166) (sc := sc) (d := d + 3) (as := [.inr (.inl (some 74)), .inl (c)]) (w := yy_W m t) (Q := fun q => ∃ m', q = (some (.inl (sg_db s c)), yy_W m' t) ∧ (∀ c, c ≠ 80 → c ≠ 81 → m' c = m c)) rfl (key fun m' h => ⟨m', rfl, h⟩) (fun q ⟨m', h, _⟩ => by rw [h]; rfl) rfl (Nat.le_of_ble_eq_true rfl) (yy_hd rfl (by decide))
  exact ⟨m', by rw [h1, h2], h3⟩
end
section
set_option maxRecDepth 20000 in
theorem c_1167 {sc : List Int} {d : Nat} {t : xm_W} {m : Nat → Nat → Int} {s : Nat → Int} {c y : Int} (hs : m 75 = s) (hW : sg_W s 0) (hc : 0 ≤ c ∧ c ≤ 35) : ∃ m', xm_X (xm_old sc) xm_mt (d + 5) 1167 [.inr (.inl (some 74)), .inl (c), .inl (y)] (yy_W m t) = some (some (.inl (sg_cf s c y)), yy_W m' t) ∧ ∀ c, c ≠ 80 → c ≠ 81 → m' c = m c := by
  have key : ∀ {Q : Option xm_V × xm_W → Prop}, (∀ m', (∀ c, c ≠ 80 → c ≠ 81 → m' c = m c) → Q (some (.inl (sg_cf s c y)), yy_W m' t)) → xm_EQ (xm_old sc) xm_sta (xm_X (xm_old sc) xm_mt (d + 4)) xm_m1167.2.2.2.2.2.2.2 0 (xm_loc xm_m1167.2.2.1 [.inr (.inl (some 74)), .inl (c), .inl (y)]) [] (yy_W m t) Q := by
    intro Q hQ
    obtain ⟨hR, hO, hS, hT, hT1⟩ := id hW
    obtain ⟨b0, b1, b2, b3, hso, hrd⟩ := id hR
    unfold sg_cf at hQ
    refine xb_1167_0 ?_
    rw [oc_1163 hs b3 hO]
    by_cases g0 : y = 0
    · rw [if_pos g0] at hQ ⊢
      have := hQ m fun _ _ _ => rfl
      simp (disch := first | omega | (unfold xm_w; omega)) only [↓zy_at, xm_O_some, xm_Oi_some, xm_Ov_some, xm_Oq_some, ↓reduceIte, ↓zz_t, ↓zz_f, ↓zi_t, ↓zi_f, eq_self, yy_d_0, Int.reduceEq, Int.reduceLT, Int.reduceLE, Int.reduceNe, Int.reduceToNat, Int.reduceAdd, Int.reduceSub, Int.reduceMul, Int.reduceNeg, Nat.reduceAdd, Nat.reduceMul, Nat.reduceSub, Nat.reduceEqDiff, Nat.reduceLT, ne_eq, not_false_eq_true, not_true_eq_false, true_and, and_true, and_self, yy_s_eq, yy_s_ne, yy_c_eq, yy_c_ne, yy_u_eq, yy_u_ne, xm_w_id, yy_at, tdiv_pos, tmod_pos, ↓zr_74_0, ↓zr_74_1, ↓zr_74_2, ↓zf_74_3, ↓zs_74_3, ↓zf_74_4, ↓zs_74_4, ↓zr_74_5, ↓zf_74_6, ↓zs_74_6, ↓zf_74_7, ↓zs_74_7, ↓zf_74_8, ↓zs_74_8, ↓zf_74_9, ↓zs_74_9, ↓zr_74_10, ↓zr_74_11, ↓zr_74_12, ↓zf_74_13, ↓zs_74_13, ↓zr_74_14, ↓zf_74_15, ↓zs_74_15, ↓zf_74_16, ↓zs_74_16, ↓zf_74_17, ↓zs_74_17, ↓zr_74_18, ↓zr_74_19, ↓zr_74_20, ↓zr_74_21, ↓zi_75, ↓zt_75, hs]
      exact this
    · rw [if_neg g0] at hQ ⊢
      by_cases g1 : y = 1
      · rw [if_pos g1] at hQ ⊢
        rw [oc_1164 hs b3]
        exact hQ m fun _ _ _ => rfl
      · rw [if_neg g1] at hQ ⊢
        by_cases g2 : y = 2
        · rw [if_pos g2] at hQ ⊢
          have := hQ m fun _ _ _ => rfl
          by_cases g : sg_la s c (sg_N s) = -1
          · rw [if_pos g] at this ⊢; exact this
          · obtain ⟨x1, x2, x3⟩ := sg_la_p hO b3.1 g
            rw [if_neg g] at this ⊢
            have el : sg_la s c (sg_N s) = (((sg_la s c (sg_N s)).toNat : Nat) : Int) := by omega
            rw [el, oc_1112_1 (by omega), hs]
            exact this
        · rw [if_neg g2] at hQ ⊢
          by_cases g3 : y = 3
          · rw [if_pos g3] at hQ ⊢
            rw [oc_1165 hs b3]
            exact hQ m fun _ _ _ => rfl
          · rw [if_neg g3] at hQ ⊢
            obtain ⟨m1, e, f1⟩ := c_1166 (sc := sc) (d := d) (t := t) (m := m) hs hW hc
            rw [e, xm_Oi_some]
            exact hQ m1 f1
  obtain ⟨q, h1, m', h2, h3⟩ := yx_of (y := 1167) (M := xm_m1167) (sc := sc) (d := d + 4) (as := [.inr (.inl (some 74)), .inl (c), .inl (y)]) (w := yy_W m t) (Q := fun q => ∃ m', q = (some (.inl (sg_cf s c y)), yy_W m' t) ∧ (∀ c, c ≠ 80 → c ≠ 81 → m' c = m c)) rfl (key fun m' h => ⟨m', rfl, h⟩) (fun q ⟨m', h, _⟩ => by rw [h]; rfl) rfl (Nat.le_of_ble_eq_true rfl) (yy_hd rfl (by decide))
  exact ⟨m', by rw [h1, h2], h3⟩
set_option maxRecDepth 20000 in
theorem c_1144 {sc : List Int} {d : Nat} {t : xm_W} {m : Nat → Nat → Int} {s : Nat → Int} {r : Nat} {y : Int} (hr : r < 5) (hs : m 75 = s) (hR : sg_R s) (hy : 0 ≤ y ∧ y ≤ 19) : xm_X (xm_old sc) xm_mt (d + 3) 1144 [.inr (.inl (some 74)), .inl ((r : Int)), .inl (y)] (yy_W (m) t) = some (some (.inl (sg_rf s r y)), (yy_W (m) t)) := by
  obtain ⟨b0, b1, b2, b3, hso, hrd⟩ := id hR
  obtain ⟨a0, a1, a2, a3, a4, a5, a6⟩ := hrd r hr
  refine xm_X_of (M := xm_m1144) rfl ⟨xm_EQ.eq (xb_1144_0 ?_), rfl, rfl, Nat.le_of_ble_eq_true rfl, yy_hd rfl (by decide)⟩
  unfold sg_rf
  by_cases g7 : 7 < y
  · rw [if_pos g7, if_neg (by omega), if_pos g7, oc_1110_4 hr, hs, xm_w_id (z := y - 8) (by omega) (by omega)]
    by_cases g : y - 8 < s (48 + 18 * r)
    · rw [if_pos g, if_pos g, xm_w_id (z := 6 + y) (by omega) (by omega), show 6 + y - 8 = 6 + (y - 8) by omega, oc_1110_6 hr (by omega), hs]
    · rw [if_neg g, if_neg g]
  · rw [if_neg g7]
    by_cases g6 : y = 6
    · rw [if_pos g6, if_neg (by omega), if_neg g7, if_pos g6, oc_1138 hr (by rw [hs]; exact a1) (by rw [hs]; exact a3), hs]; rfl
    · rw [if_neg g6]
      by_cases g : y = 7
      · rw [if_pos g, if_pos g, oc_1143 hs b3]
      · rw [if_neg g, if_neg g, if_neg g7, if_neg g6, oc_1110 (by omega) (by omega) (by omega) (by omega), hs, show (44 + 18 * (r : Int) + y).toNat = 44 + 18 * r + y.toNat by omega]
set_option maxRecDepth 20000 in
theorem oc_1144 {F : Int → xm_W → Prop} {sc : List Int} {d : Nat} {t : xm_W} {m : Nat → Nat → Int} {s : Nat → Int} {r : Nat} {y : Int} (hr : r < 5) (hs : m 75 = s) (hR : sg_R s) (hy : 0 ≤ y ∧ y ≤ 19) : xm_Oi (xm_X (xm_old sc) xm_mt (d + 3) 1144 [.inr (.inl (some 74)), .inl ((r : Int)), .inl (y)] (yy_W (m) t)) F = F (sg_rf s r y) (yy_W (m) t) := congrArg (fun x => xm_Oi x F) (c_1144 hr hs hR hy)
set_option maxRecDepth 20000 in
theorem l_1169 {sc : List Int} {d : Nat} {t : xm_W} {Q : Option xm_V × xm_W → Prop} {s : Nat → Int} {m0 : Nat → Nat → Int} {c0 bl b2 n : Int} (hb : b2 = if bl = 0 then 1 else 0) (hW : sg_W s 0) (hn : n ≤ 40) : ∀ (k : Nat) (m : Nat → Nat → Int) (at1 to1 st : Int) (u : Option xm_V), n - st = k → 0 ≤ st → 0 ≤ at1 ∧ at1 ≤ 35 → to1 = at1 → m 75 = s → m 74 13 = st → (∀ c, c ≠ 74 → m c = m0 c) → (∀ q, q ≠ 13 → m 74 q = m0 74 q) → (∀ m', (∀ c, c ≠ 74 → m' c = m0 c) → (∀ q, q ≠ 13 → m' 74 q = m0 74 q) → m' 74 13 = (sg_tr s bl k at1 st).2 → Q ((some (.inl ((sg_tr s bl k at1 st).1)), (yy_W (m') t)))) → xm_EQ (xm_old sc) xm_sta (xm_X (xm_old sc) xm_mt (d + 3)) xm_c1169 7 [some (.inr (.inl (some 74))), some (.inl (c0)), some (.inl (b2)), some (.inl (n)), some (.inl (at1)), some (.inl (to1)), u] [] (yy_W (m) t) Q
  | 0, m, at1, to1, st, u, hk, h0, ha, ht, hs, hf, h1, h2, hQ => by
    refine xb_1169_7 ?_
    rw [if_neg (by omega), zf_74_13, hf, if_neg (by omega)]
    exact hQ m h1 h2 hf
  | k + 1, m, at1, to1, st, u, hk, h0, ha, ht, hs, hf, h1, h2, hQ => by
    obtain ⟨hR, hO, hS, hT, hT1⟩ := id hW
    obtain ⟨b0, b1, b2', b3, hso, hrd⟩ := id hR
    have stop : ∀ u, (sg_tr s bl (k + 1) at1 st = (at1, st)) → xm_EQ (xm_old sc) xm_sta (xm_X (xm_old sc) xm_mt (d + 3)) xm_c1169 7 [some (.inr (.inl (some 74))), some (.inl (c0)), some (.inl (b2)), some (.inl (n)), some (.inl (at1)), some (.inl (-1)), u] [] (yy_W (m) t) Q := by
      intro u h
      refine xb_1169_7 ?_
      rw [if_pos rfl]
      rw [h] at hQ
      exact hQ m h1 h2 hf
    refine xb_1169_7 ?_
    rw [if_neg (by omega), zf_74_13, hf, if_pos (by omega), oc_1163 hs b3 hO]
    by_cases g : sg_la s at1 (sg_N s) = -1
    · rw [if_pos g, if_pos rfl]
      exact stop _ (by unfold sg_tr; rw [if_pos g])
    · obtain ⟨x1, x2, x3⟩ := sg_la_p hO b3.1 g
      have sh := x3.2.1
      have el : sg_la s at1 (sg_N s) = (((sg_la s at1 (sg_N s)).toNat : Nat) : Int) := by omega
      have nr : ∀ w, sp_next at1 w = -1 ∨ (0 ≤ sp_next at1 w ∧ sp_next at1 w ≤ 35) := fun w => sg_next_r ha
      have go : ∀ u nx, (sg_tr s bl (k + 1) at1 st = sg_tr s bl k nx (st + 1)) → (0 ≤ nx ∧ nx ≤ 35) → xm_EQ (xm_old sc) xm_sta (xm_X (xm_old sc) xm_mt (d + 3)) xm_c1169 7 [some (.inr (.inl (some 74))), some (.inl (c0)), some (.inl (b2)), some (.inl (n)), some (.inl (nx)), some (.inl (nx)), u] [] (yy_W (yy_s m 74 13 (st + 1)) t) Q := by
        intro u nx e hx
        rw [e] at hQ
        refine l_1169 hb hW hn k _ nx nx (st + 1) u (by omega) (by omega) hx rfl (by rw [yy_s_ne (by decide)]; exact hs) (by rw [yy_s_eq, yy_u_eq]) (fun c hc => by rw [yy_s_ne hc]; exact h1 c hc) (fun q hq => by rw [yy_s_eq, yy_u_ne hq]; exact h2 q hq) hQ
      rw [if_neg g]
      by_cases gb : bl = 0
      · rw [if_pos gb] at hb
        rw [hb, if_neg (by decide)]
        rw [hb] at stop go
        rw [show xm_Oi (xm_X (xm_old sc) xm_mt (d + 3) 1112 [.inr (.inl (some 74)), .inl (sg_la s at1 (sg_N s)), .inl 1] (yy_W m t)) = xm_Oi (xm_X (xm_old sc) xm_mt (d + 3) 1112 [.inr (.inl (some 74)), .inl (((sg_la s at1 (sg_N s)).toNat : Nat) : Int), .inl 1] (yy_W m t)) by rw [← el], oc_1112_1 (by omega), hs, oc_1139 ha.1 (by omega)]
        have := nr (sg_p s (sg_la s at1 (sg_N s)).toNat 1)
        by_cases gn : sp_next at1 (sg_p s (sg_la s at1 (sg_N s)).toNat 1) = -1
        · rw [if_pos gn, gn]
          exact stop _ (by unfold sg_tr; rw [if_neg g, if_pos gb, if_pos gn])
        · rw [if_neg gn, zf_74_13, hf, xm_w_id (by omega) (by omega), zs_74_13]
          refine go _ _ ?_ (by omega)
          show (if sg_la s at1 (sg_N s) = -1 then _ else _) = _
          rw [if_neg g, if_pos gb, if_neg gn]
      · rw [if_neg gb] at hb
        rw [hb, if_pos rfl]
        rw [hb] at stop go
        rw [show xm_Oi (xm_X (xm_old sc) xm_mt (d + 3) 1112 [.inr (.inl (some 74)), .inl (sg_la s at1 (sg_N s)), .inl 1] (yy_W m t)) = xm_Oi (xm_X (xm_old sc) xm_mt (d + 3) 1112 [.inr (.inl (some 74)), .inl (((sg_la s at1 (sg_N s)).toNat : Nat) : Int), .inl 1] (yy_W m t)) by rw [← el], oc_1112_1 (by omega), hs, oc_1133 sh.1 (by omega), oc_1139 ha.1 (by omega)]
        have := nr (sp_back (sg_p s (sg_la s at1 (sg_N s)).toNat 1))
        by_cases gn : sp_next at1 (sp_back (sg_p s (sg_la s at1 (sg_N s)).toNat 1)) = -1
        · rw [if_pos gn, gn]
          exact stop _ (by unfold sg_tr; rw [if_neg g, if_neg gb, if_pos gn])
        · rw [if_neg gn, zf_74_13, hf, xm_w_id (by omega) (by omega), zs_74_13]
          refine go _ _ ?_ (by omega)
          show (if sg_la s at1 (sg_N s) = -1 then _ else _) = _
          rw [if_neg g, if_neg gb, if_neg gn]
set_option maxRecDepth 20000 in
theorem c_1169 {sc : List Int} {d : Nat} {t : xm_W} {m : Nat → Nat → Int} {s : Nat → Int} {c bl b2 n : Int} (hb : b2 = if bl = 0 then 1 else 0) (hs : m 75 = s) (hW : sg_W s 0) (hc : 0 ≤ c ∧ c ≤ 35) (hn : 0 ≤ n ∧ n ≤ 40) : ∃ m', xm_X (xm_old sc) xm_mt (d + 4) 1169 [.inr (.inl (some 74)), .inl (c), .inl (b2), .inl (n)] (yy_W m t) = some (some (.inl ((sg_tr s bl n.toNat c 0).1)), yy_W m' t) ∧ (∀ c, c ≠ 74 → m' c = m c) ∧ (∀ q, q ≠ 13 → m' 74 q = m 74 q) ∧ m' 74 13 = (sg_tr s bl n.toNat c 0).2 := by
  have key : ∀ {Q : Option xm_V × xm_W → Prop}, (∀ m', ((∀ c, c ≠ 74 → m' c = m c) ∧ (∀ q, q ≠ 13 → m' 74 q = m 74 q) ∧ m' 74 13 = (sg_tr s bl n.toNat c 0).2) → Q (some (.inl ((sg_tr s bl n.toNat c 0).1)), yy_W m' t)) → xm_EQ (xm_old sc) xm_sta (xm_X (xm_old sc) xm_mt (d + 3)) xm_m1169.2.2.2.2.2.2.2 0 (xm_loc xm_m1169.2.2.1 [.inr (.inl (some 74)), .inl (c), .inl (b2), .inl (n)]) [] (yy_W m t) Q := by
    intro Q hQ
    refine xb_1169_0 ?_
    rw [zs_74_13]
    exact l_1169 (d := d) (m0 := m) hb hW hn.2 n.toNat _ c c 0 none (by omega) (by decide) hc rfl (by rw [yy_s_ne (by decide)]; exact hs) (by rw [yy_s_eq, yy_u_eq]) (fun c hc => yy_s_ne hc) (fun q hq => by rw [yy_s_eq, yy_u_ne hq]) (fun m' h1 h2 h3 => hQ m' ⟨h1, h2, h3⟩)
  obtain ⟨q, h1, m', h2, h3⟩ := yx_of (y := 1169) (M := xm_m1169) (sc := sc) (d := d + 3) (as := [.inr (.inl (some 74)), .inl (c), .inl (b2), .inl (n)]) (w := yy_W m t) (Q := fun q => ∃ m', q = (some (.inl ((sg_tr s bl n.toNat c 0).1)), yy_W m' t) ∧ ((∀ c, c ≠ 74 → m' c = m c) ∧ (∀ q, q ≠ 13 → m' 74 q = m 74 q) ∧ m' 74 13 = (sg_tr s bl n.toNat c 0).2)) rfl (key fun m' h => ⟨m', rfl, h⟩) (fun q ⟨m', h, _⟩ => by rw [h]; rfl) rfl (Nat.le_of_ble_eq_true rfl) (yy_hd rfl (by decide))
  exact ⟨m', by rw [h1, h2], h3⟩
end
