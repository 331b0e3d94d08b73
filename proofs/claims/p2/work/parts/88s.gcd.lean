/-! REST: the greatest divisor, both sides -/
def sg_eu : Nat → Int → Int → Int
  | 0, x, _ => x
  | n + 1, x, y => if y = 0 then x else sg_eu n y (x % y)
def sg_es : Nat → Int → Int → Prop
  | 0, _, y => y = 0
  | n + 1, x, y => y = 0 ∨ sg_es n y (x % y)
set_option maxRecDepth 20000 in
theorem sg_half {y r : Int} (hr : 0 < r) (h : r ≤ y) : 2 * (y % r) < y := by
  have q1 : 1 ≤ y / r := Int.le_ediv_of_mul_le hr (by omega)
  have q2 : r * 1 ≤ r * (y / r) := Int.mul_le_mul_of_nonneg_left q1 (by omega)
  have q3 := Int.mul_ediv_add_emod y r
  have q4 := Int.emod_lt_of_pos y hr
  omega
set_option maxRecDepth 20000 in
theorem sg_es_b : ∀ (k : Nat) (x y : Int), 0 ≤ y → y < 2 ^ k → sg_es (2 * k) x y
  | 0, x, y, h0, h1 => by
    have : (2 : Int) ^ 0 = 1 := rfl
    show y = 0
    omega
  | k + 1, x, y, h0, h1 => by
    show y = 0 ∨ sg_es (2 * k + 1) y (x % y)
    by_cases g : y = 0
    · exact Or.inl g
    · refine Or.inr ?_
      show x % y = 0 ∨ sg_es (2 * k) (x % y) (y % (x % y))
      have r0 := Int.emod_nonneg x g
      have r1 := Int.emod_lt_of_pos x (show 0 < y by omega)
      by_cases g2 : x % y = 0
      · exact Or.inl g2
      · refine Or.inr (sg_es_b k _ _ (Int.emod_nonneg _ g2) ?_)
        have hh := sg_half (y := y) (r := x % y) (by omega) (by omega)
        have p : (2 : Int) ^ (k + 1) = 2 ^ k * 2 := Int.pow_succ 2 k
        omega
set_option maxRecDepth 20000 in
theorem sg_eu_b {B : Int} : ∀ (n : Nat) (x y : Int), 0 ≤ x ∧ x ≤ B → 0 ≤ y ∧ y ≤ B → 0 ≤ sg_eu n x y ∧ sg_eu n x y ≤ B
  | 0, x, y, hx, hy => hx
  | n + 1, x, y, hx, hy => by
    show 0 ≤ (if y = 0 then x else sg_eu n y (x % y)) ∧ (if y = 0 then x else sg_eu n y (x % y)) ≤ B
    by_cases g : y = 0
    · rw [if_pos g]; exact hx
    · rw [if_neg g]
      have r0 := Int.emod_nonneg x g
      have r1 := Int.emod_lt_of_pos x (show 0 < y by omega)
      exact sg_eu_b n y (x % y) hy (by omega)
set_option maxRecDepth 20000 in
theorem sg_eu_0 : ∀ (n : Nat) (x y : Int), sg_es n x y → (x ≠ 0 ∨ y ≠ 0) → sg_eu n x y ≠ 0
  | 0, x, y, hs, h => by
    have : y = 0 := hs
    show x ≠ 0
    omega
  | n + 1, x, y, hs, h => by
    show (if y = 0 then x else sg_eu n y (x % y)) ≠ 0
    by_cases g : y = 0
    · rw [if_pos g]; omega
    · rw [if_neg g]
      exact sg_eu_0 n y (x % y) (hs.resolve_left g) (Or.inl g)
set_option maxRecDepth 20000 in
theorem l_204 {sc : List Int} {d : Nat} {w : xm_W} {Q : Option xm_V × xm_W → Prop} {x1 y1 z : Int} (hQ : Q ((some (.inl (z)), (w)))) : ∀ (n i : Nat) (x y : Int) (u : Option xm_V), i + n ≤ 100 → 0 ≤ x → 0 ≤ y → sg_es n x y → (if sg_eu n x y = 0 then 1 else sg_eu n x y) = z → xm_EQ (xm_old sc) xm_sta (xm_X (xm_old sc) xm_mt (d)) xm_c204 6 [some (.inl (x1)), some (.inl (y1)), some (.inl (x)), some (.inl (y)), some (.inl ((i : Int))), u] [] (w) Q
  | 0, i, x, y, u, hn, hx, hy, hs, hz => by
    have y0 : y = 0 := hs
    have hz' : (if x = 0 then (1 : Int) else x) = z := hz
    refine xb_204_6 ?_
    by_cases g : x = 0
    · rw [if_pos g] at hz'
      by_cases gi : (i : Int) < 100
      · rw [if_pos gi, if_pos y0, if_pos g, hz']; exact hQ
      · rw [if_neg gi, if_pos g, hz']; exact hQ
    · rw [if_neg g] at hz'
      by_cases gi : (i : Int) < 100
      · rw [if_pos gi, if_pos y0, if_neg g, hz']; exact hQ
      · rw [if_neg gi, if_neg g, hz']; exact hQ
  | n + 1, i, x, y, u, hn, hx, hy, hs, hz => by
    have e : sg_eu (n + 1) x y = if y = 0 then x else sg_eu n y (x % y) := rfl
    rw [e] at hz
    refine xb_204_6 ?_
    rw [if_pos (by omega)]
    by_cases g : y = 0
    · rw [if_pos g] at hz
      rw [if_pos g]
      by_cases g2 : x = 0
      · rw [if_pos g2] at hz
        rw [if_pos g2, hz]; exact hQ
      · rw [if_neg g2] at hz
        rw [if_neg g2, hz]; exact hQ
    · rw [if_neg g] at hz
      rw [if_neg g, tmod_pos hx, xm_w_id (by omega) (by omega), show (i : Int) + 1 = ((i + 1 : Nat) : Int) from rfl]
      exact ⟨g, l_204 hQ n (i + 1) y (x % y) _ (by omega) hy (Int.emod_nonneg x g) (hs.resolve_left g) hz⟩
set_option maxRecDepth 20000 in
theorem c_204 {sc : List Int} {d : Nat} {w : xm_W} {x y : Int} (hx : 0 ≤ x) (hy : 0 ≤ y ∧ y < 4096) : xm_X (xm_old sc) xm_mt (d + 1) 204 [.inl (x), .inl (y)] (w) = some (some (.inl (if sg_eu 24 x y = 0 then 1 else sg_eu 24 x y)), (w)) := by
  refine xm_X_of (M := xm_m204) rfl ⟨xm_EQ.eq (xb_204_0 ?_), rfl, rfl, Nat.le_of_ble_eq_true rfl, xw_hd0⟩
  exact l_204 (d := d) rfl 24 0 x y none (by decide) hx hy.1 (sg_es_b 12 x y hy.1 hy.2) rfl
set_option maxRecDepth 20000 in
theorem oc_204 {F : Int → xm_W → Prop} {sc : List Int} {d : Nat} {w : xm_W} {x y : Int} (hx : 0 ≤ x) (hy : 0 ≤ y ∧ y < 4096) : xm_Oi (xm_X (xm_old sc) xm_mt (d + 1) 204 [.inl (x), .inl (y)] (w)) F = F (if sg_eu 24 x y = 0 then 1 else sg_eu 24 x y) (w) := congrArg (fun x => xm_Oi x F) (c_204 hx hy)
set_option maxRecDepth 20000 in
theorem l_1181 {sc : List Int} {d : Nat} {w : xm_W} {Q : Option xm_V × xm_W → Prop} {x1 y1 z : Int} (hQ : Q ((some (.inl (z)), (w)))) : ∀ (n : Nat) (x y : Int) (u : Option xm_V), 0 ≤ x → 0 ≤ y → sg_es n x y → sg_eu n x y = z → xm_EQ (xm_old sc) xm_sta (xm_X (xm_old sc) xm_mt (d)) xm_c1181 14 [some (.inl (x1)), some (.inl (y1)), some (.inl (x)), some (.inl (y)), u] [] (w) Q
  | 0, x, y, u, hx, hy, hs, hz => by
    have y0 : y = 0 := hs
    have hz' : x = z := hz
    refine xb_1181_14 ?_
    rw [if_pos y0, hz']; exact hQ
  | n + 1, x, y, u, hx, hy, hs, hz => by
    have e : sg_eu (n + 1) x y = if y = 0 then x else sg_eu n y (x % y) := rfl
    rw [e] at hz
    refine xb_1181_14 ?_
    by_cases g : y = 0
    · rw [if_pos g] at hz
      rw [if_pos g, hz]; exact hQ
    · rw [if_neg g] at hz
      rw [if_neg g, tmod_pos hx]
      exact ⟨g, l_1181 hQ n y (x % y) _ hy (Int.emod_nonneg x g) (hs.resolve_left g) hz⟩
def sg_ab (x : Int) : Int := if 0 ≤ x then x else -x
set_option maxRecDepth 20000 in
theorem sg_ab_b {x B : Int} (h : -B ≤ x ∧ x ≤ B) : 0 ≤ sg_ab x ∧ sg_ab x ≤ B := by unfold sg_ab; split <;> omega
def sg_gc (a b : Int) : Int := sg_eu 24 (sg_ab a) (sg_ab b)
set_option maxRecDepth 20000 in
theorem c_1181 {sc : List Int} {d : Nat} {w : xm_W} {x y : Int} (hx : -2000000 ≤ x ∧ x ≤ 2000000) (hy : -4000 ≤ y ∧ y ≤ 4000) : xm_X (xm_old sc) xm_mt (d + 1) 1181 [.inl (x), .inl (y)] (w) = some (some (.inl (sg_gc x y)), (w)) := by
  have ax := sg_ab_b hx
  have ay := sg_ab_b hy
  refine xm_X_of (M := xm_m1181) rfl ⟨xm_EQ.eq (xb_1181_0 ?_), rfl, rfl, Nat.le_of_ble_eq_true rfl, xw_hd0⟩
  have key := l_1181 (sc := sc) (d := d) (w := w) (x1 := x) (y1 := y) (z := sg_gc x y) (Q := fun q => (some (.inl (sg_gc x y)), w) = q) rfl 24 (sg_ab x) (sg_ab y) none ax.1 ay.1 (sg_es_b 12 _ _ ay.1 (by omega)) rfl
  by_cases g1 : x < 0
  · have e1 : sg_ab x = -x := by unfold sg_ab; rw [if_neg (by omega)]
    rw [if_pos g1, xm_w_id (z := -x) (by omega) (by omega)]
    rw [e1] at key
    by_cases g2 : y < 0
    · have e2 : sg_ab y = -y := by unfold sg_ab; rw [if_neg (by omega)]
      rw [e2] at key
      rw [if_pos g2, xm_w_id (z := -y) (by omega) (by omega)]; exact key
    · have e2 : sg_ab y = y := by unfold sg_ab; rw [if_pos (by omega)]
      rw [e2] at key
      rw [if_neg g2]; exact key
  · have e1 : sg_ab x = x := by unfold sg_ab; rw [if_pos (by omega)]
    rw [if_neg g1]
    rw [e1] at key
    by_cases g2 : y < 0
    · have e2 : sg_ab y = -y := by unfold sg_ab; rw [if_neg (by omega)]
      rw [e2] at key
      rw [if_pos g2, xm_w_id (z := -y) (by omega) (by omega)]; exact key
    · have e2 : sg_ab y = y := by unfold sg_ab; rw [if_pos (by omega)]
      rw [e2] at key
      rw [if_neg g2]; exact key
set_option maxRecDepth 20000 in
theorem oc_1181 {F : Int → xm_W → Prop} {sc : List Int} {d : Nat} {w : xm_W} {x y : Int} (hx : -2000000 ≤ x ∧ x ≤ 2000000) (hy : -4000 ≤ y ∧ y ≤ 4000) : xm_Oi (xm_X (xm_old sc) xm_mt (d + 1) 1181 [.inl (x), .inl (y)] (w)) F = F (sg_gc x y) (w) := congrArg (fun x => xm_Oi x F) (c_1181 hx hy)
set_option maxRecDepth 20000 in
theorem sg_gc_b {a b : Int} (ha : -2000000 ≤ a ∧ a ≤ 2000000) (hb : -4000 ≤ b ∧ b ≤ 4000) (h0 : b ≠ 0) : 0 < sg_gc a b ∧ sg_gc a b ≤ 2000000 := by
  have ax := sg_ab_b ha
  have ay := sg_ab_b hb
  have y0 : sg_ab b ≠ 0 := by unfold sg_ab; split <;> omega
  have e1 := sg_eu_b (B := 2000000) 24 (sg_ab a) (sg_ab b) ax (by omega)
  have e2 := sg_eu_0 24 (sg_ab a) (sg_ab b) (sg_es_b 12 _ _ ay.1 (by omega)) (Or.inr y0)
  unfold sg_gc
  omega
def sg_lo (a b x : Int) : Int := xm_w (x.tdiv (if b < 0 then -(sg_gc a b) else sg_gc a b))
set_option maxRecDepth 20000 in
theorem c_1184 {sc : List Int} {d : Nat} {w : xm_W} {a b i : Int} (ha : -2000000 ≤ a ∧ a ≤ 2000000) (hb : -4000 ≤ b ∧ b ≤ 4000) (h0 : b ≠ 0) : xm_X (xm_old sc) xm_mt (d + 2) 1184 [.inl (a), .inl (b), .inl (i)] (w) = some (some (.inl (sg_lo a b (if i = 0 then a else b))), (w)) := by
  have G := sg_gc_b ha hb h0
  refine xm_X_of (M := xm_m1184) rfl ⟨xm_EQ.eq (xb_1184_0 ?_), rfl, rfl, Nat.le_of_ble_eq_true rfl, xw_hd0⟩
  rw [oc_1181 (d := d) ha hb]
  unfold sg_lo
  by_cases g : b < 0
  · rw [if_pos g, if_pos g, xm_w_id (z := -(sg_gc a b)) (by omega) (by omega)]
    by_cases gi : i = 0
    · rw [if_pos gi, if_pos gi]; exact ⟨by omega, rfl⟩
    · rw [if_neg gi, if_neg gi]; exact ⟨by omega, rfl⟩
  · rw [if_neg g, if_neg g]
    by_cases gi : i = 0
    · rw [if_pos gi, if_pos gi]; exact ⟨by omega, rfl⟩
    · rw [if_neg gi, if_neg gi]; exact ⟨by omega, rfl⟩
set_option maxRecDepth 20000 in
theorem oc_1184 {F : Int → xm_W → Prop} {sc : List Int} {d : Nat} {w : xm_W} {a b i : Int} (ha : -2000000 ≤ a ∧ a ≤ 2000000) (hb : -4000 ≤ b ∧ b ≤ 4000) (h0 : b ≠ 0) : xm_Oi (xm_X (xm_old sc) xm_mt (d + 2) 1184 [.inl (a), .inl (b), .inl (i)] (w)) F = F (sg_lo a b (if i = 0 then a else b)) (w) := congrArg (fun x => xm_Oi x F) (c_1184 ha hb h0)
