/-! REST: both sides -/
set_option maxRecDepth 20000 in
theorem ite_mi {x y : Int} : (if y < x then y else x) = min x y := by split <;> omega
set_option maxRecDepth 20000 in
theorem ite_ma {x y : Int} : (if x < y then y else x) = max x y := by split <;> omega
def sg_su (a b c e : Int) : Int := max (min a b) (min c e)
def sg_mm (a b c e : Int) : Int := min (max a c) (max b e)
def sg_be (a b c e : Int) : Int := a - b - c + e
def sg_wo (a b c e : Int) : Int := a * e - b * c
def sg_r9 (x : Int) : Prop := -999 ≤ x ∧ x ≤ 999
set_option maxRecDepth 20000 in
theorem sg_be0 {a b c e : Int} (h : ¬ sg_su a b c e = sg_mm a b c e) : sg_be a b c e ≠ 0 := by
  unfold sg_su sg_mm at h
  unfold sg_be
  intro h0
  apply h
  omega
set_option maxRecDepth 20000 in
theorem sg_mb {a d : Int} (h1 : sg_r9 a) (h2 : sg_r9 d) : -998001 ≤ a * d ∧ a * d ≤ 998001 := by
  unfold sg_r9 at h1 h2
  have := Nat.mul_le_mul (show a.natAbs ≤ 999 by omega) (show d.natAbs ≤ 999 by omega)
  rw [← Int.natAbs_mul] at this
  omega
set_option maxRecDepth 20000 in
theorem sg_abw {x : Int} (h : -2147483647 ≤ x ∧ x ≤ 2147483647) : (if 0 ≤ x then x else xm_w (0 - x)) = sg_ab x := by
  unfold sg_ab
  by_cases g : 0 ≤ x
  · rw [if_pos g, if_pos g]
  · rw [if_neg g, if_neg g, xm_w_id (by omega) (by omega)]; omega
set_option maxRecDepth 20000 in
theorem c_204g {sc : List Int} {d : Nat} {w : xm_W} {x y : Int} (hx : -2000000 ≤ x ∧ x ≤ 2000000) (hy : -4000 ≤ y ∧ y ≤ 4000) (h0 : y ≠ 0) : xm_X (xm_old sc) xm_mt (d + 1) 204 [.inl (sg_ab x), .inl (sg_ab y)] (w) = some (some (.inl (sg_gc x y)), (w)) := by
  have ax := sg_ab_b hx
  have ay := sg_ab_b hy
  have G := (sg_gc_b hx hy h0).1
  rw [c_204 (sc := sc) (d := d) (w := w) ax.1 (by omega), if_neg (show ¬ sg_eu 24 (sg_ab x) (sg_ab y) = 0 from fun e => by unfold sg_gc at G; omega)]
  rfl
set_option maxRecDepth 20000 in
theorem oc_204g {F : Int → xm_W → Prop} {sc : List Int} {d : Nat} {w : xm_W} {x y : Int} (hx : -2000000 ≤ x ∧ x ≤ 2000000) (hy : -4000 ≤ y ∧ y ≤ 4000) (h0 : y ≠ 0) : xm_Oi (xm_X (xm_old sc) xm_mt (d + 1) 204 [.inl (sg_ab x), .inl (sg_ab y)] (w)) F = F (sg_gc x y) (w) := congrArg (fun x => xm_Oi x F) (c_204g hx hy h0)
set_option maxRecDepth 20000 in
theorem sg_lo_n {a b x : Int} (h : b < 0) : xm_w ((-1 * x).tdiv (sg_gc a b)) = sg_lo a b x := by
  unfold sg_lo
  rw [if_pos h, Int.tdiv_neg, show -1 * x = -x by omega, Int.neg_tdiv]
set_option maxRecDepth 20000 in
theorem sg_lo_p {a b x : Int} (h : ¬ b < 0) : xm_w ((1 * x).tdiv (sg_gc a b)) = sg_lo a b x := by
  unfold sg_lo
  rw [if_neg h, Int.one_mul]
set_option maxRecDepth 20000 in
theorem l_202 {sc : List Int} {d : Nat} {t : xm_W} {m : Nat → Nat → Int} {Q : Option xm_V × xm_W → Prop} {r : Nat} {a b c e su be t0 : Int} {u8 u9 u10 u11 : Option xm_V} (ra : sg_r9 a) (rb : sg_r9 b) (rc : sg_r9 c) (re : sg_r9 e) (hbe : be = sg_be a b c e) (h0 : be ≠ 0) (ht : (be < 0 ∧ t0 = -1) ∨ (¬ be < 0 ∧ t0 = 1)) (hQ : ∀ m', (∀ k, k ≠ 63 → m' k = m k) → m' 63 0 = m 63 0 → m' 63 1 = sg_lo (a - b) be (a - b) → m' 63 2 = sg_lo (a - b) be be → m' 63 3 = sg_lo (sg_wo a b c e) be (sg_wo a b c e) → m' 63 4 = sg_lo (sg_wo a b c e) be be → Q ((none, (yy_W (m') t)))) : xm_EQ (xm_old sc) xm_sta (xm_X (xm_old sc) xm_mt (d + 1)) xm_c202 63 [some (.inr (.inl (some 63))), some (.inr (.inl (some (r + 1)))), some (.inl (a)), some (.inl (b)), some (.inl (c)), some (.inl (e)), some (.inl (su)), some (.inl (be)), u8, u9, u10, u11] [.inl (t0)] (yy_W (m) t) Q := by
  have m1 := sg_mb ra re
  have m2 := sg_mb rb rc
  have r1 : -4000 ≤ be ∧ be ≤ 4000 := by unfold sg_be at hbe; unfold sg_r9 at ra rb rc re; omega
  have r2 : -2000000 ≤ a - b ∧ a - b ≤ 2000000 := by unfold sg_r9 at ra rb; omega
  have r3 : -2000000 ≤ sg_wo a b c e ∧ sg_wo a b c e ≤ 2000000 := by unfold sg_wo; omega
  have G1 := (sg_gc_b r2 r1 h0).1
  have G2 := (sg_gc_b r3 r1 h0).1
  have T : ∀ (f : Int → Int → Int) , (∀ x, -2000000 ≤ x ∧ x ≤ 2000000 → f x 0 = f x 0) := fun _ _ _ => rfl
  have V : ∀ x y : Int, -2000000 ≤ x ∧ x ≤ 2000000 → xm_w ((xm_w (t0 * x)).tdiv (sg_gc y be)) = sg_lo y be x := by
    intro x y hx
    rcases ht with ⟨g, e⟩ | ⟨g, e⟩
    · rw [e, xm_w_id (z := -1 * x) (by omega) (by omega)]; exact sg_lo_n g
    · rw [e, xm_w_id (z := 1 * x) (by omega) (by omega)]; exact sg_lo_p g
  clear T
  have V1 := V (a - b) (a - b) r2
  have V2 := V be (a - b) (by omega)
  have V3 := V (sg_wo a b c e) (sg_wo a b c e) r3
  have V4 := V be (sg_wo a b c e) (by omega)
  have ew : xm_w (xm_w (a * e) - xm_w (b * c)) = sg_wo a b c e := by
    unfold sg_wo
    rw [xm_w_id (z := a * e) (by omega) (by omega), xm_w_id (z := b * c) (by omega) (by omega), xm_w_id (by omega) (by omega)]
  have ea : xm_w (a - b) = a - b := xm_w_id (by omega) (by omega)
  have n1 : sg_gc (a - b) be ≠ 0 := by
    clear V V1 V2 V3 V4 ew ea
    omega
  have n2 : sg_gc (sg_wo a b c e) be ≠ 0 := by
    clear V V1 V2 V3 V4 ew ea
    omega
  refine xb_202_63 ?_
  rw [ea, sg_abw (x := a - b) (by clear V V1 V2 V3 V4 ew ea; omega), sg_abw (x := be) (by clear V V1 V2 V3 V4 ew ea; omega), oc_204g (d := d) r2 r1 h0]
  refine ⟨n1, ?_⟩
  rw [V1, zs_63_1]
  refine ⟨n1, ?_⟩
  rw [V2, zs_63_2, ew, sg_abw (x := sg_wo a b c e) (by clear V V1 V2 V3 V4 ew ea; omega), oc_204g (d := d) r3 r1 h0]
  refine ⟨n2, ?_⟩
  rw [V3, zs_63_3]
  refine ⟨n2, ?_⟩
  rw [V4, zs_63_4]
  refine hQ _ (fun k hk => by rw [yy_s_ne hk, yy_s_ne hk, yy_s_ne hk, yy_s_ne hk]) ?_ ?_ ?_ ?_ ?_
  · rw [yy_s_eq, yy_u_ne (by decide), yy_s_eq, yy_u_ne (by decide), yy_s_eq, yy_u_ne (by decide), yy_s_eq, yy_u_ne (by decide)]
  · rw [yy_s_eq, yy_u_ne (by decide), yy_s_eq, yy_u_ne (by decide), yy_s_eq, yy_u_ne (by decide), yy_s_eq, yy_u_eq]
  · rw [yy_s_eq, yy_u_ne (by decide), yy_s_eq, yy_u_ne (by decide), yy_s_eq, yy_u_eq]
  · rw [yy_s_eq, yy_u_ne (by decide), yy_s_eq, yy_u_eq]
  · rw [yy_s_eq, yy_u_eq]
def sg_bg (f : Nat → Int) (a b c e : Int) : Prop := (sg_su a b c e = sg_mm a b c e → f 0 = 1 ∧ f 3 = sg_su a b c e ∧ f 4 = 1) ∧ (¬ sg_su a b c e = sg_mm a b c e → f 0 = 0 ∧ f 1 = sg_lo (a - b) (sg_be a b c e) (a - b) ∧ f 2 = sg_lo (a - b) (sg_be a b c e) (sg_be a b c e) ∧ f 3 = sg_lo (sg_wo a b c e) (sg_be a b c e) (sg_wo a b c e) ∧ f 4 = sg_lo (sg_wo a b c e) (sg_be a b c e) (sg_be a b c e))
set_option maxRecDepth 20000 in
theorem c_202 {sc : List Int} {d : Nat} {t : xm_W} {m : Nat → Nat → Int} {r : Nat} {a b c e : Int} (hr : yy_sh r) (ha : m (r + 1) 0 = a) (hb : m (r + 1) 1 = b) (hc : m (r + 1) 2 = c) (he : m (r + 1) 3 = e) (ra : sg_r9 a) (rb : sg_r9 b) (rc : sg_r9 c) (re : sg_r9 e) : ∃ m', xm_X (xm_old sc) xm_mt (d + 2) 202 [.inr (.inl (some 63)), .inr (.inl (some (r + 1)))] (yy_W m t) = some (none, yy_W m' t) ∧ (∀ k, k ≠ 63 → m' k = m k) ∧ sg_bg (m' 63) a b c e := by
  have key : ∀ {Q : Option xm_V × xm_W → Prop}, (∀ m', ((∀ k, k ≠ 63 → m' k = m k) ∧ sg_bg (m' 63) a b c e) → Q (none, yy_W m' t)) → xm_EQ (xm_old sc) xm_sta (xm_X (xm_old sc) xm_mt (d + 1)) xm_m202.2.2.2.2.2.2.2 0 (xm_loc xm_m202.2.2.1 [.inr (.inl (some 63)), .inr (.inl (some (r + 1)))]) [] (yy_W m t) Q := by
    intro Q hQ
    have q1 : -999 ≤ a ∧ a ≤ 999 := ra
    have q2 : -999 ≤ b ∧ b ≤ 999 := rb
    have q3 : -999 ≤ c ∧ c ≤ 999 := rc
    have q4 : -999 ≤ e ∧ e ≤ 999 := re
    refine xb_202_0 ?_
    rw [hi_1 hr, zy_at (by decide) (by decide), show (0 : Int).toNat = 0 from rfl, ha, hi_1 hr, zy_at (by decide) (by decide), show (1 : Int).toNat = 1 from rfl, hb, hi_1 hr, zy_at (by decide) (by decide), show (2 : Int).toNat = 2 from rfl, hc, hi_1 hr, zy_at (by decide) (by decide), show (3 : Int).toNat = 3 from rfl, he]
    rw [ite_mi (x := a) (y := b), ite_mi (x := c) (y := e), ite_ma (x := min a b) (y := min c e), ite_ma (x := b) (y := e), ite_ma (x := a) (y := c), ite_mi (x := max a c) (y := max b e)]
    rw [xm_w_id (z := a - b) (by omega) (by omega), xm_w_id (z := a - b - c) (by omega) (by omega), xm_w_id (z := a - b - c + e) (by omega) (by omega)]
    by_cases g : max (min a b) (min c e) = min (max a c) (max b e)
    · rw [if_pos g, zs_63_0 rfl, zf_63_0, yy_s_eq, yy_u_eq, if_neg (by decide), zs_63_3, zs_63_4]
      refine hQ _ ⟨fun k hk => by rw [yy_s_ne hk, yy_s_ne hk, yy_s_ne hk], ⟨fun _ => ⟨?_, ?_, ?_⟩, fun x => absurd g x⟩⟩
      · rw [yy_s_eq, yy_u_ne (by decide), yy_s_eq, yy_u_ne (by decide), yy_s_eq, yy_u_eq]
      · rw [yy_s_eq, yy_u_ne (by decide), yy_s_eq, yy_u_eq]; rfl
      · rw [yy_s_eq, yy_u_eq]
    · have b0 : ¬ a - b - c + e = 0 := sg_be0 g
      rw [if_neg g, zs_63_0 rfl, zf_63_0, yy_s_eq, yy_u_eq, if_pos rfl, if_neg b0]
      have fin : ∀ m', (∀ k, k ≠ 63 → m' k = yy_s m 63 0 0 k) → m' 63 0 = yy_s m 63 0 0 63 0 → m' 63 1 = sg_lo (a - b) (sg_be a b c e) (a - b) → m' 63 2 = sg_lo (a - b) (sg_be a b c e) (sg_be a b c e) → m' 63 3 = sg_lo (sg_wo a b c e) (sg_be a b c e) (sg_wo a b c e) → m' 63 4 = sg_lo (sg_wo a b c e) (sg_be a b c e) (sg_be a b c e) → Q ((none, (yy_W (m') t))) := fun m' f f0 f1 f2 f3 f4 => hQ m' ⟨fun k hk => by rw [f k hk, yy_s_ne hk], ⟨fun x => absurd x g, fun _ => ⟨by rw [f0, yy_s_eq, yy_u_eq], f1, f2, f3, f4⟩⟩⟩
      by_cases gn : a - b - c + e < 0
      · rw [if_pos gn]
        exact l_202 (d := d) (be := sg_be a b c e) ra rb rc re rfl b0 (Or.inl ⟨gn, rfl⟩) fin
      · rw [if_neg gn]
        exact l_202 (d := d) (be := sg_be a b c e) ra rb rc re rfl b0 (Or.inr ⟨gn, rfl⟩) fin
  obtain ⟨q, h1, m', h2, h3⟩ := yx_of (y := 202) (M := xm_m202) (sc := sc) (d := d + 1) (as := [.inr (.inl (some 63)), .inr (.inl (some (r + 1)))]) (w := yy_W m t) (Q := fun q => ∃ m', q = (none, yy_W m' t) ∧ ((∀ k, k ≠ 63 → m' k = m k) ∧ sg_bg (m' 63) a b c e)) rfl (key fun m' h => ⟨m', rfl, h⟩) (fun q ⟨m', h, _⟩ => by rw [h]; rfl) rfl (Nat.le_of_ble_eq_true rfl) (yy_hd rfl (by decide))
  exact ⟨m', by rw [h1, h2], h3⟩
set_option maxRecDepth 20000 in
theorem c_203 {sc : List Int} {d : Nat} {t : xm_W} {m : Nat → Nat → Int} {y : Int} : xm_X (xm_old sc) xm_mt (d + 1) 203 [.inr (.inl (some 63)), .inl (y)] (yy_W (m) t) = some (some (.inl (if y = 0 then (if m 63 0 = 0 then 0 else 1) else if y = 1 then m 63 1 else if y = 2 then m 63 2 else if y = 3 then m 63 3 else m 63 4)), (yy_W (m) t)) := by
  refine xm_X_of (M := xm_m203) rfl ⟨xm_EQ.eq (xb_203_0 ?_), rfl, rfl, Nat.le_of_ble_eq_true rfl, yy_hd rfl (by decide)⟩
  by_cases g0 : y = 0
  · rw [if_pos g0, if_pos g0, zf_63_0]
    by_cases g : m 63 0 = 0
    · rw [if_pos g, if_pos g]
    · rw [if_neg g, if_neg g]
  · rw [if_neg g0, if_neg g0]
    by_cases g1 : y = 1
    · rw [if_pos g1, if_pos g1, zf_63_1]
    · rw [if_neg g1, if_neg g1]
      by_cases g2 : y = 2
      · rw [if_pos g2, if_pos g2, zf_63_2]
      · rw [if_neg g2, if_neg g2]
        by_cases g3 : y = 3
        · rw [if_pos g3, if_pos g3, zf_63_3]
        · rw [if_neg g3, if_neg g3, zf_63_4]
set_option maxRecDepth 20000 in
theorem oc_203 {F : Int → xm_W → Prop} {sc : List Int} {d : Nat} {t : xm_W} {m : Nat → Nat → Int} {y : Int} : xm_Oi (xm_X (xm_old sc) xm_mt (d + 1) 203 [.inr (.inl (some 63)), .inl (y)] (yy_W (m) t)) F = F (if y = 0 then (if m 63 0 = 0 then 0 else 1) else if y = 1 then m 63 1 else if y = 2 then m 63 2 else if y = 3 then m 63 3 else m 63 4) (yy_W (m) t) := congrArg (fun x => xm_Oi x F) (c_203)
