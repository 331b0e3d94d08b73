/-! REST: the act -/
def sg_an (a b c e x : Int) : Int := if x = 0 then (if sg_su a b c e = sg_mm a b c e then 1 else 0) else if sg_su a b c e = sg_mm a b c e then (if x < 3 then -1000000002 else if x = 3 then sg_su a b c e else 1) else if x = 1 then sg_lo (a - b) (sg_be a b c e) (a - b) else if x = 2 then sg_lo (a - b) (sg_be a b c e) (sg_be a b c e) else if x = 3 then sg_lo (sg_wo a b c e) (sg_be a b c e) (sg_wo a b c e) else sg_lo (sg_wo a b c e) (sg_be a b c e) (sg_be a b c e)
def sg_r4 (a b c e : Int) : Bool := decide (((-999 ≤ a ∧ a ≤ 999) ∧ (-999 ≤ b ∧ b ≤ 999)) ∧ ((-999 ≤ c ∧ c ≤ 999) ∧ (-999 ≤ e ∧ e ≤ 999)))
set_option maxRecDepth 20000 in
theorem l_125 {sc : List Int} {d : Nat} {t : xm_W} {m : Nat → Nat → Int} {Q : Option xm_V × xm_W → Prop} {sh : Nat} {x2 : Int} {nu : Nat → Int} (hsh : sh < 4) (hnu : m (67 + 2 * sh) = nu) (hG : (∀ j, j < 4 → sg_r9 (nu j)) → xm_EQ (xm_old sc) xm_sta (xm_X (xm_old sc) xm_mt (d + 1)) xm_c125 30 [some (.inr (.inl (some 0))), some (.inl ((sh : Int))), some (.inl (x2)), some (.inr (.inl (some (66 + 2 * sh)))), some (.inl ((4 : Int)))] [] (yy_W (m) t) Q) (hB : ∀ j, j < 4 → ¬ sg_r9 (nu j) → Q ((some (.inl (-1000000001)), (yy_W (yy_e m 1) t)))) : ∀ (k i : Nat), i + k = 4 → (∀ j, j < i → sg_r9 (nu j)) → xm_EQ (xm_old sc) xm_sta (xm_X (xm_old sc) xm_mt (d + 1)) xm_c125 30 [some (.inr (.inl (some 0))), some (.inl ((sh : Int))), some (.inl (x2)), some (.inr (.inl (some (66 + 2 * sh)))), some (.inl ((i : Int)))] [] (yy_W (m) t) Q
  | 0, i, hk, hj => by
    obtain rfl : i = 4 := by omega
    exact hG hj
  | k + 1, i, hk, hj => by
    have hs := yy_shn hsh
    refine xb_125_30 ?_
    rw [if_pos (by omega), xm_O_some, hr_2 hs, hi_1 hs, zy_at (by omega) (by omega), Int.toNat_natCast, show 66 + 2 * sh + 1 = 67 + 2 * sh by omega, hnu, oc_142 (d := d)]
    by_cases g : -999 ≤ nu i ∧ nu i ≤ 999
    · rw [zz_t g, xm_w_id (by omega) (by omega), show (i : Int) + 1 = ((i + 1 : Nat) : Int) from rfl]
      refine l_125 hsh hnu hG hB k (i + 1) (by omega) (fun j hj' => ?_)
      by_cases e : j = i
      · subst e; exact g
      · exact hj j (by omega)
    · rw [zz_f g, oc_139 (d := d) (by decide) (by decide)]
      exact hB i (by omega) g
set_option maxRecDepth 20000 in
theorem c_125g {sc : List Int} {d : Nat} {t : xm_W} {m : Nat → Nat → Int} {i : Nat} {x2 a b c e : Int} (hi4 : i < 4) (h2 : 0 ≤ x2 ∧ x2 ≤ 4) (hS : yy_SH m) (g : ¬ m 83 i = 0) (g4 : 4 ≤ m 84 i) (ha : m (67 + 2 * i) 0 = a) (hb : m (67 + 2 * i) 1 = b) (hc : m (67 + 2 * i) 2 = c) (he : m (67 + 2 * i) 3 = e) : ∃ m', xm_X (xm_old sc) xm_mt (d + 5) 125 [.inr (.inl (some 0)), .inl ((i : Int)), .inl (x2)] (yy_W m t) = some (some (.inl (if sg_r4 a b c e = true then sg_an a b c e x2 else -1000000001)), yy_W m' t) ∧ ∀ k, k ≠ 63 → k ≠ 65 → m' k = m k := by
  have key : ∀ {Q : Option xm_V × xm_W → Prop}, (∀ m', (∀ k, k ≠ 63 → k ≠ 65 → m' k = m k) → Q (some (.inl (if sg_r4 a b c e = true then sg_an a b c e x2 else -1000000001)), yy_W m' t)) → xm_EQ (xm_old sc) xm_sta (xm_X (xm_old sc) xm_mt (d + 4)) xm_m125.2.2.2.2.2.2.2 0 (xm_loc xm_m125.2.2.1 [.inr (.inl (some 0)), .inl ((i : Int)), .inl (x2)]) [] (yy_W m t) Q := by
    intro Q hQ
    obtain ⟨s1, s2, s3, s4, s5⟩ := hS i hi4
    have hs := yy_shn hi4
    have ei : ((i : Int)).toNat = i := Int.toNat_natCast i
    refine xb_125_0 ?_
    rw [oc_147 (d := d + 2), zz_t (by omega), oc_142 (d := d + 3), zz_t h2, zr_0_9, zq_64, zq_sh (by omega) (by omega), ei, oc_702 (d := d + 3) hs, zz_f (by rw [s1]; exact g), xm_O_some, hf_1 hs, s3, if_neg (by omega)]
    refine l_125 (d := d + 3) (nu := m (67 + 2 * i)) hi4 rfl (fun R => ?_) (fun j hj hb' => ?_) 4 0 rfl (fun j hj => absurd hj (by omega))
    · have ra : sg_r9 a := by rw [← ha]; exact R 0 (by decide)
      have rb : sg_r9 b := by rw [← hb]; exact R 1 (by decide)
      have rc : sg_r9 c := by rw [← hc]; exact R 2 (by decide)
      have re : sg_r9 e := by rw [← he]; exact R 3 (by decide)
      rw [if_pos (show sg_r4 a b c e = true from decide_eq_true ⟨⟨ra, rb⟩, ⟨rc, re⟩⟩)] at hQ
      have e67 : 66 + 2 * i + 1 = 67 + 2 * i := by omega
      obtain ⟨m1, x, f1, p1, p2⟩ := c_202 (sc := sc) (d := d + 2) (t := t) (m := m) (r := 66 + 2 * i) hs (by rw [e67]; exact ha) (by rw [e67]; exact hb) (by rw [e67]; exact hc) (by rw [e67]; exact he) ra rb rc re
      refine xb_125_30 ?_
      rw [if_neg (by decide), zr_0_8, xm_O_some, hr_2 hs, x, xm_Ov_some, zr_0_8, zf_63_0]
      unfold sg_an at hQ
      have F : ∀ k, k ≠ 63 → k ≠ 65 → m1 k = m k := fun k k1 _ => f1 k k1
      have E : ∀ k, k ≠ 63 → k ≠ 65 → yy_e m1 2 k = m k := fun k k1 k2 => by rw [yy_e75 k2]; exact f1 k k1
      by_cases gp : sg_su a b c e = sg_mm a b c e
      · obtain ⟨v0, v3, v4⟩ := p1 gp
        rw [if_pos gp, if_pos gp] at hQ
        rw [v0, if_neg (by decide)]
        by_cases y0 : x2 = 0
        · rw [if_pos y0] at hQ
          rw [if_neg (by omega), if_neg (by omega), zr_0_8, oc_203 (d := d + 3), if_pos y0, v0, if_neg (by decide)]
          exact hQ m1 F
        · rw [if_neg y0] at hQ
          by_cases y1 : x2 < 3
          · rw [if_pos y1] at hQ
            by_cases y2 : x2 = 1
            · rw [if_pos y2, oc_139 (d := d + 3) (by decide) (by decide)]
              exact hQ _ E
            · rw [if_neg y2, if_pos (by omega), oc_139 (d := d + 3) (by decide) (by decide)]
              exact hQ _ E
          · rw [if_neg y1] at hQ
            rw [if_neg (by omega), if_neg (by omega), zr_0_8, oc_203 (d := d + 3), if_neg y0, if_neg (by omega), if_neg (by omega)]
            by_cases y3 : x2 = 3
            · rw [if_pos y3] at hQ
              rw [if_pos y3, v3]
              exact hQ m1 F
            · rw [if_neg y3] at hQ
              rw [if_neg y3, v4]
              exact hQ m1 F
      · obtain ⟨v0, v1, v2, v3, v4⟩ := p2 gp
        rw [if_neg gp, if_neg gp] at hQ
        rw [v0, if_pos rfl, zr_0_8, oc_203 (d := d + 3)]
        by_cases y0 : x2 = 0
        · rw [if_pos y0] at hQ
          rw [if_pos y0, v0, if_pos rfl]
          exact hQ m1 F
        · rw [if_neg y0] at hQ
          rw [if_neg y0]
          by_cases y1 : x2 = 1
          · rw [if_pos y1] at hQ
            rw [if_pos y1, v1]
            exact hQ m1 F
          · rw [if_neg y1] at hQ
            rw [if_neg y1]
            by_cases y2 : x2 = 2
            · rw [if_pos y2] at hQ
              rw [if_pos y2, v2]
              exact hQ m1 F
            · rw [if_neg y2] at hQ
              rw [if_neg y2]
              by_cases y3 : x2 = 3
              · rw [if_pos y3] at hQ
                rw [if_pos y3, v3]
                exact hQ m1 F
              · rw [if_neg y3] at hQ
                rw [if_neg y3, v4]
                exact hQ m1 F
    · have nr : ¬ sg_r4 a b c e = true := by
        intro h
        obtain ⟨⟨ra, rb⟩, rc, re⟩ := of_decide_eq_true h
        apply hb'
        rcases (show j = 0 ∨ j = 1 ∨ j = 2 ∨ j = 3 by omega) with z | z | z | z <;> subst z
        · rw [ha]; exact ra
        · rw [hb]; exact rb
        · rw [hc]; exact rc
        · rw [he]; exact re
      rw [if_neg nr] at hQ
      exact hQ _ (fun k _ k2 => yy_e75 k2)
  obtain ⟨q, h1, m', h2, h3⟩ := yx_of (y := 125) (M := xm_m125) (sc := sc) (d := d + 4) (as := [.inr (.inl (some 0)), .inl ((i : Int)), .inl (x2)]) (w := yy_W m t) (Q := fun q => ∃ m', q = (some (.inl (if sg_r4 a b c e = true then sg_an a b c e x2 else -1000000001)), yy_W m' t) ∧ (∀ k, k ≠ 63 → k ≠ 65 → m' k = m k)) rfl (key fun m' h => ⟨m', rfl, h⟩) (fun q ⟨m', h, _⟩ => by rw [h]; rfl) rfl (Nat.le_of_ble_eq_true rfl) (yy_hd rfl (by decide))
  exact ⟨m', by rw [h1, h2], h3⟩
set_option maxRecDepth 20000 in
theorem c_1182 {sc : List Int} {d : Nat} {w : xm_W} {x y : Int} : xm_X (xm_old sc) xm_mt (d + 1) 1182 [.inl (x), .inl (y)] (w) = some (some (.inl (min x y)), (w)) := by
  refine xm_X_of (M := xm_m1182) rfl ⟨xm_EQ.eq (xb_1182_0 ?_), rfl, rfl, Nat.le_of_ble_eq_true rfl, xw_hd0⟩
  by_cases g : x < y
  · rw [if_pos g, show min x y = x by omega]
  · rw [if_neg g, show min x y = y by omega]
set_option maxRecDepth 20000 in
theorem oc_1182 {F : Int → xm_W → Prop} {sc : List Int} {d : Nat} {w : xm_W} {x y : Int} : xm_Oi (xm_X (xm_old sc) xm_mt (d + 1) 1182 [.inl (x), .inl (y)] (w)) F = F (min x y) (w) := congrArg (fun x => xm_Oi x F) (c_1182)
set_option maxRecDepth 20000 in
theorem c_1183 {sc : List Int} {d : Nat} {w : xm_W} {x y : Int} : xm_X (xm_old sc) xm_mt (d + 1) 1183 [.inl (x), .inl (y)] (w) = some (some (.inl (max x y)), (w)) := by
  refine xm_X_of (M := xm_m1183) rfl ⟨xm_EQ.eq (xb_1183_0 ?_), rfl, rfl, Nat.le_of_ble_eq_true rfl, xw_hd0⟩
  by_cases g : y < x
  · rw [if_pos g, show max x y = x by omega]
  · rw [if_neg g, show max x y = y by omega]
set_option maxRecDepth 20000 in
theorem oc_1183 {F : Int → xm_W → Prop} {sc : List Int} {d : Nat} {w : xm_W} {x y : Int} : xm_Oi (xm_X (xm_old sc) xm_mt (d + 1) 1183 [.inl (x), .inl (y)] (w)) F = F (max x y) (w) := congrArg (fun x => xm_Oi x F) (c_1183)
set_option maxRecDepth 20000 in
theorem c_1185g {sc : List Int} {d : Nat} {t : xm_W} {m : Nat → Nat → Int} {i : Nat} {x2 a b c e : Int} (hi4 : i < 4) (h2 : 0 ≤ x2 ∧ x2 ≤ 4) (g : ¬ m 83 i = 0) (g4 : 4 ≤ m 84 i) (ha : m 85 (24 * i) = a) (hb : m 85 (24 * i + 1) = b) (hc : m 85 (24 * i + 2) = c) (he : m 85 (24 * i + 3) = e) : ∃ m', xm_X (xm_old sc) xm_mt (d + 4) 1185 [.inr (.inl (some 74)), .inl ((i : Int)), .inl (x2)] (yy_W m t) = some (some (.inl (if sg_r4 a b c e = true then sg_an a b c e x2 else -1000000001)), yy_W m' t) ∧ ∀ k, k ≠ 78 → m' k = m k := by
  have key : ∀ {Q : Option xm_V × xm_W → Prop}, (∀ m', (∀ k, k ≠ 78 → m' k = m k) → Q (some (.inl (if sg_r4 a b c e = true then sg_an a b c e x2 else -1000000001)), yy_W m' t)) → xm_EQ (xm_old sc) xm_sta (xm_X (xm_old sc) xm_mt (d + 3)) xm_m1185.2.2.2.2.2.2.2 0 (xm_loc xm_m1185.2.2.1 [.inr (.inl (some 74)), .inl ((i : Int)), .inl (x2)]) [] (yy_W m t) Q := by
    intro Q hQ
    have E : ∀ q k, k ≠ 78 → yy_f m q k = m k := fun q k hk => yy_s_ne hk
    refine xb_1185_0 ?_
    rw [oc_1196 (d := d + 1), zz_t (by omega), oc_1103 (d := d + 2), zz_t h2, zr_74_18, zi_83, zy_at (by omega) (by omega), Int.toNat_natCast, if_neg g, zr_74_19, zi_84, zy_at (by omega) (by omega), Int.toNat_natCast, if_neg (by omega), zr_74_20, zi_85, xm_w_id (z := 24 * (i : Int)) (by omega) (by omega), zy_at (by omega) (by omega), show (24 * (i : Int)).toNat = 24 * i by omega, ha, zr_74_20, zi_85, xm_w_id (z := 24 * (i : Int) + 1) (by omega) (by omega), zy_at (by omega) (by omega), show (24 * (i : Int) + 1).toNat = 24 * i + 1 by omega, hb, zr_74_20, zi_85, xm_w_id (z := 24 * (i : Int) + 2) (by omega) (by omega), zy_at (by omega) (by omega), show (24 * (i : Int) + 2).toNat = 24 * i + 2 by omega, hc, zr_74_20, zi_85, xm_w_id (z := 24 * (i : Int) + 3) (by omega) (by omega), zy_at (by omega) (by omega), show (24 * (i : Int) + 3).toNat = 24 * i + 3 by omega, he, oc_1103 (d := d + 2)]
    by_cases ra : -999 ≤ a ∧ a ≤ 999
    · by_cases rb : -999 ≤ b ∧ b ≤ 999
      · by_cases rc : -999 ≤ c ∧ c ≤ 999
        · by_cases re : -999 ≤ e ∧ e ≤ 999
          · rw [if_pos (show sg_r4 a b c e = true from decide_eq_true ⟨⟨ra, rb⟩, ⟨rc, re⟩⟩)] at hQ
            have m1 := sg_mb ra re
            have m2 := sg_mb rb rc
            rw [zz_t ra, oc_1103 (d := d + 2), zz_t rb, oc_1103 (d := d + 2), zz_t rc, oc_1103 (d := d + 2), zz_t re, oc_1182 (d := d + 2), oc_1182 (d := d + 2), oc_1183 (d := d + 2), oc_1183 (d := d + 2), oc_1183 (d := d + 2), oc_1182 (d := d + 2)]
            have hx : sg_an a b c e x2 = sg_an a b c e x2 := rfl
            unfold sg_an at hQ
            by_cases gp : max (min a b) (min c e) = min (max a c) (max b e)
            · have gp' : sg_su a b c e = sg_mm a b c e := gp
              rw [if_pos gp', if_pos gp'] at hQ
              rw [if_pos gp]
              refine xb_1185_101 ?_
              by_cases y0 : x2 = 0
              · rw [if_pos y0] at hQ
                rw [if_pos y0, if_neg (by decide)]
                exact hQ m (fun _ _ => rfl)
              · rw [if_neg y0] at hQ
                rw [if_neg y0]
                by_cases y1 : x2 < 3
                · rw [if_pos y1] at hQ
                  rw [if_pos y1, if_neg (by decide), oc_1102 (d := d + 2) (by decide) (by decide)]
                  exact hQ _ (E _)
                · rw [if_neg y1] at hQ
                  rw [if_neg y1, if_neg (by decide)]
                  by_cases y3 : x2 = 3
                  · rw [if_pos y3] at hQ
                    rw [if_pos y3]
                    exact hQ m (fun _ _ => rfl)
                  · rw [if_neg y3] at hQ
                    rw [if_neg y3]
                    exact hQ m (fun _ _ => rfl)
            · have gp' : ¬ sg_su a b c e = sg_mm a b c e := gp
              have b0 := sg_be0 gp'
              have r1 : -4000 ≤ sg_be a b c e ∧ sg_be a b c e ≤ 4000 := by unfold sg_be; omega
              have r2 : -2000000 ≤ a - b ∧ a - b ≤ 2000000 := by omega
              have r3 : -2000000 ≤ sg_wo a b c e ∧ sg_wo a b c e ≤ 2000000 := by unfold sg_wo; omega
              rw [if_neg gp', if_neg gp'] at hQ
              rw [if_neg gp]
              refine xb_1185_101 ?_
              rw [xm_w_id (z := a - b) (by omega) (by omega), xm_w_id (z := a - b + e) (by omega) (by omega), xm_w_id (z := a - b + e - c) (by omega) (by omega), xm_w_id (z := a * e) (by omega) (by omega), xm_w_id (z := b * c) (by omega) (by omega), xm_w_id (z := a * e - b * c) (by omega) (by omega), show a - b + e - c = sg_be a b c e by unfold sg_be; omega, show a * e - b * c = sg_wo a b c e from rfl]
              by_cases y0 : x2 = 0
              · rw [if_pos y0] at hQ
                rw [if_pos y0, if_pos rfl]
                exact hQ m (fun _ _ => rfl)
              · rw [if_neg y0] at hQ
                rw [if_neg y0]
                by_cases y1 : x2 = 1
                · rw [if_pos y1] at hQ
                  rw [if_pos (by omega), if_pos rfl, if_pos rfl, if_pos (by omega), if_neg (by omega), oc_1184 (d := d + 1) r2 r1 b0, if_pos rfl]
                  exact hQ m (fun _ _ => rfl)
                · rw [if_neg y1] at hQ
                  by_cases y2 : x2 = 2
                  · rw [if_pos y2] at hQ
                    rw [if_pos (by omega), if_pos rfl, if_pos rfl, if_pos (by omega), if_pos y2, oc_1184 (d := d + 1) r2 r1 b0, if_neg (by decide)]
                    exact hQ m (fun _ _ => rfl)
                  · rw [if_neg y2] at hQ
                    rw [if_neg (by omega), if_pos rfl, if_neg (by omega)]
                    by_cases y3 : x2 = 3
                    · rw [if_pos y3] at hQ
                      rw [if_neg (by omega), oc_1184 (d := d + 1) r3 r1 b0, if_pos rfl]
                      exact hQ m (fun _ _ => rfl)
                    · rw [if_neg y3] at hQ
                      rw [if_pos (by omega), oc_1184 (d := d + 1) r3 r1 b0, if_neg (by decide)]
                      exact hQ m (fun _ _ => rfl)
          · rw [if_neg (show ¬ sg_r4 a b c e = true from fun h => re (of_decide_eq_true h).2.2)] at hQ
            rw [zz_t ra, oc_1103 (d := d + 2), zz_t rb, oc_1103 (d := d + 2), zz_t rc, oc_1103 (d := d + 2), zz_f re, oc_1102 (d := d + 2) (by decide) (by decide)]
            exact hQ _ (E _)
        · rw [if_neg (show ¬ sg_r4 a b c e = true from fun h => rc (of_decide_eq_true h).2.1)] at hQ
          rw [zz_t ra, oc_1103 (d := d + 2), zz_t rb, oc_1103 (d := d + 2), zz_f rc, oc_1102 (d := d + 2) (by decide) (by decide)]
          exact hQ _ (E _)
      · rw [if_neg (show ¬ sg_r4 a b c e = true from fun h => rb (of_decide_eq_true h).1.2)] at hQ
        rw [zz_t ra, oc_1103 (d := d + 2), zz_f rb, oc_1102 (d := d + 2) (by decide) (by decide)]
        exact hQ _ (E _)
    · rw [if_neg (show ¬ sg_r4 a b c e = true from fun h => ra (of_decide_eq_true h).1.1)] at hQ
      rw [zz_f ra, oc_1102 (d := d + 2) (by decide) (by decide)]
      exact hQ _ (E _)
  obtain ⟨q, h1, m', h2, h3⟩ := yx_of (y := 1185) (M := xm_m1185) (sc := sc) (d := d + 3) (as := [.inr (.inl (some 74)), .inl ((i : Int)), .inl (x2)]) (w := yy_W m t) (Q := fun q => ∃ m', q = (some (.inl (if sg_r4 a b c e = true then sg_an a b c e x2 else -1000000001)), yy_W m' t) ∧ (∀ k, k ≠ 78 → m' k = m k)) rfl (key fun m' h => ⟨m', rfl, h⟩) (fun q ⟨m', h, _⟩ => by rw [h]; rfl) rfl (Nat.le_of_ble_eq_true rfl) (yy_hd rfl (by decide))
  exact ⟨m', by rw [h1, h2], h3⟩
set_option maxRecDepth 20000 in
theorem a_125 {sc : List Int} {t : xm_W} {m : Nat → Nat → Int} {x1 x2 : Int} (hI : yy_I t m) : yy_A sc t m 125 1185 [.inl x1, .inl x2] true := by
  by_cases h : (0 ≤ x1 ∧ x1 ≤ 3) ∧ (0 ≤ x2 ∧ x2 ≤ 4)
  · obtain ⟨i, rfl⟩ : ∃ i : Nat, x1 = i := ⟨x1.toNat, by omega⟩
    have hi4 : i < 4 := by omega
    obtain ⟨s1, s2, s3, s4, s5⟩ := hI.2.2.2.2.1 i hi4
    have hs := yy_shn hi4
    have ei : ((i : Int)).toNat = i := Int.toNat_natCast i
    have f : ∀ c, c ≠ 65 → yy_e m 2 c = m c := fun c hc => yy_e75 hc
    by_cases g : m 83 i = 0
    · exact yy_Ao (g_125 (d := 96) h.1 h.2 (by rw [ei, s1]; exact g)) (g_1185 (d := 96) h.1 h.2 (by rw [ei, f 83 (by decide)]; exact g)) (yy_I_ef hI) yy_ef0 rfl
    · by_cases g4 : 4 ≤ m 84 i
      · obtain ⟨m1, X1, f1⟩ := c_125g (sc := sc) (d := 95) (t := t) (m := m) (i := i) (x2 := x2) hi4 h.2 hI.2.2.2.2.1 g g4 rfl rfl rfl rfl
        have v0 := (s5 0 (by decide)).1
        have v1 := (s5 1 (by decide)).1
        have v2 := (s5 2 (by decide)).1
        have v3 := (s5 3 (by decide)).1
        have e85 : m1 85 = m 85 := f1 85 (by decide) (by decide)
        obtain ⟨m2, X2, f2⟩ := c_1185g (sc := sc) (d := 96) (t := t) (m := m1) (i := i) (x2 := x2) (a := m (67 + 2 * i) 0) (b := m (67 + 2 * i) 1) (c := m (67 + 2 * i) 2) (e := m (67 + 2 * i) 3) hi4 h.2 (by rw [f1 83 (by decide) (by decide)]; exact g) (by rw [f1 84 (by decide) (by decide)]; exact g4) (by rw [e85, v0]; rfl) (by rw [e85, v1]) (by rw [e85, v2]) (by rw [e85, v3])
        refine yy_Ao X1 X2 (yy_I_n (fun c hc => ?_) hI) ?_ rfl
        · unfold yy_no at hc
          rw [f2 c (by omega), f1 c (by omega) (by omega)]
        · rw [f2 0 (by decide), f1 0 (by decide) (by decide)]
      · have X1 : xm_X (xm_old sc) xm_mt (99 + 1) 125 [.inr (.inl (some 0)), .inl (i : Int), .inl x2] (yy_W m t) = some (some (.inl (-1000000002)), yy_W (yy_e m 2) t) := by
          refine xm_X_of (M := xm_m125) rfl ⟨xm_EQ.eq (xb_125_0 ?_), rfl, rfl, Nat.le_of_ble_eq_true rfl, yy_hd rfl (by decide)⟩
          rw [oc_147 (d := 97), zz_t h.1, oc_142 (d := 98), zz_t h.2, zr_0_9, zq_64, zq_sh (by omega) (by omega), ei, oc_702 (d := 98) hs, zz_f (by rw [s1]; exact g), xm_O_some, hf_1 hs, s3, if_pos (by omega), oc_139 (d := 98) (by decide) (by decide)]
          rfl
        have X2 : xm_X (xm_old sc) xm_mt (99 + 1) 1185 [.inr (.inl (some 74)), .inl (i : Int), .inl x2] (yy_W (yy_e m 2) t) = some (some (.inl (-1000000002)), yy_W (yy_f (yy_e m 2) 2) t) := by
          refine xm_X_of (M := xm_m1185) rfl ⟨xm_EQ.eq (xb_1185_0 ?_), rfl, rfl, Nat.le_of_ble_eq_true rfl, yy_hd rfl (by decide)⟩
          rw [oc_1196 (d := 97), zz_t h.1, oc_1103 (d := 98), zz_t h.2, zr_74_18, zi_83, zy_at (by omega) (by omega), ei, f 83 (by decide), if_neg g, zr_74_19, zi_84, zy_at (by omega) (by omega), ei, f 84 (by decide), if_pos (by omega), oc_1102 (d := 98) (by decide) (by decide)]
          rfl
        exact yy_Ao X1 X2 (yy_I_ef hI) yy_ef0 rfl
  · exact r_125 hI h
