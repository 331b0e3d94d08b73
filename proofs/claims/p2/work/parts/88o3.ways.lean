/-! WAYS: the act -/
set_option maxRecDepth 20000 in
theorem a_131 {sc : List Int} {t : xm_W} {m : Nat → Nat → Int} {x1 x2 : Int} (hI : yy_I t m) : yy_A sc t m 131 1201 [.inl x1, .inl x2] true := by
  by_cases h : (0 ≤ x1 ∧ x1 ≤ 3) ∧ (0 ≤ x2 ∧ x2 ≤ m 1 4 - 1)
  · obtain ⟨⟨e0, e3, e1, e2⟩, hR⟩ := yy_I_0 hI
    have b0 := hR.1
    obtain ⟨i, rfl⟩ : ∃ i : Nat, x1 = i := ⟨x1.toNat, by omega⟩
    obtain ⟨r, rfl⟩ : ∃ r : Nat, x2 = r := ⟨x2.toNat, by omega⟩
    have hr5 : r < 5 := by omega
    have hi4 : i < 4 := by omega
    have hb := hR.2.2.2.2.2 r hr5
    obtain ⟨s1, s2, s3, s4, s5⟩ := hI.2.2.2.2.1 i hi4
    have hr : yy_sh (66 + 2 * i) := by have := yy_sh66 (i := (i : Int)) (by omega) (by omega); rwa [Int.toNat_natCast] at this
    have ei : ((i : Int)).toNat = i := Int.toNat_natCast i
    by_cases g : m 83 i = 0
    · have X1 : xm_X (xm_old sc) xm_mt (99 + 1) 131 [.inr (.inl (some 0)), .inl (i : Int), .inl (r : Int)] (yy_W m t) = some (some (.inl (-1000000002)), yy_W (yy_e m 2) t) := by
        refine xm_X_of (M := xm_m131) rfl ⟨xm_EQ.eq (xb_131_0 ?_), rfl, rfl, Nat.le_of_ble_eq_true rfl, yy_hd rfl (by decide)⟩
        rw [oc_147 (d := 97), zz_t h.1, oc_141 (d := 97) (by omega) (by omega), zz_t h.2, zr_0_9, zq_64, zq_sh (by omega) (by omega), ei, oc_702 (d := 98) hr, zz_t (by rw [s1]; exact g), oc_139 (d := 98) (by decide) (by decide)]
        rfl
      have f : ∀ c, c ≠ 65 → yy_e m 2 c = m c := fun c hc => yy_e75 hc
      have X2 : xm_X (xm_old sc) xm_mt (99 + 1) 1201 [.inr (.inl (some 74)), .inl (i : Int), .inl (r : Int)] (yy_W (yy_e m 2) t) = some (some (.inl (-1000000002)), yy_W (yy_f (yy_e m 2) 2) t) := by
        refine xm_X_of (M := xm_m1201) rfl ⟨xm_EQ.eq (xb_1201_0 ?_), rfl, rfl, Nat.le_of_ble_eq_true rfl, yy_hd rfl (by decide)⟩
        rw [oc_1200 (d := 96) hi4 (by rw [f 75 (by decide)]; omega) (by rw [f 75 (by decide)]; omega), f 83 (by decide), if_pos g, if_pos (by decide), oc_1102 (d := 98) (by decide) (by decide)]
        rfl
      exact yy_Ao X1 X2 (yy_I_ef hI) yy_ef0 rfl
    · obtain ⟨n, hn⟩ : ∃ n : Nat, m 84 i = n := ⟨(m 84 i).toNat, by omega⟩
      have X1 : ∃ m1, xm_X (xm_old sc) xm_mt (99 + 1) 131 [.inr (.inl (some 0)), .inl (i : Int), .inl (r : Int)] (yy_W m t) = some (some (.inl ((sg_wy (m (67 + 2 * i)) r n 0 (m 75)).1 : Int)), yy_W m1 t) ∧ ∃ g', yy_I t g' ∧ (∀ c, c ≠ 75 → m1 c = g' c) ∧ (∀ c, (c < 8 ∨ 18 ≤ c) → m1 c = m c) ∧ g' 75 = (sg_wy (m (67 + 2 * i)) r n 0 (m 75)).2 := by
        have key : ∀ {Q : Option xm_V × xm_W → Prop}, (∀ m1, (∃ g', yy_I t g' ∧ (∀ c, c ≠ 75 → m1 c = g' c) ∧ (∀ c, (c < 8 ∨ 18 ≤ c) → m1 c = m c) ∧ g' 75 = (sg_wy (m (67 + 2 * i)) r n 0 (m 75)).2) → Q (some (.inl ((sg_wy (m (67 + 2 * i)) r n 0 (m 75)).1 : Int)), yy_W m1 t)) → xm_EQ (xm_old sc) xm_sta (xm_X (xm_old sc) xm_mt 99) xm_m131.2.2.2.2.2.2.2 0 (xm_loc xm_m131.2.2.1 [.inr (.inl (some 0)), .inl (i : Int), .inl (r : Int)]) [] (yy_W m t) Q := by
          intro Q hQ
          refine xb_131_0 ?_
          rw [oc_147 (d := 97), zz_t h.1, oc_141 (d := 97) (by omega) (by omega), zz_t h.2, zr_0_9, zq_64, zq_sh (by omega) (by omega), ei, oc_702 (d := 98) hr, zz_f (by rw [s1]; exact g)]
          exact l_131 (d := 98) hi4 hr5 (by omega : n ≤ 24) n 0 m m none (by omega) (by rw [s3, hn]) rfl hI (fun _ _ => rfl) (fun m' g' a b c e => hQ m' ⟨g', a, b, c, e⟩)
        obtain ⟨q, h1, m', h2, h3⟩ := yx_of (y := 131) (M := xm_m131) (sc := sc) (d := 99) (as := [.inr (.inl (some 0)), .inl (i : Int), .inl (r : Int)]) (w := yy_W m t) (Q := fun q => ∃ m1, q = (some (.inl ((sg_wy (m (67 + 2 * i)) r n 0 (m 75)).1 : Int)), yy_W m1 t) ∧ ∃ g', yy_I t g' ∧ (∀ c, c ≠ 75 → m1 c = g' c) ∧ (∀ c, (c < 8 ∨ 18 ≤ c) → m1 c = m c) ∧ g' 75 = (sg_wy (m (67 + 2 * i)) r n 0 (m 75)).2) rfl (key fun m' h => ⟨m', rfl, h⟩) (fun q ⟨m', h, _⟩ => by rw [h]; rfl) rfl (Nat.le_of_ble_eq_true rfl) (yy_hd rfl (by decide))
        exact ⟨m', by rw [h1, h2], h3⟩
      obtain ⟨m1, X1, g', k1, k2, k3, k4⟩ := X1
      have f75 : m1 75 = m 75 := k3 75 (by omega)
      have hc := sg_wy_congr (nu := m (67 + 2 * i)) (nu' := fun j => m1 85 (24 * i + j)) (r := r) n 0 (m 75) (fun j a b => by rw [k3 85 (by omega)]; exact (s5 j (by omega)).1)
      have X2 : xm_X (xm_old sc) xm_mt (99 + 1) 1201 [.inr (.inl (some 74)), .inl (i : Int), .inl (r : Int)] (yy_W m1 t) = some (some (.inl ((sg_wy (m (67 + 2 * i)) r n 0 (m 75)).1 : Int)), yy_W (yy_c m1 75 (sg_wy (m (67 + 2 * i)) r n 0 (m 75)).2) t) := by
        refine xm_X_of (M := xm_m1201) rfl ⟨xm_EQ.eq (xb_1201_0 ?_), rfl, rfl, Nat.le_of_ble_eq_true rfl, yy_hd rfl (by decide)⟩
        rw [oc_1200 (d := 96) hi4 (by rw [f75]; omega) (by rw [f75]; omega), k3 83 (by omega), if_neg g, if_neg (by decide)]
        refine l_1201 (d := 96) (nu := fun j => m1 85 (24 * i + j)) (n := n) hi4 hr5 (by omega) n 0 m1 (by omega) (by rw [k3 84 (by omega)]; exact hn) (fun j _ => rfl) (by rw [f75]; exact b0) (by rw [f75]; omega) (by rw [f75]; exact hb.2.2.2.2.1) ?_
        rw [f75, ← hc]
      have E : yy_c m1 75 (sg_wy (m (67 + 2 * i)) r n 0 (m 75)).2 = g' := by
        funext c
        by_cases c5 : c = 75
        · subst c5; rw [yy_c_eq, k4]
        · rw [yy_c_ne c5]; exact k2 c c5
      exact yy_Ao X1 X2 (by rw [E]; exact k1) (by rw [yy_c_ne (by decide), k3 0 (by omega)]) rfl
  · exact r_131 hI h
