set_option maxRecDepth 20000 in
theorem c_1167 {sc : List Int} {d : Nat} {t : xm_W} {m : Nat → Nat → Int} {s : Nat → Int} {c y : Int} (hs : m 75 = s) (hW : sg_W s 0) (hc : 0 ≤ c ∧ c ≤ 35) : ∃ m', xm_X (xm_old sc) xm_mt (d + 5) 1167 [.inr (.inl (some 74)), .inl (c), .inl (y)] (yy_W m t) = some (some (.inl (sg_cf s c y)), yy_W m' t) ∧ ∀ c, c ≠ 80 → c ≠ 81 → m' c = m c := by
  have key : ∀ {Q : Option xm_V × xm_W → Prop}, (∀ m', (∀ c, c ≠ 80 → c ≠ 81 → m' c = m c) → Q (some (.inl (sg_cf s c y)), yy_W m' t)) → xm_EQ (xm_old sc) xm_sta (xm_X (xm_old sc) xm_mt (d + 4)) xm_m1167.2.2.2.2.2.2.2 0 (xm_loc xm_m1167.2.2.1 [.inr (.inl (some 74)), .inl (c), .inl (y)]) [] (yy_W m t) Q := by
    intro Q hQ
    obtain ⟨hR, hO, hS, hT, hT1⟩ := id hW
    obtain ⟨b0, b1, b2, b3, hso, hrd⟩ := id hR
    unfold sg_cf at hQ
    refine xb_1167_0 ?_
    rw [oc_1163 hs b3 hO]
    by_cases g0 : y = 0
    · rw [if_pos g0] at hQ ⊢
      have := hQ m fun _ _ _ => rfl
      simp (disch := first | omega | (unfold xm_w; omega)) only [↓zy_at, xm_O_some, xm_Oi_some, xm_Ov_some, xm_Oq_some, ↓reduceIte, ↓zz_t, ↓zz_f, ↓zi_t, ↓zi_f, eq_self, yy_d_0, Int.reduceEq, Int.reduceLT, Int.reduceLE, Int.reduceNe, Int.reduceToNat, Int.reduceAdd, Int.reduceSub, Int.reduceMul, Int.reduceNeg, Nat.reduceAdd, Nat.reduceMul, Nat.reduceSub, Nat.reduceEqDiff, Nat.reduceLT, ne_eq, not_false_eq_true, not_true_eq_false, true_and, and_true, and_self, yy_s_eq, yy_s_ne, yy_c_eq, yy_c_ne, yy_u_eq, yy_u_ne, xm_w_id, yy_at, tdiv_pos, tmod_pos, ↓zr_74_0, ↓zr_74_1, ↓zr_74_2, ↓zf_74_3, ↓zs_74_3, ↓zf_74_4, ↓zs_74_4, ↓zr_74_5, ↓zf_74_6, ↓zs_74_6, ↓zf_74_7, ↓zs_74_7, ↓zf_74_8, ↓zs_74_8, ↓zf_74_9, ↓zs_74_9, ↓zr_74_10, ↓zr_74_11, ↓zr_74_12, ↓zf_74_13, ↓zs_74_13, ↓zr_74_14, ↓zf_74_15, ↓zs_74_15, ↓zf_74_16, ↓zs_74_16, ↓zf_74_17, ↓zs_74_17, ↓zr_74_18, ↓zr_74_19, ↓zr_74_20, ↓zr_74_21, ↓zi_75, ↓zt_75, hs]
      exact this
    · rw [if_neg g0] at hQ ⊢
      by_cases g1 : y = 1
      · rw [if_pos g1] at hQ ⊢
        rw [oc_1164 hs b3]
        exact hQ m fun _ _ _ => rfl
      · rw [if_neg g1] at hQ ⊢
        by_cases g2 : y = 2
        · rw [if_pos g2] at hQ ⊢
          have := hQ m fun _ _ _ => rfl
          by_cases g : sg_la s c (sg_N s) = -1
          · rw [if_pos g] at this ⊢; exact this
          · obtain ⟨x1, x2, x3⟩ := sg_la_p hO b3.1 g
            rw [if_neg g] at this ⊢
            have el : sg_la s c (sg_N s) = (((sg_la s c (sg_N s)).toNat : Nat) : Int) := by omega
            rw [el, oc_1112_1 (by omega), hs]
            exact this
        · rw [if_neg g2] at hQ ⊢
          by_cases g3 : y = 3
          · rw [if_pos g3] at hQ ⊢
            rw [oc_1165 hs b3]
            exact hQ m fun _ _ _ => rfl
          · rw [if_neg g3] at hQ ⊢
            obtain ⟨m1, e, f1⟩ := c_1166 (sc := sc) (d := d) (t := t) (m := m) hs hW hc
            rw [e, xm_Oi_some]
            exact hQ m1 f1
  obtain ⟨q, h1, m', h2, h3⟩ := yx_of (y := 1167) (M := xm_m1167) (sc := sc) (d := d + 4) (as := [.inr (.inl (some 74)), .inl (c), .inl (y)]) (w := yy_W m t) (Q := fun q => ∃ m', q = (some (.inl (sg_cf s c y)), yy_W m' t) ∧ (∀ c, c ≠ 80 → c ≠ 81 → m' c = m c)) rfl (key fun m' h => ⟨m', rfl, h⟩) (fun q ⟨m', h, _⟩ => by rw [h]; rfl) rfl (Nat.le_of_ble_eq_true rfl) (yy_hd rfl (by decide))
  exact ⟨m', by rw [h1, h2], h3⟩
set_option maxRecDepth 20000 in
theorem c_1144 {sc : List Int} {d : Nat} {t : xm_W} {m : Nat → Nat → Int} {s : Nat → Int} {r : Nat} {y : Int} (hr : r < 5) (hs : m 75 = s) (hR : sg_R s) (hy : 0 ≤ y ∧ y ≤ 19) : xm_X (xm_old sc) xm_mt (d + 3) 1144 [.inr (.inl (some 74)), .inl ((r : Int)), .inl (y)] (yy_W (m) t) = some (some (.inl (sg_rf s r y)), (yy_W (m) t)) := by
  obtain ⟨b0, b1, b2, b3, hso, hrd⟩ := id hR
  obtain ⟨a0, a1, a2, a3, a4, a5, a6⟩ := hrd r hr
  refine xm_X_of (M := xm_m1144) rfl ⟨xm_EQ.eq (xb_1144_0 ?_), rfl, rfl, Nat.le_of_ble_eq_true rfl, yy_hd rfl (by decide)⟩
  unfold sg_rf
  by_cases g7 : 7 < y
  · rw [if_pos g7, if_neg (by omega), if_pos g7, oc_1110_4 hr, hs, xm_w_id (z := y - 8) (by omega) (by omega)]
    by_cases g : y - 8 < s (48 + 18 * r)
    · rw [if_pos g, if_pos g, xm_w_id (z := 6 + y) (by omega) (by omega), show 6 + y - 8 = 6 + (y - 8) by omega, oc_1110_6 hr (by omega), hs]
    · rw [if_neg g, if_neg g]
  · rw [if_neg g7]
    by_cases g6 : y = 6
    · rw [if_pos g6, if_neg (by omega), if_neg g7, if_pos g6, oc_1138 hr (by rw [hs]; exact a1) (by rw [hs]; exact a3), hs]; rfl
    · rw [if_neg g6]
      by_cases g : y = 7
      · rw [if_pos g, if_pos g, oc_1143 hs b3]
      · rw [if_neg g, if_neg g, if_neg g7, if_neg g6, oc_1110 (by omega) (by omega) (by omega) (by omega), hs, show (44 + 18 * (r : Int) + y).toNat = 44 + 18 * r + y.toNat by omega]
set_option maxRecDepth 20000 in
theorem oc_1144 {F : Int → xm_W → Prop} {sc : List Int} {d : Nat} {t : xm_W} {m : Nat → Nat → Int} {s : Nat → Int} {r : Nat} {y : Int} (hr : r < 5) (hs : m 75 = s) (hR : sg_R s) (hy : 0 ≤ y ∧ y ≤ 19) : xm_Oi (xm_X (xm_old sc) xm_mt (d + 3) 1144 [.inr (.inl (some 74)), .inl ((r : Int)), .inl (y)] (yy_W (m) t)) F = F (sg_rf s r y) (yy_W (m) t) := congrArg (fun x => xm_Oi x F) (c_1144 hr hs hR hy)
set_option maxRecDepth 20000 in
theorem l_1169 {sc : List Int} {d : Nat} {t : xm_W} {Q : Option xm_V × xm_W → Prop} {s : Nat → Int} {m0 : Nat → Nat → Int} {c0 bl b2 n : Int} (hb : b2 = if bl = 0 then 1 else 0) (hW : sg_W s 0) (hn : n ≤ 40) : ∀ (k : Nat) (m : Nat → Nat → Int) (at1 to1 st : Int) (u : Option xm_V), n - st = k → 0 ≤ st → 0 ≤ at1 ∧ at1 ≤ 35 → to1 = at1 → m 75 = s → m 74 13 = st → (∀ c, c ≠ 74 → m c = m0 c) → (∀ q, q ≠ 13 → m 74 q = m0 74 q) → (∀ m', (∀ c, c ≠ 74 → m' c = m0 c) → (∀ q, q ≠ 13 → m' 74 q = m0 74 q) → m' 74 13 = (sg_tr s bl k at1 st).2 → Q ((some (.inl ((sg_tr s bl k at1 st).1)), (yy_W (m') t)))) → xm_EQ (xm_old sc) xm_sta (xm_X (xm_old sc) xm_mt (d + 3)) xm_c1169 7 [some (.inr (.inl (some 74))), some (.inl (c0)), some (.inl (b2)), some (.inl (n)), some (.inl (at1)), some (.inl (to1)), u] [] (yy_W (m) t) Q
  | 0, m, at1, to1, st, u, hk, h0, ha, ht, hs, hf, h1, h2, hQ => by
    refine xb_1169_7 ?_
    rw [if_neg (by omega), zf_74_13, hf, if_neg (by omega)]
    exact hQ m h1 h2 hf
  | k + 1, m, at1, to1, st, u, hk, h0, ha, ht, hs, hf, h1, h2, hQ => by
    obtain ⟨hR, hO, hS, hT, hT1⟩ := id hW
    obtain ⟨b0, b1, b2', b3, hso, hrd⟩ := id hR
    have stop : ∀ u, (sg_tr s bl (k + 1) at1 st = (at1, st)) → xm_EQ (xm_old sc) xm_sta (xm_X (xm_old sc) xm_mt (d + 3)) xm_c1169 7 [some (.inr (.inl (some 74))), some (.inl (c0)), some (.inl (b2)), some (.inl (n)), some (.inl (at1)), some (.inl (-1)), u] [] (yy_W (m) t) Q := by
      intro u h
      refine xb_1169_7 ?_
      rw [if_pos rfl]
      rw [h] at hQ
      exact hQ m h1 h2 hf
    refine xb_1169_7 ?_
    rw [if_neg (by omega), zf_74_13, hf, if_pos (by omega), oc_1163 hs b3 hO]
    by_cases g : sg_la s at1 (sg_N s) = -1
    · rw [if_pos g, if_pos rfl]
      exact stop _ (by unfold sg_tr; rw [if_pos g])
    · obtain ⟨x1, x2, x3⟩ := sg_la_p hO b3.1 g
      have sh := x3.2.1
      have el : sg_la s at1 (sg_N s) = (((sg_la s at1 (sg_N s)).toNat : Nat) : Int) := by omega
      have nr : ∀ w, sp_next at1 w = -1 ∨ (0 ≤ sp_next at1 w ∧ sp_next at1 w ≤ 35) := fun w => sg_next_r ha
      have go : ∀ u nx, (sg_tr s bl (k + 1) at1 st = sg_tr s bl k nx (st + 1)) → (0 ≤ nx ∧ nx ≤ 35) → xm_EQ (xm_old sc) xm_sta (xm_X (xm_old sc) xm_mt (d + 3)) xm_c1169 7 [some (.inr (.inl (some 74))), some (.inl (c0)), some (.inl (b2)), some (.inl (n)), some (.inl (nx)), some (.inl (nx)), u] [] (yy_W (yy_s m 74 13 (st + 1)) t) Q := by
        intro u nx e hx
        rw [e] at hQ
        refine l_1169 hb hW hn k _ nx nx (st + 1) u (by omega) (by omega) hx rfl (by rw [yy_s_ne (by decide)]; exact hs) (by rw [yy_s_eq, yy_u_eq]) (fun c hc => by rw [yy_s_ne hc]; exact h1 c hc) (fun q hq => by rw [yy_s_eq, yy_u_ne hq]; exact h2 q hq) hQ
      rw [if_neg g]
      by_cases gb : bl = 0
      · rw [if_pos gb] at hb
        rw [hb, if_neg (by decide)]
        rw [hb] at stop go
        rw [show xm_Oi (xm_X (xm_old sc) xm_mt (d + 3) 1112 [.inr (.inl (some 74)), .inl (sg_la s at1 (sg_N s)), .inl 1] (yy_W m t)) = xm_Oi (xm_X (xm_old sc) xm_mt (d + 3) 1112 [.inr (.inl (some 74)), .inl (((sg_la s at1 (sg_N s)).toNat : Nat) : Int), .inl 1] (yy_W m t)) by rw [← el], oc_1112_1 (by omega), hs, oc_1139 ha.1 (by omega)]
        have := nr (sg_p s (sg_la s at1 (sg_N s)).toNat 1)
        by_cases gn : sp_next at1 (sg_p s (sg_la s at1 (sg_N s)).toNat 1) = -1
        · rw [if_pos gn, gn]
          exact stop _ (by unfold sg_tr; rw [if_neg g, if_pos gb, if_pos gn])
        · rw [if_neg gn, zf_74_13, hf, xm_w_id (by omega) (by omega), zs_74_13]
          refine go _ _ ?_ (by omega)
          show (if sg_la s at1 (sg_N s) = -1 then _ else _) = _
          rw [if_neg g, if_pos gb, if_neg gn]
      · rw [if_neg gb] at hb
        rw [hb, if_pos rfl]
        rw [hb] at stop go
        rw [show xm_Oi (xm_X (xm_old sc) xm_mt (d + 3) 1112 [.inr (.inl (some 74)), .inl (sg_la s at1 (sg_N s)), .inl 1] (yy_W m t)) = xm_Oi (xm_X (xm_old sc) xm_mt (d + 3) 1112 [.inr (.inl (some 74)), .inl (((sg_la s at1 (sg_N s)).toNat : Nat) : Int), .inl 1] (yy_W m t)) by rw [← el], oc_1112_1 (by omega), hs, oc_1133 sh.1 (by omega), oc_1139 ha.1 (by omega)]
        have := nr (sp_back (sg_p s (sg_la s at1 (sg_N s)).toNat 1))
        by_cases gn : sp_next at1 (sp_back (sg_p s (sg_la s at1 (sg_N s)).toNat 1)) = -1
        · rw [if_pos gn, gn]
          exact stop _ (by unfold sg_tr; rw [if_neg g, if_neg gb, if_pos gn])
        · rw [if_neg gn, zf_74_13, hf, xm_w_id (by omega) (by omega), zs_74_13]
          refine go _ _ ?_ (by omega)
          show (if sg_la s at1 (sg_N s) = -1 then _ else _) = _
          rw [if_neg g, if_neg gb, if_neg gn]
set_option maxRecDepth 20000 in
theorem c_1169 {sc : List Int} {d : Nat} {t : xm_W} {m : Nat → Nat → Int} {s : Nat → Int} {c bl b2 n : Int} (hb : b2 = if bl = 0 then 1 else 0) (hs : m 75 = s) (hW : sg_W s 0) (hc : 0 ≤ c ∧ c ≤ 35) (hn : 0 ≤ n ∧ n ≤ 40) : ∃ m', xm_X (xm_old sc) xm_mt (d + 4) 1169 [.inr (.inl (some 74)), .inl (c), .inl (b2), .inl (n)] (yy_W m t) = some (some (.inl ((sg_tr s bl n.toNat c 0).1)), yy_W m' t) ∧ (∀ c, c ≠ 74 → m' c = m c) ∧ (∀ q, q ≠ 13 → m' 74 q = m 74 q) ∧ m' 74 13 = (sg_tr s bl n.toNat c 0).2 := by
  have key : ∀ {Q : Option xm_V × xm_W → Prop}, (∀ m', ((∀ c, c ≠ 74 → m' c = m c) ∧ (∀ q, q ≠ 13 → m' 74 q = m 74 q) ∧ m' 74 13 = (sg_tr s bl n.toNat c 0).2) → Q (some (.inl ((sg_tr s bl n.toNat c 0).1)), yy_W m' t)) → xm_EQ (xm_old sc) xm_sta (xm_X (xm_old sc) xm_mt (d + 3)) xm_m1169.2.2.2.2.2.2.2 0 (xm_loc xm_m1169.2.2.1 [.inr (.inl (some 74)), .inl (c), .inl (b2), .inl (n)]) [] (yy_W m t) Q := by
    intro Q hQ
    refine xb_1169_0 ?_
    rw [zs_74_13]
    exact l_1169 (d := d) (m0 := m) hb hW hn.2 n.toNat _ c c 0 none (by omega) (by decide) hc rfl (by rw [yy_s_ne (by decide)]; exact hs) (by rw [yy_s_eq, yy_u_eq]) (fun c hc => yy_s_ne hc) (fun q hq => by rw [yy_s_eq, yy_u_ne hq]) (fun m' h1 h2 h3 => hQ m' ⟨h1, h2, h3⟩)
  obtain ⟨q, h1, m', h2, h3⟩ := yx_of (y := 1169) (M := xm_m1169) (sc := sc) (d := d + 3) (as := [.inr (.inl (some 74)), .inl (c), .inl (b2), .inl (n)]) (w := yy_W m t) (Q := fun q => ∃ m', q = (some (.inl ((sg_tr s bl n.toNat c 0).1)), yy_W m' t) ∧ ((∀ c, c ≠ 74 → m' c = m c) ∧ (∀ q, q ≠ 13 → m' 74 q = m 74 q) ∧ m' 74 13 = (sg_tr s bl n.toNat c 0).2)) rfl (key fun m' h => ⟨m', rfl, h⟩) (fun q ⟨m', h, _⟩ => by rw [h]; rfl) rfl (Nat.le_of_ble_eq_true rfl) (yy_hd rfl (by decide))
  exact ⟨m', by rw [h1, h2], h3⟩
