set_option maxRecDepth 20000 in
theorem sg_lv_W {s : Nat → Int} {r : Nat} {w step : Int} (hr : r < 5) (hW : sg_W s r) (hw : 0 ≤ w ∧ w ≤ 3) : sg_W (sg_lv s r w step) (r + 1 : Nat) ∧ ∀ k, (k < 134 ∨ 339 ≤ k) → k ≠ 3 → sg_lv s r w step k = s k := by
  obtain ⟨hR, hO, hS, hT, hT1⟩ := id hW
  obtain ⟨b0, b1, b2, b3, hso, hrd⟩ := id hR
  obtain ⟨a0, a1, a2, a3, a4, a5, a6⟩ := hrd r hr
  have sh := sg_sh_r (s := s) (r := r) (step := step) hw
  have dp := sg_deep_r (k := s (44 + 18 * r)) a1 a3
  unfold sg_lv
  by_cases g1 : sg_sh s r w step = -1 ∨ sg_k s (s (46 + 18 * r)) = 0
  · rw [if_pos g1]
    refine ⟨⟨hR, ⟨fun i hi => ?_, hO.2⟩, hS, hT, hT1⟩, fun k _ _ => rfl⟩
    obtain ⟨x, y⟩ := hO.1 i hi
    exact ⟨x, by omega⟩
  · rw [if_neg g1]
    have A := sg_ap_O (c := s (46 + 18 * r)) (sh := sg_sh s r w step) (dp := sg_dp s r) b3.1 hO b1 a2 (by omega) dp (by omega)
    have S := sg_ap_S (c := s (46 + 18 * r)) (sh := sg_sh s r w step) (dp := sg_dp s r) (r := r) hR hO hS a2
    have e3 := sg_ap_3 (s := s) (c := s (46 + 18 * r)) (sh := sg_sh s r w step) (dp := sg_dp s r) (h := s 1) (r := r)
    have eo : ∀ k, (k < 134 ∨ 339 ≤ k) → k ≠ 3 → sg_ap s (s (46 + 18 * r)) (sg_sh s r w step) (sg_dp s r) (s 1) r k = s k := fun k h1 h2 => sg_ap_o h2 (by omega)
    rw [show ((r : Int) + 1) = ((r + 1 : Nat) : Int) by omega] at A
    by_cases g2 : 40 < s 3 + 1
    · rw [if_pos g2]
      have h41 : sg_ap s (s (46 + 18 * r)) (sg_sh s r w step) (sg_dp s r) (s 1) r 3 = 41 := by omega
      have sh := sg_shift h41 A S
      have eo2 : ∀ k, (k < 134 ∨ 339 ≤ k) → k ≠ 3 → sg_clr (sg_K (sg_ap s (s (46 + 18 * r)) (sg_sh s r w step) (sg_dp s r) (s 1) r) 1 (-1)) (sg_ap s (s (46 + 18 * r)) (sg_sh s r w step) (sg_dp s r) (s 1) r) k = s k := fun k h1 h2 => by
        rw [sh, if_neg h2, if_neg (by omega)]; exact eo k h1 h2
      refine ⟨⟨sg_R_eq (fun k h h' => eo2 k (Or.inl h) h') (by rw [sh, if_pos rfl]; decide) hR, sg_clr_O (by omega) A, sg_clr_S (by omega) A (fun i hi _ => S i hi), sg_T_eq (by decide) (fun k h h' => eo2 k (Or.inr h) (by omega)) hT, sg_T_eq (by decide) (fun k h h' => eo2 k (Or.inr h) (by omega)) hT1⟩, eo2⟩
    · rw [if_neg g2]
      exact ⟨⟨sg_R_eq (fun k h h' => eo k (Or.inl h) h') (by omega) hR, A, S, sg_T_eq (by decide) (fun k h h' => eo k (Or.inr h) (by omega)) hT, sg_T_eq (by decide) (fun k h h' => eo k (Or.inr h) (by omega)) hT1⟩, eo⟩
/-! the riders' numbers alone change -/
set_option maxRecDepth 20000 in
theorem sg_W_rd {s s' : Nat → Int} {r : Int} (h : ∀ k, (k < 44 ∨ 134 ≤ k) → s' k = s k) (hR : sg_R s') (hW : sg_W s r) : sg_W s' r := by
  obtain ⟨-, hO, hS, hT, hT1⟩ := hW
  have e3 : s' 3 = s 3 := h _ (Or.inl (by decide))
  have e1 : s' 1 = s 1 := h _ (Or.inl (by decide))
  have ep : ∀ i w, sg_p s' i w = sg_p s i w := fun i w => h _ (Or.inr (by omega))
  refine ⟨hR, ⟨fun i hi => ?_, fun i j hij hj => ?_⟩, fun i hi => ?_, sg_T_eq (by decide) (fun k h1 _ => h k (Or.inr (by omega))) hT, sg_T_eq (by decide) (fun k h1 _ => h k (Or.inr (by omega))) hT1⟩
  · rw [e3] at hi
    have := hO.1 i hi
    unfold sg_E at this ⊢
    rw [ep, ep, ep, ep, ep, e1]; exact this
  · rw [e3] at hj
    have := hO.2 i j hij hj
    unfold sg_lt at this ⊢
    rw [ep, ep, ep, ep]; exact this
  · rw [e3] at hi
    have := hS i hi
    rw [ep, ep, e1, sg_k_eq (h 2 (Or.inl (by decide))) (h _ (Or.inl (by have := (hO.1 i hi).1.1; omega)))]
    exact this
set_option maxRecDepth 20000 in
theorem sg_next_r {c w : Int} (hc : 0 ≤ c ∧ c ≤ 35) : sp_next c w = -1 ∨ (0 ≤ sp_next c w ∧ sp_next c w ≤ 35) := by
  unfold sp_next
  repeat' split
  all_goals omega
/-! ranges, with one rider's cell and step anew -/
set_option maxRecDepth 20000 in
theorem sg_R_rd {s s' : Nat → Int} {r : Nat} (hr : r < 5) (hR : sg_R s) (h : ∀ k, k < 134 → k ≠ 46 + 18 * r → k ≠ 49 + 18 * r → s' k = s k) (hc : 0 ≤ s' (46 + 18 * r) ∧ s' (46 + 18 * r) ≤ 35) (hs : 0 ≤ s' (49 + 18 * r) ∧ s' (49 + 18 * r) ≤ s (48 + 18 * r)) : sg_R s' := by
  obtain ⟨a0, a1, a2, a3, a4, a5⟩ := hR
  refine ⟨by rw [h 0 (by decide) (by omega) (by omega)]; exact a0, by rw [h 1 (by decide) (by omega) (by omega)]; exact a1, by rw [h 2 (by decide) (by omega) (by omega)]; exact a2, by rw [h 3 (by decide) (by omega) (by omega)]; exact a3, fun k hk => by rw [h _ (by omega) (by omega) (by omega)]; exact a4 k hk, fun i hi => ?_⟩
  obtain ⟨b0, b1, b2, b3, b4, b5, b6⟩ := a5 i hi
  by_cases e : i = r
  · subst e
    rw [h (44 + 18 * i) (by omega) (by omega) (by omega), h (45 + 18 * i) (by omega) (by omega) (by omega), h (47 + 18 * i) (by omega) (by omega) (by omega), h (48 + 18 * i) (by omega) (by omega) (by omega)]
    exact ⟨b0, b1, hc, b3, b4, hs, fun k hk => by rw [h _ (by omega) (by omega) (by omega)]; exact b6 k hk⟩
  · rw [h (44 + 18 * i) (by omega) (by omega) (by omega), h (45 + 18 * i) (by omega) (by omega) (by omega), h (46 + 18 * i) (by omega) (by omega) (by omega), h (47 + 18 * i) (by omega) (by omega) (by omega), h (48 + 18 * i) (by omega) (by omega) (by omega), h (49 + 18 * i) (by omega) (by omega) (by omega)]
    exact ⟨b0, b1, b2, b3, b4, b5, fun k hk => by rw [h _ (by omega) (by omega) (by omega)]; exact b6 k hk⟩
set_option maxRecDepth 20000 in
theorem sg_way_r {s : Nat → Int} {r : Nat} (hr : r < 5) (hR : sg_R s) (h : s (49 + 18 * r) < s (48 + 18 * r)) : 0 ≤ sg_way s r ∧ sg_way s r ≤ 3 := by
  obtain ⟨a0, a1, a2, a3, a4, a5⟩ := hR
  obtain ⟨b0, b1, b2, b3, b4, b5, b6⟩ := a5 r hr
  exact b6 _ (by omega)
set_option maxRecDepth 20000 in
theorem sg_W_mono {s : Nat → Int} {r q : Int} (h : r ≤ q) (hW : sg_W s r) : sg_W s q := by
  obtain ⟨hR, hO, hS, hT⟩ := hW
  refine ⟨hR, ⟨fun i hi => ?_, hO.2⟩, hS, hT⟩
  obtain ⟨x, y⟩ := hO.1 i hi
  exact ⟨x, by omega⟩
set_option maxRecDepth 20000 in
theorem sg_rd_W {s : Nat → Int} {r : Nat} (hr : r < 5) (hW : sg_W s r) (h : s (49 + 18 * r) < s (48 + 18 * r)) : sg_W (sg_rd s r) (r + 1 : Nat) ∧ ∀ k, (k < 134 ∨ 339 ≤ k) → k ≠ 3 → k ≠ 46 + 18 * r → k ≠ 49 + 18 * r → sg_rd s r k = s k := by
  have hR := hW.1
  have hw := sg_way_r hr hR h
  obtain ⟨b0, b1, b2, b3, hso, hrd⟩ := id hR
  obtain ⟨a0, a1, a2, a3, a4, a5, a6⟩ := hrd r hr
  unfold sg_rd
  by_cases e : sp_next (s (46 + 18 * r)) (sg_way s r) = -1
  · rw [if_pos e]
    have hu : ∀ k, k ≠ 49 + 18 * r → yy_u s (49 + 18 * r) (s (49 + 18 * r) + 1) k = s k := fun k hk => yy_u_ne hk
    refine ⟨sg_W_mono (by omega) (sg_W_rd (fun k hk => hu k (by omega)) (sg_R_rd hr hR (fun k _ _ h2 => hu k h2) (by rw [hu _ (by omega)]; exact a2) (by rw [yy_u_eq]; omega)) hW), fun k _ _ _ h4 => hu k h4⟩
  · rw [if_neg e]
    obtain ⟨L, Lo⟩ := sg_lv_W (step := s (49 + 18 * r)) hr hW hw
    have hn := (sg_next_r (w := sg_way s r) a2).resolve_left e
    have hu : ∀ k, k ≠ 46 + 18 * r → k ≠ 49 + 18 * r → yy_u (yy_u (sg_lv s r (sg_way s r) (s (49 + 18 * r))) (46 + 18 * r) (sp_next (s (46 + 18 * r)) (sg_way s r))) (49 + 18 * r) (s (49 + 18 * r) + 1) k = sg_lv s r (sg_way s r) (s (49 + 18 * r)) k := fun k h1 h2 => by rw [yy_u_ne h2, yy_u_ne h1]
    refine ⟨sg_W_rd (fun k hk => hu k (by omega) (by omega)) (sg_R_rd hr L.1 (fun k _ h1 h2 => hu k h1 h2) (by rw [yy_u_ne (by omega), yy_u_eq]; exact hn) (by rw [yy_u_eq, Lo _ (by omega) (by omega)]; omega)) L, fun k h1 h2 h3 h4 => by rw [hu k h3 h4]; exact Lo k h1 h2⟩
set_option maxRecDepth 20000 in
theorem sg_hl_W {st : Int} : ∀ (k r : Nat) (s : Nat → Int), r + k ≤ 5 → sg_W s r → sg_W (sg_hl st k r s) (r + k : Nat) ∧ ∀ q, (q < 44 ∨ 339 ≤ q) → q ≠ 3 → sg_hl st k r s q = s q
  | 0, r, s, _, hW => ⟨hW, fun q _ _ => rfl⟩
  | k + 1, r, s, hk, hW => by
    unfold sg_hl
    by_cases g : (r : Int) ≠ st ∧ s (49 + 18 * r) < s (48 + 18 * r)
    · rw [if_pos g]
      obtain ⟨a, b⟩ := sg_rd_W (by omega) hW g.2
      obtain ⟨c, e⟩ := sg_hl_W (st := st) k (r + 1) (sg_rd s r) (by omega) a
      rw [show r + 1 + k = r + (k + 1) by omega] at c
      exact ⟨c, fun q h1 h2 => by rw [e q h1 h2, b q (by omega) h2 (by omega) (by omega)]⟩
    · rw [if_neg g]
      obtain ⟨c, e⟩ := sg_hl_W (st := st) k (r + 1) s (by omega) (sg_W_mono (by omega) hW)
      rw [show r + 1 + k = r + (k + 1) by omega] at c
      exact ⟨c, e⟩
set_option maxRecDepth 20000 in
theorem sg_h1_B {st : Int} {s : Nat → Int} (hW : sg_W s 0) (h1 : s 1 < 20000) : sg_W (sg_hl st (s 0).toNat 0 s) (s 0) ∧ (∀ q, (q < 44 ∨ 339 ≤ q) → q ≠ 3 → sg_hl st (s 0).toNat 0 s q = s q) ∧ sg_h1 st s 1 = s 1 + 1 ∧ sg_h1 st s 3 = sg_hl st (s 0).toNat 0 s 3 ∧ (∀ q, (q < 44 ∨ 339 ≤ q) → q ≠ 3 → q ≠ 1 → sg_h1 st s q = s q) ∧ sg_O (sg_h1 st s) 0 ∧ (0 ≤ sg_h1 st s 3 ∧ sg_h1 st s 3 ≤ 40) := by
  have hR := hW.1
  obtain ⟨a, b⟩ := sg_hl_W (st := st) (s 0).toNat 0 s (by have := hR.1; omega) hW
  rw [show ((0 + (s 0).toNat : Nat) : Int) = s 0 by have := hR.1; omega] at a
  have e1 : sg_h1 st s 1 = s 1 + 1 := by unfold sg_h1; rw [yy_u_eq, b 1 (Or.inl (by decide)) (by decide)]
  have e3 : sg_h1 st s 3 = sg_hl st (s 0).toNat 0 s 3 := by unfold sg_h1; rw [yy_u_ne (by decide)]
  have ep : ∀ i w, sg_p (sg_h1 st s) i w = sg_p (sg_hl st (s 0).toNat 0 s) i w := fun i w => by unfold sg_p sg_h1; rw [yy_u_ne (by omega)]
  have b1 := b 1 (Or.inl (by decide)) (by decide)
  refine ⟨a, b, e1, e3, fun q h1 h2 h3 => by unfold sg_h1; rw [yy_u_ne h3]; exact b q h1 h2, ⟨fun i hi => ?_, fun i j hij hj => ?_⟩, by rw [e3]; exact a.1.2.2.2.1⟩
  · rw [e3] at hi
    obtain ⟨x, y⟩ := a.2.1.1 i hi
    unfold sg_E at x ⊢
    rw [ep, ep, ep, ep, ep, e1]
    exact ⟨x, by omega⟩
  · rw [e3] at hj
    have := a.2.1.2 i j hij hj
    unfold sg_lt at this ⊢
    rw [ep, ep, ep, ep]; exact this
set_option maxRecDepth 20000 in
theorem sg_hour_W {st : Int} {s : Nat → Int} (hW : sg_W s 0) (h1 : s 1 < 20000) : sg_W (sg_hour st s) 0 ∧ sg_hour st s 1 = s 1 + 1 ∧ ∀ q, (q < 44 ∨ 339 ≤ q) → q ≠ 3 → q ≠ 1 → sg_hour st s q = s q := by
  obtain ⟨a, b, e1, e3, eo, hO, h3⟩ := sg_h1_B (st := st) hW h1
  obtain ⟨hR, hO', hS, hT, hT1⟩ := id hW
  have h3' : 0 ≤ sg_h1 st s 3 ∧ sg_h1 st s 3 ≤ 41 := by omega
  have co : ∀ k, k ≠ 3 → (k < 134 ∨ 339 ≤ k) → sg_hour st s k = sg_h1 st s k := fun k h h' => sg_clr_o h3' h h'
  have R1 : sg_R (sg_h1 st s) := by
    obtain ⟨x0, x1, x2, x3, x4, x5⟩ := a.1
    have eq : ∀ k, k ≠ 1 → sg_h1 st s k = sg_hl st (s 0).toNat 0 s k := fun k hk => by unfold sg_h1; rw [yy_u_ne hk]
    refine ⟨by rw [eq 0 (by decide)]; exact x0, by rw [e1]; have := hR.2.1; omega, by rw [eq 2 (by decide)]; exact x2, h3, fun k hk => by rw [eq _ (by omega)]; exact x4 k hk, fun i hi => ?_⟩
    rw [eq _ (by omega), eq _ (by omega), eq _ (by omega), eq _ (by omega), eq _ (by omega), eq _ (by omega)]
    obtain ⟨b0, b1, b2, b3, b4, b5, b6⟩ := x5 i hi
    exact ⟨b0, b1, b2, b3, b4, b5, fun k hk => by rw [eq _ (by omega)]; exact b6 k hk⟩
  obtain ⟨g, c1, c2, c3⟩ := sg_clr_p (K := sg_K (sg_h1 st s) 0 (-1)) h3'
  refine ⟨⟨sg_R_eq (fun k h h' => co k h' (Or.inl h)) (by unfold sg_hour; omega) R1, sg_clr_O h3' hO, sg_clr_S h3' hO (fun i hi hK => ?_), sg_T_eq (by decide) (fun k h h' => by rw [co k (by omega) (Or.inr h), eo k (Or.inr h) (by omega) (by omega)]) hT, sg_T_eq (by decide) (fun k h h' => by rw [co k (by omega) (Or.inr h), eo k (Or.inr h) (by omega) (by omega)]) hT1⟩, by rw [co 1 (by decide) (Or.inl (by decide)), e1], fun q h1 h2 h3 => by rw [co q h2 (by omega), eo q h1 h2 h3]⟩
  unfold sg_K at hK
  rw [decide_eq_true_iff] at hK
  exact hK.2.2
set_option maxRecDepth 20000 in
theorem sg_go_W {st : Int} : ∀ (n : Nat) (s : Nat → Int), sg_W s 0 → s 1 + n ≤ 20000 → sg_W (sg_go st n s) 0 ∧ sg_go st n s 1 = s 1 + n ∧ ∀ q, (q < 44 ∨ 339 ≤ q) → q ≠ 3 → q ≠ 1 → sg_go st n s q = s q
  | 0, s, hW, _ => ⟨hW, by unfold sg_go; omega, fun q _ _ _ => rfl⟩
  | n + 1, s, hW, h => by
    obtain ⟨a, b, c⟩ := sg_hour_W (st := st) hW (by omega)
    obtain ⟨x, y, z⟩ := sg_go_W (st := st) n (sg_hour st s) a (by omega)
    unfold sg_go
    exact ⟨x, by rw [y, b]; omega, fun q h1 h2 h3 => by rw [z q h1 h2 h3, c q h1 h2 h3]⟩
