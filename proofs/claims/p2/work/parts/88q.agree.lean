/-! ROWS that are alike but for one rider's step -/
def sg_ag (p : Nat) (s s' : Nat → Int) : Prop := ∀ k, k ≠ p → s' k = s k
set_option maxRecDepth 20000 in
theorem sg_ag_u {p k : Nat} {v : Int} {s s' : Nat → Int} (h : sg_ag p s s') : sg_ag p (yy_u s k v) (yy_u s' k v) := fun q hq => by
  by_cases e : q = k
  · subst e; rw [yy_u_eq, yy_u_eq]
  · rw [yy_u_ne e, yy_u_ne e]; exact h q hq
set_option maxRecDepth 20000 in
theorem sg_ag_k {r : Nat} {c : Int} {s s' : Nat → Int} (h : sg_ag (49 + 18 * r) s s') (hc : 0 ≤ c ∧ c ≤ 35) : sg_k s' c = sg_k s c := sg_k_eq (h 2 (by omega)) (h _ (by omega))
set_option maxRecDepth 20000 in
theorem sg_ag_p {r i w : Nat} {s s' : Nat → Int} (hr : r < 5) (h : sg_ag (49 + 18 * r) s s') : sg_p s' i w = sg_p s i w := h _ (by omega)
set_option maxRecDepth 20000 in
theorem sg_ag_ap {r : Nat} {c sh dp hh q : Int} {s s' : Nat → Int} (h : sg_ag (49 + 18 * r) s s') : sg_ag (49 + 18 * r) (sg_ap s c sh dp hh q) (sg_ap s' c sh dp hh q) := by
  unfold sg_ap
  rw [h 3 (by omega)]
  exact sg_ag_u (sg_ag_u (sg_ag_u (sg_ag_u (sg_ag_u (sg_ag_u h)))))
set_option maxRecDepth 20000 in
theorem sg_ag_c5 {r i l : Nat} {s s' : Nat → Int} (hr : r < 5) (hl : l ≤ i) (h : sg_ag (49 + 18 * r) s s') : sg_ag (49 + 18 * r) (sg_c5 s i l) (sg_c5 s' i l) := fun k hk => by
  unfold sg_c5
  by_cases e : 134 + 5 * l ≤ k ∧ k < 134 + 5 * l + 5
  · rw [if_pos e, if_pos e]; exact h _ (by omega)
  · rw [if_neg e, if_neg e]; exact h k hk
set_option maxRecDepth 20000 in
theorem sg_ag_cl {K : Nat → Bool} {r : Nat} (hr : r < 5) : ∀ (n i l : Nat) (s s' : Nat → Int), l ≤ i → sg_ag (49 + 18 * r) s s' → sg_ag (49 + 18 * r) (sg_cl K n i l s).1 (sg_cl K n i l s').1 ∧ (sg_cl K n i l s').2 = (sg_cl K n i l s).2
  | 0, i, l, s, s', _, h => ⟨h, rfl⟩
  | n + 1, i, l, s, s', hl, h => by
    rw [sg_cl_s, sg_cl_s]
    by_cases e : K i = true
    · rw [if_pos e, if_pos e]; exact sg_ag_cl hr n (i + 1) (l + 1) _ _ (by omega) (sg_ag_c5 hr hl h)
    · rw [if_neg e, if_neg e]; exact sg_ag_cl hr n (i + 1) l _ _ (by omega) h
set_option maxRecDepth 20000 in
theorem sg_ag_clr {K K' : Nat → Bool} {r : Nat} {s s' : Nat → Int} (hr : r < 5) (h3 : 0 ≤ s 3) (h : sg_ag (49 + 18 * r) s s') (hK : ∀ j : Nat, (j : Int) < s 3 → K j = K' j) : sg_ag (49 + 18 * r) (sg_clr K s) (sg_clr K' s') := by
  rw [sg_clr_congr h3 hK]
  unfold sg_clr
  rw [h 3 (by omega)]
  obtain ⟨a, b⟩ := sg_ag_cl (K := K') hr (s 3).toNat 0 0 s s' (Nat.le_refl _) h
  rw [b]
  exact sg_ag_u a
set_option maxRecDepth 20000 in
theorem sg_ag_K {r : Nat} {o c : Int} {s s' : Nat → Int} (hr : r < 5) (hB : sg_B s) (h : sg_ag (49 + 18 * r) s s') : ∀ j : Nat, (j : Int) < s 3 → sg_K s o c j = sg_K s' o c j := fun j hj => by
  unfold sg_K
  rw [sg_ag_p hr h, sg_ag_p hr h, h 1 (by omega), sg_ag_k h (hB.2.2 j hj).1]
set_option maxRecDepth 20000 in
theorem sg_rn_s {s s' : Nat → Int} {u : Nat} {nm : Int → Int} (h : ∀ k, 339 ≤ k → s' k = s k) : ∀ k, sg_rn s' u nm k = sg_rn s u nm k
  | 0 => rfl
  | k + 1 => by
    show sg_st nm (sg_tw s' u k) (sg_tv s' u k) (sg_rn s' u nm k).1 (sg_rn s' u nm k).2 = sg_st nm (sg_tw s u k) (sg_tv s u k) (sg_rn s u nm k).1 (sg_rn s u nm k).2
    rw [sg_rn_s h k, show sg_tw s' u k = sg_tw s u k from h _ (by omega), show sg_tv s' u k = sg_tv s u k from h _ (by omega)]
set_option maxRecDepth 20000 in
theorem sg_val_s {s s' : Nat → Int} {u : Nat} {nm : Int → Int} (h : ∀ k, 339 ≤ k → s' k = s k) : sg_val s' u nm = sg_val s u nm := by
  unfold sg_val
  rw [show sg_tn s' u = sg_tn s u from h _ (by omega), sg_rn_s h]
set_option maxRecDepth 20000 in
theorem sg_ag_sh {r i : Nat} {w step : Int} {s s' : Nat → Int} (hr : r < 5) (hi : i < 5) (hR : sg_R s) (h : sg_ag (49 + 18 * r) s s') : sg_sh s' i w step = sg_sh s i w step := by
  have c := (hR.2.2.2.2.2 i hi).2.2.1
  have e : sg_told s' i w step = sg_told s i w step := by
    unfold sg_told
    rw [show sg_tn s' 0 = sg_tn s 0 from h _ (by omega), sg_val_s (fun k hk => h k (by omega)), h (45 + 18 * i) (by omega), h (46 + 18 * i) (by omega), h (8 + s (46 + 18 * i)).toNat (by omega)]
  unfold sg_sh
  rw [e, h (44 + 18 * i) (by omega)]
set_option maxRecDepth 20000 in
theorem sg_ag_dp {r i : Nat} {s s' : Nat → Int} (h : sg_ag (49 + 18 * r) s s') : sg_dp s' i = sg_dp s i := by
  unfold sg_dp
  rw [h (44 + 18 * i) (by omega), h (45 + 18 * i) (by omega), h (47 + 18 * i) (by omega)]
set_option maxRecDepth 20000 in
theorem sg_ag_lv {r i : Nat} {w step q : Int} {s s' : Nat → Int} (hr : r < 5) (hi : i < 5) (hW : sg_W s q) (h : sg_ag (49 + 18 * r) s s') : sg_ag (49 + 18 * r) (sg_lv s i w step) (sg_lv s' i w step) := by
  have c := (hW.1.2.2.2.2.2 i hi).2.2.1
  unfold sg_lv
  rw [sg_ag_sh hr hi hW.1 h, h (46 + 18 * i) (by omega), sg_ag_k h c, h 3 (by omega), sg_ag_dp h, h 1 (by omega)]
  by_cases g1 : sg_sh s i w step = -1 ∨ sg_k s (s (46 + 18 * i)) = 0
  · rw [if_pos g1, if_pos g1]; exact h
  · rw [if_neg g1, if_neg g1]
    by_cases g2 : 40 < s 3 + 1
    · rw [if_pos g2, if_pos g2]
      have hB := sg_ap_B (sh := sg_sh s i w step) (dp := sg_dp s i) (r := i) hW c hW.1.2.1
      exact sg_ag_clr hr hB.2.1.1 (sg_ag_ap h) (sg_ag_K hr hB (sg_ag_ap h))
    · rw [if_neg g2, if_neg g2]; exact sg_ag_ap h
set_option maxRecDepth 20000 in
theorem sg_ag_rd {r i : Nat} {q : Int} {s s' : Nat → Int} (hr : r < 5) (hi : i < 5) (hn : i ≠ r) (hW : sg_W s q) (hs : s (49 + 18 * i) < s (48 + 18 * i)) (h : sg_ag (49 + 18 * r) s s') : sg_ag (49 + 18 * r) (sg_rd s i) (sg_rd s' i) := by
  obtain ⟨b0, b1, b2, b3, b4, b5, b6⟩ := hW.1.2.2.2.2.2 i hi
  have e : sg_way s' i = sg_way s i := by
    unfold sg_way
    rw [h (49 + 18 * i) (by omega), h _ (by omega)]
  unfold sg_rd
  rw [e, h (46 + 18 * i) (by omega), h (49 + 18 * i) (by omega)]
  by_cases g : sp_next (s (46 + 18 * i)) (sg_way s i) = -1
  · rw [if_pos g, if_pos g]; exact sg_ag_u h
  · rw [if_neg g, if_neg g]; exact sg_ag_u (sg_ag_u (sg_ag_lv hr hi hW h))
set_option maxRecDepth 20000 in
theorem sg_ag_hl {r : Nat} (hr : r < 5) : ∀ (k i : Nat) (s s' : Nat → Int), i + k ≤ 5 → sg_W s i → sg_W s' i → sg_ag (49 + 18 * r) s s' → s' (49 + 18 * r) = s' (48 + 18 * r) → sg_ag (49 + 18 * r) (sg_hl r k i s) (sg_hl (-1) k i s') ∧ sg_hl (-1) k i s' (49 + 18 * r) = sg_hl (-1) k i s' (48 + 18 * r)
  | 0, i, s, s', _, _, _, h, hp => ⟨h, hp⟩
  | k + 1, i, s, s', hk, hW, hW', h, hp => by
    rw [sg_hl_s, sg_hl_s]
    by_cases e : i = r
    · subst e
      rw [if_neg (fun x => x.1 rfl), if_neg (fun x => by omega)]
      exact sg_ag_hl hr k (i + 1) s s' (by omega) (sg_W_mono (by omega) hW) (sg_W_mono (by omega) hW') h hp
    · have a1 := h (49 + 18 * i) (by omega)
      have a2 := h (48 + 18 * i) (by omega)
      by_cases g : s (49 + 18 * i) < s (48 + 18 * i)
      · rw [if_pos ⟨by omega, g⟩, if_pos ⟨by omega, by omega⟩]
        obtain ⟨w1, w2⟩ := sg_rd_W (by omega) hW g
        obtain ⟨w3, w4⟩ := sg_rd_W (s := s') (r := i) (by omega) hW' (by omega)
        exact sg_ag_hl hr k (i + 1) _ _ (by omega) w1 w3 (sg_ag_rd hr (by omega) e hW g h) (by rw [w4 _ (by omega) (by omega) (by omega) (by omega), w4 _ (by omega) (by omega) (by omega) (by omega)]; exact hp)
      · rw [if_neg (fun x => g x.2), if_neg (fun x => by omega)]
        exact sg_ag_hl hr k (i + 1) s s' (by omega) (sg_W_mono (by omega) hW) (sg_W_mono (by omega) hW') h hp
set_option maxRecDepth 20000 in
theorem sg_h1_B2 {st : Int} {s : Nat → Int} (hW : sg_W s 0) (h1 : s 1 < 20000) : sg_B (sg_h1 st s) := by
  obtain ⟨x1, x2, x3, x4, x5, x6, x7⟩ := sg_h1_B (st := st) hW h1
  refine ⟨?_, by omega, fun i hi => ⟨(x6.1 i hi).1.1, (x6.1 i hi).1.2.2.2.1⟩⟩
  rw [x5 2 (Or.inl (by decide)) (by decide) (by decide)]
  exact hW.1.2.2.1
set_option maxRecDepth 20000 in
theorem sg_ag_hour {r : Nat} {s s' : Nat → Int} (hr : r < 5) (hW : sg_W s 0) (hW' : sg_W s' 0) (h1 : s 1 < 20000) (h : sg_ag (49 + 18 * r) s s') (hp : s' (49 + 18 * r) = s' (48 + 18 * r)) : sg_ag (49 + 18 * r) (sg_hour r s) (sg_hour (-1) s') ∧ sg_hour (-1) s' (49 + 18 * r) = sg_hour (-1) s' (48 + 18 * r) := by
  have b0 := hW.1.1
  have e0 := h 0 (by omega)
  have e1 := h 1 (by omega)
  obtain ⟨a1, a2⟩ := sg_ag_hl hr (s 0).toNat 0 s s' (by omega) hW hW' h hp
  have h1' : sg_ag (49 + 18 * r) (sg_h1 r s) (sg_h1 (-1) s') := by
    unfold sg_h1
    rw [e0, a1 1 (by omega)]
    exact sg_ag_u a1
  have hB := sg_h1_B2 (st := r) hW h1
  have hB' := sg_h1_B2 (st := -1) hW' (by omega)
  refine ⟨sg_ag_clr hr hB.2.1.1 h1' (sg_ag_K hr hB h1'), ?_⟩
  have q : ∀ k, k ≠ 3 → k ≠ 1 → k < 134 → sg_hour (-1) s' k = sg_hl (-1) (s 0).toNat 0 s' k := fun k k3 k1 k4 => by
    unfold sg_hour
    rw [sg_clr_o hB'.2.1 k3 (Or.inl k4)]
    unfold sg_h1
    rw [yy_u_ne k1, e0]
  rw [q _ (by omega) (by omega) (by omega), q _ (by omega) (by omega) (by omega)]
  exact a2
set_option maxRecDepth 20000 in
theorem sg_ag_go {r : Nat} (hr : r < 5) : ∀ (n : Nat) (s s' : Nat → Int), sg_W s 0 → sg_W s' 0 → s 1 + n ≤ 20000 → sg_ag (49 + 18 * r) s s' → s' (49 + 18 * r) = s' (48 + 18 * r) → sg_ag (49 + 18 * r) (sg_go r n s) (sg_go (-1) n s')
  | 0, s, s', _, _, _, h, _ => h
  | n + 1, s, s', hW, hW', h1, h, hp => by
    obtain ⟨a, b⟩ := sg_ag_hour hr hW hW' (by omega) h hp
    obtain ⟨w1, w2, w3⟩ := sg_hour_W (st := r) hW (by omega)
    obtain ⟨w4, w5, w6⟩ := sg_hour_W (st := -1) hW' (by have := h 1 (by omega); omega)
    exact sg_ag_go hr n _ _ w1 w4 (by rw [w2]; omega) a b
set_option maxRecDepth 20000 in
theorem sg_ag_la {r : Nat} {c : Int} {s s' : Nat → Int} (hr : r < 5) (h : sg_ag (49 + 18 * r) s s') : ∀ n, sg_la s' c n = sg_la s c n
  | 0 => rfl
  | n + 1 => by
    show (if sg_p s' n 0 = c then (n : Int) else sg_la s' c n) = (if sg_p s n 0 = c then (n : Int) else sg_la s c n)
    rw [sg_ag_la hr h n, sg_ag_p hr h]
set_option maxRecDepth 20000 in
theorem sg_ag_tr {r : Nat} {bl : Int} {s s' : Nat → Int} (hr : r < 5) (h : sg_ag (49 + 18 * r) s s') : ∀ (k : Nat) (a b : Int), sg_tr s' bl k a b = sg_tr s bl k a b
  | 0, a, b => rfl
  | k + 1, a, b => by
    have eN : sg_N s' = sg_N s := by unfold sg_N; rw [h 3 (by omega)]
    unfold sg_tr
    rw [eN, sg_ag_la hr h, sg_ag_p hr h, sg_ag_tr hr h k]
