set_option maxRecDepth 20000 in
theorem sg_rn_congr {s : Nat → Int} {u : Nat} {nm nm' : Int → Int} (h : sg_T s u) (hn : ∀ v, sg_nm u v → nm v = nm' v) : ∀ k : Nat, (k : Int) ≤ sg_tn s u → sg_rn s u nm k = sg_rn s u nm' k
  | 0, _ => rfl
  | k + 1, hk => by
    unfold sg_rn
    rw [sg_rn_congr h hn k (by omega)]
    rcases h.2.2 k (by omega) with ⟨a, _⟩ | ⟨a, b⟩ | ⟨a, _⟩ | ⟨a, _⟩
    · rw [a]; rfl
    · rw [a]
      show (yy_u _ _ (nm _), _) = (yy_u _ _ (nm' _), _)
      rw [hn _ b]
    · rw [a]; rfl
    · rw [a]; rfl
set_option maxRecDepth 20000 in
theorem sg_val_congr {s : Nat → Int} {u : Nat} {nm nm' : Int → Int} (h : sg_T s u) (hn : ∀ v, sg_nm u v → nm v = nm' v) : sg_val s u nm = sg_val s u nm' := by
  unfold sg_val
  rw [sg_rn_congr h hn _ (by have := h.1; omega)]
def sg_s4 (v : Int) : Int := if v < 0 then -1 else v % 4
def sg_nmS (w step mm g : Int) : Int → Int := fun v => if v = 119 then w else if v = 115 then step else if v = 109 then mm else g
def sg_told (s : Nat → Int) (r : Nat) (w step : Int) : Int := if 0 < sg_tn s 0 then sg_s4 (sg_val s 0 (sg_nmS w step (s (45 + 18 * r)) (s (8 + s (46 + 18 * r)).toNat))) else sg_s4 (w + s (45 + 18 * r))
def sg_sh (s : Nat → Int) (r : Nat) (w step : Int) : Int := if s (44 + 18 * r) = 6 then sg_told s r w step else sp_shown (s (44 + 18 * r)) w step
set_option maxRecDepth 20000 in
theorem sg_s4_r (v : Int) : -1 ≤ sg_s4 v ∧ sg_s4 v ≤ 3 := by unfold sg_s4; split <;> omega
set_option maxRecDepth 20000 in
theorem sg_sh_r {s : Nat → Int} {r : Nat} {w step : Int} (hw : 0 ≤ w ∧ w ≤ 3) : -1 ≤ sg_sh s r w step ∧ sg_sh s r w step ≤ 3 := by
  unfold sg_sh sg_told
  split
  · split
    · exact sg_s4_r _
    · exact sg_s4_r _
  · unfold sp_shown sp_lame sp_back
    repeat' split
    all_goals omega
set_option maxRecDepth 20000 in
theorem c_1110_0 {sc : List Int} {d : Nat} {t : xm_W} {m : Nat → Nat → Int} {r : Nat} (h : r < 5) : xm_X (xm_old sc) xm_mt (d + 1) 1110 [.inr (.inl (some 74)), .inl ((r : Int)), .inl (0)] (yy_W (m) t) = some (some (.inl (m 75 (44 + 18 * r))), (yy_W (m) t)) := by
  rw [c_1110 (by omega) (by omega) (by decide) (by decide), show (44 + 18 * (r : Int) + 0).toNat = 44 + 18 * r by omega]
set_option maxRecDepth 20000 in
theorem oc_1110_0 {F : Int → xm_W → Prop} {sc : List Int} {d : Nat} {t : xm_W} {m : Nat → Nat → Int} {r : Nat} (h : r < 5) : xm_Oi (xm_X (xm_old sc) xm_mt (d + 1) 1110 [.inr (.inl (some 74)), .inl ((r : Int)), .inl (0)] (yy_W (m) t)) F = F (m 75 (44 + 18 * r)) (yy_W (m) t) := congrArg (fun x => xm_Oi x F) (c_1110_0 h)
set_option maxRecDepth 20000 in
theorem c_1111_0 {sc : List Int} {d : Nat} {t : xm_W} {m : Nat → Nat → Int} {r : Nat} {v : Int} (h : r < 5) : xm_X (xm_old sc) xm_mt (d + 1) 1111 [.inr (.inl (some 74)), .inl ((r : Int)), .inl (0), .inl (v)] (yy_W (m) t) = some (none, (yy_W (yy_c m 75 (yy_u (m 75) (44 + 18 * r) v)) t)) := by
  rw [c_1111 (by omega) (by omega) (by decide) (by decide), show (44 + 18 * (r : Int) + 0).toNat = 44 + 18 * r by omega]; rfl
set_option maxRecDepth 20000 in
theorem oc_1111_0 {F : xm_W → Prop} {sc : List Int} {d : Nat} {t : xm_W} {m : Nat → Nat → Int} {r : Nat} {v : Int} (h : r < 5) : xm_Ov (xm_X (xm_old sc) xm_mt (d + 1) 1111 [.inr (.inl (some 74)), .inl ((r : Int)), .inl (0), .inl (v)] (yy_W (m) t)) F = F (yy_W (yy_c m 75 (yy_u (m 75) (44 + 18 * r) v)) t) := congrArg (fun x => xm_Ov x F) (c_1111_0 h)
set_option maxRecDepth 20000 in
theorem c_1110_1 {sc : List Int} {d : Nat} {t : xm_W} {m : Nat → Nat → Int} {r : Nat} (h : r < 5) : xm_X (xm_old sc) xm_mt (d + 1) 1110 [.inr (.inl (some 74)), .inl ((r : Int)), .inl (1)] (yy_W (m) t) = some (some (.inl (m 75 (45 + 18 * r))), (yy_W (m) t)) := by
  rw [c_1110 (by omega) (by omega) (by decide) (by decide), show (44 + 18 * (r : Int) + 1).toNat = 45 + 18 * r by omega]
set_option maxRecDepth 20000 in
theorem oc_1110_1 {F : Int → xm_W → Prop} {sc : List Int} {d : Nat} {t : xm_W} {m : Nat → Nat → Int} {r : Nat} (h : r < 5) : xm_Oi (xm_X (xm_old sc) xm_mt (d + 1) 1110 [.inr (.inl (some 74)), .inl ((r : Int)), .inl (1)] (yy_W (m) t)) F = F (m 75 (45 + 18 * r)) (yy_W (m) t) := congrArg (fun x => xm_Oi x F) (c_1110_1 h)
set_option maxRecDepth 20000 in
theorem c_1111_1 {sc : List Int} {d : Nat} {t : xm_W} {m : Nat → Nat → Int} {r : Nat} {v : Int} (h : r < 5) : xm_X (xm_old sc) xm_mt (d + 1) 1111 [.inr (.inl (some 74)), .inl ((r : Int)), .inl (1), .inl (v)] (yy_W (m) t) = some (none, (yy_W (yy_c m 75 (yy_u (m 75) (45 + 18 * r) v)) t)) := by
  rw [c_1111 (by omega) (by omega) (by decide) (by decide), show (44 + 18 * (r : Int) + 1).toNat = 45 + 18 * r by omega]; rfl
set_option maxRecDepth 20000 in
theorem oc_1111_1 {F : xm_W → Prop} {sc : List Int} {d : Nat} {t : xm_W} {m : Nat → Nat → Int} {r : Nat} {v : Int} (h : r < 5) : xm_Ov (xm_X (xm_old sc) xm_mt (d + 1) 1111 [.inr (.inl (some 74)), .inl ((r : Int)), .inl (1), .inl (v)] (yy_W (m) t)) F = F (yy_W (yy_c m 75 (yy_u (m 75) (45 + 18 * r) v)) t) := congrArg (fun x => xm_Ov x F) (c_1111_1 h)
set_option maxRecDepth 20000 in
theorem c_1110_2 {sc : List Int} {d : Nat} {t : xm_W} {m : Nat → Nat → Int} {r : Nat} (h : r < 5) : xm_X (xm_old sc) xm_mt (d + 1) 1110 [.inr (.inl (some 74)), .inl ((r : Int)), .inl (2)] (yy_W (m) t) = some (some (.inl (m 75 (46 + 18 * r))), (yy_W (m) t)) := by
  rw [c_1110 (by omega) (by omega) (by decide) (by decide), show (44 + 18 * (r : Int) + 2).toNat = 46 + 18 * r by omega]
set_option maxRecDepth 20000 in
theorem oc_1110_2 {F : Int → xm_W → Prop} {sc : List Int} {d : Nat} {t : xm_W} {m : Nat → Nat → Int} {r : Nat} (h : r < 5) : xm_Oi (xm_X (xm_old sc) xm_mt (d + 1) 1110 [.inr (.inl (some 74)), .inl ((r : Int)), .inl (2)] (yy_W (m) t)) F = F (m 75 (46 + 18 * r)) (yy_W (m) t) := congrArg (fun x => xm_Oi x F) (c_1110_2 h)
set_option maxRecDepth 20000 in
theorem c_1111_2 {sc : List Int} {d : Nat} {t : xm_W} {m : Nat → Nat → Int} {r : Nat} {v : Int} (h : r < 5) : xm_X (xm_old sc) xm_mt (d + 1) 1111 [.inr (.inl (some 74)), .inl ((r : Int)), .inl (2), .inl (v)] (yy_W (m) t) = some (none, (yy_W (yy_c m 75 (yy_u (m 75) (46 + 18 * r) v)) t)) := by
  rw [c_1111 (by omega) (by omega) (by decide) (by decide), show (44 + 18 * (r : Int) + 2).toNat = 46 + 18 * r by omega]; rfl
set_option maxRecDepth 20000 in
theorem oc_1111_2 {F : xm_W → Prop} {sc : List Int} {d : Nat} {t : xm_W} {m : Nat → Nat → Int} {r : Nat} {v : Int} (h : r < 5) : xm_Ov (xm_X (xm_old sc) xm_mt (d + 1) 1111 [.inr (.inl (some 74)), .inl ((r : Int)), .inl (2), .inl (v)] (yy_W (m) t)) F = F (yy_W (yy_c m 75 (yy_u (m 75) (46 + 18 * r) v)) t) := congrArg (fun x => xm_Ov x F) (c_1111_2 h)
set_option maxRecDepth 20000 in
theorem c_1110_3 {sc : List Int} {d : Nat} {t : xm_W} {m : Nat → Nat → Int} {r : Nat} (h : r < 5) : xm_X (xm_old sc) xm_mt (d + 1) 1110 [.inr (.inl (some 74)), .inl ((r : Int)), .inl (3)] (yy_W (m) t) = some (some (.inl (m 75 (47 + 18 * r))), (yy_W (m) t)) := by
  rw [c_1110 (by omega) (by omega) (by decide) (by decide), show (44 + 18 * (r : Int) + 3).toNat = 47 + 18 * r by omega]
set_option maxRecDepth 20000 in
theorem oc_1110_3 {F : Int → xm_W → Prop} {sc : List Int} {d : Nat} {t : xm_W} {m : Nat → Nat → Int} {r : Nat} (h : r < 5) : xm_Oi (xm_X (xm_old sc) xm_mt (d + 1) 1110 [.inr (.inl (some 74)), .inl ((r : Int)), .inl (3)] (yy_W (m) t)) F = F (m 75 (47 + 18 * r)) (yy_W (m) t) := congrArg (fun x => xm_Oi x F) (c_1110_3 h)
set_option maxRecDepth 20000 in
theorem c_1111_3 {sc : List Int} {d : Nat} {t : xm_W} {m : Nat → Nat → Int} {r : Nat} {v : Int} (h : r < 5) : xm_X (xm_old sc) xm_mt (d + 1) 1111 [.inr (.inl (some 74)), .inl ((r : Int)), .inl (3), .inl (v)] (yy_W (m) t) = some (none, (yy_W (yy_c m 75 (yy_u (m 75) (47 + 18 * r) v)) t)) := by
  rw [c_1111 (by omega) (by omega) (by decide) (by decide), show (44 + 18 * (r : Int) + 3).toNat = 47 + 18 * r by omega]; rfl
set_option maxRecDepth 20000 in
theorem oc_1111_3 {F : xm_W → Prop} {sc : List Int} {d : Nat} {t : xm_W} {m : Nat → Nat → Int} {r : Nat} {v : Int} (h : r < 5) : xm_Ov (xm_X (xm_old sc) xm_mt (d + 1) 1111 [.inr (.inl (some 74)), .inl ((r : Int)), .inl (3), .inl (v)] (yy_W (m) t)) F = F (yy_W (yy_c m 75 (yy_u (m 75) (47 + 18 * r) v)) t) := congrArg (fun x => xm_Ov x F) (c_1111_3 h)
set_option maxRecDepth 20000 in
theorem c_1110_4 {sc : List Int} {d : Nat} {t : xm_W} {m : Nat → Nat → Int} {r : Nat} (h : r < 5) : xm_X (xm_old sc) xm_mt (d + 1) 1110 [.inr (.inl (some 74)), .inl ((r : Int)), .inl (4)] (yy_W (m) t) = some (some (.inl (m 75 (48 + 18 * r))), (yy_W (m) t)) := by
  rw [c_1110 (by omega) (by omega) (by decide) (by decide), show (44 + 18 * (r : Int) + 4).toNat = 48 + 18 * r by omega]
set_option maxRecDepth 20000 in
theorem oc_1110_4 {F : Int → xm_W → Prop} {sc : List Int} {d : Nat} {t : xm_W} {m : Nat → Nat → Int} {r : Nat} (h : r < 5) : xm_Oi (xm_X (xm_old sc) xm_mt (d + 1) 1110 [.inr (.inl (some 74)), .inl ((r : Int)), .inl (4)] (yy_W (m) t)) F = F (m 75 (48 + 18 * r)) (yy_W (m) t) := congrArg (fun x => xm_Oi x F) (c_1110_4 h)
set_option maxRecDepth 20000 in
theorem c_1111_4 {sc : List Int} {d : Nat} {t : xm_W} {m : Nat → Nat → Int} {r : Nat} {v : Int} (h : r < 5) : xm_X (xm_old sc) xm_mt (d + 1) 1111 [.inr (.inl (some 74)), .inl ((r : Int)), .inl (4), .inl (v)] (yy_W (m) t) = some (none, (yy_W (yy_c m 75 (yy_u (m 75) (48 + 18 * r) v)) t)) := by
  rw [c_1111 (by omega) (by omega) (by decide) (by decide), show (44 + 18 * (r : Int) + 4).toNat = 48 + 18 * r by omega]; rfl
set_option maxRecDepth 20000 in
theorem oc_1111_4 {F : xm_W → Prop} {sc : List Int} {d : Nat} {t : xm_W} {m : Nat → Nat → Int} {r : Nat} {v : Int} (h : r < 5) : xm_Ov (xm_X (xm_old sc) xm_mt (d + 1) 1111 [.inr (.inl (some 74)), .inl ((r : Int)), .inl (4), .inl (v)] (yy_W (m) t)) F = F (yy_W (yy_c m 75 (yy_u (m 75) (48 + 18 * r) v)) t) := congrArg (fun x => xm_Ov x F) (c_1111_4 h)
set_option maxRecDepth 20000 in
theorem c_1110_5 {sc : List Int} {d : Nat} {t : xm_W} {m : Nat → Nat → Int} {r : Nat} (h : r < 5) : xm_X (xm_old sc) xm_mt (d + 1) 1110 [.inr (.inl (some 74)), .inl ((r : Int)), .inl (5)] (yy_W (m) t) = some (some (.inl (m 75 (49 + 18 * r))), (yy_W (m) t)) := by
  rw [c_1110 (by omega) (by omega) (by decide) (by decide), show (44 + 18 * (r : Int) + 5).toNat = 49 + 18 * r by omega]
set_option maxRecDepth 20000 in
theorem oc_1110_5 {F : Int → xm_W → Prop} {sc : List Int} {d : Nat} {t : xm_W} {m : Nat → Nat → Int} {r : Nat} (h : r < 5) : xm_Oi (xm_X (xm_old sc) xm_mt (d + 1) 1110 [.inr (.inl (some 74)), .inl ((r : Int)), .inl (5)] (yy_W (m) t)) F = F (m 75 (49 + 18 * r)) (yy_W (m) t) := congrArg (fun x => xm_Oi x F) (c_1110_5 h)
set_option maxRecDepth 20000 in
theorem c_1111_5 {sc : List Int} {d : Nat} {t : xm_W} {m : Nat → Nat → Int} {r : Nat} {v : Int} (h : r < 5) : xm_X (xm_old sc) xm_mt (d + 1) 1111 [.inr (.inl (some 74)), .inl ((r : Int)), .inl (5), .inl (v)] (yy_W (m) t) = some (none, (yy_W (yy_c m 75 (yy_u (m 75) (49 + 18 * r) v)) t)) := by
  rw [c_1111 (by omega) (by omega) (by decide) (by decide), show (44 + 18 * (r : Int) + 5).toNat = 49 + 18 * r by omega]; rfl
set_option maxRecDepth 20000 in
theorem oc_1111_5 {F : xm_W → Prop} {sc : List Int} {d : Nat} {t : xm_W} {m : Nat → Nat → Int} {r : Nat} {v : Int} (h : r < 5) : xm_Ov (xm_X (xm_old sc) xm_mt (d + 1) 1111 [.inr (.inl (some 74)), .inl ((r : Int)), .inl (5), .inl (v)] (yy_W (m) t)) F = F (yy_W (yy_c m 75 (yy_u (m 75) (49 + 18 * r) v)) t) := congrArg (fun x => xm_Ov x F) (c_1111_5 h)
set_option maxRecDepth 20000 in
theorem c_1110_6 {sc : List Int} {d : Nat} {t : xm_W} {m : Nat → Nat → Int} {r : Nat} {z : Int} (h : r < 5) (hz : 0 ≤ z ∧ z ≤ 11) : xm_X (xm_old sc) xm_mt (d + 1) 1110 [.inr (.inl (some 74)), .inl ((r : Int)), .inl (xm_w (6 + z))] (yy_W (m) t) = some (some (.inl (m 75 (50 + 18 * r + z.toNat))), (yy_W (m) t)) := by
  rw [xm_w_id (by omega) (by omega), c_1110 (by omega) (by omega) (by omega) (by omega), show (44 + 18 * (r : Int) + (6 + z)).toNat = 50 + 18 * r + z.toNat by omega]
set_option maxRecDepth 20000 in
theorem oc_1110_6 {F : Int → xm_W → Prop} {sc : List Int} {d : Nat} {t : xm_W} {m : Nat → Nat → Int} {r : Nat} {z : Int} (h : r < 5) (hz : 0 ≤ z ∧ z ≤ 11) : xm_Oi (xm_X (xm_old sc) xm_mt (d + 1) 1110 [.inr (.inl (some 74)), .inl ((r : Int)), .inl (xm_w (6 + z))] (yy_W (m) t)) F = F (m 75 (50 + 18 * r + z.toNat)) (yy_W (m) t) := congrArg (fun x => xm_Oi x F) (c_1110_6 h hz)
set_option maxRecDepth 20000 in
theorem c_1138 {sc : List Int} {d : Nat} {t : xm_W} {m : Nat → Nat → Int} {r : Nat} (h : r < 5) (h1 : 0 ≤ m 75 (45 + 18 * r) ∧ m 75 (45 + 18 * r) ≤ 9) (h2 : 0 ≤ m 75 (47 + 18 * r) ∧ m 75 (47 + 18 * r) ≤ 99) : xm_X (xm_old sc) xm_mt (d + 2) 1138 [.inr (.inl (some 74)), .inl ((r : Int))] (yy_W (m) t) = some (some (.inl (sp_deep (m 75 (44 + 18 * r)) (m 75 (45 + 18 * r)) (m 75 (47 + 18 * r)))), (yy_W (m) t)) := by
  refine xm_X_of (M := xm_m1138) rfl ⟨xm_EQ.eq (xb_1138_0 ?_), rfl, rfl, Nat.le_of_ble_eq_true rfl, yy_hd rfl (by decide)⟩
  rw [oc_1110_0 h, oc_1110_1 h, oc_1110_3 h, oc_1137 h2.1 (by omega) h1.1 (by omega)]
set_option maxRecDepth 20000 in
theorem oc_1138 {F : Int → xm_W → Prop} {sc : List Int} {d : Nat} {t : xm_W} {m : Nat → Nat → Int} {r : Nat} (h : r < 5) (h1 : 0 ≤ m 75 (45 + 18 * r) ∧ m 75 (45 + 18 * r) ≤ 9) (h2 : 0 ≤ m 75 (47 + 18 * r) ∧ m 75 (47 + 18 * r) ≤ 99) : xm_Oi (xm_X (xm_old sc) xm_mt (d + 2) 1138 [.inr (.inl (some 74)), .inl ((r : Int))] (yy_W (m) t)) F = F (sp_deep (m 75 (44 + 18 * r)) (m 75 (45 + 18 * r)) (m 75 (47 + 18 * r))) (yy_W (m) t) := congrArg (fun x => xm_Oi x F) (c_1138 h h1 h2)
set_option maxRecDepth 20000 in
theorem sg_nmS_ok {na : Nat → Int} {w step mm g : Int} (h1 : na 119 = w) (h2 : na 115 = step) (h3 : na 109 = mm) (h4 : na 103 = g) : ∀ v, sg_nm 0 v → (fun v : Int => na v.toNat) v = sg_nmS w step mm g v := by
  intro v hv
  unfold sg_nm at hv
  rw [if_pos rfl] at hv
  unfold sg_nmS
  show na v.toNat = _
  rcases hv with h | h | h | h <;> subst h
  · rw [if_pos rfl]; exact h1
  · rw [if_neg (by decide), if_pos rfl]; exact h2
  · rw [if_neg (by decide), if_neg (by decide), if_pos rfl]; exact h3
  · rw [if_neg (by decide), if_neg (by decide), if_neg (by decide)]; exact h4
set_option maxRecDepth 20000 in
theorem c_1134 {sc : List Int} {d : Nat} {t : xm_W} {m : Nat → Nat → Int} {r : Nat} {w step : Int} (hr : r < 5) (hR : sg_R (m 75)) (hT : sg_T (m 75) 0) (hw : 0 ≤ w ∧ w ≤ 3) : ∃ m', xm_X (xm_old sc) xm_mt (d + 4) 1134 [.inr (.inl (some 74)), .inl ((r : Int)), .inl (w), .inl (step)] (yy_W m t) = some (some (.inl (sg_told (m 75) r w step)), yy_W m' t) ∧ ∀ c, c ≠ 80 → c ≠ 81 → m' c = m c := by
  have key : ∀ {Q : Option xm_V × xm_W → Prop}, (∀ m', (∀ c, c ≠ 80 → c ≠ 81 → m' c = m c) → Q (some (.inl (sg_told (m 75) r w step)), yy_W m' t)) → xm_EQ (xm_old sc) xm_sta (xm_X (xm_old sc) xm_mt (d + 3)) xm_m1134.2.2.2.2.2.2.2 0 (xm_loc xm_m1134.2.2.1 [.inr (.inl (some 74)), .inl ((r : Int)), .inl (w), .inl (step)]) [] (yy_W m t) Q := by
    intro Q hQ
    obtain ⟨-, -, -, -, hso, hrd⟩ := id hR
    obtain ⟨a0, a1, a2, a3, a4, a5, a6⟩ := hrd r hr
    refine xb_1134_0 ?_
    rw [oc_1110_1 hr, oc_1125 (by decide)]
    unfold sg_told at hQ
    by_cases h : 0 < sg_tn (m 75) 0
    · rw [if_pos h] at hQ
      have h' : 0 < m 75 (339 + 125 * (0 : Int)).toNat := h
      rw [zz_t h']
      simp (disch := first | omega | (unfold xm_w; omega)) only [↓zy_at, xm_O_some, xm_Oi_some, xm_Ov_some, xm_Oq_some, ↓reduceIte, ↓zz_t, ↓zz_f, ↓zi_t, ↓zi_f, eq_self, yy_d_0, Int.reduceEq, Int.reduceLT, Int.reduceLE, Int.reduceNe, Int.reduceToNat, Int.reduceAdd, Int.reduceSub, Int.reduceMul, Int.reduceNeg, Nat.reduceAdd, Nat.reduceMul, Nat.reduceSub, Nat.reduceEqDiff, Nat.reduceLT, ne_eq, not_false_eq_true, not_true_eq_false, true_and, and_true, and_self, yy_s_eq, yy_s_ne, yy_c_eq, yy_c_ne, yy_u_eq, yy_u_ne, xm_w_id, yy_at, tdiv_pos, tmod_pos, ↓zr_74_0, ↓zr_74_1, ↓zr_74_2, ↓zf_74_3, ↓zs_74_3, ↓zf_74_4, ↓zs_74_4, ↓zr_74_5, ↓zf_74_6, ↓zs_74_6, ↓zf_74_7, ↓zs_74_7, ↓zf_74_8, ↓zs_74_8, ↓zf_74_9, ↓zs_74_9, ↓zr_74_10, ↓zr_74_11, ↓zr_74_12, ↓zf_74_13, ↓zs_74_13, ↓zr_74_14, ↓zf_74_15, ↓zs_74_15, ↓zf_74_16, ↓zs_74_16, ↓zf_74_17, ↓zs_74_17, ↓zr_74_18, ↓zr_74_19, ↓zr_74_20, ↓zr_74_21, ↓zi_80, ↓zt_80, ↓oc_1110_1 hr, ↓oc_1110_2 hr, ↓zi_75]
      obtain ⟨m1, e, f1⟩ := c_1129 (sc := sc) (d := d + 1) (t := t) (u := 0) (m := yy_s (yy_s (yy_s (yy_s m 80 119 w) 80 115 step) 80 109 (m 75 (45 + 18 * r))) 80 103 (m 75 (8 + m 75 (46 + 18 * r)).toNat)) (by decide) (by simp (disch := first | omega | (unfold xm_w; omega)) only [↓zy_at, xm_O_some, xm_Oi_some, xm_Ov_some, xm_Oq_some, ↓reduceIte, ↓zz_t, ↓zz_f, ↓zi_t, ↓zi_f, eq_self, yy_d_0, Int.reduceEq, Int.reduceLT, Int.reduceLE, Int.reduceNe, Int.reduceToNat, Int.reduceAdd, Int.reduceSub, Int.reduceMul, Int.reduceNeg, Nat.reduceAdd, Nat.reduceMul, Nat.reduceSub, Nat.reduceEqDiff, Nat.reduceLT, ne_eq, not_false_eq_true, not_true_eq_false, true_and, and_true, and_self, yy_s_eq, yy_s_ne, yy_c_eq, yy_c_ne, yy_u_eq, yy_u_ne, xm_w_id, yy_at, tdiv_pos, tmod_pos]; exact hT) (by simp (disch := first | omega | (unfold xm_w; omega)) only [↓zy_at, xm_O_some, xm_Oi_some, xm_Ov_some, xm_Oq_some, ↓reduceIte, ↓zz_t, ↓zz_f, ↓zi_t, ↓zi_f, eq_self, yy_d_0, Int.reduceEq, Int.reduceLT, Int.reduceLE, Int.reduceNe, Int.reduceToNat, Int.reduceAdd, Int.reduceSub, Int.reduceMul, Int.reduceNeg, Nat.reduceAdd, Nat.reduceMul, Nat.reduceSub, Nat.reduceEqDiff, Nat.reduceLT, ne_eq, not_false_eq_true, not_true_eq_false, true_and, and_true, and_self, yy_s_eq, yy_s_ne, yy_c_eq, yy_c_ne, yy_u_eq, yy_u_ne, xm_w_id, yy_at, tdiv_pos, tmod_pos]; exact h)
      rw [show ((0 : Nat) : Int) = 0 from rfl] at e
      have ev : sg_val ((yy_s (yy_s (yy_s (yy_s m 80 119 w) 80 115 step) 80 109 (m 75 (45 + 18 * r))) 80 103 (m 75 (8 + m 75 (46 + 18 * r)).toNat)) 75) 0 (fun v => (yy_s (yy_s (yy_s (yy_s m 80 119 w) 80 115 step) 80 109 (m 75 (45 + 18 * r))) 80 103 (m 75 (8 + m 75 (46 + 18 * r)).toNat)) 80 v.toNat) = sg_val (m 75) 0 (sg_nmS w step (m 75 (45 + 18 * r)) (m 75 (8 + m 75 (46 + 18 * r)).toNat)) := by
        rw [show (yy_s (yy_s (yy_s (yy_s m 80 119 w) 80 115 step) 80 109 (m 75 (45 + 18 * r))) 80 103 (m 75 (8 + m 75 (46 + 18 * r)).toNat)) 75 = m 75 by simp (disch := first | omega | (unfold xm_w; omega)) only [↓zy_at, xm_O_some, xm_Oi_some, xm_Ov_some, xm_Oq_some, ↓reduceIte, ↓zz_t, ↓zz_f, ↓zi_t, ↓zi_f, eq_self, yy_d_0, Int.reduceEq, Int.reduceLT, Int.reduceLE, Int.reduceNe, Int.reduceToNat, Int.reduceAdd, Int.reduceSub, Int.reduceMul, Int.reduceNeg, Nat.reduceAdd, Nat.reduceMul, Nat.reduceSub, Nat.reduceEqDiff, Nat.reduceLT, ne_eq, not_false_eq_true, not_true_eq_false, true_and, and_true, and_self, yy_s_eq, yy_s_ne, yy_c_eq, yy_c_ne, yy_u_eq, yy_u_ne, xm_w_id, yy_at, tdiv_pos, tmod_pos]]
        refine sg_val_congr hT (sg_nmS_ok ?_ ?_ ?_ ?_)
        · simp (disch := first | omega | (unfold xm_w; omega)) only [↓zy_at, xm_O_some, xm_Oi_some, xm_Ov_some, xm_Oq_some, ↓reduceIte, ↓zz_t, ↓zz_f, ↓zi_t, ↓zi_f, eq_self, yy_d_0, Int.reduceEq, Int.reduceLT, Int.reduceLE, Int.reduceNe, Int.reduceToNat, Int.reduceAdd, Int.reduceSub, Int.reduceMul, Int.reduceNeg, Nat.reduceAdd, Nat.reduceMul, Nat.reduceSub, Nat.reduceEqDiff, Nat.reduceLT, ne_eq, not_false_eq_true, not_true_eq_false, true_and, and_true, and_self, yy_s_eq, yy_s_ne, yy_c_eq, yy_c_ne, yy_u_eq, yy_u_ne, xm_w_id, yy_at, tdiv_pos, tmod_pos]
        · simp (disch := first | omega | (unfold xm_w; omega)) only [↓zy_at, xm_O_some, xm_Oi_some, xm_Ov_some, xm_Oq_some, ↓reduceIte, ↓zz_t, ↓zz_f, ↓zi_t, ↓zi_f, eq_self, yy_d_0, Int.reduceEq, Int.reduceLT, Int.reduceLE, Int.reduceNe, Int.reduceToNat, Int.reduceAdd, Int.reduceSub, Int.reduceMul, Int.reduceNeg, Nat.reduceAdd, Nat.reduceMul, Nat.reduceSub, Nat.reduceEqDiff, Nat.reduceLT, ne_eq, not_false_eq_true, not_true_eq_false, true_and, and_true, and_self, yy_s_eq, yy_s_ne, yy_c_eq, yy_c_ne, yy_u_eq, yy_u_ne, xm_w_id, yy_at, tdiv_pos, tmod_pos]
        · simp (disch := first | omega | (unfold xm_w; omega)) only [↓zy_at, xm_O_some, xm_Oi_some, xm_Ov_some, xm_Oq_some, ↓reduceIte, ↓zz_t, ↓zz_f, ↓zi_t, ↓zi_f, eq_self, yy_d_0, Int.reduceEq, Int.reduceLT, Int.reduceLE, Int.reduceNe, Int.reduceToNat, Int.reduceAdd, Int.reduceSub, Int.reduceMul, Int.reduceNeg, Nat.reduceAdd, Nat.reduceMul, Nat.reduceSub, Nat.reduceEqDiff, Nat.reduceLT, ne_eq, not_false_eq_true, not_true_eq_false, true_and, and_true, and_self, yy_s_eq, yy_s_ne, yy_c_eq, yy_c_ne, yy_u_eq, yy_u_ne, xm_w_id, yy_at, tdiv_pos, tmod_pos]
        · simp (disch := first | omega | (unfold xm_w; omega)) only [↓zy_at, xm_O_some, xm_Oi_some, xm_Ov_some, xm_Oq_some, ↓reduceIte, ↓zz_t, ↓zz_f, ↓zi_t, ↓zi_f, eq_self, yy_d_0, Int.reduceEq, Int.reduceLT, Int.reduceLE, Int.reduceNe, Int.reduceToNat, Int.reduceAdd, Int.reduceSub, Int.reduceMul, Int.reduceNeg, Nat.reduceAdd, Nat.reduceMul, Nat.reduceSub, Nat.reduceEqDiff, Nat.reduceLT, ne_eq, not_false_eq_true, not_true_eq_false, true_and, and_true, and_self, yy_s_eq, yy_s_ne, yy_c_eq, yy_c_ne, yy_u_eq, yy_u_ne, xm_w_id, yy_at, tdiv_pos, tmod_pos]
      rw [ev] at e
      rw [e, xm_Oi_some]
      have fr : ∀ c, c ≠ 80 → c ≠ 81 → m1 c = m c := fun c h1 h2 => by rw [f1 c h2]; simp (disch := first | omega | (unfold xm_w; omega)) only [↓zy_at, xm_O_some, xm_Oi_some, xm_Ov_some, xm_Oq_some, ↓reduceIte, ↓zz_t, ↓zz_f, ↓zi_t, ↓zi_f, eq_self, yy_d_0, Int.reduceEq, Int.reduceLT, Int.reduceLE, Int.reduceNe, Int.reduceToNat, Int.reduceAdd, Int.reduceSub, Int.reduceMul, Int.reduceNeg, Nat.reduceAdd, Nat.reduceMul, Nat.reduceSub, Nat.reduceEqDiff, Nat.reduceLT, ne_eq, not_false_eq_true, not_true_eq_false, true_and, and_true, and_self, yy_s_eq, yy_s_ne, yy_c_eq, yy_c_ne, yy_u_eq, yy_u_ne, xm_w_id, yy_at, tdiv_pos, tmod_pos]
      have := hQ m1 fr
      unfold sg_s4 at this
      split
      · rename_i g; rw [if_pos g] at this; exact this
      · rename_i g; rw [if_neg g] at this; exact this
    · rw [if_neg h] at hQ
      have h' : ¬ 0 < m 75 (339 + 125 * (0 : Int)).toNat := h
      rw [zz_f h']
      have := hQ m fun c _ _ => rfl
      unfold sg_s4 at this
      rw [if_neg (by omega)] at this
      rw [xm_w_id (by omega) (by omega), if_neg (by omega), tmod_pos (by omega)]
      exact ⟨by decide, this⟩
  obtain ⟨q, h1, m', h2, h3⟩ := yx_of (y := 1134) (M := xm_m1134) (sc := sc) (d := d + 3) (as := [.inr (.inl (some 74)), .inl ((r : Int)), .inl (w), .inl (step)]) (w := yy_W m t) (Q := fun q => ∃ m', q = (some (.inl (sg_told (m 75) r w step)), yy_W m' t) ∧ (∀ c, c ≠ 80 → c ≠ 81 → m' c = m c)) rfl (key fun m' h => ⟨m', rfl, h⟩) (fun q ⟨m', h, _⟩ => by rw [h]; rfl) rfl (Nat.le_of_ble_eq_true rfl) (yy_hd rfl (by decide))
  exact ⟨m', by rw [h1, h2], h3⟩
set_option maxRecDepth 20000 in
theorem c_1136 {sc : List Int} {d : Nat} {t : xm_W} {m : Nat → Nat → Int} {r : Nat} {w step : Int} (hr : r < 5) (hR : sg_R (m 75)) (hT : sg_T (m 75) 0) (hw : 0 ≤ w ∧ w ≤ 3) (hs : 0 ≤ step) : ∃ m', xm_X (xm_old sc) xm_mt (d + 5) 1136 [.inr (.inl (some 74)), .inl ((r : Int)), .inl (w), .inl (step)] (yy_W m t) = some (some (.inl (sg_sh (m 75) r w step)), yy_W m' t) ∧ ∀ c, c ≠ 80 → c ≠ 81 → m' c = m c := by
  have key : ∀ {Q : Option xm_V × xm_W → Prop}, (∀ m', (∀ c, c ≠ 80 → c ≠ 81 → m' c = m c) → Q (some (.inl (sg_sh (m 75) r w step)), yy_W m' t)) → xm_EQ (xm_old sc) xm_sta (xm_X (xm_old sc) xm_mt (d + 4)) xm_m1136.2.2.2.2.2.2.2 0 (xm_loc xm_m1136.2.2.1 [.inr (.inl (some 74)), .inl ((r : Int)), .inl (w), .inl (step)]) [] (yy_W m t) Q := by
    intro Q hQ
    obtain ⟨-, -, -, -, hso, hrd⟩ := id hR
    obtain ⟨a0, a1, a2, a3, a4, a5, a6⟩ := hrd r hr
    refine xb_1136_0 ?_
    rw [oc_1110_0 hr]
    have hq : m 75 (44 + 18 * r) ≠ 6 → Q (some (.inl (sp_shown (m 75 (44 + 18 * r)) w step)), (yy_W (m) t)) := by
      intro h
      have := hQ m fun c _ _ => rfl
      unfold sg_sh at this
      rw [if_neg h] at this
      exact this
    unfold sp_shown at hq
    have lame : 0 ≤ sp_lame w step ∧ sp_lame w step < 4 := by unfold sp_lame sp_back; split <;> omega
    rcases (show m 75 (44 + 18 * r) = 0 ∨ m 75 (44 + 18 * r) = 1 ∨ m 75 (44 + 18 * r) = 2 ∨ m 75 (44 + 18 * r) = 3 ∨ m 75 (44 + 18 * r) = 4 ∨ m 75 (44 + 18 * r) = 5 ∨ m 75 (44 + 18 * r) = 6 by omega) with h | h | h | h | h | h | h
    · rw [h] at hq ⊢; exact hq (by decide)
    · rw [h] at hq ⊢; rw [if_pos rfl, oc_1133 hw.1 (by omega)]; exact hq (by decide)
    · rw [h] at hq ⊢; rw [if_neg (by decide), if_pos rfl, oc_1135 hw.1 (by omega) hs]; exact hq (by decide)
    · rw [h] at hq ⊢; exact hq (by decide)
    · rw [h] at hq ⊢
      rw [if_neg (by decide), if_neg (by decide), if_neg (by decide), if_pos rfl, tmod_pos hs]
      refine ⟨by decide, ?_⟩
      have := hq (by decide)
      rw [if_neg (by decide), if_neg (by decide), if_neg (by decide), if_neg (by decide), if_pos rfl] at this
      split
      · rename_i g; rw [if_pos g] at this; rw [oc_1133 hw.1 (by omega)]; exact this
      · rename_i g; rw [if_neg g] at this; exact this
    · rw [h] at hq ⊢
      rw [if_neg (by decide), if_neg (by decide), if_neg (by decide), if_neg (by decide), if_pos rfl, oc_1135 hw.1 (by omega) hs, tmod_pos lame.1]
      refine ⟨by decide, ?_⟩
      have := hq (by decide)
      rw [if_neg (by decide), if_neg (by decide), if_neg (by decide), if_neg (by decide), if_neg (by decide), if_pos rfl] at this
      split
      · rename_i g; rw [if_pos g] at this; rw [oc_1133 lame.1 lame.2]; exact this
      · rename_i g; rw [if_neg g] at this; exact this
    · rw [h]
      rw [if_neg (by decide), if_neg (by decide), if_neg (by decide), if_neg (by decide), if_neg (by decide), if_pos rfl]
      obtain ⟨m1, e, f1⟩ := c_1134 (sc := sc) (d := d) (t := t) (m := m) (step := step) hr hR hT hw
      rw [e, xm_Oi_some]
      have := hQ m1 f1
      unfold sg_sh at this
      rw [if_pos h] at this
      exact this
  obtain ⟨q, h1, m', h2, h3⟩ := yx_of (y := 1136) (M := xm_m1136) (sc := sc) (d := d + 4) (as := [.inr (.inl (some 74)), .inl ((r : Int)), .inl (w), .inl (step)]) (w := yy_W m t) (Q := fun q => ∃ m', q = (some (.inl (sg_sh (m 75) r w step)), yy_W m' t) ∧ (∀ c, c ≠ 80 → c ≠ 81 → m' c = m c)) rfl (key fun m' h => ⟨m', rfl, h⟩) (fun q ⟨m', h, _⟩ => by rw [h]; rfl) rfl (Nat.le_of_ble_eq_true rfl) (yy_hd rfl (by decide))
  exact ⟨m', by rw [h1, h2], h3⟩
