section ap_sec
variable {o v l : xm_W} {k j c a t : Nat} {fs : List xm_V} {x : xm_V} {F : xm_W → Prop}
theorem ap_setf (hk : k = v.length + j) (h : l[j]? = some (.inr (.inr (c, fs)))) (ha : a < fs.length) (hf : xm_fit t x = true) : xm_O (xm_setf (v ++ l) k c a t x) F = F (v ++ l.set j (.inr (.inr (c, fs.set a x)))) := by
  subst hk
  have hg : (v ++ l)[v.length + j]? = l[j]? := by
    rw [List.getElem?_append_right (by omega), Nat.add_sub_cancel_left]
  unfold xm_setf
  rw [hg, h]
  show xm_O (if c = c ∧ a < fs.length ∧ xm_fit t x = true then some ((v ++ l).set (v.length + j) _) else none) F = _
  rw [if_pos ⟨rfl, ha, hf⟩, List.set_append_right _ _ (by omega), Nat.add_sub_cancel_left]
  rfl
theorem ap_seti {row : List Int} {i z : Int} (hk : k = v.length + j) (h : l[j]? = some (.inl row)) (h0 : 0 ≤ i ∧ i < row.length) : xm_O (xm_seti (v ++ l) k i z) F = F (v ++ l.set j (.inl (row.set i.toNat z))) := by
  subst hk
  have hg : (v ++ l)[v.length + j]? = l[j]? := by
    rw [List.getElem?_append_right (by omega), Nat.add_sub_cancel_left]
  unfold xm_seti
  rw [hg, h]
  show xm_O (if 0 ≤ i ∧ i < row.length then some ((v ++ l).set (v.length + j) _) else none) F = _
  rw [if_pos h0, List.set_append_right _ _ (by omega), Nat.add_sub_cancel_left]
  rfl
theorem ap_setq {q : List (Option Nat)} {i : Int} {u : Option Nat} (hk : k = v.length + j) (h : l[j]? = some (.inr (.inl (c, q)))) (h0 : 0 ≤ i ∧ i < q.length) (hq : xm_qok (v ++ l) c u = true) : xm_O (xm_setq (v ++ l) k i u) F = F (v ++ l.set j (.inr (.inl (c, q.set i.toNat u)))) := by
  subst hk
  have hg : (v ++ l)[v.length + j]? = l[j]? := by
    rw [List.getElem?_append_right (by omega), Nat.add_sub_cancel_left]
  unfold xm_setq
  rw [hg, h]
  show xm_O (if 0 ≤ i ∧ i < q.length ∧ xm_qok (v ++ l) c u = true then some ((v ++ l).set (v.length + j) _) else none) F = _
  rw [if_pos ⟨h0.1, h0.2, hq⟩, List.set_append_right _ _ (by omega), Nat.add_sub_cancel_left]
  rfl
theorem ap_fr {r : Nat} {G : Nat → Prop} (hk : k = v.length + j) (h : l[j]? = some (.inr (.inr (c, fs)))) (ha : fs[a]? = some (.inr (.inl (some r)))) : xm_O (xm_fr o (v ++ l) k c a) G = G r := by
  subst hk
  have hg : (v ++ l)[v.length + j]? = l[j]? := by
    rw [List.getElem?_append_right (by omega), Nat.add_sub_cancel_left]
  rw [xw_fr (hg.trans h) ha]; rfl
theorem ap_hd {as : List xm_V} (hk : k = v.length + j) (h : l[j]? = some (.inr (.inr (c, fs)))) : xm_hd o (v ++ l) (c + 1) (.inr (.inl (some k)) :: as) := by
  subst hk
  have hg : (v ++ l)[v.length + j]? = l[j]? := by
    rw [List.getElem?_append_right (by omega), Nat.add_sub_cancel_left]
  exact xw_hd (hg.trans h)
theorem ap_cls (hk : k = v.length + j) (h : l[j]? = some (.inr (.inr (c, fs)))) : xm_qok (v ++ l) c (some k) = true := by
  subst hk
  have hg : (v ++ l)[v.length + j]? = l[j]? := by
    rw [List.getElem?_append_right (by omega), Nat.add_sub_cancel_left]
  show xm_cls (v ++ l) (v.length + j) c = true
  unfold xm_cls
  rw [hg, h]
  exact beq_self_eq_true c
theorem ap_setf0 (ha : a < fs.length) (hf : xm_fit t x = true) : xm_O (xm_setf (v ++ .inr (.inr (c, fs)) :: l) v.length c a t x) F = F (v ++ .inr (.inr (c, fs.set a x)) :: l) := ap_setf (j := 0) rfl rfl ha hf
theorem ap_fr0 {r : Nat} {G : Nat → Prop} (ha : fs[a]? = some (.inr (.inl (some r)))) : xm_O (xm_fr o (v ++ .inr (.inr (c, fs)) :: l) v.length c a) G = G r := ap_fr (j := 0) rfl rfl ha
end ap_sec
theorem n_601 {sc : List Int} {d : Nat} {v : xm_W} : xm_X (xm_old sc) xm_mt (d + 1) 601 [.inr (.inl (some v.length))] (v ++ [.inr (.inr (4, (xm_kd 4).map xm_dflt))]) = some (none, v ++ [.inr (.inr (4, [.inl 0, .inl 0, .inl 0, .inl 0, .inl 0, .inl 0, .inr (.inl (some (v.length + 1)))])), .inl (List.replicate 12 0)]) := by
  refine xm_X_of (M := xm_m601) rfl ⟨xm_EQ.eq (xb_601_0 ?_), rfl, rfl, Nat.le_of_ble_eq_true rfl, ap_hd (j := 0) rfl rfl⟩
  refine ⟨by decide, ?_⟩
  simp only [List.append_assoc, List.cons_append, List.nil_append]
  rw [ap_setf0 (Nat.le_of_ble_eq_true rfl) rfl]
  simp only [List.length_append, List.length_cons, List.length_nil]; rfl
theorem n_301 {sc : List Int} {d : Nat} {v : xm_W} : xm_X (xm_old sc) xm_mt (d + 1) 301 [.inr (.inl (some v.length))] (v ++ [.inr (.inr (1, (xm_kd 1).map xm_dflt))]) = some (none, v ++ [.inr (.inr (1, [.inr (.inl (some (v.length + 1))), .inl 0, .inr (.inl (some (v.length + 2))), .inl 0, .inl 1])), .inl (List.replicate 60 0), .inl (List.replicate 24 0)]) := by
  refine xm_X_of (M := xm_m301) rfl ⟨xm_EQ.eq (xb_301_0 ?_), rfl, rfl, Nat.le_of_ble_eq_true rfl, ap_hd (j := 0) rfl rfl⟩
  refine ⟨by decide, ?_⟩
  simp only [List.append_assoc, List.cons_append, List.nil_append]
  rw [ap_setf0 (Nat.le_of_ble_eq_true rfl) rfl]
  refine ⟨by decide, ?_⟩
  simp only [List.append_assoc, List.cons_append, List.nil_append]
  rw [ap_setf0 (Nat.le_of_ble_eq_true rfl) rfl]
  rw [ap_setf0 (Nat.le_of_ble_eq_true rfl) rfl]
  simp only [List.length_append, List.length_cons, List.length_nil]; rfl
theorem n_501 {sc : List Int} {d : Nat} {v : xm_W} : xm_X (xm_old sc) xm_mt (d + 1) 501 [.inr (.inl (some v.length))] (v ++ [.inr (.inr (3, (xm_kd 3).map xm_dflt))]) = some (none, v ++ [.inr (.inr (3, [.inr (.inl (some (v.length + 1))), .inl 0, .inr (.inl (some (1000002))), .inl 0, .inr (.inl (some (v.length + 2))), .inl 0])), .inl (List.replicate 0 0), .inl (List.replicate 60 0)]) := by
  refine xm_X_of (M := xm_m501) rfl ⟨xm_EQ.eq (xb_501_0 ?_), rfl, rfl, Nat.le_of_ble_eq_true rfl, ap_hd (j := 0) rfl rfl⟩
  refine ⟨by decide, ?_⟩
  simp only [List.append_assoc, List.cons_append, List.nil_append]
  rw [ap_setf0 (Nat.le_of_ble_eq_true rfl) rfl]
  rw [ap_setf0 (Nat.le_of_ble_eq_true rfl) rfl]
  refine ⟨by decide, ?_⟩
  simp only [List.append_assoc, List.cons_append, List.nil_append]
  rw [ap_setf0 (Nat.le_of_ble_eq_true rfl) rfl]
  simp only [List.length_append, List.length_cons, List.length_nil]; rfl
theorem n_701 {sc : List Int} {d : Nat} {v : xm_W} : xm_X (xm_old sc) xm_mt (d + 1) 701 [.inr (.inl (some v.length))] (v ++ [.inr (.inr (5, (xm_kd 5).map xm_dflt))]) = some (none, v ++ [.inr (.inr (5, [.inl 0, .inl 0, .inr (.inl (some (v.length + 1)))])), .inl (List.replicate 24 0)]) := by
  refine xm_X_of (M := xm_m701) rfl ⟨xm_EQ.eq (xb_701_0 ?_), rfl, rfl, Nat.le_of_ble_eq_true rfl, ap_hd (j := 0) rfl rfl⟩
  refine ⟨by decide, ?_⟩
  simp only [List.append_assoc, List.cons_append, List.nil_append]
  rw [ap_setf0 (Nat.le_of_ble_eq_true rfl) rfl]
  simp only [List.length_append, List.length_cons, List.length_nil]; rfl
theorem n_801 {sc : List Int} {d : Nat} {v : xm_W} : xm_X (xm_old sc) xm_mt (d + 1) 801 [.inr (.inl (some v.length))] (v ++ [.inr (.inr (6, (xm_kd 6).map xm_dflt))]) = some (none, v ++ [.inr (.inr (6, [.inr (.inl (some (v.length + 1))), .inl 0, .inl 0, .inl 0, .inl 0])), .inl (List.replicate 30 0)]) := by
  refine xm_X_of (M := xm_m801) rfl ⟨xm_EQ.eq (xb_801_0 ?_), rfl, rfl, Nat.le_of_ble_eq_true rfl, ap_hd (j := 0) rfl rfl⟩
  refine ⟨by decide, ?_⟩
  simp only [List.append_assoc, List.cons_append, List.nil_append]
  rw [ap_setf0 (Nat.le_of_ble_eq_true rfl) rfl]
  simp only [List.length_append, List.length_cons, List.length_nil]; rfl
theorem n_201 {sc : List Int} {d : Nat} {v : xm_W} : xm_X (xm_old sc) xm_mt (d + 1) 201 [.inr (.inl (some v.length))] (v ++ [.inr (.inr (0, (xm_kd 0).map xm_dflt))]) = some (none, v ++ [.inr (.inr (0, [.inl 0, .inl 0, .inl 0, .inl 0, .inl 0]))]) := by
  refine xm_X_of (M := xm_m201) rfl ⟨xm_EQ.eq (xb_201_0 ?_), rfl, rfl, Nat.le_of_ble_eq_true rfl, ap_hd (j := 0) rfl rfl⟩
  rfl
theorem n_1101 {sc : List Int} {d : Nat} {v : xm_W} : xm_X (xm_old sc) xm_mt (d + 1) 1101 [.inr (.inl (some v.length))] (v ++ [.inr (.inr (9, (xm_kd 9).map xm_dflt))]) = some (none, v ++ [.inr (.inr (9, [.inr (.inl (some (v.length + 1))), .inr (.inl (some (v.length + 2))), .inr (.inl (some (v.length + 3))), .inl (-1), .inl 0, .inr (.inl (some (v.length + 4))), .inl 0, .inl 0, .inl 0, .inl 0, .inr (.inl (some (v.length + 5))), .inr (.inl (some (v.length + 6))), .inr (.inl (some (v.length + 7))), .inl 0, .inr (.inl (some (v.length + 8))), .inl 0, .inl 0, .inl 0, .inr (.inl (some (v.length + 9))), .inr (.inl (some (v.length + 10))), .inr (.inl (some (v.length + 11))), .inr (.inl (some (v.length + 12)))])), .inl ((List.replicate 673 0).set 6 1), .inl (List.replicate 673 0), .inl (List.replicate 339 0), .inl (List.replicate 7 0), .inl (List.replicate 124 0), .inl (List.replicate 128 0), .inl (List.replicate 64 0), .inl (List.replicate 30 0), .inl (List.replicate 4 0), .inl (List.replicate 4 0), .inl (List.replicate 96 0), .inl (List.replicate 24 0)]) := by
  refine xm_X_of (M := xm_m1101) rfl ⟨xm_EQ.eq (xb_1101_0 ?_), rfl, rfl, Nat.le_of_ble_eq_true rfl, ap_hd (j := 0) rfl rfl⟩
  refine ⟨by decide, ?_⟩
  simp only [List.append_assoc, List.cons_append, List.nil_append]
  rw [ap_setf0 (Nat.le_of_ble_eq_true rfl) rfl]
  refine ⟨by decide, ?_⟩
  simp only [List.append_assoc, List.cons_append, List.nil_append]
  rw [ap_setf0 (Nat.le_of_ble_eq_true rfl) rfl]
  refine ⟨by decide, ?_⟩
  simp only [List.append_assoc, List.cons_append, List.nil_append]
  rw [ap_setf0 (Nat.le_of_ble_eq_true rfl) rfl]
  rw [ap_setf0 (Nat.le_of_ble_eq_true rfl) rfl]
  refine ⟨by decide, ?_⟩
  simp only [List.append_assoc, List.cons_append, List.nil_append]
  rw [ap_setf0 (Nat.le_of_ble_eq_true rfl) rfl]
  refine ⟨by decide, ?_⟩
  simp only [List.append_assoc, List.cons_append, List.nil_append]
  rw [ap_setf0 (Nat.le_of_ble_eq_true rfl) rfl]
  refine ⟨by decide, ?_⟩
  simp only [List.append_assoc, List.cons_append, List.nil_append]
  rw [ap_setf0 (Nat.le_of_ble_eq_true rfl) rfl]
  refine ⟨by decide, ?_⟩
  simp only [List.append_assoc, List.cons_append, List.nil_append]
  rw [ap_setf0 (Nat.le_of_ble_eq_true rfl) rfl]
  refine ⟨by decide, ?_⟩
  simp only [List.append_assoc, List.cons_append, List.nil_append]
  rw [ap_setf0 (Nat.le_of_ble_eq_true rfl) rfl]
  refine ⟨by decide, ?_⟩
  simp only [List.append_assoc, List.cons_append, List.nil_append]
  rw [ap_setf0 (Nat.le_of_ble_eq_true rfl) rfl]
  refine ⟨by decide, ?_⟩
  simp only [List.append_assoc, List.cons_append, List.nil_append]
  rw [ap_setf0 (Nat.le_of_ble_eq_true rfl) rfl]
  refine ⟨by decide, ?_⟩
  simp only [List.append_assoc, List.cons_append, List.nil_append]
  rw [ap_setf0 (Nat.le_of_ble_eq_true rfl) rfl]
  refine ⟨by decide, ?_⟩
  simp only [List.append_assoc, List.cons_append, List.nil_append]
  rw [ap_setf0 (Nat.le_of_ble_eq_true rfl) rfl]
  rw [ap_fr0 rfl]
  simp only [List.length_append, List.length_cons, List.length_nil]
  rw [ap_seti (j := 1) rfl rfl ⟨by decide, by rw [List.length_replicate]; decide⟩]
  rfl
def n_moor (v : xm_W) (k : Nat) : xm_W := match k with
  | 0 => [.inr (.inr (2, [.inr (.inl (some (v.length + 1))), .inl 0, .inl 0, .inr (.inl (some (v.length + 2))), .inl 0, .inr (.inl (some (v.length + 3))), .inl 0, .inr (.inl (some (v.length + 4))), .inr (.inl (some (v.length + 5))), .inr (.inl (some (v.length + 6)))])), .inl (List.replicate 36 0), .inr (.inl (4, [none, none, none, none, none])), .inl (List.replicate 200 0), .inr (.inl (7, [none, none])), .inl (List.replicate 4 0), .inl (List.replicate 60 0)]
  | 1 => [.inr (.inr (2, [.inr (.inl (some (v.length + 1))), .inl 0, .inl 0, .inr (.inl (some (v.length + 2))), .inl 0, .inr (.inl (some (v.length + 3))), .inl 0, .inr (.inl (some (v.length + 4))), .inr (.inl (some (v.length + 5))), .inr (.inl (some (v.length + 6)))])), .inl (List.replicate 36 0), .inr (.inl (4, [some (v.length + 7), none, none, none, none])), .inl (List.replicate 200 0), .inr (.inl (7, [none, none])), .inl (List.replicate 4 0), .inl (List.replicate 60 0), .inr (.inr (4, [.inl 0, .inl 0, .inl 0, .inl 0, .inl 0, .inl 0, .inr (.inl (some (v.length + 8)))])), .inl (List.replicate 12 0)]
  | 2 => [.inr (.inr (2, [.inr (.inl (some (v.length + 1))), .inl 0, .inl 0, .inr (.inl (some (v.length + 2))), .inl 0, .inr (.inl (some (v.length + 3))), .inl 0, .inr (.inl (some (v.length + 4))), .inr (.inl (some (v.length + 5))), .inr (.inl (some (v.length + 6)))])), .inl (List.replicate 36 0), .inr (.inl (4, [some (v.length + 7), some (v.length + 9), none, none, none])), .inl (List.replicate 200 0), .inr (.inl (7, [none, none])), .inl (List.replicate 4 0), .inl (List.replicate 60 0), .inr (.inr (4, [.inl 0, .inl 0, .inl 0, .inl 0, .inl 0, .inl 0, .inr (.inl (some (v.length + 8)))])), .inl (List.replicate 12 0), .inr (.inr (4, [.inl 0, .inl 0, .inl 0, .inl 0, .inl 0, .inl 0, .inr (.inl (some (v.length + 10)))])), .inl (List.replicate 12 0)]
  | 3 => [.inr (.inr (2, [.inr (.inl (some (v.length + 1))), .inl 0, .inl 0, .inr (.inl (some (v.length + 2))), .inl 0, .inr (.inl (some (v.length + 3))), .inl 0, .inr (.inl (some (v.length + 4))), .inr (.inl (some (v.length + 5))), .inr (.inl (some (v.length + 6)))])), .inl (List.replicate 36 0), .inr (.inl (4, [some (v.length + 7), some (v.length + 9), some (v.length + 11), none, none])), .inl (List.replicate 200 0), .inr (.inl (7, [none, none])), .inl (List.replicate 4 0), .inl (List.replicate 60 0), .inr (.inr (4, [.inl 0, .inl 0, .inl 0, .inl 0, .inl 0, .inl 0, .inr (.inl (some (v.length + 8)))])), .inl (List.replicate 12 0), .inr (.inr (4, [.inl 0, .inl 0, .inl 0, .inl 0, .inl 0, .inl 0, .inr (.inl (some (v.length + 10)))])), .inl (List.replicate 12 0), .inr (.inr (4, [.inl 0, .inl 0, .inl 0, .inl 0, .inl 0, .inl 0, .inr (.inl (some (v.length + 12)))])), .inl (List.replicate 12 0)]
  | 4 => [.inr (.inr (2, [.inr (.inl (some (v.length + 1))), .inl 0, .inl 0, .inr (.inl (some (v.length + 2))), .inl 0, .inr (.inl (some (v.length + 3))), .inl 0, .inr (.inl (some (v.length + 4))), .inr (.inl (some (v.length + 5))), .inr (.inl (some (v.length + 6)))])), .inl (List.replicate 36 0), .inr (.inl (4, [some (v.length + 7), some (v.length + 9), some (v.length + 11), some (v.length + 13), none])), .inl (List.replicate 200 0), .inr (.inl (7, [none, none])), .inl (List.replicate 4 0), .inl (List.replicate 60 0), .inr (.inr (4, [.inl 0, .inl 0, .inl 0, .inl 0, .inl 0, .inl 0, .inr (.inl (some (v.length + 8)))])), .inl (List.replicate 12 0), .inr (.inr (4, [.inl 0, .inl 0, .inl 0, .inl 0, .inl 0, .inl 0, .inr (.inl (some (v.length + 10)))])), .inl (List.replicate 12 0), .inr (.inr (4, [.inl 0, .inl 0, .inl 0, .inl 0, .inl 0, .inl 0, .inr (.inl (some (v.length + 12)))])), .inl (List.replicate 12 0), .inr (.inr (4, [.inl 0, .inl 0, .inl 0, .inl 0, .inl 0, .inl 0, .inr (.inl (some (v.length + 14)))])), .inl (List.replicate 12 0)]
  | _ => [.inr (.inr (2, [.inr (.inl (some (v.length + 1))), .inl 0, .inl 0, .inr (.inl (some (v.length + 2))), .inl 0, .inr (.inl (some (v.length + 3))), .inl 0, .inr (.inl (some (v.length + 4))), .inr (.inl (some (v.length + 5))), .inr (.inl (some (v.length + 6)))])), .inl (List.replicate 36 0), .inr (.inl (4, [some (v.length + 7), some (v.length + 9), some (v.length + 11), some (v.length + 13), some (v.length + 15)])), .inl (List.replicate 200 0), .inr (.inl (7, [none, none])), .inl (List.replicate 4 0), .inl (List.replicate 60 0), .inr (.inr (4, [.inl 0, .inl 0, .inl 0, .inl 0, .inl 0, .inl 0, .inr (.inl (some (v.length + 8)))])), .inl (List.replicate 12 0), .inr (.inr (4, [.inl 0, .inl 0, .inl 0, .inl 0, .inl 0, .inl 0, .inr (.inl (some (v.length + 10)))])), .inl (List.replicate 12 0), .inr (.inr (4, [.inl 0, .inl 0, .inl 0, .inl 0, .inl 0, .inl 0, .inr (.inl (some (v.length + 12)))])), .inl (List.replicate 12 0), .inr (.inr (4, [.inl 0, .inl 0, .inl 0, .inl 0, .inl 0, .inl 0, .inr (.inl (some (v.length + 14)))])), .inl (List.replicate 12 0), .inr (.inr (4, [.inl 0, .inl 0, .inl 0, .inl 0, .inl 0, .inl 0, .inr (.inl (some (v.length + 16)))])), .inl (List.replicate 12 0)]
theorem n_loop {sc : List Int} {d : Nat} {v : xm_W} {Q : Option xm_V × xm_W → Prop} {k : Nat} {i : Int} (hi : i = k) (hk : k < 5) (h : xm_EQ (xm_old sc) xm_sta (xm_X (xm_old sc) xm_mt (d + 1)) xm_c401 28 [some (.inr (.inl (some v.length))), some (.inl ((k + 1 : Nat) : Int))] [] (v ++ n_moor v (k + 1)) Q) : xm_EQ (xm_old sc) xm_sta (xm_X (xm_old sc) xm_mt (d + 1)) xm_c401 28 [some (.inr (.inl (some v.length))), some (.inl i)] [] (v ++ n_moor v k) Q := by
  subst hi
  refine xb_401_28 ?_
  rw [if_pos (by omega), xm_w_id (by omega) (by omega)]
  have e : ((k + 1 : Nat) : Int) = (k : Int) + 1 := by omega
  rw [e] at h
  match k, hk, h with
  | 0, _, h =>
    rw [ap_fr (v := v) (l := n_moor v 0) (k := v.length) (j := 0) (c := 2) (fs := [.inr (.inl (some (v.length + 1))), .inl 0, .inl 0, .inr (.inl (some (v.length + 2))), .inl 0, .inr (.inl (some (v.length + 3))), .inl 0, .inr (.inl (some (v.length + 4))), .inr (.inl (some (v.length + 5))), .inr (.inl (some (v.length + 6)))]) rfl rfl rfl, n_601, xm_Ov_some, List.append_assoc]
    rw [ap_setq (v := v) (l := n_moor v 0 ++ ([.inr (.inr (4, [.inl 0, .inl 0, .inl 0, .inl 0, .inl 0, .inl 0, .inr (.inl (some ((v ++ n_moor v 0).length + 1)))])), .inl (List.replicate 12 0)] : xm_W)) (k := v.length + 2) (j := 2) (c := 4) (q := [none, none, none, none, none]) rfl rfl ⟨by decide, by simp only [List.length_cons, List.length_nil]; decide⟩ (by rw [← List.append_assoc]; exact ap_cls (j := 0) (v := v ++ n_moor v 0) rfl rfl)]
    simp only [List.length_append]
    exact h
  | 1, _, h =>
    rw [ap_fr (v := v) (l := n_moor v 1) (k := v.length) (j := 0) (c := 2) (fs := [.inr (.inl (some (v.length + 1))), .inl 0, .inl 0, .inr (.inl (some (v.length + 2))), .inl 0, .inr (.inl (some (v.length + 3))), .inl 0, .inr (.inl (some (v.length + 4))), .inr (.inl (some (v.length + 5))), .inr (.inl (some (v.length + 6)))]) rfl rfl rfl, n_601, xm_Ov_some, List.append_assoc]
    rw [ap_setq (v := v) (l := n_moor v 1 ++ ([.inr (.inr (4, [.inl 0, .inl 0, .inl 0, .inl 0, .inl 0, .inl 0, .inr (.inl (some ((v ++ n_moor v 1).length + 1)))])), .inl (List.replicate 12 0)] : xm_W)) (k := v.length + 2) (j := 2) (c := 4) (q := [some (v.length + 7), none, none, none, none]) rfl rfl ⟨by decide, by simp only [List.length_cons, List.length_nil]; decide⟩ (by rw [← List.append_assoc]; exact ap_cls (j := 0) (v := v ++ n_moor v 1) rfl rfl)]
    simp only [List.length_append]
    exact h
  | 2, _, h =>
    rw [ap_fr (v := v) (l := n_moor v 2) (k := v.length) (j := 0) (c := 2) (fs := [.inr (.inl (some (v.length + 1))), .inl 0, .inl 0, .inr (.inl (some (v.length + 2))), .inl 0, .inr (.inl (some (v.length + 3))), .inl 0, .inr (.inl (some (v.length + 4))), .inr (.inl (some (v.length + 5))), .inr (.inl (some (v.length + 6)))]) rfl rfl rfl, n_601, xm_Ov_some, List.append_assoc]
    rw [ap_setq (v := v) (l := n_moor v 2 ++ ([.inr (.inr (4, [.inl 0, .inl 0, .inl 0, .inl 0, .inl 0, .inl 0, .inr (.inl (some ((v ++ n_moor v 2).length + 1)))])), .inl (List.replicate 12 0)] : xm_W)) (k := v.length + 2) (j := 2) (c := 4) (q := [some (v.length + 7), some (v.length + 9), none, none, none]) rfl rfl ⟨by decide, by simp only [List.length_cons, List.length_nil]; decide⟩ (by rw [← List.append_assoc]; exact ap_cls (j := 0) (v := v ++ n_moor v 2) rfl rfl)]
    simp only [List.length_append]
    exact h
  | 3, _, h =>
    rw [ap_fr (v := v) (l := n_moor v 3) (k := v.length) (j := 0) (c := 2) (fs := [.inr (.inl (some (v.length + 1))), .inl 0, .inl 0, .inr (.inl (some (v.length + 2))), .inl 0, .inr (.inl (some (v.length + 3))), .inl 0, .inr (.inl (some (v.length + 4))), .inr (.inl (some (v.length + 5))), .inr (.inl (some (v.length + 6)))]) rfl rfl rfl, n_601, xm_Ov_some, List.append_assoc]
    rw [ap_setq (v := v) (l := n_moor v 3 ++ ([.inr (.inr (4, [.inl 0, .inl 0, .inl 0, .inl 0, .inl 0, .inl 0, .inr (.inl (some ((v ++ n_moor v 3).length + 1)))])), .inl (List.replicate 12 0)] : xm_W)) (k := v.length + 2) (j := 2) (c := 4) (q := [some (v.length + 7), some (v.length + 9), some (v.length + 11), none, none]) rfl rfl ⟨by decide, by simp only [List.length_cons, List.length_nil]; decide⟩ (by rw [← List.append_assoc]; exact ap_cls (j := 0) (v := v ++ n_moor v 3) rfl rfl)]
    simp only [List.length_append]
    exact h
  | 4, _, h =>
    rw [ap_fr (v := v) (l := n_moor v 4) (k := v.length) (j := 0) (c := 2) (fs := [.inr (.inl (some (v.length + 1))), .inl 0, .inl 0, .inr (.inl (some (v.length + 2))), .inl 0, .inr (.inl (some (v.length + 3))), .inl 0, .inr (.inl (some (v.length + 4))), .inr (.inl (some (v.length + 5))), .inr (.inl (some (v.length + 6)))]) rfl rfl rfl, n_601, xm_Ov_some, List.append_assoc]
    rw [ap_setq (v := v) (l := n_moor v 4 ++ ([.inr (.inr (4, [.inl 0, .inl 0, .inl 0, .inl 0, .inl 0, .inl 0, .inr (.inl (some ((v ++ n_moor v 4).length + 1)))])), .inl (List.replicate 12 0)] : xm_W)) (k := v.length + 2) (j := 2) (c := 4) (q := [some (v.length + 7), some (v.length + 9), some (v.length + 11), some (v.length + 13), none]) rfl rfl ⟨by decide, by simp only [List.length_cons, List.length_nil]; decide⟩ (by rw [← List.append_assoc]; exact ap_cls (j := 0) (v := v ++ n_moor v 4) rfl rfl)]
    simp only [List.length_append]
    exact h
theorem n_401 {sc : List Int} {d : Nat} {v : xm_W} : xm_X (xm_old sc) xm_mt (d + 2) 401 [.inr (.inl (some v.length))] (v ++ [.inr (.inr (2, (xm_kd 2).map xm_dflt))]) = some (none, v ++ n_moor v 5) := by
  refine xm_X_of (M := xm_m401) rfl ⟨xm_EQ.eq (xb_401_0 ?_), rfl, rfl, Nat.le_of_ble_eq_true rfl, ap_hd (j := 0) rfl rfl⟩
  refine ⟨by decide, ?_⟩
  simp only [List.append_assoc, List.cons_append, List.nil_append]
  rw [ap_setf0 (Nat.le_of_ble_eq_true rfl) rfl]
  refine ⟨by decide, ?_⟩
  simp only [List.append_assoc, List.cons_append, List.nil_append]
  rw [ap_setf0 (Nat.le_of_ble_eq_true rfl) rfl]
  refine ⟨by decide, ?_⟩
  simp only [List.append_assoc, List.cons_append, List.nil_append]
  rw [ap_setf0 (Nat.le_of_ble_eq_true rfl) rfl]
  refine ⟨by decide, ?_⟩
  simp only [List.append_assoc, List.cons_append, List.nil_append]
  rw [ap_setf0 (Nat.le_of_ble_eq_true rfl) rfl]
  refine ⟨by decide, ?_⟩
  simp only [List.append_assoc, List.cons_append, List.nil_append]
  rw [ap_setf0 (Nat.le_of_ble_eq_true rfl) rfl]
  refine ⟨by decide, ?_⟩
  simp only [List.append_assoc, List.cons_append, List.nil_append]
  rw [ap_setf0 (Nat.le_of_ble_eq_true rfl) rfl]
  simp only [List.length_append, List.length_cons, List.length_nil]
  refine n_loop (k := 0) rfl (by decide) ?_
  refine n_loop (k := 1) rfl (by decide) ?_
  refine n_loop (k := 2) rfl (by decide) ?_
  refine n_loop (k := 3) rfl (by decide) ?_
  refine n_loop (k := 4) rfl (by decide) ?_
  refine xb_401_28 ?_
  rfl
