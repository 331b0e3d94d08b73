theorem yx_of {sc : List Int} {d y : Nat} {M : xm_M} {as : List xm_V} {w : xm_W} {Q : Option xm_V × xm_W → Prop} (hM : xm_mt y = some M) (h : xm_EQ (xm_old sc) xm_sta (xm_X (xm_old sc) xm_mt d) M.2.2.2.2.2.2.2 0 (xm_loc M.2.2.1 as) [] w Q) (hr : ∀ q, Q q → xm_rok M.2.2.2.2.1 q.1 = true) (hl : as.length = M.2.2.2.2.2.1) (hc : (xm_lc as).length ≤ M.2.2.1) (hh : xm_hd (xm_old sc) w M.2.2.2.2.2.2.1 as) : ∃ q, xm_X (xm_old sc) xm_mt (d + 1) y as w = some q ∧ Q q := by
  obtain ⟨q, h1, h2⟩ := h
  exact ⟨q, xm_X_of hM ⟨h1, hr q h2, hl, hc, hh⟩, h2⟩
section yv_sec
variable {o : xm_W} {m : Nat → Nat → Int} {t : xm_W} {f : Nat → Int} {i z v : Int} {c a r r' : Nat}
theorem yy_s_same {v' : Int} : yy_s (yy_s m c a v) c a v' = yy_s m c a v' := by
  rw [yy_s_s]; unfold yy_s; congr 1; funext k; unfold yy_u; split <;> rfl
theorem yy_s_id : yy_s m c a (m c a) = m := by unfold yy_s; rw [yy_u_id, yy_c_id]
/-- riders by number -/
theorem zq_r1 {F : Option Nat → Prop} (h0 : 0 ≤ i) (h1 : i < 5) : xm_O (xm_at (yy_qs f 0 [10, 12, 14, 16, 18]) i) F = F (some (8 + 2 * i.toNat)) := by
  rcases (show i = 0 ∨ i = 1 ∨ i = 2 ∨ i = 3 ∨ i = 4 by omega) with h | h | h | h | h <;> subst h <;> rfl
theorem zq_r18 {F : Option Nat → Prop} (h0 : 0 ≤ i) (h1 : i < 5) : xm_O (xm_at (yy_qs f 0 [27, 29, 31, 33, 35]) i) F = F (some (25 + 2 * i.toNat)) := by
  rcases (show i = 0 ∨ i = 1 ∨ i = 2 ∨ i = 3 ∨ i = 4 by omega) with h | h | h | h | h <;> subst h <;> rfl
theorem zq_r38 {F : Option Nat → Prop} (h0 : 0 ≤ i) (h1 : i < 5) : xm_O (xm_at (yy_qs f 0 [47, 49, 51, 53, 55]) i) F = F (some (45 + 2 * i.toNat)) := by
  rcases (show i = 0 ∨ i = 1 ∨ i = 2 ∨ i = 3 ∨ i = 4 by omega) with h | h | h | h | h <;> subst h <;> rfl
theorem zq_sh {F : Option Nat → Prop} (h0 : 0 ≤ i) (h1 : i < 4) : xm_O (xm_at (yy_qs f 0 [68, 70, 72, 74]) i) F = F (some (66 + 2 * i.toNat)) := by
  rcases (show i = 0 ∨ i = 1 ∨ i = 2 ∨ i = 3 by omega) with h | h | h | h <;> subst h <;> rfl
theorem zq_tx {F : Option Nat → Prop} (h0 : 0 ≤ i) (h1 : i < 2) : xm_O (xm_at (yy_qs f 0 [1, 1]) i) F = F (yy_d (f i.toNat)) := by
  rcases (show i = 0 ∨ i = 1 by omega) with h | h <;> subst h <;> rfl
theorem yy_d_s : yy_d ((r : Int) + 1) = some r := by
  unfold yy_d; rw [if_neg (by omega)]; congr 1; omega
theorem zd_58_0 {F : xm_W → Prop} : xm_O (xm_setf (yy_W m t) 58 3 0 2 (.inr (.inl (some r)))) F = F (yy_W (yy_s m 58 0 ((r : Int) + 1)) t) := congrArg (fun x => xm_O x F) (yy_setd rfl (by decide) rfl yy_d_s)
theorem zd_58_2 {F : xm_W → Prop} : xm_O (xm_setf (yy_W m t) 58 3 2 2 (.inr (.inl (some r)))) F = F (yy_W (yy_s m 58 2 ((r : Int) + 1)) t) := congrArg (fun x => xm_O x F) (yy_setd rfl (by decide) rfl yy_d_s)
/-- a reference to a text or to nothing -/
def yy_tx (t : xm_W) (z : Int) : Prop := yy_d z = none ∨ ∃ a fs, yy_d z = some (87 + a) ∧ t[a]? = some (.inr (.inr (7, fs)))
theorem yy_tx_ok (h : yy_tx t z) : xm_qok (yy_W m t) 7 (yy_d z) = true := by
  rcases h with h | ⟨a, fs, h, h2⟩
  · rw [h]; rfl
  · rw [h]
    show xm_cls (yy_W m t) (87 + a) 7 = true
    unfold xm_cls
    rw [yy_ge (by omega), Nat.add_sub_cancel_left, h2]; rfl
theorem yy_tx0 : yy_tx t 0 := Or.inl rfl
theorem yy_setq {l : List Nat} (h : yy_lay[c]? = some (57, l)) (ha : l[i.toNat]? = some 1) (h0 : 0 ≤ i) (hq : yy_tx t z) : xm_setq (yy_W m t) c i (yy_d z) = some (yy_W (yy_s m c i.toNat z) t) := by
  unfold xm_setq
  rw [(yy_get (t := t) (m := m) h).trans (congrArg some (yy_cel_q (k := 56) (by decide)))]
  have hl := (List.getElem?_eq_some_iff.mp ha).1
  show (if 0 ≤ i ∧ i < ((yy_qs (m c) 0 l).length : Int) ∧ xm_qok (yy_W m t) 7 (yy_d z) = true then some ((yy_W m t).set c (Sum.inr (Sum.inl (7, (yy_qs (m c) 0 l).set i.toNat (yy_d z))))) else none) = _
  rw [yy_qs_len, if_pos ⟨h0, by omega, yy_tx_ok hq⟩]
  refine congrArg some ?_
  rw [yy_qs_set (v := z) (fun e he => by rw [ha] at he; cases he; show _ = yy_d (yy_u (m c) i.toNat z i.toNat); rw [yy_u_eq])]
  rw [show (Sum.inr (Sum.inl (7, yy_qs (yy_u (m c) i.toNat z) 0 l)) : xm_C) = yy_cel (57, l) (yy_u (m c) i.toNat z) from (yy_cel_q (k := 56) (by decide)).symm]
  exact yy_set h
theorem zs_tx {F : xm_W → Prop} (hc : c = 5 ∨ c = 22 ∨ c = 42) (h0 : 0 ≤ i) (h1 : i < 2) (hq : yy_tx t z) : xm_O (xm_setq (yy_W m t) c i (yy_d z)) F = F (yy_W (yy_s m c i.toNat z) t) := by
  rcases hc with h | h | h <;> subst h <;> (rcases (show i = 0 ∨ i = 1 by omega) with h | h <;> subst h <;> exact congrArg (fun x => xm_O x F) (yy_setq rfl rfl (by decide) hq))
theorem zs_txn {F : xm_W → Prop} (hc : c = 5 ∨ c = 22 ∨ c = 42) (h0 : 0 ≤ i) (h1 : i < 2) : xm_O (xm_setq (yy_W m t) c i none) F = F (yy_W (yy_s m c i.toNat 0) t) := zs_tx (z := 0) hc h0 h1 yy_tx0
end yv_sec
/-- riders by their cell -/
def yy_rd (r : Nat) : Prop := yy_lay[r]? = some (5, [0, 0, 0, 0, 0, 0, r + 3]) ∧ yy_lay[r + 1]? = some (0, [12])
section yu_sec
variable {o : xm_W} {m : Nat → Nat → Int} {t : xm_W} {F : Int → Prop} {G : Nat → Prop} {K : xm_W → Prop} {H : List Int → Prop} {i v : Int} {r : Nat} 
theorem yy_rd8 {i : Int} (h0 : 0 ≤ i) (h1 : i < 5) : yy_rd (8 + 2 * i.toNat) := by
  rcases (show i = 0 ∨ i = 1 ∨ i = 2 ∨ i = 3 ∨ i = 4 by omega) with h | h | h | h | h <;> subst h <;> exact ⟨rfl, rfl⟩
theorem yy_rd25 {i : Int} (h0 : 0 ≤ i) (h1 : i < 5) : yy_rd (25 + 2 * i.toNat) := by
  rcases (show i = 0 ∨ i = 1 ∨ i = 2 ∨ i = 3 ∨ i = 4 by omega) with h | h | h | h | h <;> subst h <;> exact ⟨rfl, rfl⟩
theorem yy_rd45 {i : Int} (h0 : 0 ≤ i) (h1 : i < 5) : yy_rd (45 + 2 * i.toNat) := by
  rcases (show i = 0 ∨ i = 1 ∨ i = 2 ∨ i = 3 ∨ i = 4 by omega) with h | h | h | h | h <;> subst h <;> exact ⟨rfl, rfl⟩
theorem gf_0 (hr : yy_rd r) : xm_O (xm_fi o (yy_W m t) r 4 0) F = F (m r 0) := congrArg (fun x => xm_O x F) (yy_fi hr.1 (by decide) rfl)
theorem gs_0 (hr : yy_rd r) : xm_O (xm_setf (yy_W m t) r 4 0 0 (.inl v)) K = K (yy_W (yy_s m r 0 v) t) := congrArg (fun x => xm_O x K) (yy_setf hr.1 (by decide) rfl rfl)
theorem gf_1 (hr : yy_rd r) : xm_O (xm_fi o (yy_W m t) r 4 1) F = F (m r 1) := congrArg (fun x => xm_O x F) (yy_fi hr.1 (by decide) rfl)
theorem gs_1 (hr : yy_rd r) : xm_O (xm_setf (yy_W m t) r 4 1 0 (.inl v)) K = K (yy_W (yy_s m r 1 v) t) := congrArg (fun x => xm_O x K) (yy_setf hr.1 (by decide) rfl rfl)
theorem gf_2 (hr : yy_rd r) : xm_O (xm_fi o (yy_W m t) r 4 2) F = F (m r 2) := congrArg (fun x => xm_O x F) (yy_fi hr.1 (by decide) rfl)
theorem gs_2 (hr : yy_rd r) : xm_O (xm_setf (yy_W m t) r 4 2 0 (.inl v)) K = K (yy_W (yy_s m r 2 v) t) := congrArg (fun x => xm_O x K) (yy_setf hr.1 (by decide) rfl rfl)
theorem gf_3 (hr : yy_rd r) : xm_O (xm_fi o (yy_W m t) r 4 3) F = F (m r 3) := congrArg (fun x => xm_O x F) (yy_fi hr.1 (by decide) rfl)
theorem gs_3 (hr : yy_rd r) : xm_O (xm_setf (yy_W m t) r 4 3 0 (.inl v)) K = K (yy_W (yy_s m r 3 v) t) := congrArg (fun x => xm_O x K) (yy_setf hr.1 (by decide) rfl rfl)
theorem gf_4 (hr : yy_rd r) : xm_O (xm_fi o (yy_W m t) r 4 4) F = F (m r 4) := congrArg (fun x => xm_O x F) (yy_fi hr.1 (by decide) rfl)
theorem gs_4 (hr : yy_rd r) : xm_O (xm_setf (yy_W m t) r 4 4 0 (.inl v)) K = K (yy_W (yy_s m r 4 v) t) := congrArg (fun x => xm_O x K) (yy_setf hr.1 (by decide) rfl rfl)
theorem gf_5 (hr : yy_rd r) : xm_O (xm_fi o (yy_W m t) r 4 5) F = F (m r 5) := congrArg (fun x => xm_O x F) (yy_fi hr.1 (by decide) rfl)
theorem gs_5 (hr : yy_rd r) : xm_O (xm_setf (yy_W m t) r 4 5 0 (.inl v)) K = K (yy_W (yy_s m r 5 v) t) := congrArg (fun x => xm_O x K) (yy_setf hr.1 (by decide) rfl rfl)
theorem gr_6 (hr : yy_rd r) : xm_O (xm_fr o (yy_W m t) r 4 6) G = G (r + 1) := congrArg (fun x => xm_O x G) (yy_fr hr.1 (by decide) rfl)
theorem gi_1 (hr : yy_rd r) : xm_O (xm_ints o (yy_W m t) (r + 1)) H = H (yy_R 12 (m (r + 1))) := congrArg (fun x => xm_O x H) (yy_ints hr.2)
theorem gt_1 (hr : yy_rd r) (h0 : 0 ≤ i) (h1 : i < 12) : xm_O (xm_seti (yy_W m t) (r + 1) i v) K = K (yy_W (yy_s m (r + 1) i.toNat v) t) := congrArg (fun x => xm_O x K) (yy_seti hr.2 h0 h1)
theorem gc_1 {r' : Nat} (hr : yy_rd r) (hr' : yy_rd r') : xm_O (xm_copy (yy_W m t) (r' + 1) 0 (r + 1) 0 12) K = K (yy_W (yy_c m (r + 1) (yy_cp (m (r' + 1)) (m (r + 1)) 0 0 12)) t) := congrArg (fun x => xm_O x K) (yy_copy hr'.2 hr.2 (by decide) (by decide) (by decide) (by decide) (by decide))
theorem yy_hdr {as : List xm_V} (hr : yy_rd r) : xm_hd o (yy_W m t) 5 (.inr (.inl (some r)) :: as) := yy_hd hr.1 (by decide)
end yu_sec
/-- sheets by their cell -/
def yy_sh (r : Nat) : Prop := yy_lay[r]? = some (6, [0, 0, r + 3]) ∧ yy_lay[r + 1]? = some (0, [24])
section yt_sec
variable {o : xm_W} {m : Nat → Nat → Int} {t : xm_W} {F : Int → Prop} {G : Nat → Prop} {K : xm_W → Prop} {H : List Int → Prop} {i v : Int} {r : Nat}
theorem yy_sh66 {i : Int} (h0 : 0 ≤ i) (h1 : i < 4) : yy_sh (66 + 2 * i.toNat) := by
  rcases (show i = 0 ∨ i = 1 ∨ i = 2 ∨ i = 3 by omega) with h | h | h | h <;> subst h <;> exact ⟨rfl, rfl⟩
theorem hf_0 (hr : yy_sh r) : xm_O (xm_fi o (yy_W m t) r 5 0) F = F (m r 0) := congrArg (fun x => xm_O x F) (yy_fi hr.1 (by decide) rfl)
theorem hs_0 (hr : yy_sh r) : xm_O (xm_setf (yy_W m t) r 5 0 0 (.inl v)) K = K (yy_W (yy_s m r 0 v) t) := congrArg (fun x => xm_O x K) (yy_setf hr.1 (by decide) rfl rfl)
theorem hf_1 (hr : yy_sh r) : xm_O (xm_fi o (yy_W m t) r 5 1) F = F (m r 1) := congrArg (fun x => xm_O x F) (yy_fi hr.1 (by decide) rfl)
theorem hs_1 (hr : yy_sh r) : xm_O (xm_setf (yy_W m t) r 5 1 0 (.inl v)) K = K (yy_W (yy_s m r 1 v) t) := congrArg (fun x => xm_O x K) (yy_setf hr.1 (by decide) rfl rfl)
theorem hr_2 (hr : yy_sh r) : xm_O (xm_fr o (yy_W m t) r 5 2) G = G (r + 1) := congrArg (fun x => xm_O x G) (yy_fr hr.1 (by decide) rfl)
theorem hi_1 (hr : yy_sh r) : xm_O (xm_ints o (yy_W m t) (r + 1)) H = H (yy_R 24 (m (r + 1))) := congrArg (fun x => xm_O x H) (yy_ints hr.2)
theorem ht_1 (hr : yy_sh r) (h0 : 0 ≤ i) (h1 : i < 24) : xm_O (xm_seti (yy_W m t) (r + 1) i v) K = K (yy_W (yy_s m (r + 1) i.toNat v) t) := congrArg (fun x => xm_O x K) (yy_seti hr.2 h0 h1)
theorem yy_hds {as : List xm_V} (hr : yy_sh r) : xm_hd o (yy_W m t) 6 (.inr (.inl (some r)) :: as) := yy_hd hr.1 (by decide)
end yt_sec
