/-! THE WORLD of one object of the class and one of the reference as numbers alone: cell c, place k: mu c k -/
def yy_R (n : Nat) (f : Nat → Int) : List Int := (List.range n).map f
def yy_u (f : Nat → Int) (i : Nat) (v : Int) : Nat → Int := fun k => if k = i then v else f k
def yy_c (m : Nat → Nat → Int) (c : Nat) (f : Nat → Int) : Nat → Nat → Int := fun k => if k = c then f else m k
def yy_s (m : Nat → Nat → Int) (c i : Nat) (v : Int) : Nat → Nat → Int := yy_c m c (yy_u (m c) i v)
def yy_d (z : Int) : Option Nat := if z = 0 then none else some (z - 1).toNat
def yy_v (f : Nat → Int) (a : Nat) (k : Nat) : xm_V := match k with
  | 0 => .inl (f a)
  | 1 => .inr (.inl (yy_d (f a)))
  | r + 2 => .inr (.inl (some r))
def yy_q (f : Nat → Int) (a : Nat) (k : Nat) : Option Nat := match k with
  | 0 => none
  | 1 => yy_d (f a)
  | r + 2 => some r
def yy_vs (f : Nat → Int) : Nat → List Nat → List xm_V
  | _, [] => []
  | a, k :: l => yy_v f a k :: yy_vs f (a + 1) l
def yy_qs (f : Nat → Int) : Nat → List Nat → List (Option Nat)
  | _, [] => []
  | a, k :: l => yy_q f a k :: yy_qs f (a + 1) l
def yy_cel (s : Nat × List Nat) (f : Nat → Int) : xm_C := match s with
  | (0, l) => .inl (yy_R (l.headD 0) f)
  | (k + 1, l) => if k < 49 then .inr (.inr (k, yy_vs f 0 l)) else .inr (.inl (k - 49, yy_qs f 0 l))
def yy_g (m : Nat → Nat → Int) : Nat → List (Nat × List Nat) → xm_W
  | _, [] => []
  | c, s :: l => yy_cel s (m c) :: yy_g m (c + 1) l
def yy_lay : List (Nat × List Nat) := [(9, [3, 20, 37, 40, 57, 0, 60, 63, 65, 66, 67]), (3, [4, 0, 0, 5, 0, 6, 0, 7, 8, 9]), (0, [36]), (54, [10, 12, 14, 16, 18]), (0, [200]), (57, [1, 1]), (0, [4]), (0, [60]), (5, [0, 0, 0, 0, 0, 0, 11]), (0, [12]), (5, [0, 0, 0, 0, 0, 0, 13]), (0, [12]), (5, [0, 0, 0, 0, 0, 0, 15]), (0, [12]), (5, [0, 0, 0, 0, 0, 0, 17]), (0, [12]), (5, [0, 0, 0, 0, 0, 0, 19]), (0, [12]), (3, [21, 0, 0, 22, 0, 23, 0, 24, 25, 26]), (0, [36]), (54, [27, 29, 31, 33, 35]), (0, [200]), (57, [1, 1]), (0, [4]), (0, [60]), (5, [0, 0, 0, 0, 0, 0, 28]), (0, [12]), (5, [0, 0, 0, 0, 0, 0, 30]), (0, [12]), (5, [0, 0, 0, 0, 0, 0, 32]), (0, [12]), (5, [0, 0, 0, 0, 0, 0, 34]), (0, [12]), (5, [0, 0, 0, 0, 0, 0, 36]), (0, [12]), (2, [38, 0, 39, 0, 0]), (0, [60]), (0, [24]), (3, [41, 0, 0, 42, 0, 43, 0, 44, 45, 46]), (0, [36]), (54, [47, 49, 51, 53, 55]), (0, [200]), (57, [1, 1]), (0, [4]), (0, [60]), (5, [0, 0, 0, 0, 0, 0, 48]), (0, [12]), (5, [0, 0, 0, 0, 0, 0, 50]), (0, [12]), (5, [0, 0, 0, 0, 0, 0, 52]), (0, [12]), (5, [0, 0, 0, 0, 0, 0, 54]), (0, [12]), (5, [0, 0, 0, 0, 0, 0, 56]), (0, [12]), (2, [58, 0, 59, 0, 0]), (0, [60]), (0, [24]), (4, [1, 0, 1, 0, 62, 0]), (0, [0]), (0, [60]), (7, [64, 0, 0, 0, 0]), (0, [30]), (1, [0, 0, 0, 0, 0]), (55, [68, 70, 72, 74]), (0, [7]), (6, [0, 0, 69]), (0, [24]), (6, [0, 0, 71]), (0, [24]), (6, [0, 0, 73]), (0, [24]), (6, [0, 0, 75]), (0, [24]), (10, [77, 78, 79, 0, 0, 80, 0, 0, 0, 0, 81, 82, 83, 0, 84, 0, 0, 0, 85, 86, 87, 88]), (0, [673]), (0, [673]), (0, [339]), (0, [7]), (0, [124]), (0, [128]), (0, [64]), (0, [30]), (0, [4]), (0, [4]), (0, [96]), (0, [24])]
def yy_W (m : Nat → Nat → Int) (t : xm_W) : xm_W := yy_g m 0 yy_lay ++ t
section yy_sec
variable {o : xm_W} {m : Nat → Nat → Int} {t : xm_W} {f g : Nat → Int} {c k a n i : Nat} {l : List Nat} {v : Int}
theorem yy_R_len : (yy_R n f).length = n := by unfold yy_R; simp
theorem yy_R_get (h : k < n) : (yy_R n f)[k]? = some (f k) := by unfold yy_R; simp [h]
theorem yy_R_ext {l : List Int} (h : l.length = n) (h2 : ∀ k, k < n → l[k]? = some (f k)) : l = yy_R n f := by
  apply List.ext_getElem?
  intro j
  by_cases hj : j < n
  · rw [h2 j hj, yy_R_get hj]
  · rw [List.getElem?_eq_none (by omega), List.getElem?_eq_none (by rw [yy_R_len]; omega)]
theorem yy_R_congr (h : ∀ k, k < n → f k = g k) : yy_R n f = yy_R n g := yy_R_ext yy_R_len fun k hk => by rw [yy_R_get hk, h k hk]
theorem yy_R_set : (yy_R n f).set i v = yy_R n (yy_u f i v) := by
  refine yy_R_ext (by rw [List.length_set, yy_R_len]) fun k hk => ?_
  unfold yy_u
  by_cases e : k = i
  · subst e; rw [if_pos rfl, List.getElem?_set_self (by rw [yy_R_len]; exact hk)]
  · rw [if_neg e, List.getElem?_set_ne (fun h => e h.symm), yy_R_get hk]
theorem yy_R_zero : List.replicate n 0 = yy_R n (fun _ => 0) := yy_R_ext List.length_replicate fun k hk => by rw [List.getElem?_replicate, if_pos hk]
theorem yy_at {z : Int} (h0 : 0 ≤ z) (h1 : z < n) : xm_at (yy_R n f) z = some (f z.toNat) := by
  unfold xm_at; rw [if_pos h0, yy_R_get (by omega)]
theorem yy_u_eq : yy_u f i v i = v := if_pos rfl
theorem yy_u_ne (h : k ≠ i) : yy_u f i v k = f k := if_neg h
theorem yy_u_id : yy_u f i (f i) = f := by
  funext k; unfold yy_u; split
  · rename_i h; rw [h]
  · rfl
theorem yy_c_eq : yy_c m c f c = f := if_pos rfl
theorem yy_c_ne (h : k ≠ c) : yy_c m c f k = m k := if_neg h
theorem yy_c_id : yy_c m c (m c) = m := by
  funext k; unfold yy_c; split
  · rename_i h; rw [h]
  · rfl
theorem yy_c_c : yy_c (yy_c m c f) c g = yy_c m c g := by
  funext k; unfold yy_c; split <;> rfl
theorem yy_s_eq : yy_s m c i v c = yy_u (m c) i v := yy_c_eq
theorem yy_s_ne (h : k ≠ c) : yy_s m c i v k = m k := yy_c_ne h
theorem yy_s_s {v' : Int} {i' : Nat} : yy_s (yy_s m c i v) c i' v' = yy_c m c (yy_u (yy_u (m c) i v) i' v') := by
  unfold yy_s; rw [yy_c_c, yy_c_eq]
theorem yy_vs_len : ∀ (l : List Nat) (a : Nat), (yy_vs f a l).length = l.length
  | [], _ => rfl
  | _ :: l, a => by show (yy_vs f (a + 1) l).length + 1 = _; rw [yy_vs_len l]; rfl
theorem yy_vs_get : ∀ (l : List Nat) (b a : Nat), (yy_vs f b l)[a]? = (l[a]?).map (yy_v f (b + a))
  | [], _, _ => rfl
  | k :: l, b, 0 => rfl
  | k :: l, b, a + 1 => by
    show (yy_vs f (b + 1) l)[a]? = _
    rw [yy_vs_get l, show b + 1 + a = b + (a + 1) by omega]; rfl
theorem yy_v_u (h : k ≠ i) (e : Nat) : yy_v (yy_u f i v) k e = yy_v f k e := by
  unfold yy_v; rw [yy_u_ne h]
theorem yy_vs_set {x : xm_V} (h : ∀ e, l[a]? = some e → x = yy_v (yy_u f a v) a e) : (yy_vs f 0 l).set a x = yy_vs (yy_u f a v) 0 l := by
  apply List.ext_getElem?
  intro j
  rw [List.getElem?_set, yy_vs_get, yy_vs_get, yy_vs_len]
  by_cases e : a = j
  · subst e
    rw [if_pos rfl, Nat.zero_add]
    by_cases q : a < l.length
    · rw [if_pos q, List.getElem?_eq_getElem q, h _ (List.getElem?_eq_getElem q)]; rfl
    · rw [if_neg q, List.getElem?_eq_none (by omega)]; rfl
  · rw [if_neg e, Nat.zero_add]
    cases l[j]? with
    | none => rfl
    | some y => show some _ = some _; rw [yy_v_u (fun h => e h.symm)]
theorem yy_qs_len : ∀ (l : List Nat) (a : Nat), (yy_qs f a l).length = l.length
  | [], _ => rfl
  | _ :: l, a => by show (yy_qs f (a + 1) l).length + 1 = _; rw [yy_qs_len l]; rfl
theorem yy_qs_get : ∀ (l : List Nat) (b a : Nat), (yy_qs f b l)[a]? = (l[a]?).map (yy_q f (b + a))
  | [], _, _ => rfl
  | k :: l, b, 0 => rfl
  | k :: l, b, a + 1 => by
    show (yy_qs f (b + 1) l)[a]? = _
    rw [yy_qs_get l, show b + 1 + a = b + (a + 1) by omega]; rfl
theorem yy_q_u (h : k ≠ i) (e : Nat) : yy_q (yy_u f i v) k e = yy_q f k e := by
  unfold yy_q; rw [yy_u_ne h]
theorem yy_qs_set {x : Option Nat} (h : ∀ e, l[a]? = some e → x = yy_q (yy_u f a v) a e) : (yy_qs f 0 l).set a x = yy_qs (yy_u f a v) 0 l := by
  apply List.ext_getElem?
  intro j
  rw [List.getElem?_set, yy_qs_get, yy_qs_get, yy_qs_len]
  by_cases e : a = j
  · subst e
    rw [if_pos rfl, Nat.zero_add]
    by_cases q : a < l.length
    · rw [if_pos q, List.getElem?_eq_getElem q, h _ (List.getElem?_eq_getElem q)]; rfl
    · rw [if_neg q, List.getElem?_eq_none (by omega)]; rfl
  · rw [if_neg e, Nat.zero_add]
    cases l[j]? with
    | none => rfl
    | some y => show some _ = some _; rw [yy_q_u (fun h => e h.symm)]
theorem yy_g_len : ∀ (l : List (Nat × List Nat)) (b : Nat), (yy_g m b l).length = l.length
  | [], _ => rfl
  | _ :: l, b => by show (yy_g m (b + 1) l).length + 1 = _; rw [yy_g_len l]; rfl
theorem yy_g_get : ∀ (l : List (Nat × List Nat)) (b c : Nat), (yy_g m b l)[c]? = (l[c]?).map (fun s => yy_cel s (m (b + c)))
  | [], _, _ => rfl
  | s :: l, b, 0 => rfl
  | s :: l, b, c + 1 => by
    show (yy_g m (b + 1) l)[c]? = _
    rw [yy_g_get l, show b + 1 + c = b + (c + 1) by omega]; rfl
theorem yy_lay_len : yy_lay.length = 87 := rfl
theorem yy_W_len : (yy_W m t).length = 87 + t.length := by
  unfold yy_W; rw [List.length_append, yy_g_len, yy_lay_len]
theorem yy_get {s : Nat × List Nat} (h : yy_lay[c]? = some s) : (yy_W m t)[c]? = some (yy_cel s (m c)) := by
  have hc := (List.getElem?_eq_some_iff.mp h).1
  unfold yy_W
  rw [List.getElem?_append_left (by rw [yy_g_len]; exact hc), yy_g_get, h, Nat.zero_add]; rfl
theorem yy_ge (h : 87 ≤ c) : (yy_W m t)[c]? = t[c - 87]? := by
  unfold yy_W
  rw [List.getElem?_append_right (by rw [yy_g_len]; exact h), yy_g_len]; rfl
theorem yy_set {s : Nat × List Nat} (h : yy_lay[c]? = some s) : (yy_W m t).set c (yy_cel s f) = yy_W (yy_c m c f) t := by
  have hc := (List.getElem?_eq_some_iff.mp h).1
  have hc : c < 87 := hc
  apply List.ext_getElem?
  intro j
  rw [List.getElem?_set]
  by_cases e : c = j
  · subst e
    rw [if_pos rfl, if_pos (by rw [yy_W_len]; omega), yy_get h, yy_c_eq]
  · rw [if_neg e]
    by_cases q : j < 87
    · have hj : yy_lay[j]? = some (yy_lay[j]'q) := List.getElem?_eq_getElem q
      rw [yy_get hj, yy_get hj, yy_c_ne (fun h => e h.symm)]
    · rw [yy_ge (by omega), yy_ge (by omega)]
theorem yy_cg (h : ∀ c, c < 87 → ∀ k, m c k = (fun _ _ => (0 : Int)) c k) : True := trivial
theorem yy_cel_o (hk : k < 49) : yy_cel (k + 1, l) f = .inr (.inr (k, yy_vs f 0 l)) := if_pos hk
theorem yy_cel_q (hk : ¬ k < 49) : yy_cel (k + 1, l) f = .inr (.inl (k - 49, yy_qs f 0 l)) := if_neg hk
theorem yy_fi (h : yy_lay[c]? = some (k + 1, l)) (hk : k < 49) (ha : l[a]? = some 0) : xm_fi o (yy_W m t) c k a = some (m c a) :=
  xw_fi ((yy_get h).trans (congrArg some (yy_cel_o hk))) (by rw [yy_vs_get, ha, Nat.zero_add]; rfl)
theorem yy_fr {r : Nat} (h : yy_lay[c]? = some (k + 1, l)) (hk : k < 49) (ha : l[a]? = some (r + 2)) : xm_fr o (yy_W m t) c k a = some r :=
  xw_fr ((yy_get h).trans (congrArg some (yy_cel_o hk))) (by rw [yy_vs_get, ha]; rfl)
theorem yy_fd {r : Nat} (h : yy_lay[c]? = some (k + 1, l)) (hk : k < 49) (ha : l[a]? = some 1) (hd : yy_d (m c a) = some r) : xm_fr o (yy_W m t) c k a = some r :=
  xw_fr ((yy_get h).trans (congrArg some (yy_cel_o hk))) (by rw [yy_vs_get, ha, Nat.zero_add]; show some (Sum.inr (Sum.inl (yy_d (m c a)))) = _; rw [hd])
theorem yy_ints (h : yy_lay[c]? = some (0, [n])) : xm_ints o (yy_W m t) c = some (yy_R n (m c)) := xw_ints (yy_get h)
theorem yy_len (h : yy_lay[c]? = some (0, [n])) (hn : n < 1000000) : xm_len o (yy_W m t) c = some n := by
  rw [xw_len (yy_get h) (by rw [yy_R_len]; exact hn)]
  show some (yy_R n (m c)).length = _
  rw [yy_R_len]
theorem yy_refs (h : yy_lay[c]? = some (k + 1, l)) (hk : ¬ k < 49) : xm_refs o (yy_W m t) c = some (yy_qs (m c) 0 l) :=
  xw_refs ((yy_get h).trans (congrArg some (yy_cel_q hk)))
theorem yy_setf {y : Nat} (h : yy_lay[c]? = some (k + 1, l)) (hk : k < 49) (ha : l[a]? = some 0) (hf : xm_fit y (.inl v) = true) : xm_setf (yy_W m t) c k a y (.inl v) = some (yy_W (yy_s m c a v) t) := by
  rw [xw_setf ((yy_get h).trans (congrArg some (yy_cel_o hk))) (by rw [yy_vs_len]; exact (List.getElem?_eq_some_iff.mp ha).1) hf]
  refine congrArg some ?_
  rw [yy_vs_set (v := v) (fun e he => by rw [ha] at he; cases he; show _ = Sum.inl (yy_u (m c) a v a); rw [yy_u_eq]), ← yy_cel_o hk]
  exact yy_set h
theorem yy_setd {z : Int} {q : Option Nat} (h : yy_lay[c]? = some (k + 1, l)) (hk : k < 49) (ha : l[a]? = some 1) (hz : yy_d z = q) : xm_setf (yy_W m t) c k a 2 (.inr (.inl q)) = some (yy_W (yy_s m c a z) t) := by
  rw [xw_setf ((yy_get h).trans (congrArg some (yy_cel_o hk))) (by rw [yy_vs_len]; exact (List.getElem?_eq_some_iff.mp ha).1) rfl]
  refine congrArg some ?_
  rw [yy_vs_set (v := z) (fun e he => by rw [ha] at he; cases he; show _ = Sum.inr (Sum.inl (yy_d (yy_u (m c) a z a))); rw [yy_u_eq, hz]), ← yy_cel_o hk]
  exact yy_set h
theorem yy_seti {z x : Int} (h : yy_lay[c]? = some (0, [n])) (h0 : 0 ≤ z) (h1 : z < n) : xm_seti (yy_W m t) c z x = some (yy_W (yy_s m c z.toNat x) t) := by
  rw [xw_seti (yy_get h) h0 (by show z < ((yy_R n (m c)).length : Int); rw [yy_R_len]; exact h1)]
  refine congrArg some ?_
  show (yy_W m t).set c (Sum.inl ((yy_R n (m c)).set z.toNat x)) = _
  rw [yy_R_set]
  exact yy_set h
theorem zy_at {z : Int} {F : Int → Prop} (h0 : 0 ≤ z) (h1 : z < n) : xm_O (xm_at (yy_R n f) z) F = F (f z.toNat) := congrArg (fun x => xm_O x F) (yy_at h0 h1)
def yy_cp (f g : Nat → Int) (sp dp n : Nat) : Nat → Int := fun k => if dp ≤ k ∧ k < dp + n then f (sp + (k - dp)) else g k
theorem yy_R_cpy {n1 sp dp c : Nat} (h1 : sp + c ≤ n) (h2 : dp + c ≤ n1) : xm_cpy (yy_R n f) (yy_R n1 g) sp dp c = yy_R n1 (yy_cp f g sp dp c) := by
  refine yy_R_ext (by rw [xm_cpy_len _ _ _ _ _ (by rw [yy_R_len]; exact h1) (by rw [yy_R_len]; exact h2), yy_R_len]) fun k hk => ?_
  unfold xm_cpy yy_cp
  by_cases a : k < dp
  · rw [List.getElem?_append_left (by rw [List.length_take, yy_R_len]; omega), List.getElem?_take_of_lt a, yy_R_get hk, if_neg (by omega)]
  · rw [List.getElem?_append_right (by rw [List.length_take, yy_R_len]; omega), List.length_take, yy_R_len, Nat.min_eq_left (by omega)]
    by_cases b : k < dp + c
    · rw [List.getElem?_append_left (by rw [List.length_take, List.length_drop, yy_R_len]; omega), List.getElem?_take_of_lt (by omega), List.getElem?_drop, yy_R_get (by omega), if_pos ⟨by omega, b⟩]
    · rw [List.getElem?_append_right (by rw [List.length_take, List.length_drop, yy_R_len]; omega), List.length_take, List.length_drop, yy_R_len, List.getElem?_drop, if_neg (by omega), Nat.min_eq_left (by omega), show dp + c + (k - dp - c) = k by omega, yy_R_get hk]
theorem yy_copy {c1 n1 : Nat} {sp dp z : Int} (h : yy_lay[c]? = some (0, [n])) (h' : yy_lay[c1]? = some (0, [n1])) (h0 : 0 ≤ sp) (h1 : 0 ≤ dp) (h2 : 0 ≤ z) (h3 : sp + z ≤ n) (h4 : dp + z ≤ n1) : xm_copy (yy_W m t) c sp c1 dp z = some (yy_W (yy_c m c1 (yy_cp (m c) (m c1) sp.toNat dp.toNat z.toNat)) t) := by
  unfold xm_copy
  rw [yy_get h, yy_get h']
  show (if 0 ≤ sp ∧ 0 ≤ dp ∧ 0 ≤ z ∧ sp + z ≤ ((yy_R n (m c)).length : Int) ∧ dp + z ≤ ((yy_R n1 (m c1)).length : Int) then some ((yy_W m t).set c1 (Sum.inl (xm_cpy (yy_R n (m c)) (yy_R n1 (m c1)) sp.toNat dp.toNat z.toNat))) else none) = _
  rw [yy_R_len, yy_R_len, if_pos ⟨h0, h1, h2, h3, h4⟩, yy_R_cpy (by omega) (by omega)]
  exact congrArg some (yy_set h')
end yy_sec
