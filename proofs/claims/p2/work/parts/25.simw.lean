def xm_WS : List Cond := lw_tbl.filter goodWord
theorem xm_ws_in {w : Cond} (h : w ∈ lw_tbl) (g : goodWord w = true) : w ∈ xm_WS := List.mem_filter.mpr ⟨h, g⟩
theorem xm_gd_in {i : Nat} {w : Cond} (h : xm_gd i w = true) : w ∈ lw_tbl ∧ goodWord w = true := by
  simp only [xm_gd, xm_wd, Bool.and_eq_true, decide_eq_true_eq] at h
  exact ⟨xm_look_in h.1, h.2⟩
theorem xm_wd_in {i : Nat} {w : Cond} (h : xm_wd i w = true) : w ∈ lw_tbl := by
  simp only [xm_wd, decide_eq_true_eq] at h
  exact xm_look_in h
theorem xm_Fr.hts {p : Program} {s : State} {m : MethodId} {args : Array Value} {meth : Method} {c : Code} {cc : ByteArray} {nL : Nat} {own : String} {ini : Bool} {G : xm_G} {o : xm_W} (F : xm_Fr p s m args meth c cc nL own ini G o) : ∀ w ∈ xm_WS, w.before args s = true := fun w h => F.2.2.2.2.1 w (List.mem_filter.mp h).1 (List.mem_filter.mp h).2
theorem xm_Fr.gd {p : Program} {s : State} {m : MethodId} {args : Array Value} {meth : Method} {c : Code} {cc : ByteArray} {nL : Nat} {own : String} {ini : Bool} {G : xm_G} {o : xm_W} (F : xm_Fr p s m args meth c cc nL own ini G o) {i : Nat} {w : Cond} (h : xm_gd i w = true) : w.before args s = true := F.2.2.2.2.1 w (xm_gd_in h).1 (xm_gd_in h).2
theorem xm_P1 {G : xm_G} {x : Nat × va_E} {H : Heap} (h : va_at G.1 xm_cl x H) : va_P G.1 xm_cl [x] H := fun k q hq => by
  match k, hq with
  | 0, hq => cases hq; exact h
  | k + 1, hq => simp at hq
theorem xm_sum_set : ∀ (l : List Nat) (k v : Nat), l[k]? = some v → (l.set k v).sum = l.sum
  | [], _, _, h => by simp at h
  | z :: l, 0, v, h => by
    have : z = v := by simpa using h
    subst this; rfl
  | z :: l, k + 1, v, h => by
    have h2 : l[k]? = some v := by simpa using h
    simp only [List.set_cons_succ, List.sum_cons, xm_sum_set l k v h2]
theorem xm_sz_set {w : xm_W} {k : Nat} {x x0 : xm_C} (hk : w[k]? = some x0) (h : xm_szC x = xm_szC x0) : xm_sz (w.set k x) = xm_sz w := by
  unfold xm_sz
  rw [List.map_set, h]
  exact xm_sum_set _ _ _ (by rw [List.getElem?_map, hk]; rfl)
theorem xm_sz_push (w : xm_W) (x : xm_C) : xm_sz (w ++ [x]) = xm_sz w + xm_szC x := by simp [xm_sz]
theorem xm_gr_set {w : xm_W} {k : Nat} {x x0 : xm_C} (hk : w[k]? = some x0) (h : xm_szC x = xm_szC x0) : xm_gr w (w.set k x) := ⟨by rw [List.length_set]; exact Nat.le_refl _, by rw [xm_sz_set hk h]; exact Nat.le_refl _⟩
theorem xm_gr_push (w : xm_W) (x : xm_C) : xm_gr w (w ++ [x]) := ⟨by simp, by rw [xm_sz_push]; omega⟩
theorem xm_Rep.at {G : xm_G} {w : xm_W} {H : Heap} (h : xm_Rep G w H) {k : Nat} {x : xm_C} (hx : w[k]? = some x) : va_at G.1 xm_cl (G.2.2.1 + k, xm_e G x) H := (h.2.2 k x hx).1
theorem xm_Rep.okc {G : xm_G} {w : xm_W} {H : Heap} (h : xm_Rep G w H) {k : Nat} {x : xm_C} (hx : w[k]? = some x) : xm_okC x := (h.2.2 k x hx).2
theorem xm_Rep.set {G : xm_G} {w : xm_W} {H H1 : Heap} (h : xm_Rep G w H) {k : Nat} {x : xm_C} (hx : va_at G.1 xm_cl (G.2.2.1 + k, xm_e G x) H1) (hok : xm_okC x) (hz : H1.size = H.size) (oq : ∀ q : Nat, q ≠ G.2.2.1 + k → H1[q]? = H[q]?) : xm_Rep G (w.set k x) H1 := by
  refine ⟨by rw [hz, List.length_set]; exact h.1, by rw [List.length_set]; exact h.2.1, fun j y hj => ?_⟩
  rw [List.getElem?_set] at hj
  by_cases hjk : k = j
  · subst hjk
    rw [if_pos rfl] at hj
    split at hj
    next => cases hj; exact ⟨hx, hok⟩
    next => cases hj
  · rw [if_neg hjk] at hj
    refine ⟨(h.at hj).kept (oq _ ?_), h.okc hj⟩
    show G.2.2.1 + j ≠ _
    omega
theorem xm_Rep.push {G : xm_G} {w : xm_W} {H H1 : Heap} (h : xm_Rep G w H) {x : xm_C} (hx : va_at G.1 xm_cl (G.2.2.1 + w.length, xm_e G x) H1) (hok : xm_okC x) (hz : H1.size = H.size + 1) (oq : ∀ q : Nat, q < H.size → H1[q]? = H[q]?) (hl : w.length + 1 < 1000000) : xm_Rep G (w ++ [x]) H1 := by
  refine ⟨by rw [hz, h.1, List.length_append]; rfl, by rw [List.length_append]; exact hl, fun j y hj => ?_⟩
  by_cases hjk : j < w.length
  · rw [List.getElem?_append_left hjk] at hj
    exact ⟨(h.at hj).kept (oq _ (by show G.2.2.1 + j < _; rw [h.1]; omega)), h.okc hj⟩
  · have hlt : j < (w ++ [x]).length := (List.getElem?_eq_some_iff.mp hj).1
    rw [List.length_append] at hlt
    have : j = w.length := by simp only [List.length_cons, List.length_nil] at hlt; omega
    subst this
    rw [List.getElem?_append_right (Nat.le_refl _), Nat.sub_self] at hj
    cases hj
    exact ⟨hx, hok⟩
theorem xm_Rl.put {G : xm_G} {s : State} {nL mc ms k sl : Nat} {wf : xm_W} {L : List (Option xm_V)} {st st' : List xm_V} {w : xm_W} {ls : Array Slot} {H H1 : Heap} {locs : List Loc} {cells slots : Nat} {x x0 : xm_C} (h : xm_Rl G s nL mc ms wf L st w ls H locs cells slots) (hk : w[k]? = some x0) (hsz : xm_szC x = xm_szC x0) (hx : va_at G.1 xm_cl (G.2.2.1 + k, xm_e G x) H1) (hok : xm_okC x) (hz : H1.size = H.size) (oq : ∀ q : Nat, q ≠ G.2.2.1 + k → H1[q]? = H[q]?) (hst : ∀ v ∈ st', xm_ok v) : xm_Rl G s nL mc ms wf L st' (w.set k x) ls H1 (locs ++ [⟨G.2.2.1 + k, sl⟩]) cells slots := by
  refine ⟨h.1, hst, h.2.2.1.set hx hok hz oq, h.2.2.2.1.put hz oq (Nat.le_add_right _ _), ?_, ?_⟩
  · rw [List.length_set]; exact h.2.2.2.2.1
  · rw [xm_sz_set hk hsz]; exact h.2.2.2.2.2
theorem xm_Rl.push {G : xm_G} {s : State} {nL mc ms : Nat} {wf : xm_W} {L : List (Option xm_V)} {st st' : List xm_V} {w : xm_W} {ls : Array Slot} {H H1 : Heap} {locs : List Loc} {cells slots : Nat} {x : xm_C} (h : xm_Rl G s nL mc ms wf L st w ls H locs cells slots) (hx : va_at G.1 xm_cl (G.2.2.1 + w.length, xm_e G x) H1) (hok : xm_okC x) (hz : H1.size = H.size + 1) (oq : ∀ q : Nat, q < H.size → H1[q]? = H[q]?) (hst : ∀ v ∈ st', xm_ok v) (hg : xm_gr (w ++ [x]) wf) (hwf : wf.length < 1000000) : xm_Rl G s nL mc ms wf L st' (w ++ [x]) ls H1 locs (cells + 1) (slots + xm_szC x) := by
  have hg1 : w.length + 1 ≤ wf.length := by have := hg.1; rw [List.length_append] at this; exact this
  have hS := h.2.2.2.1
  have h5 := h.2.2.2.2
  refine ⟨h.1, hst, h.2.2.1.push hx hok hz oq (by omega), ⟨by rw [hz]; exact Nat.le_trans hS.1 (Nat.le_succ _), fun q h1 h2 => by rw [oq q (Nat.lt_of_lt_of_le h1 hS.1)]; exact hS.2.1 q h1 h2, hS.2.2⟩, ?_, ?_⟩
  · rw [List.length_append]; simp only [List.length_cons, List.length_nil]; omega
  · rw [xm_sz_push]; omega
theorem xm_ad_lo {G : xm_G} {k : Nat} (h : k < 1000000) : xm_ad G k = G.2.2.1 + k := by unfold xm_ad; rw [if_pos h]
theorem xm_ad_hi {G : xm_G} {k : Nat} (h : ¬ k < 1000000) : xm_ad G k = G.2.2.2 (k - 1000000) := by unfold xm_ad; rw [if_neg h]
theorem xm_ints1.moved {U V : State} {H : Heap} {a : Nat} {ty : FieldType} {l : List Int} (hvm : U.vm.Alike V.vm) (h : xm_ints1 U H a ty l) : xm_ints1 V H a ty l := by
  obtain ⟨cell, h1, h2, h3⟩ := h
  exact ⟨cell, h1, State.isArrayOf_alike hvm h2, h3⟩
theorem xm_ints1.kept {U : State} {H H1 : Heap} {a : Nat} {ty : FieldType} {l : List Int} (h : xm_ints1 U H a ty l) (hq : H1[a]? = H[a]?) : xm_ints1 U H1 a ty l := by
  obtain ⟨cell, h1, h2⟩ := h
  exact ⟨cell, by rw [hq]; exact h1, h2⟩
theorem xm_o1.moved {G : xm_G} {U V : State} {H : Heap} {a : Nat} {x : xm_C} (hvm : U.vm.Alike V.vm) (h : xm_o1 G U H a x) : xm_o1 G V H a x := by
  obtain ⟨h1, h2, h3⟩ := h
  refine ⟨h1, h2, ?_⟩
  match x, h3 with
  | .inl l, h3 => exact ⟨h3.1.moved hvm, h3.2⟩
  | .inr (.inr (99, l)), h3 =>
    obtain ⟨l', e, h4, h5⟩ := h3
    exact ⟨l', e, h4.moved hvm, h5⟩
  | .inr (.inr (98, [v, u])), h3 =>
    obtain ⟨h4, h5, h6, h7, cell, h8, h9, h10⟩ := h3
    exact ⟨h4.moved hvm, h5.moved hvm, h6, h7, cell, h8, h9, by rw [hvm.findClass]; exact h10⟩
theorem xm_o1.kept {G : xm_G} {U : State} {H H1 : Heap} {a : Nat} {x : xm_C} (h : xm_o1 G U H a x) (hz : H.size ≤ H1.size) (hq : ∀ q : Nat, q < H.size → ¬ xm_A G q → H1[q]? = H[q]?) : xm_o1 G U H1 a x := by
  obtain ⟨h1, h2, h3⟩ := h
  refine ⟨Nat.lt_of_lt_of_le h1 hz, h2, ?_⟩
  match x, h3 with
  | .inl l, h3 => exact ⟨h3.1.kept (hq a h1 h2), h3.2⟩
  | .inr (.inr (99, l)), h3 =>
    obtain ⟨l', e, h4, h5⟩ := h3
    exact ⟨l', e, h4.kept (hq a h1 h2), h5⟩
  | .inr (.inr (98, [v, u])), h3 =>
    obtain ⟨h4, h5, h6, h7, cell, h8, h9, h10⟩ := h3
    exact ⟨h4.kept hq, h5.kept hq, h6, h7, cell, by rw [hq a h1 h2]; exact h8, h9, h10⟩
theorem xm_nest_at {s U : State} {w : Cond} (hn : xm_nest w = true) (hW : s.WarmedH U.vm) (h : va_Nw w s) : va_Nw w U := by
  match w, hn, h with
  | .fieldLinkNest .., _, h => exact h.warmF hW
  | .methodLinkNest .., _, h => exact h.warmM hW
theorem xm_nest_same {s U : State} {w : Cond} (hn : xm_nest w = true) (hW : s.vm = U.vm) (h : va_Nw w s) : va_Nw w U := by
  match w, hn, h with
  | .fieldLinkNest .., _, h => exact h.same rfl hW
  | .methodLinkNest .., _, h => exact h.same rfl hW
theorem xm_Kn.warm {G : xm_G} {o : xm_W} {sta : List xm_V} {sts : List (String × String × String)} {str : List (String × Nat × String)} {s U : State} {H : Heap} (hW : s.WarmedH U.vm) (h : xm_Kn G o sta sts str s H) : xm_Kn G o sta sts str U H := by
  obtain ⟨h1, h2, h3, h4, h5, h6⟩ := h
  have hvm := hW.alike
  refine ⟨fun w hw hn => xm_nest_at hn hW (h1 w hw hn), h2.moved hvm, ⟨h3.1.moved hvm, h3.2.1.moved hvm, h3.2.2.moved hvm⟩, fun i q hi => ?_, fun i q hi => (h5 i q hi).warm hW, fun k x hk => (h6 k x hk).moved hvm⟩
  obtain ⟨v, a1, a2, a3⟩ := h4 i q hi
  exact ⟨v, a1, a2, a3.moved hvm⟩
theorem xm_Kn.same {G : xm_G} {o : xm_W} {sta : List xm_V} {sts : List (String × String × String)} {str : List (String × Nat × String)} {s U : State} {H : Heap} (hW : s.vm = U.vm) (h : xm_Kn G o sta sts str s H) : xm_Kn G o sta sts str U H := by
  obtain ⟨h1, h2, h3, h4, h5, h6⟩ := h
  have hvm : s.vm.Alike U.vm := by rw [hW]; exact Vm.Alike.refl _
  refine ⟨fun w hw hn => xm_nest_same hn hW (h1 w hw hn), h2.moved hvm, ⟨h3.1.moved hvm, h3.2.1.moved hvm, h3.2.2.moved hvm⟩, fun i q hi => ?_, fun i q hi => (h5 i q hi).same hW.symm, fun k x hk => (h6 k x hk).moved hvm⟩
  obtain ⟨v, a1, a2, a3⟩ := h4 i q hi
  exact ⟨v, a1, a2, a3.moved hvm⟩
theorem xm_Kn.kept {G : xm_G} {o : xm_W} {sta : List xm_V} {sts : List (String × String × String)} {str : List (String × Nat × String)} {s : State} {H H1 : Heap} (hz : H.size ≤ H1.size) (hq : ∀ q : Nat, q < H.size → ¬ xm_A G q → H1[q]? = H[q]?) (h : xm_Kn G o sta sts str s H) : xm_Kn G o sta sts str s H1 := by
  obtain ⟨h1, h2, h3, h4, h5, h6⟩ := h
  refine ⟨h1, h2, h3, fun i q hi => ?_, h5, fun k x hk => (h6 k x hk).kept hz hq⟩
  obtain ⟨v, a1, a2, a3⟩ := h4 i q hi
  exact ⟨v, a1, a2, a3.kept hq⟩
