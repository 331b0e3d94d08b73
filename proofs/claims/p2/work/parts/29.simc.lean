def xm_PcX (G : xm_G) (o : xm_W) (as : List xm_V) (w : xm_W) : Array Value → State → Prop := va_Pc (as.map (xm_v G)) (fun U => xm_Rep G w U.heap ∧ xm_Kn G o xm_sta xm_sts xm_str U U.heap ∧ G.2.2.1 ≤ U.heap.size)
def xm_QcX (G : xm_G) (q : Option xm_V × xm_W) : Array Value → State → Outcome → State → Prop := fun _ st oc t => oc = .returned (q.1.map (xm_v G)) ∧ (∀ v, q.1 = some v → xm_ok v) ∧ xm_Rep G q.2 t.heap ∧ va_F (xm_A G) st t
/-- what a call's contract says -/
def xm_Cal (l : Launch) (G : xm_G) (o : xm_W) (mt : Nat → Option xm_M) (d : Nat) (call : Nat → List xm_V → xm_W → xm_R) : Prop :=
  ∀ y as w q, call y as w = some q → ∃ M, mt y = some M ∧ xm_gr w q.2 ∧ (q.2.length < 1000000 → (∀ v ∈ as, xm_ok v) → as.length = M.2.2.2.2.2.1 ∧ (M.2.2.2.2.2.2.1 ≠ 0 → ∃ z, as.head? = some (.inr (.inl (some z))) ∧ (M.2.2.2.2.2.2.1 ≠ 100 → ∃ fs, xm_get o w z = some (.inr (.inr (M.2.2.2.2.2.2.1 - 1, fs))))) ∧
    Met l M.1 (.code M.1 M.2.1 M.2.2.1 M.2.2.2.1 :: xm_WS) { frames := d, cells := q.2.length - w.length, slots := xm_sz q.2 - xm_sz w, locals := 60 * d } (xm_PcX G o as w) (xm_QcX G q) (q.2.length - w.length) (xm_sz q.2 - xm_sz w) (xm_A G))
theorem xm_blind (G : xm_G) (o : xm_W) (as : List xm_V) (w : xm_W) : FrameBlind (xm_PcX G o as w) := fun a U g mk q => by
  obtain ⟨q0, q1, q2, q3⟩ := q
  exact ⟨q0, q1, xm_Kn.same (s := U) (U := U.calling g mk a) (H := U.heap) rfl q2, q3⟩
theorem xm_cats : ∀ (l : List Value), (l.map fun v => v.category).sum ≤ 2 * l.length
  | [] => Nat.le_refl _
  | v :: l => by
    have := xm_cats l
    have h := lv_cat v
    simp only [List.map_cons, List.sum_cons, List.length_cons]
    omega
section xm_sec5
variable {p : Program} {l : Launch} {e : Env} {R : Room} {s : State} {m : MethodId} {args : Array Value} {below : List Frame} {meth : Method} {c : Code} {Q : State → Prop} {cc : ByteArray} {nL mc ms rk : Nat} {own : String} {ini : Bool} {G : xm_G} {o : xm_W} {cd : List xm_I} {k : xm_Kt} {q : Option xm_V × xm_W} {mt : Nat → Option xm_M} {call : Nat → List xm_V → xm_W → xm_R} {pc nx a b : Nat} {ps : List Nat} {sw : List (Int × Nat)} {L : List (Option xm_V)} {st : List xm_V} {w : xm_W}
theorem xm_Wcall {q1 : Option xm_V × xm_W} {as0 : Array Value} {H : Heap} {locs : List Loc} {cells slots mc1 ms1 : Nat} {ls : Array Slot} {st0 rest : List Value} {free : Addr → Prop} (hr : va_Run p l e R s m args below meth c H locs cells slots mc1 ms1 (F0 m pc ls st0) rest (xm_QcX G q1 as0) free)
    (kk : ∀ (H1 : Heap) (L1 : List Loc), (∀ v, q1.1 = some v → xm_ok v) → xm_Rep G q1.2 H1 → (∀ z ∈ L1, free z.base) → H.size ≤ H1.size → (∀ z : Nat, z < H.size → ¬ xm_A G z → H1[z]? = H[z]?) → W p l e R s m args below meth c H1 (locs ++ L1) (cells + mc1) (slots + ms1) Q (F0 m (pc + 3) ls ((q1.1.map (xm_v G)).toList ++ rest))) : W p l e R s m args below meth c H locs cells slots Q (F0 m pc ls st0) := by
  intro T hT X
  obtain ⟨v, st₀, t, T', L1, h0, X', hL, e1, e2, ⟨hv, hok1, hp, hz, hq⟩, hst⟩ := hr T hT X
  cases hv
  rw [h0] at hz hq
  obtain ⟨t2, a1, b1⟩ := kk T'.heap L1 hok1 (by rw [e1]; exact hp) hL (by rw [e1]; exact hz) (fun z h1 h2 => by rw [e1]; exact hq z h1 h2) T' rfl X'
  exact ⟨t2, hst t2 a1, b1⟩
/-- what the check of a call says -/
theorem xm_cw_ok {d : Nat} {kk j : Nat} {M : xm_M} {as : List xm_V} {q1 : Option xm_V × xm_W} (F : xm_Fr p s m args meth c cc nL own ini G o) (hR : d + 1 ≤ R.frames ∧ 60 * d + 60 ≤ R.locals) (hM : mt a = some M) (h : xm_cw own j kk mt a b ps = true) :
    M.2.2.2.2.2.1 = b ∧ (({ frames := d, cells := q1.2.length - w.length, slots := xm_sz q1.2 - xm_sz w, locals := 60 * d } : Room).cells = q1.2.length - w.length ∧ ({ frames := d, cells := q1.2.length - w.length, slots := xm_sz q1.2 - xm_sz w, locals := 60 * d } : Room).slots = xm_sz q1.2 - xm_sz w ∧ d + 1 ≤ R.frames ∧ 8 + (M.2.2.1 + 11) + 60 * d ≤ R.locals ∧ (∀ u ∈ (Cond.code M.1 M.2.1 M.2.2.1 M.2.2.2.1 :: xm_WS), ∀ (a' : Array Value) (U : State), s.WarmedH U.vm → u.before a' U = true) ∧ Cond.code M.1 M.2.1 M.2.2.1 M.2.2.2.1 ∈ (Cond.code M.1 M.2.1 M.2.2.1 M.2.2.2.1 :: xm_WS)) ∧
    (Cond.code M.1 M.2.1 M.2.2.1 M.2.2.2.1).before args s = true ∧ (Cond.initialized M.1.cls).before args s = true ∧ (M.1.cls ≠ "java/lang/invoke/MethodHandle" ∧ M.1.cls ≠ "java/lang/invoke/VarHandle") ∧
    ((Cond.methodLink own j M.1).before args s = true ∨ (Cond.methodLinkNest own j M.1 "ShodBackwards").before args s = true) ∧
    (match kk with
    | 0 => (Cond.instanceMethod M.1).before args s = true ∧ (Cond.selects M.1.cls M.1 M.1).before args s = true ∧ (parseMethodDescriptor M.1.desc).map (fun d => d.parameters.length + 1) = some b ∧ xm_rc M.2.2.2.2.2.2.1 M.1.cls = true
    | 1 => (Cond.instanceMethod M.1).before args s = true ∧ M.1.name = "<init>" ∧ (parseMethodDescriptor M.1.desc).map (fun d => d.parameters.length + 1) = some b ∧ M.2.2.2.1 = none ∧ M.2.2.2.2.2.2.1 ≠ 0
    | _ => (Cond.static M.1).before args s = true ∧ (parseMethodDescriptor M.1.desc).map (fun d => d.parameters.length) = some b) := by
  unfold xm_cw at h
  rw [hM] at h
  match ps, h with
  | [], h => cases h
  | [_], h => cases h
  | [_, _], h => cases h
  | [_, _, _], h => cases h
  | [_, _, _, _], h => cases h
  | _ :: _ :: _ :: _ :: _ :: _ :: _, h => cases h
  | [p0, p1, p2, p3, p4], h =>
    simp only [Bool.and_eq_true, decide_eq_true_eq, Bool.or_eq_true] at h
    obtain ⟨⟨⟨⟨⟨⟨⟨h1, h2⟩, h3⟩, h4⟩, h5⟩, h6⟩, h7⟩, h8⟩ := h
    have h5 := xm_gc_ok h5
    refine ⟨h1, ⟨rfl, rfl, hR.1, by omega, fun u hu a' U hW => ?_, List.mem_cons_self⟩, F.gd h5, F.gd h4, ⟨h6, h7⟩, ?_, ?_⟩
    · rcases List.mem_cons.mp hu with rfl | hu
      · exact word_at hW (good_of_word (xm_gd_in h5).2) (F.gd h5)
      · exact word_at hW (good_of_word (List.mem_filter.mp hu).2) (F.hts u hu)
    · rcases h3 with h3 | h3
      · exact Or.inl (F.gd h3)
      · exact Or.inr (va_Nw.use rfl (F.2.2.2.2.2.1.1 _ (xm_wd_in h3) rfl))
    · match kk, h8 with
      | 0, h8 =>
        simp only [Bool.and_eq_true, decide_eq_true_eq] at h8
        exact ⟨F.gd h8.1.1.1, F.gd h8.1.1.2, h8.1.2, h8.2⟩
      | 1, h8 =>
        simp only [Bool.and_eq_true, decide_eq_true_eq] at h8
        exact ⟨F.gd h8.1.1.1, h8.1.1.2, h8.1.2, h8.2⟩
      | kk + 2, h8 =>
        simp only [Bool.and_eq_true, decide_eq_true_eq] at h8
        exact ⟨F.gd h8.1, h8.2⟩
/-- the receiver's cell -/
theorem xm_recv {H : Heap} {locs : List Loc} {r z : Nat} {C : String} {fs : List xm_V} (F : xm_Fr p s m args meth c cc nL own ini G o) (hrep : xm_Rep G w H) (hS : va_S (xm_A G) s.heap H locs) (hr : xm_rc r C = true) (hg : xm_get o w z = some (.inr (.inr (r - 1, fs)))) : ∃ cellB : Cell, H[xm_ad G z]? = some cellB ∧ cellB.vm.isStatics = false ∧ s.vm.findClass C = some cellB.cls := by
  unfold xm_rc at hr
  simp only [Bool.and_eq_true, bne_iff_ne, ne_eq] at hr
  obtain ⟨h0, hr⟩ := hr
  by_cases hz : z < 1000000
  · rw [xm_get_new hz] at hg
    rw [xm_ad_lo hz]
    have hb := (hrep.okc hg).2.1
    rw [if_neg (by omega)] at hr
    split at hr
    next qq hcl =>
      have hC : qq.1 = C := by simpa using hr
      subst hC
      exact va_recv F.2.2.2.2.2.1.2.1 (xm_P1 (hrep.at hg)) (q0 := 0) hcl rfl
    next => cases hr
  · rw [xm_get_old hrep.2.1 hz] at hg
    rw [xm_ad_hi hz]
    have ho := F.2.2.2.2.2.1.2.2.2.2.2 _ _ hg
    by_cases h99 : r = 99
    · subst h99
      rw [if_pos rfl] at hr
      have hC : C = "java/lang/String" := by simpa using hr
      subst hC
      match fs, ho with
      | [v, u], ho =>
        obtain ⟨h1, h2, -, -, -, -, cell, h8, h9, h10⟩ := ho
        exact ⟨cell, by rw [hS.2.1 _ h1 h2]; exact h8, h9, h10⟩
    · rw [if_neg h99] at hr
      split at hr
      next qq hcl =>
        have hb : r - 1 < 10 := (List.getElem?_eq_some_iff.mp hcl).1
        exfalso
        revert ho
        generalize r - 1 = y at hb
        intro ho
        match y, hb, ho with
        | 0, _, ho => exact ho.2.2
        | 1, _, ho => exact ho.2.2
        | 2, _, ho => exact ho.2.2
        | 3, _, ho => exact ho.2.2
        | 4, _, ho => exact ho.2.2
        | 5, _, ho => exact ho.2.2
        | 6, _, ho => exact ho.2.2
        | 7, _, ho => exact ho.2.2
        | 8, _, ho => exact ho.2.2
        | 9, _, ho => exact ho.2.2
      next => cases hr
theorem xm_Rl_call {H H1 : Heap} {locs L1 : List Loc} {cells slots : Nat} {ls : Array Slot} {wf : xm_W} {w1 : xm_W} {st' : List xm_V} (hr : xm_Rl G s nL mc ms wf L st w ls H locs cells slots) (hg : xm_gr w w1) (hrep : xm_Rep G w1 H1) (hL : ∀ z ∈ L1, xm_A G z.base) (hz : H.size ≤ H1.size) (hq : ∀ z : Nat, z < H.size → ¬ xm_A G z → H1[z]? = H[z]?) (hst : ∀ v ∈ st', xm_ok v) : xm_Rl G s nL mc ms wf L st' w1 ls H1 (locs ++ L1) (cells + (w1.length - w.length)) (slots + (xm_sz w1 - xm_sz w)) := by
  have hS := hr.2.2.2.1
  have h5 := hr.2.2.2.2
  have h6 := hg.1
  have h7 := hg.2
  refine ⟨hr.1, hst, hrep, ⟨Nat.le_trans hS.1 hz, fun z h1 h2 => by rw [hq z (Nat.lt_of_lt_of_le h1 hS.1) h2]; exact hS.2.1 z h1 h2, fun z hz => ?_⟩, by omega, by omega⟩
  rcases List.mem_append.mp hz with h | h
  · exact hS.2.2 z h
  · exact hL z h
theorem xm_Kn_at {H : Heap} {locs : List Loc} (F : xm_Fr p s m args meth c cc nL own ini G o) (hS : va_S (xm_A G) s.heap H locs) : xm_Kn G o xm_sta xm_sts xm_str s H := xm_Kn.kept hS.1 hS.2.1 F.2.2.2.2.2.1
theorem xm_Pc_at {H : Heap} {locs : List Loc} {as : List xm_V} (F : xm_Fr p s m args meth c cc nL own ini G o) (hrep : xm_Rep G w H) (hS : va_S (xm_A G) s.heap H locs) {av : List Value} (hav : av = as.map (xm_v G)) (U : State) (hU : U.heap = H) (hW : s.WarmedH U.vm) : xm_PcX G o as w av.toArray U := by
  refine ⟨by rw [hav], ?_, ?_, ?_⟩
  · rw [hU]; exact hrep
  · rw [hU]; exact (xm_Kn_at F hS).warm hW
  · rw [hU, hrep.1]; exact Nat.le_add_right _ _
theorem xm_st_split (st : List xm_V) (b : Nat) : st.map (xm_v G) = ((st.take b).reverse.map (xm_v G)).reverse ++ (st.drop b).map (xm_v G) := by
  rw [List.map_reverse, List.reverse_reverse, ← List.map_append, List.take_append_drop]
theorem xm_okdrop {b : Nat} (h : ∀ v ∈ st, xm_ok v) : ∀ v ∈ st.drop b, xm_ok v := fun v hv => h v (List.mem_of_mem_drop hv)
theorem xm_oktake {b : Nat} (h : ∀ v ∈ st, xm_ok v) : ∀ v ∈ (st.take b).reverse, xm_ok v := fun v hv => h v (List.mem_of_mem_take (List.mem_reverse.mp hv))
/-- the three kinds of a call, behind one another -/
theorem xm_inv {d kk j : Nat} {ins : Instr} (hins : (kk = 0 ∧ ins = .invokevirtual j) ∨ (kk = 1 ∧ ins = .invokespecial j) ∨ (kk = 2 ∧ ins = .invokestatic j)) (F : xm_Fr p s m args meth c cc nL own ini G o) (hk : xm_Sim p l e R s m args below meth c Q G nL mc ms cd k q) (hwf : q.2.length < 1000000) (hmc : mc ≤ R.cells ∧ ms ≤ R.slots) (hR : d + 1 ≤ R.frames ∧ 60 * d + 60 ≤ R.locals) (hcal : xm_Cal l G o mt d call) (hd : decode cc pc = .ok (ins, 3)) (hn : xm_pc cd nx = some (pc + 3)) (hc : xm_cw own j kk mt a b ps = true)
    (h : (if (st.drop b).length ≤ 4 then (match call a (st.take b).reverse w with
    | some (none, w') => k nx L (st.drop b) w'
    | some (some v, w') => k nx L (v :: st.drop b) w'
    | none => none) else none) = some q) : xm_Con p l e R s m args below meth c Q G nL mc ms q pc L st w := by
  split at h
  next hl4 =>
    obtain ⟨q1, hq1, hk1⟩ : ∃ q1 : Option xm_V × xm_W, call a (st.take b).reverse w = some q1 ∧ k nx L (q1.1.toList ++ st.drop b) q1.2 = some q := by
      split at h
      next w' hh => exact ⟨_, hh, h⟩
      next v w' hh => exact ⟨_, hh, h⟩
      next => cases h
    obtain ⟨M, hM, hgr, hrest⟩ := hcal _ _ _ _ hq1
    have hk2 := hk _ _ _ _ hk1
    refine ⟨xm_gr_tr hgr hk2.1, fun ls H locs cells slots hr => ?_⟩
    have hrep := hr.2.2.1
    have hS := hr.2.2.2.1
    have hq1l : q1.2.length < 1000000 := Nat.lt_of_le_of_lt hk2.1.1 hwf
    obtain ⟨hlen, hrc, hMet⟩ := hrest hq1l (xm_oktake hr.2.1)
    obtain ⟨hnb, hroom, hcode, hini, hnot, hlink, hkind⟩ := xm_cw_ok (d := d) (w := w) (as := (st.take b).reverse) (q1 := q1) F hR hM hc
    have hacc := hr.2.2.2.2
    have hg1 := hgr.1
    have hg2 := hgr.2
    have hg3 := hk2.1.1
    have hg4 := hk2.1.2
    have hf : cells + (q1.2.length - w.length) ≤ R.cells ∧ slots + (xm_sz q1.2 - xm_sz w) ≤ R.slots := ⟨by omega, by omega⟩
    have hW8 : 2 * (F0 m pc ls (st.map (xm_v G))).monitorRoom + (((st.drop b).map (xm_v G)).map fun v => v.category).sum ≤ 8 := lv_room (by
      have := xm_cats ((st.drop b).map (xm_v G))
      rw [List.length_map] at this
      omega)
    have hsz : (F0 m pc ls (st.map (xm_v G))).locals.size = nL := hr.1.1.1
    have S : CallFix p m c cc nL s args xm_WS own := ⟨F.1, F.2.1, F.2.2.1, F.2.2.2.1, F.hts⟩
    have K : ∀ (H1 : Heap) (L1 : List Loc), (∀ v, q1.1 = some v → xm_ok v) → xm_Rep G q1.2 H1 → (∀ z ∈ L1, (xm_A G) z.base) → H.size ≤ H1.size → (∀ z : Nat, z < H.size → ¬ xm_A G z → H1[z]? = H[z]?) → W p l e R s m args below meth c H1 (locs ++ L1) (cells + (q1.2.length - w.length)) (slots + (xm_sz q1.2 - xm_sz w)) Q (F0 m (pc + 3) ls ((q1.1.map (xm_v G)).toList ++ (st.drop b).map (xm_v G))) := by
      intro H1 L1 hok1 a1 a2 a3 a4
      have e : (q1.1.map (xm_v G)).toList ++ (st.drop b).map (xm_v G) = (q1.1.toList ++ st.drop b).map (xm_v G) := by
        obtain ⟨r1, w1⟩ := q1
        cases r1 <;> rfl
      rw [e]
      refine hk2.2 _ hn _ _ _ _ _ (xm_Rl_call hr hgr a1 a2 a3 a4 (fun v hv => ?_))
      rcases List.mem_append.mp hv with hv | hv
      · exact hok1 v (Option.mem_toList.mp hv)
      · exact xm_okdrop hr.2.1 v hv
    rcases hins with ⟨rfl, rfl⟩ | ⟨rfl, rfl⟩ | ⟨rfl, rfl⟩
    · obtain ⟨hin, hsel, hds, hrcl⟩ := hkind
      have hr0 : M.2.2.2.2.2.2.1 ≠ 0 := by
        unfold xm_rc at hrcl
        simp only [Bool.and_eq_true, bne_iff_ne, ne_eq] at hrcl
        exact hrcl.1
      obtain ⟨z, hhd, hgz⟩ := hrc hr0
      obtain ⟨fs, hgz⟩ := hgz (fun e => by rw [e] at hrcl; simp [xm_rc] at hrcl)
      obtain ⟨as', has⟩ : ∃ as', (st.take b).reverse = .inr (.inl (some z)) :: as' := by
        cases hh : (st.take b).reverse with
        | nil => rw [hh] at hhd; cases hhd
        | cons u us => rw [hh] at hhd; cases hhd; exact ⟨us, rfl⟩
      rw [has] at hMet hlen
      have hst : (F0 m pc ls (st.map (xm_v G))).stack = (as'.map (xm_v G)).reverse ++ .ref (xm_ad G z) :: (st.drop b).map (xm_v G) := by
        show st.map (xm_v G) = _
        rw [xm_st_split st b, has, List.map_cons, List.reverse_cons, List.append_assoc]
        rfl
      have hpv : PreV s H M.1.cls (xm_ad G z) (xm_PcX G o (.inr (.inl (some z)) :: as') w) (as'.map (xm_v G)) := ⟨xm_blind _ _ _ _, xm_recv F hrep hS hrcl hgz, fun U hU hW => xm_Pc_at F hrep hS rfl U hU hW⟩
      have hls : ∀ sig, parseMethodDescriptor M.1.desc = some sig → b - 1 = sig.parameters.length := fun sig h => by
        rw [h] at hds
        have : sig.parameters.length + 1 = b := Option.some.inj hds
        omega
      have hn1 : (as'.map (xm_v G)).length = b - 1 := by
        rw [List.length_map]
        rw [List.length_cons] at hlen
        omega
      rcases hlink with hlink | hlink
      · exact xm_Wcall (va_runV S hMet ⟨⟨hroom.1, hroom.2.1, hroom.2.2.1, hroom.2.2.2.1, hroom.2.2.2.2.1, hroom.2.2.2.2.2, hcode, hini, hnot, hls, hlink⟩, hin, hsel⟩ hpv rfl hn1 hsz hst hW8 hd hf) K
      · exact xm_Wcall (va_runVN S hMet ⟨⟨hroom, hcode, hini, hnot, hls, hlink⟩, hin, hsel⟩ hpv rfl hn1 hsz hst hW8 hd hf) K
    · obtain ⟨hin, hnm, hds, hret, hr0⟩ := hkind
      obtain ⟨z, hhd, -⟩ := hrc hr0
      obtain ⟨as', has⟩ : ∃ as', (st.take b).reverse = .inr (.inl (some z)) :: as' := by
        cases hh : (st.take b).reverse with
        | nil => rw [hh] at hhd; cases hhd
        | cons u us => rw [hh] at hhd; cases hhd; exact ⟨us, rfl⟩
      rw [has] at hMet hlen
      have hst : (F0 m pc ls (st.map (xm_v G))).stack = (as'.map (xm_v G)).reverse ++ .ref (xm_ad G z) :: (st.drop b).map (xm_v G) := by
        show st.map (xm_v G) = _
        rw [xm_st_split st b, has, List.map_cons, List.reverse_cons, List.append_assoc]
        rfl
      have hls : ∀ sig, parseMethodDescriptor M.1.desc = some sig → b - 1 = sig.parameters.length := fun sig h => by
        rw [h] at hds
        have : sig.parameters.length + 1 = b := Option.some.inj hds
        omega
      have hn1 : (as'.map (xm_v G)).length = b - 1 := by
        rw [List.length_map]
        rw [List.length_cons] at hlen
        omega
      have hps : PreS s H (xm_PcX G o (.inr (.inl (some z)) :: as') w) (.ref (xm_ad G z) :: as'.map (xm_v G)) := ⟨xm_blind _ _ _ _, fun U hU hW => xm_Pc_at F hrep hS rfl U hU hW⟩
      rw [hret] at hMet hroom hcode
      rcases hlink with hlink | hlink
      · exact xm_Wcall (va_runI S hMet ⟨⟨hroom.1, hroom.2.1, hroom.2.2.1, hroom.2.2.2.1, hroom.2.2.2.2.1, hroom.2.2.2.2.2, hcode, hini, hnot, hls, hlink⟩, hnm, hin⟩ hps rfl hn1 hsz hst hW8 hd hf) K
      · exact xm_Wcall (va_runIN S hMet ⟨⟨hroom, hcode, hini, hnot, hls, hlink⟩, hnm, hin⟩ hps rfl hn1 hsz hst hW8 hd hf) K
    · obtain ⟨hstat, hds⟩ := hkind
      have hst : (F0 m pc ls (st.map (xm_v G))).stack = ((st.take b).reverse.map (xm_v G)).reverse ++ (st.drop b).map (xm_v G) := xm_st_split st b
      have hps : PreS s H (xm_PcX G o (st.take b).reverse w) ((st.take b).reverse.map (xm_v G)) := ⟨xm_blind _ _ _ _, fun U hU hW => xm_Pc_at F hrep hS rfl U hU hW⟩
      have hls : ∀ sig, parseMethodDescriptor M.1.desc = some sig → b = sig.parameters.length := fun sig h => by
        rw [h] at hds
        exact (show sig.parameters.length = b from Option.some.inj hds).symm
      have hn1 : ((st.take b).reverse.map (xm_v G)).length = b := by rw [List.length_map, hlen, hnb]
      rcases hlink with hlink | hlink
      · exact xm_Wcall (va_runS S hMet ⟨⟨hroom.1, hroom.2.1, hroom.2.2.1, hroom.2.2.2.1, hroom.2.2.2.2.1, hroom.2.2.2.2.2, hcode, hini, hnot, hls, hlink⟩, hstat⟩ hps rfl hn1 hsz hst hW8 hd hf) K
      · exact xm_Wcall (va_runSN S hMet ⟨⟨hroom, hcode, hini, hnot, hls, hlink⟩, hstat, trivial⟩ hps rfl hn1 hsz hst hW8 hd hf) K
  next => cases h
end xm_sec5
