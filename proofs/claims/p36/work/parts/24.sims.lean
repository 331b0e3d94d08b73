section
/-- what a frame stands on -/
def xm_Fr (p : Program) (s : State) (m : MethodId) (args : Array Value) (meth : Method) (c : Code) (cc : ByteArray) (nL : Nat) (own : String) (ini : Bool) (G : xm_G) (o : xm_W) : Prop :=
  p.tables.exec = Jvm.exec ∧ c.code = cc ∧ c.maxLocals = nL ∧ s.vm.findClass own = some m.cls ∧ (∀ w ∈ lw_tbl, goodWord w = true → w.before args s = true) ∧ xm_Kn G o xm_sta xm_sts xm_str s s.heap ∧ (ini = true → meth.name = "<init>") ∧ G.2.2.1 ≤ s.heap.size
def xm_Rl (G : xm_G) (s : State) (nL mc ms : Nat) (wf : xm_W) (L : List (Option xm_V)) (st : List xm_V) (w : xm_W) (ls : Array Slot) (H : Heap) (locs : List Loc) (cells slots : Nat) : Prop :=
  (lv_has ls nL (xm_lv G L) ∧ L.length = nL ∧ ∀ v, some v ∈ L → xm_ok v) ∧ (∀ v ∈ st, xm_ok v) ∧ xm_Rep G w H ∧ va_S (xm_A G) s.heap H locs ∧ (cells + wf.length = mc + w.length ∧ slots + xm_sz wf = ms + xm_sz w)
def xm_Con (p : Program) (l : Launch) (e : Env) (R : Room) (s : State) (m : MethodId) (args : Array Value) (below : List Frame) (meth : Method) (c : Code) (Q : State → Prop) (G : xm_G) (nL mc ms : Nat) (q : Option xm_V × xm_W) (pc : Nat) (L : List (Option xm_V)) (st : List xm_V) (w : xm_W) : Prop :=
  xm_gr w q.2 ∧ ∀ ls H locs cells slots, xm_Rl G s nL mc ms q.2 L st w ls H locs cells slots → W p l e R s m args below meth c H locs cells slots Q (F0 m pc ls (st.map (xm_v G)))
def xm_Sim (p : Program) (l : Launch) (e : Env) (R : Room) (s : State) (m : MethodId) (args : Array Value) (below : List Frame) (meth : Method) (c : Code) (Q : State → Prop) (G : xm_G) (nL mc ms : Nat) (cd : List xm_I) (k : xm_Kt) (q : Option xm_V × xm_W) : Prop :=
  ∀ i L st w, k i L st w = some q → xm_gr w q.2 ∧ ∀ pc, xm_pc cd i = some pc → ∀ ls H locs cells slots, xm_Rl G s nL mc ms q.2 L st w ls H locs cells slots → W p l e R s m args below meth c H locs cells slots Q (F0 m pc ls (st.map (xm_v G)))
theorem xm_Rl.stk {G : xm_G} {s : State} {nL mc ms : Nat} {wf : xm_W} {L : List (Option xm_V)} {st st' : List xm_V} {w : xm_W} {ls : Array Slot} {H : Heap} {locs : List Loc} {cells slots : Nat} (h : xm_Rl G s nL mc ms wf L st w ls H locs cells slots) (h2 : ∀ v ∈ st', xm_ok v) : xm_Rl G s nL mc ms wf L st' w ls H locs cells slots := ⟨h.1, h2, h.2.2⟩
theorem xm_Rl.loc {G : xm_G} {s : State} {nL mc ms a : Nat} {wf : xm_W} {L : List (Option xm_V)} {st st' : List xm_V} {w : xm_W} {ls ls' : Array Slot} {H : Heap} {locs : List Loc} {cells slots : Nat} (h : xm_Rl G s nL mc ms wf L st w ls H locs cells slots) {v : xm_V} (hv : xm_ok v) (hl : lv_has ls' nL ((a, xm_v G v) :: (xm_lv G L).filter (fun q => !(q.1 == a) && !(q.1 + 1 == a && q.2.category == 2)))) (hnl : xm_nl L a = true) (h2 : ∀ v ∈ st', xm_ok v) : xm_Rl G s nL mc ms wf (L.set a (some v)) st' w ls' H locs cells slots := by
  refine ⟨⟨xm_lv_set hl hnl, by rw [List.length_set]; exact h.1.2.1, fun u hu => ?_⟩, h2, h.2.2⟩
  rcases List.mem_or_eq_of_mem_set hu with h3 | h3
  · exact h.1.2.2 u h3
  · cases h3; exact hv
section xm_sec
variable {p : Program} {l : Launch} {e : Env} {R : Room} {s : State} {m : MethodId} {args : Array Value} {below : List Frame} {meth : Method} {c : Code} {Q : State → Prop} {cc : ByteArray} {nL mc ms rk : Nat} {own : String} {ini : Bool} {G : xm_G} {o : xm_W} {cd : List xm_I} {k : xm_Kt} {q : Option xm_V × xm_W} {mt : Nat → Option xm_M} {call : Nat → List xm_V → xm_W → xm_R} {pc nx a b : Nat} {ps : List Nat} {sw : List (Int × Nat)} {L : List (Option xm_V)} {st : List xm_V} {w : xm_W}
theorem xm_ofn {cd : List xm_I} {pc nx len : Nat} (h : xm_nx cd pc nx len = true) : xm_pc cd nx = some (pc + len) := by simpa [xm_nx, xm_pf_eq] using h
theorem xm_c1 {v : xm_V} {st : List xm_V} (h : ∀ x ∈ v :: st, xm_ok x) : xm_ok v := h v List.mem_cons_self
theorem xm_c2 {v : xm_V} {st : List xm_V} (h : ∀ x ∈ v :: st, xm_ok x) : ∀ x ∈ st, xm_ok x := fun x hx => h x (List.mem_cons_of_mem _ hx)
theorem xm_c3 {v : xm_V} {st : List xm_V} (h : xm_ok v) (h2 : ∀ x ∈ st, xm_ok x) : ∀ x ∈ v :: st, xm_ok x := fun x hx => by
  rcases List.mem_cons.mp hx with rfl | hx
  · exact h
  · exact h2 x hx
theorem xm_okb_ok {z : Int} (h : xm_okb0 z = true) : xm_ok (.inl z) := by
  have g : -2147483648 ≤ z ∧ z < 2147483648 := of_decide_eq_true h
  exact g
theorem xm_okr (r : Option Nat) : xm_ok (.inr (.inl r)) := trivial
theorem xm_okl (r : Int64) : xm_ok (.inr (.inr r)) := trivial
theorem xm_s_iadd (F : xm_Fr p s m args meth c cc nL own ini G o) (hk : xm_Sim p l e R s m args below meth c Q G nL mc ms cd k q) (hc : xm_chk own ini cc cd nL rk mt (.iadd, pc, nx, a, b, ps, sw) = true) (h : xm_step o xm_sta call (.iadd, pc, nx, a, b, ps, sw) L st w k = some q) : xm_Con p l e R s m args below meth c Q G nL mc ms q pc L st w := by
  simp only [xm_chk, Bool.and_eq_true] at hc
  simp only [xm_step] at h
  split at h
  next y x r =>
    refine ⟨(hk _ _ _ _ h).1, fun ls H locs cells slots hr => ?_⟩
    have hy := xm_c1 hr.2.1
    have hx := xm_c1 (xm_c2 hr.2.1)
    refine lv_iadd F.1 F.2.1 (xm_dec_ok hc.1) ?_
    rw [xm_add hx hy]
    exact (hk _ _ _ _ h).2 _ (xm_ofn hc.2) _ _ _ _ _ (hr.stk (xm_c3 (xm_okw _) (xm_c2 (xm_c2 hr.2.1))))
  next => cases h
theorem xm_s_isub (F : xm_Fr p s m args meth c cc nL own ini G o) (hk : xm_Sim p l e R s m args below meth c Q G nL mc ms cd k q) (hc : xm_chk own ini cc cd nL rk mt (.isub, pc, nx, a, b, ps, sw) = true) (h : xm_step o xm_sta call (.isub, pc, nx, a, b, ps, sw) L st w k = some q) : xm_Con p l e R s m args below meth c Q G nL mc ms q pc L st w := by
  simp only [xm_chk, Bool.and_eq_true] at hc
  simp only [xm_step] at h
  split at h
  next y x r =>
    refine ⟨(hk _ _ _ _ h).1, fun ls H locs cells slots hr => ?_⟩
    have hy := xm_c1 hr.2.1
    have hx := xm_c1 (xm_c2 hr.2.1)
    refine lv_isub F.1 F.2.1 (xm_dec_ok hc.1) ?_
    rw [xm_sub hx hy]
    exact (hk _ _ _ _ h).2 _ (xm_ofn hc.2) _ _ _ _ _ (hr.stk (xm_c3 (xm_okw _) (xm_c2 (xm_c2 hr.2.1))))
  next => cases h
theorem xm_s_imul (F : xm_Fr p s m args meth c cc nL own ini G o) (hk : xm_Sim p l e R s m args below meth c Q G nL mc ms cd k q) (hc : xm_chk own ini cc cd nL rk mt (.imul, pc, nx, a, b, ps, sw) = true) (h : xm_step o xm_sta call (.imul, pc, nx, a, b, ps, sw) L st w k = some q) : xm_Con p l e R s m args below meth c Q G nL mc ms q pc L st w := by
  simp only [xm_chk, Bool.and_eq_true] at hc
  simp only [xm_step] at h
  split at h
  next y x r =>
    refine ⟨(hk _ _ _ _ h).1, fun ls H locs cells slots hr => ?_⟩
    have hy := xm_c1 hr.2.1
    have hx := xm_c1 (xm_c2 hr.2.1)
    refine lv_imul F.1 F.2.1 (xm_dec_ok hc.1) ?_
    rw [xm_mul hx hy]
    exact (hk _ _ _ _ h).2 _ (xm_ofn hc.2) _ _ _ _ _ (hr.stk (xm_c3 (xm_okw _) (xm_c2 (xm_c2 hr.2.1))))
  next => cases h
theorem xm_s_iand (F : xm_Fr p s m args meth c cc nL own ini G o) (hk : xm_Sim p l e R s m args below meth c Q G nL mc ms cd k q) (hc : xm_chk own ini cc cd nL rk mt (.iand, pc, nx, a, b, ps, sw) = true) (h : xm_step o xm_sta call (.iand, pc, nx, a, b, ps, sw) L st w k = some q) : xm_Con p l e R s m args below meth c Q G nL mc ms q pc L st w := by
  simp only [xm_chk, Bool.and_eq_true] at hc
  simp only [xm_step] at h
  split at h
  next y x r =>
    refine ⟨(hk _ _ _ _ h).1, fun ls H locs cells slots hr => ?_⟩
    have hy := xm_c1 hr.2.1
    have hx := xm_c1 (xm_c2 hr.2.1)
    refine lv_iand F.1 F.2.1 (xm_dec_ok hc.1) ?_
    rw [xm_of (rfl : _ = xm_and x y)]
    exact (hk _ _ _ _ h).2 _ (xm_ofn hc.2) _ _ _ _ _ (hr.stk (xm_c3 (xm_okt _) (xm_c2 (xm_c2 hr.2.1))))
  next => cases h
theorem xm_s_ior (F : xm_Fr p s m args meth c cc nL own ini G o) (hk : xm_Sim p l e R s m args below meth c Q G nL mc ms cd k q) (hc : xm_chk own ini cc cd nL rk mt (.ior, pc, nx, a, b, ps, sw) = true) (h : xm_step o xm_sta call (.ior, pc, nx, a, b, ps, sw) L st w k = some q) : xm_Con p l e R s m args below meth c Q G nL mc ms q pc L st w := by
  simp only [xm_chk, Bool.and_eq_true] at hc
  simp only [xm_step] at h
  split at h
  next y x r =>
    refine ⟨(hk _ _ _ _ h).1, fun ls H locs cells slots hr => ?_⟩
    have hy := xm_c1 hr.2.1
    have hx := xm_c1 (xm_c2 hr.2.1)
    refine lv_ior F.1 F.2.1 (xm_dec_ok hc.1) ?_
    rw [xm_of (rfl : _ = xm_or x y)]
    exact (hk _ _ _ _ h).2 _ (xm_ofn hc.2) _ _ _ _ _ (hr.stk (xm_c3 (xm_okt _) (xm_c2 (xm_c2 hr.2.1))))
  next => cases h
theorem xm_s_ixor (F : xm_Fr p s m args meth c cc nL own ini G o) (hk : xm_Sim p l e R s m args below meth c Q G nL mc ms cd k q) (hc : xm_chk own ini cc cd nL rk mt (.ixor, pc, nx, a, b, ps, sw) = true) (h : xm_step o xm_sta call (.ixor, pc, nx, a, b, ps, sw) L st w k = some q) : xm_Con p l e R s m args below meth c Q G nL mc ms q pc L st w := by
  simp only [xm_chk, Bool.and_eq_true] at hc
  simp only [xm_step] at h
  split at h
  next y x r =>
    refine ⟨(hk _ _ _ _ h).1, fun ls H locs cells slots hr => ?_⟩
    have hy := xm_c1 hr.2.1
    have hx := xm_c1 (xm_c2 hr.2.1)
    refine lv_ixor F.1 F.2.1 (xm_dec_ok hc.1) ?_
    rw [xm_of (rfl : _ = xm_xor x y)]
    exact (hk _ _ _ _ h).2 _ (xm_ofn hc.2) _ _ _ _ _ (hr.stk (xm_c3 (xm_okt _) (xm_c2 (xm_c2 hr.2.1))))
  next => cases h
theorem xm_s_ishl (F : xm_Fr p s m args meth c cc nL own ini G o) (hk : xm_Sim p l e R s m args below meth c Q G nL mc ms cd k q) (hc : xm_chk own ini cc cd nL rk mt (.ishl, pc, nx, a, b, ps, sw) = true) (h : xm_step o xm_sta call (.ishl, pc, nx, a, b, ps, sw) L st w k = some q) : xm_Con p l e R s m args below meth c Q G nL mc ms q pc L st w := by
  simp only [xm_chk, Bool.and_eq_true] at hc
  simp only [xm_step] at h
  split at h
  next y x r =>
    refine ⟨(hk _ _ _ _ h).1, fun ls H locs cells slots hr => ?_⟩
    have hy := xm_c1 hr.2.1
    have hx := xm_c1 (xm_c2 hr.2.1)
    refine lv_ishl F.1 F.2.1 (xm_dec_ok hc.1) ?_
    rw [xm_of (rfl : _ = xm_shl x y)]
    exact (hk _ _ _ _ h).2 _ (xm_ofn hc.2) _ _ _ _ _ (hr.stk (xm_c3 (xm_okt _) (xm_c2 (xm_c2 hr.2.1))))
  next => cases h
theorem xm_s_ishr (F : xm_Fr p s m args meth c cc nL own ini G o) (hk : xm_Sim p l e R s m args below meth c Q G nL mc ms cd k q) (hc : xm_chk own ini cc cd nL rk mt (.ishr, pc, nx, a, b, ps, sw) = true) (h : xm_step o xm_sta call (.ishr, pc, nx, a, b, ps, sw) L st w k = some q) : xm_Con p l e R s m args below meth c Q G nL mc ms q pc L st w := by
  simp only [xm_chk, Bool.and_eq_true] at hc
  simp only [xm_step] at h
  split at h
  next y x r =>
    refine ⟨(hk _ _ _ _ h).1, fun ls H locs cells slots hr => ?_⟩
    have hy := xm_c1 hr.2.1
    have hx := xm_c1 (xm_c2 hr.2.1)
    refine lv_ishr F.1 F.2.1 (xm_dec_ok hc.1) ?_
    rw [xm_of (rfl : _ = xm_shr x y)]
    exact (hk _ _ _ _ h).2 _ (xm_ofn hc.2) _ _ _ _ _ (hr.stk (xm_c3 (xm_okt _) (xm_c2 (xm_c2 hr.2.1))))
  next => cases h
theorem xm_s_iushr (F : xm_Fr p s m args meth c cc nL own ini G o) (hk : xm_Sim p l e R s m args below meth c Q G nL mc ms cd k q) (hc : xm_chk own ini cc cd nL rk mt (.iushr, pc, nx, a, b, ps, sw) = true) (h : xm_step o xm_sta call (.iushr, pc, nx, a, b, ps, sw) L st w k = some q) : xm_Con p l e R s m args below meth c Q G nL mc ms q pc L st w := by
  simp only [xm_chk, Bool.and_eq_true] at hc
  simp only [xm_step] at h
  split at h
  next y x r =>
    refine ⟨(hk _ _ _ _ h).1, fun ls H locs cells slots hr => ?_⟩
    have hy := xm_c1 hr.2.1
    have hx := xm_c1 (xm_c2 hr.2.1)
    refine lv_iushr F.1 F.2.1 (xm_dec_ok hc.1) (xm_of (rfl : _ = xm_ushr x y)) ?_
    skip
    exact (hk _ _ _ _ h).2 _ (xm_ofn hc.2) _ _ _ _ _ (hr.stk (xm_c3 (xm_okt _) (xm_c2 (xm_c2 hr.2.1))))
  next => cases h
theorem xm_s_idiv (F : xm_Fr p s m args meth c cc nL own ini G o) (hk : xm_Sim p l e R s m args below meth c Q G nL mc ms cd k q) (hc : xm_chk own ini cc cd nL rk mt (.idiv, pc, nx, a, b, ps, sw) = true) (h : xm_step o xm_sta call (.idiv, pc, nx, a, b, ps, sw) L st w k = some q) : xm_Con p l e R s m args below meth c Q G nL mc ms q pc L st w := by
  simp only [xm_chk, Bool.and_eq_true] at hc
  simp only [xm_step] at h
  split at h
  next y x r =>
    split at h
    next => cases h
    next hne =>
      refine ⟨(hk _ _ _ _ h).1, fun ls H locs cells slots hr => ?_⟩
      have hy := xm_c1 hr.2.1
      have hx := xm_c1 (xm_c2 hr.2.1)
      refine lv_idiv F.1 F.2.1 (xm_dec_ok hc.1) (fun z => hne ((xm_eq0 hy).mp z)) ?_
      rw [xm_div hx hy]
      exact (hk _ _ _ _ h).2 _ (xm_ofn hc.2) _ _ _ _ _ (hr.stk (xm_c3 (xm_okw _) (xm_c2 (xm_c2 hr.2.1))))
  next => cases h
theorem xm_okm {x y : Int} (hx : xm_ok (.inl x)) (hy : xm_ok (.inl y)) : xm_ok (.inl (x.tmod y)) := by
  rw [← xm_tic hx, ← xm_tic hy, ← Int32.toInt_mod]
  exact xm_okt _
theorem xm_s_irem (F : xm_Fr p s m args meth c cc nL own ini G o) (hk : xm_Sim p l e R s m args below meth c Q G nL mc ms cd k q) (hc : xm_chk own ini cc cd nL rk mt (.irem, pc, nx, a, b, ps, sw) = true) (h : xm_step o xm_sta call (.irem, pc, nx, a, b, ps, sw) L st w k = some q) : xm_Con p l e R s m args below meth c Q G nL mc ms q pc L st w := by
  simp only [xm_chk, Bool.and_eq_true] at hc
  simp only [xm_step] at h
  split at h
  next y x r =>
    split at h
    next => cases h
    next hne =>
      refine ⟨(hk _ _ _ _ h).1, fun ls H locs cells slots hr => ?_⟩
      have hy := xm_c1 hr.2.1
      have hx := xm_c1 (xm_c2 hr.2.1)
      refine lv_irem F.1 F.2.1 (xm_dec_ok hc.1) (fun z => hne ((xm_eq0 hy).mp z)) ?_
      rw [xm_mod hx hy]
      exact (hk _ _ _ _ h).2 _ (xm_ofn hc.2) _ _ _ _ _ (hr.stk (xm_c3 (xm_okm hx hy) (xm_c2 (xm_c2 hr.2.1))))
  next => cases h
theorem xm_s_ineg (F : xm_Fr p s m args meth c cc nL own ini G o) (hk : xm_Sim p l e R s m args below meth c Q G nL mc ms cd k q) (hc : xm_chk own ini cc cd nL rk mt (.ineg, pc, nx, a, b, ps, sw) = true) (h : xm_step o xm_sta call (.ineg, pc, nx, a, b, ps, sw) L st w k = some q) : xm_Con p l e R s m args below meth c Q G nL mc ms q pc L st w := by
  simp only [xm_chk, Bool.and_eq_true] at hc
  simp only [xm_step] at h
  split at h
  next x r =>
    refine ⟨(hk _ _ _ _ h).1, fun ls H locs cells slots hr => ?_⟩
    have hx := xm_c1 hr.2.1
    refine lv_ineg F.1 F.2.1 (xm_dec_ok hc.1) ?_
    rw [xm_neg hx]
    exact (hk _ _ _ _ h).2 _ (xm_ofn hc.2) _ _ _ _ _ (hr.stk (xm_c3 (xm_okw _) (xm_c2 hr.2.1)))
  next => cases h
theorem xm_s_i2b (F : xm_Fr p s m args meth c cc nL own ini G o) (hk : xm_Sim p l e R s m args below meth c Q G nL mc ms cd k q) (hc : xm_chk own ini cc cd nL rk mt (.i2b, pc, nx, a, b, ps, sw) = true) (h : xm_step o xm_sta call (.i2b, pc, nx, a, b, ps, sw) L st w k = some q) : xm_Con p l e R s m args below meth c Q G nL mc ms q pc L st w := by
  simp only [xm_chk, Bool.and_eq_true] at hc
  simp only [xm_step] at h
  split at h
  next x r =>
    refine ⟨(hk _ _ _ _ h).1, fun ls H locs cells slots hr => ?_⟩
    have hx := xm_c1 hr.2.1
    refine lv_i2b F.1 F.2.1 (xm_dec_ok hc.1) xm_i2b ?_
    skip
    exact (hk _ _ _ _ h).2 _ (xm_ofn hc.2) _ _ _ _ _ (hr.stk (xm_c3 (xm_okb _) (xm_c2 hr.2.1)))
  next => cases h
theorem xm_s_i2s (F : xm_Fr p s m args meth c cc nL own ini G o) (hk : xm_Sim p l e R s m args below meth c Q G nL mc ms cd k q) (hc : xm_chk own ini cc cd nL rk mt (.i2s, pc, nx, a, b, ps, sw) = true) (h : xm_step o xm_sta call (.i2s, pc, nx, a, b, ps, sw) L st w k = some q) : xm_Con p l e R s m args below meth c Q G nL mc ms q pc L st w := by
  simp only [xm_chk, Bool.and_eq_true] at hc
  simp only [xm_step] at h
  split at h
  next x r =>
    refine ⟨(hk _ _ _ _ h).1, fun ls H locs cells slots hr => ?_⟩
    have hx := xm_c1 hr.2.1
    refine lv_i2s F.1 F.2.1 (xm_dec_ok hc.1) xm_i2s ?_
    skip
    exact (hk _ _ _ _ h).2 _ (xm_ofn hc.2) _ _ _ _ _ (hr.stk (xm_c3 (xm_oks _) (xm_c2 hr.2.1)))
  next => cases h
theorem xm_s_i2c (F : xm_Fr p s m args meth c cc nL own ini G o) (hk : xm_Sim p l e R s m args below meth c Q G nL mc ms cd k q) (hc : xm_chk own ini cc cd nL rk mt (.i2c, pc, nx, a, b, ps, sw) = true) (h : xm_step o xm_sta call (.i2c, pc, nx, a, b, ps, sw) L st w k = some q) : xm_Con p l e R s m args below meth c Q G nL mc ms q pc L st w := by
  simp only [xm_chk, Bool.and_eq_true] at hc
  simp only [xm_step] at h
  split at h
  next x r =>
    refine ⟨(hk _ _ _ _ h).1, fun ls H locs cells slots hr => ?_⟩
    have hx := xm_c1 hr.2.1
    refine lv_i2c F.1 F.2.1 (xm_dec_ok hc.1) (xm_i2c hx) ?_
    skip
    exact (hk _ _ _ _ h).2 _ (xm_ofn hc.2) _ _ _ _ _ (hr.stk (xm_c3 (⟨by omega, by omega⟩) (xm_c2 hr.2.1)))
  next => cases h
theorem xm_s_i2l (F : xm_Fr p s m args meth c cc nL own ini G o) (hk : xm_Sim p l e R s m args below meth c Q G nL mc ms cd k q) (hc : xm_chk own ini cc cd nL rk mt (.i2l, pc, nx, a, b, ps, sw) = true) (h : xm_step o xm_sta call (.i2l, pc, nx, a, b, ps, sw) L st w k = some q) : xm_Con p l e R s m args below meth c Q G nL mc ms q pc L st w := by
  simp only [xm_chk, Bool.and_eq_true] at hc
  simp only [xm_step] at h
  split at h
  next x r =>
    refine ⟨(hk _ _ _ _ h).1, fun ls H locs cells slots hr => ?_⟩
    have hx := xm_c1 hr.2.1
    refine lv_i2l F.1 F.2.1 (xm_dec_ok hc.1) rfl ?_
    skip
    exact (hk _ _ _ _ h).2 _ (xm_ofn hc.2) _ _ _ _ _ (hr.stk (xm_c3 (xm_okl _) (xm_c2 hr.2.1)))
  next => cases h
theorem xm_s_l2i (F : xm_Fr p s m args meth c cc nL own ini G o) (hk : xm_Sim p l e R s m args below meth c Q G nL mc ms cd k q) (hc : xm_chk own ini cc cd nL rk mt (.l2i, pc, nx, a, b, ps, sw) = true) (h : xm_step o xm_sta call (.l2i, pc, nx, a, b, ps, sw) L st w k = some q) : xm_Con p l e R s m args below meth c Q G nL mc ms q pc L st w := by
  simp only [xm_chk, Bool.and_eq_true] at hc
  simp only [xm_step] at h
  split at h
  next x r =>
    refine ⟨(hk _ _ _ _ h).1, fun ls H locs cells slots hr => ?_⟩
    have hx := xm_c1 hr.2.1
    refine lv_l2i F.1 F.2.1 (xm_dec_ok hc.1) (xm_of rfl) ?_
    skip
    exact (hk _ _ _ _ h).2 _ (xm_ofn hc.2) _ _ _ _ _ (hr.stk (xm_c3 (xm_okt _) (xm_c2 hr.2.1)))
  next => cases h
theorem xm_s_land (F : xm_Fr p s m args meth c cc nL own ini G o) (hk : xm_Sim p l e R s m args below meth c Q G nL mc ms cd k q) (hc : xm_chk own ini cc cd nL rk mt (.land, pc, nx, a, b, ps, sw) = true) (h : xm_step o xm_sta call (.land, pc, nx, a, b, ps, sw) L st w k = some q) : xm_Con p l e R s m args below meth c Q G nL mc ms q pc L st w := by
  simp only [xm_chk, Bool.and_eq_true] at hc
  simp only [xm_step] at h
  split at h
  next y x r =>
    refine ⟨(hk _ _ _ _ h).1, fun ls H locs cells slots hr => ?_⟩
    refine lv_land F.1 F.2.1 (xm_dec_ok hc.1) ?_
    exact (hk _ _ _ _ h).2 _ (xm_ofn hc.2) _ _ _ _ _ (hr.stk (xm_c3 (xm_okl _) (xm_c2 (xm_c2 hr.2.1))))
  next => cases h
theorem xm_s_lor (F : xm_Fr p s m args meth c cc nL own ini G o) (hk : xm_Sim p l e R s m args below meth c Q G nL mc ms cd k q) (hc : xm_chk own ini cc cd nL rk mt (.lor, pc, nx, a, b, ps, sw) = true) (h : xm_step o xm_sta call (.lor, pc, nx, a, b, ps, sw) L st w k = some q) : xm_Con p l e R s m args below meth c Q G nL mc ms q pc L st w := by
  simp only [xm_chk, Bool.and_eq_true] at hc
  simp only [xm_step] at h
  split at h
  next y x r =>
    refine ⟨(hk _ _ _ _ h).1, fun ls H locs cells slots hr => ?_⟩
    refine lv_lor F.1 F.2.1 (xm_dec_ok hc.1) ?_
    exact (hk _ _ _ _ h).2 _ (xm_ofn hc.2) _ _ _ _ _ (hr.stk (xm_c3 (xm_okl _) (xm_c2 (xm_c2 hr.2.1))))
  next => cases h
theorem xm_s_lshl (F : xm_Fr p s m args meth c cc nL own ini G o) (hk : xm_Sim p l e R s m args below meth c Q G nL mc ms cd k q) (hc : xm_chk own ini cc cd nL rk mt (.lshl, pc, nx, a, b, ps, sw) = true) (h : xm_step o xm_sta call (.lshl, pc, nx, a, b, ps, sw) L st w k = some q) : xm_Con p l e R s m args below meth c Q G nL mc ms q pc L st w := by
  simp only [xm_chk, Bool.and_eq_true] at hc
  simp only [xm_step] at h
  split at h
  next y x r =>
    refine ⟨(hk _ _ _ _ h).1, fun ls H locs cells slots hr => ?_⟩
    refine lv_lshl F.1 F.2.1 (xm_dec_ok hc.1) rfl ?_
    exact (hk _ _ _ _ h).2 _ (xm_ofn hc.2) _ _ _ _ _ (hr.stk (xm_c3 (xm_okl _) (xm_c2 (xm_c2 hr.2.1))))
  next => cases h
theorem xm_s_lshr (F : xm_Fr p s m args meth c cc nL own ini G o) (hk : xm_Sim p l e R s m args below meth c Q G nL mc ms cd k q) (hc : xm_chk own ini cc cd nL rk mt (.lshr, pc, nx, a, b, ps, sw) = true) (h : xm_step o xm_sta call (.lshr, pc, nx, a, b, ps, sw) L st w k = some q) : xm_Con p l e R s m args below meth c Q G nL mc ms q pc L st w := by
  simp only [xm_chk, Bool.and_eq_true] at hc
  simp only [xm_step] at h
  split at h
  next y x r =>
    refine ⟨(hk _ _ _ _ h).1, fun ls H locs cells slots hr => ?_⟩
    refine lv_lshr F.1 F.2.1 (xm_dec_ok hc.1) rfl ?_
    exact (hk _ _ _ _ h).2 _ (xm_ofn hc.2) _ _ _ _ _ (hr.stk (xm_c3 (xm_okl _) (xm_c2 (xm_c2 hr.2.1))))
  next => cases h
theorem xm_s_lushr (F : xm_Fr p s m args meth c cc nL own ini G o) (hk : xm_Sim p l e R s m args below meth c Q G nL mc ms cd k q) (hc : xm_chk own ini cc cd nL rk mt (.lushr, pc, nx, a, b, ps, sw) = true) (h : xm_step o xm_sta call (.lushr, pc, nx, a, b, ps, sw) L st w k = some q) : xm_Con p l e R s m args below meth c Q G nL mc ms q pc L st w := by
  simp only [xm_chk, Bool.and_eq_true] at hc
  simp only [xm_step] at h
  split at h
  next y x r =>
    refine ⟨(hk _ _ _ _ h).1, fun ls H locs cells slots hr => ?_⟩
    refine lv_lushr F.1 F.2.1 (xm_dec_ok hc.1) rfl ?_
    exact (hk _ _ _ _ h).2 _ (xm_ofn hc.2) _ _ _ _ _ (hr.stk (xm_c3 (xm_okl _) (xm_c2 (xm_c2 hr.2.1))))
  next => cases h
theorem xm_s_iconst {z : Int} (F : xm_Fr p s m args meth c cc nL own ini G o) (hk : xm_Sim p l e R s m args below meth c Q G nL mc ms cd k q) (hc : xm_chk own ini cc cd nL rk mt (.iconst z, pc, nx, a, b, ps, sw) = true) (h : xm_step o xm_sta call (.iconst z, pc, nx, a, b, ps, sw) L st w k = some q) : xm_Con p l e R s m args below meth c Q G nL mc ms q pc L st w := by
  simp only [xm_chk, Bool.and_eq_true] at hc
  simp only [xm_step] at h
  refine ⟨(hk _ _ _ _ h).1, fun ls H locs cells slots hr => ?_⟩
  refine lv_iconst F.1 F.2.1 (xm_dec_ok hc.1.1) rfl ?_
  exact (hk _ _ _ _ h).2 _ (xm_ofn hc.1.2) _ _ _ _ _ (hr.stk (xm_c3 (xm_okb_ok hc.2) hr.2.1))
theorem xm_s_bipush {z : Int} (F : xm_Fr p s m args meth c cc nL own ini G o) (hk : xm_Sim p l e R s m args below meth c Q G nL mc ms cd k q) (hc : xm_chk own ini cc cd nL rk mt (.bipush z, pc, nx, a, b, ps, sw) = true) (h : xm_step o xm_sta call (.bipush z, pc, nx, a, b, ps, sw) L st w k = some q) : xm_Con p l e R s m args below meth c Q G nL mc ms q pc L st w := by
  simp only [xm_chk, Bool.and_eq_true] at hc
  simp only [xm_step] at h
  refine ⟨(hk _ _ _ _ h).1, fun ls H locs cells slots hr => ?_⟩
  refine lv_bipush F.1 F.2.1 (xm_dec_ok hc.1.1.1) (of_decide_eq_true hc.2) ?_
  exact (hk _ _ _ _ h).2 _ (xm_ofn hc.1.1.2) _ _ _ _ _ (hr.stk (xm_c3 (xm_okb_ok hc.1.2) hr.2.1))
theorem xm_s_sipush {z : Int} (F : xm_Fr p s m args meth c cc nL own ini G o) (hk : xm_Sim p l e R s m args below meth c Q G nL mc ms cd k q) (hc : xm_chk own ini cc cd nL rk mt (.sipush z, pc, nx, a, b, ps, sw) = true) (h : xm_step o xm_sta call (.sipush z, pc, nx, a, b, ps, sw) L st w k = some q) : xm_Con p l e R s m args below meth c Q G nL mc ms q pc L st w := by
  simp only [xm_chk, Bool.and_eq_true] at hc
  simp only [xm_step] at h
  refine ⟨(hk _ _ _ _ h).1, fun ls H locs cells slots hr => ?_⟩
  refine lv_sipush F.1 F.2.1 (xm_dec_ok hc.1.1.1) (of_decide_eq_true hc.2) ?_
  exact (hk _ _ _ _ h).2 _ (xm_ofn hc.1.1.2) _ _ _ _ _ (hr.stk (xm_c3 (xm_okb_ok hc.1.2) hr.2.1))
theorem xm_s_null (F : xm_Fr p s m args meth c cc nL own ini G o) (hk : xm_Sim p l e R s m args below meth c Q G nL mc ms cd k q) (hc : xm_chk own ini cc cd nL rk mt (.aconst_null, pc, nx, a, b, ps, sw) = true) (h : xm_step o xm_sta call (.aconst_null, pc, nx, a, b, ps, sw) L st w k = some q) : xm_Con p l e R s m args below meth c Q G nL mc ms q pc L st w := by
  simp only [xm_chk, Bool.and_eq_true] at hc
  simp only [xm_step] at h
  refine ⟨(hk _ _ _ _ h).1, fun ls H locs cells slots hr => ?_⟩
  refine lv_null F.1 F.2.1 (xm_dec_ok hc.1) ?_
  exact (hk _ _ _ _ h).2 _ (xm_ofn hc.2) _ _ _ _ _ (hr.stk (xm_c3 trivial hr.2.1))
theorem xm_s_iload {j : Nat} (F : xm_Fr p s m args meth c cc nL own ini G o) (hk : xm_Sim p l e R s m args below meth c Q G nL mc ms cd k q) (hc : xm_chk own ini cc cd nL rk mt (.iload j, pc, nx, a, b, ps, sw) = true) (h : xm_step o xm_sta call (.iload j, pc, nx, a, b, ps, sw) L st w k = some q) : xm_Con p l e R s m args below meth c Q G nL mc ms q pc L st w := by
  simp only [xm_chk, Bool.and_eq_true] at hc
  simp only [xm_step] at h
  split at h
  next x hx =>
    refine ⟨(hk _ _ _ _ h).1, fun ls H locs cells slots hr => ?_⟩
    have hls := hr.1.1.2.2 (a, xm_v G _) (xm_lv_in.mpr ⟨_, hx, rfl⟩)
    have hok := hr.1.2.2 _ (List.mem_of_getElem? hx)
    have hi : j = a := by simpa using hc.2
    subst hi; refine lv_iload F.1 F.2.1 (xm_dec_ok hc.1.1) hls ?_
    exact (hk _ _ _ _ h).2 _ (xm_ofn hc.1.2) _ _ _ _ _ (hr.stk (xm_c3 hok hr.2.1))
  next => cases h
theorem xm_s_iload_n {j : Fin 4} (F : xm_Fr p s m args meth c cc nL own ini G o) (hk : xm_Sim p l e R s m args below meth c Q G nL mc ms cd k q) (hc : xm_chk own ini cc cd nL rk mt (.iload_n j, pc, nx, a, b, ps, sw) = true) (h : xm_step o xm_sta call (.iload_n j, pc, nx, a, b, ps, sw) L st w k = some q) : xm_Con p l e R s m args below meth c Q G nL mc ms q pc L st w := by
  simp only [xm_chk, Bool.and_eq_true] at hc
  simp only [xm_step] at h
  split at h
  next x hx =>
    refine ⟨(hk _ _ _ _ h).1, fun ls H locs cells slots hr => ?_⟩
    have hls := hr.1.1.2.2 (a, xm_v G _) (xm_lv_in.mpr ⟨_, hx, rfl⟩)
    have hok := hr.1.2.2 _ (List.mem_of_getElem? hx)
    have hi : j.val = a := by simpa using hc.2
    refine lv_iload_n F.1 F.2.1 (xm_dec_ok hc.1.1) hi hls ?_
    exact (hk _ _ _ _ h).2 _ (xm_ofn hc.1.2) _ _ _ _ _ (hr.stk (xm_c3 hok hr.2.1))
  next => cases h
theorem xm_s_lload_n {j : Fin 4} (F : xm_Fr p s m args meth c cc nL own ini G o) (hk : xm_Sim p l e R s m args below meth c Q G nL mc ms cd k q) (hc : xm_chk own ini cc cd nL rk mt (.lload_n j, pc, nx, a, b, ps, sw) = true) (h : xm_step o xm_sta call (.lload_n j, pc, nx, a, b, ps, sw) L st w k = some q) : xm_Con p l e R s m args below meth c Q G nL mc ms q pc L st w := by
  simp only [xm_chk, Bool.and_eq_true] at hc
  simp only [xm_step] at h
  split at h
  next x hx =>
    refine ⟨(hk _ _ _ _ h).1, fun ls H locs cells slots hr => ?_⟩
    have hls := hr.1.1.2.2 (a, xm_v G _) (xm_lv_in.mpr ⟨_, hx, rfl⟩)
    have hok := hr.1.2.2 _ (List.mem_of_getElem? hx)
    have hi : j.val = a := by simpa using hc.2
    refine lv_lload_n F.1 F.2.1 (xm_dec_ok hc.1.1) hi hls ?_
    exact (hk _ _ _ _ h).2 _ (xm_ofn hc.1.2) _ _ _ _ _ (hr.stk (xm_c3 hok hr.2.1))
  next => cases h
theorem xm_s_aload {j : Nat} (F : xm_Fr p s m args meth c cc nL own ini G o) (hk : xm_Sim p l e R s m args below meth c Q G nL mc ms cd k q) (hc : xm_chk own ini cc cd nL rk mt (.aload j, pc, nx, a, b, ps, sw) = true) (h : xm_step o xm_sta call (.aload j, pc, nx, a, b, ps, sw) L st w k = some q) : xm_Con p l e R s m args below meth c Q G nL mc ms q pc L st w := by
  simp only [xm_chk, Bool.and_eq_true] at hc
  simp only [xm_step] at h
  split at h
  next x hx =>
    refine ⟨(hk _ _ _ _ h).1, fun ls H locs cells slots hr => ?_⟩
    have hls := hr.1.1.2.2 (a, xm_v G _) (xm_lv_in.mpr ⟨_, hx, rfl⟩)
    have hi : j = a := by simpa using hc.2
    have K := (hk _ _ _ _ h).2 _ (xm_ofn hc.1.2) _ _ _ _ _ (hr.stk (xm_c3 (xm_okr _) hr.2.1))
    match x, hls, K with
    | none, hls, K => (subst hi; exact lv_aloadN F.1 F.2.1 (xm_dec_ok hc.1.1) hls K)
    | some x, hls, K => (subst hi; exact lv_aload F.1 F.2.1 (xm_dec_ok hc.1.1) hls K)
  next => cases h
theorem xm_s_aload_n {j : Fin 4} (F : xm_Fr p s m args meth c cc nL own ini G o) (hk : xm_Sim p l e R s m args below meth c Q G nL mc ms cd k q) (hc : xm_chk own ini cc cd nL rk mt (.aload_n j, pc, nx, a, b, ps, sw) = true) (h : xm_step o xm_sta call (.aload_n j, pc, nx, a, b, ps, sw) L st w k = some q) : xm_Con p l e R s m args below meth c Q G nL mc ms q pc L st w := by
  simp only [xm_chk, Bool.and_eq_true] at hc
  simp only [xm_step] at h
  split at h
  next x hx =>
    refine ⟨(hk _ _ _ _ h).1, fun ls H locs cells slots hr => ?_⟩
    have hls := hr.1.1.2.2 (a, xm_v G _) (xm_lv_in.mpr ⟨_, hx, rfl⟩)
    have hi : j.val = a := by simpa using hc.2
    have K := (hk _ _ _ _ h).2 _ (xm_ofn hc.1.2) _ _ _ _ _ (hr.stk (xm_c3 (xm_okr _) hr.2.1))
    match x, hls, K with
    | none, hls, K => exact lv_aload_nN F.1 F.2.1 (xm_dec_ok hc.1.1) hi hls K
    | some x, hls, K => exact lv_aload_n F.1 F.2.1 (xm_dec_ok hc.1.1) hi hls K
  next => cases h
theorem xm_s_istore {j : Nat} (F : xm_Fr p s m args meth c cc nL own ini G o) (hk : xm_Sim p l e R s m args below meth c Q G nL mc ms cd k q) (hc : xm_chk own ini cc cd nL rk mt (.istore j, pc, nx, a, b, ps, sw) = true) (h : xm_step o xm_sta call (.istore j, pc, nx, a, b, ps, sw) L st w k = some q) : xm_Con p l e R s m args below meth c Q G nL mc ms q pc L st w := by
  simp only [xm_chk, Bool.and_eq_true] at hc
  simp only [xm_step] at h
  split at h
  next x r =>
    split at h
    next hnl =>
      refine ⟨(hk _ _ _ _ h).1, fun ls H locs cells slots hr => ?_⟩
      have hi : j = a := by simpa using hc.1.2
      have hn : a < nL := of_decide_eq_true hc.2
      subst hi; refine lv_istore F.1 F.2.1 (xm_dec_ok hc.1.1.1) hr.1.1 hn rfl (fun ls hl => ?_)
      exact (hk _ _ _ _ h).2 _ (xm_ofn hc.1.1.2) _ _ _ _ _ (hr.loc (xm_c1 hr.2.1) hl hnl (xm_c2 hr.2.1))
    next => cases h
  next => cases h
theorem xm_s_istore_n {j : Fin 4} (F : xm_Fr p s m args meth c cc nL own ini G o) (hk : xm_Sim p l e R s m args below meth c Q G nL mc ms cd k q) (hc : xm_chk own ini cc cd nL rk mt (.istore_n j, pc, nx, a, b, ps, sw) = true) (h : xm_step o xm_sta call (.istore_n j, pc, nx, a, b, ps, sw) L st w k = some q) : xm_Con p l e R s m args below meth c Q G nL mc ms q pc L st w := by
  simp only [xm_chk, Bool.and_eq_true] at hc
  simp only [xm_step] at h
  split at h
  next x r =>
    split at h
    next hnl =>
      refine ⟨(hk _ _ _ _ h).1, fun ls H locs cells slots hr => ?_⟩
      have hi : j.val = a := by simpa using hc.1.2
      have hn : a < nL := of_decide_eq_true hc.2
      refine lv_istore_n F.1 F.2.1 (xm_dec_ok hc.1.1.1) hi hr.1.1 hn rfl (fun ls hl => ?_)
      exact (hk _ _ _ _ h).2 _ (xm_ofn hc.1.1.2) _ _ _ _ _ (hr.loc (xm_c1 hr.2.1) hl hnl (xm_c2 hr.2.1))
    next => cases h
  next => cases h
theorem xm_s_astore {j : Nat} (F : xm_Fr p s m args meth c cc nL own ini G o) (hk : xm_Sim p l e R s m args below meth c Q G nL mc ms cd k q) (hc : xm_chk own ini cc cd nL rk mt (.astore j, pc, nx, a, b, ps, sw) = true) (h : xm_step o xm_sta call (.astore j, pc, nx, a, b, ps, sw) L st w k = some q) : xm_Con p l e R s m args below meth c Q G nL mc ms q pc L st w := by
  simp only [xm_chk, Bool.and_eq_true] at hc
  simp only [xm_step] at h
  split at h
  next x r =>
    split at h
    next hnl =>
      refine ⟨(hk _ _ _ _ h).1, fun ls H locs cells slots hr => ?_⟩
      have hi : j = a := by simpa using hc.1.2
      have hn : a < nL := of_decide_eq_true hc.2
      have K := fun ls hl => (hk _ _ _ _ h).2 _ (xm_ofn hc.1.1.2) _ _ _ _ _ (hr.loc (ls' := ls) (xm_okr x) hl hnl (xm_c2 hr.2.1))
      match x, K with
      | none, K => (subst hi; exact lv_astoreN F.1 F.2.1 (xm_dec_ok hc.1.1.1) hr.1.1 hn rfl K)
      | some x, K => (subst hi; exact lv_astore F.1 F.2.1 (xm_dec_ok hc.1.1.1) hr.1.1 hn rfl K)
    next => cases h
  next => cases h
theorem xm_s_astore_n {j : Fin 4} (F : xm_Fr p s m args meth c cc nL own ini G o) (hk : xm_Sim p l e R s m args below meth c Q G nL mc ms cd k q) (hc : xm_chk own ini cc cd nL rk mt (.astore_n j, pc, nx, a, b, ps, sw) = true) (h : xm_step o xm_sta call (.astore_n j, pc, nx, a, b, ps, sw) L st w k = some q) : xm_Con p l e R s m args below meth c Q G nL mc ms q pc L st w := by
  simp only [xm_chk, Bool.and_eq_true] at hc
  simp only [xm_step] at h
  split at h
  next x r =>
    split at h
    next hnl =>
      refine ⟨(hk _ _ _ _ h).1, fun ls H locs cells slots hr => ?_⟩
      have hi : j.val = a := by simpa using hc.1.2
      have hn : a < nL := of_decide_eq_true hc.2
      have K := fun ls hl => (hk _ _ _ _ h).2 _ (xm_ofn hc.1.1.2) _ _ _ _ _ (hr.loc (ls' := ls) (xm_okr x) hl hnl (xm_c2 hr.2.1))
      match x, K with
      | none, K => exact lv_astore_nN F.1 F.2.1 (xm_dec_ok hc.1.1.1) hi hr.1.1 hn rfl K
      | some x, K => exact lv_astore_n F.1 F.2.1 (xm_dec_ok hc.1.1.1) hi hr.1.1 hn rfl K
    next => cases h
  next => cases h
theorem xm_s_iinc {j : Nat} {z : Int} (F : xm_Fr p s m args meth c cc nL own ini G o) (hk : xm_Sim p l e R s m args below meth c Q G nL mc ms cd k q) (hc : xm_chk own ini cc cd nL rk mt (.iinc j z, pc, nx, a, b, ps, sw) = true) (h : xm_step o xm_sta call (.iinc j z, pc, nx, a, b, ps, sw) L st w k = some q) : xm_Con p l e R s m args below meth c Q G nL mc ms q pc L st w := by
  simp only [xm_chk, Bool.and_eq_true] at hc
  simp only [xm_step] at h
  split at h
  next x hx =>
    split at h
    next hnl =>
      refine ⟨(hk _ _ _ _ h).1, fun ls H locs cells slots hr => ?_⟩
      have hi : j = a := by simpa using hc.1.2
      have hn : a < nL := of_decide_eq_true hc.2
      have hok : xm_ok (.inl x) := hr.1.2.2 _ (List.mem_of_getElem? hx)
      obtain ⟨kk, hkk⟩ := List.getElem?_of_mem (xm_lv_in.mpr ⟨_, hx, rfl⟩ : (a, xm_v G (.inl x)) ∈ xm_lv G L)
      subst hi
      refine lv_iinc F.1 F.2.1 (xm_dec_ok hc.1.1.1) hr.1.1 (k := kk) hkk (v := Int32.ofInt (xm_w (x + z))) (by rw [xm_ow, Int32.ofInt_add]) hn rfl (fun ls hl => ?_)
      exact (hk _ _ _ _ h).2 _ (xm_ofn hc.1.1.2) _ _ _ _ _ (hr.loc (xm_okw _) hl hnl hr.2.1)
    next => cases h
  next => cases h
theorem xm_s_dup (F : xm_Fr p s m args meth c cc nL own ini G o) (hk : xm_Sim p l e R s m args below meth c Q G nL mc ms cd k q) (hc : xm_chk own ini cc cd nL rk mt (.dup, pc, nx, a, b, ps, sw) = true) (h : xm_step o xm_sta call (.dup, pc, nx, a, b, ps, sw) L st w k = some q) : xm_Con p l e R s m args below meth c Q G nL mc ms q pc L st w := by
  simp only [xm_chk, Bool.and_eq_true] at hc
  simp only [xm_step] at h
  split at h
  next x r =>
    refine ⟨(hk _ _ _ _ h).1, fun ls H locs cells slots hr => ?_⟩
    have K := fun z => (hk _ _ _ _ h).2 _ (xm_ofn hc.2) _ _ _ _ _ (hr.stk z)
    exact lv_dup F.1 F.2.1 (xm_dec_ok hc.1) rfl (K (xm_c3 (xm_c1 hr.2.1) hr.2.1))
  next x r =>
    refine ⟨(hk _ _ _ _ h).1, fun ls H locs cells slots hr => ?_⟩
    have K := fun z => (hk _ _ _ _ h).2 _ (xm_ofn hc.2) _ _ _ _ _ (hr.stk z)
    exact lv_dup F.1 F.2.1 (xm_dec_ok hc.1) (by cases x <;> rfl) (K (xm_c3 (xm_c1 hr.2.1) hr.2.1))
  next => cases h
theorem xm_s_dup_x1 (F : xm_Fr p s m args meth c cc nL own ini G o) (hk : xm_Sim p l e R s m args below meth c Q G nL mc ms cd k q) (hc : xm_chk own ini cc cd nL rk mt (.dup_x1, pc, nx, a, b, ps, sw) = true) (h : xm_step o xm_sta call (.dup_x1, pc, nx, a, b, ps, sw) L st w k = some q) : xm_Con p l e R s m args below meth c Q G nL mc ms q pc L st w := by
  simp only [xm_chk, Bool.and_eq_true] at hc
  simp only [xm_step] at h
  split at h
  next x y r =>
    refine ⟨(hk _ _ _ _ h).1, fun ls H locs cells slots hr => ?_⟩
    have K := fun z => (hk _ _ _ _ h).2 _ (xm_ofn hc.2) _ _ _ _ _ (hr.stk z)
    exact lv_dup_x1 F.1 F.2.1 (xm_dec_ok hc.1) rfl (by cases y <;> rfl) (K (xm_c3 (xm_c1 hr.2.1) (xm_c3 (xm_c1 (xm_c2 hr.2.1)) (xm_c3 (xm_c1 hr.2.1) (xm_c2 (xm_c2 hr.2.1))))))
  next x y r =>
    refine ⟨(hk _ _ _ _ h).1, fun ls H locs cells slots hr => ?_⟩
    have K := fun z => (hk _ _ _ _ h).2 _ (xm_ofn hc.2) _ _ _ _ _ (hr.stk z)
    exact lv_dup_x1 F.1 F.2.1 (xm_dec_ok hc.1) rfl rfl (K (xm_c3 (xm_c1 hr.2.1) (xm_c3 (xm_c1 (xm_c2 hr.2.1)) (xm_c3 (xm_c1 hr.2.1) (xm_c2 (xm_c2 hr.2.1))))))
  next => cases h
theorem xm_s_dup2 (F : xm_Fr p s m args meth c cc nL own ini G o) (hk : xm_Sim p l e R s m args below meth c Q G nL mc ms cd k q) (hc : xm_chk own ini cc cd nL rk mt (.dup2, pc, nx, a, b, ps, sw) = true) (h : xm_step o xm_sta call (.dup2, pc, nx, a, b, ps, sw) L st w k = some q) : xm_Con p l e R s m args below meth c Q G nL mc ms q pc L st w := by
  simp only [xm_chk, Bool.and_eq_true] at hc
  simp only [xm_step] at h
  split at h
  next x y r =>
    refine ⟨(hk _ _ _ _ h).1, fun ls H locs cells slots hr => ?_⟩
    have K := fun z => (hk _ _ _ _ h).2 _ (xm_ofn hc.2) _ _ _ _ _ (hr.stk z)
    exact lv_dup2_11 F.1 F.2.1 (xm_dec_ok hc.1) rfl (by cases y <;> rfl) (K (xm_c3 (xm_c1 hr.2.1) (xm_c3 (xm_c1 (xm_c2 hr.2.1)) hr.2.1)))
  next => cases h
theorem xm_s_pop (F : xm_Fr p s m args meth c cc nL own ini G o) (hk : xm_Sim p l e R s m args below meth c Q G nL mc ms cd k q) (hc : xm_chk own ini cc cd nL rk mt (.pop, pc, nx, a, b, ps, sw) = true) (h : xm_step o xm_sta call (.pop, pc, nx, a, b, ps, sw) L st w k = some q) : xm_Con p l e R s m args below meth c Q G nL mc ms q pc L st w := by
  simp only [xm_chk, Bool.and_eq_true] at hc
  simp only [xm_step] at h
  split at h
  next x r =>
    refine ⟨(hk _ _ _ _ h).1, fun ls H locs cells slots hr => ?_⟩
    have K := fun z => (hk _ _ _ _ h).2 _ (xm_ofn hc.2) _ _ _ _ _ (hr.stk z)
    exact lv_pop F.1 F.2.1 (xm_dec_ok hc.1) rfl (K (xm_c2 hr.2.1))
  next => cases h
theorem xm_s_goto {j : Int} (F : xm_Fr p s m args meth c cc nL own ini G o) (hk : xm_Sim p l e R s m args below meth c Q G nL mc ms cd k q) (hc : xm_chk own ini cc cd nL rk mt (.goto j, pc, nx, a, b, ps, sw) = true) (h : xm_step o xm_sta call (.goto j, pc, nx, a, b, ps, sw) L st w k = some q) : xm_Con p l e R s m args below meth c Q G nL mc ms q pc L st w := by
  simp only [xm_chk, Bool.and_eq_true] at hc
  simp only [xm_step] at h
  obtain ⟨t, h1, h2⟩ := xm_tg_ok hc.2
  refine ⟨(hk _ _ _ _ h).1, fun ls H locs cells slots hr => ?_⟩
  exact lv_goto F.1 F.2.1 (xm_dec_ok hc.1) h2 ((hk _ _ _ _ h).2 _ h1 _ _ _ _ _ hr)
theorem xm_s_ifCond {cnd : Jvm.ClassFile.Cond} {j : Int} (F : xm_Fr p s m args meth c cc nL own ini G o) (hk : xm_Sim p l e R s m args below meth c Q G nL mc ms cd k q) (hc : xm_chk own ini cc cd nL rk mt (.ifCond cnd j, pc, nx, a, b, ps, sw) = true) (h : xm_step o xm_sta call (.ifCond cnd j, pc, nx, a, b, ps, sw) L st w k = some q) : xm_Con p l e R s m args below meth c Q G nL mc ms q pc L st w := by
  simp only [xm_chk, Bool.and_eq_true] at hc
  simp only [xm_step] at h
  obtain ⟨t, h1, h2⟩ := xm_tg_ok hc.2
  split at h
  next x r =>
    have N := xm_ofn hc.1.2
    have D := xm_dec_ok hc.1.1
    cases cnd
    · simp only [] at h
      split at h
      next hh =>
        refine ⟨(hk _ _ _ _ h).1, fun ls H locs cells slots hr => ?_⟩
        have hx := xm_c1 hr.2.1
        refine lv_if_eq F.1 F.2.1 D h2 (fun z => ?_) (fun z => ?_)
        · exact (hk _ _ _ _ h).2 _ h1 _ _ _ _ _ (hr.stk (xm_c2 hr.2.1))
        · exact absurd ((xm_eq0 hx).mpr hh) z
      next hh =>
        refine ⟨(hk _ _ _ _ h).1, fun ls H locs cells slots hr => ?_⟩
        have hx := xm_c1 hr.2.1
        refine lv_if_eq F.1 F.2.1 D h2 (fun z => ?_) (fun z => ?_)
        · exact absurd ((xm_eq0 hx).mp z) hh
        · exact (hk _ _ _ _ h).2 _ N _ _ _ _ _ (hr.stk (xm_c2 hr.2.1))
    · simp only [] at h
      split at h
      next hh =>
        refine ⟨(hk _ _ _ _ h).1, fun ls H locs cells slots hr => ?_⟩
        have hx := xm_c1 hr.2.1
        refine lv_if_ne F.1 F.2.1 D h2 (fun z => ?_) (fun z => ?_)
        · exact absurd hh (fun y => z ((xm_eq0 hx).mpr y))
        · exact (hk _ _ _ _ h).2 _ N _ _ _ _ _ (hr.stk (xm_c2 hr.2.1))
      next hh =>
        refine ⟨(hk _ _ _ _ h).1, fun ls H locs cells slots hr => ?_⟩
        have hx := xm_c1 hr.2.1
        refine lv_if_ne F.1 F.2.1 D h2 (fun z => ?_) (fun z => ?_)
        · exact (hk _ _ _ _ h).2 _ h1 _ _ _ _ _ (hr.stk (xm_c2 hr.2.1))
        · exact absurd ((xm_eq0 hx).mp z) hh
    · simp only [] at h
      split at h
      next hh =>
        refine ⟨(hk _ _ _ _ h).1, fun ls H locs cells slots hr => ?_⟩
        have hx := xm_c1 hr.2.1
        refine lv_if_lt F.1 F.2.1 D h2 (fun z => ?_) (fun z => ?_)
        · exact (hk _ _ _ _ h).2 _ h1 _ _ _ _ _ (hr.stk (xm_c2 hr.2.1))
        · exact absurd ((xm_lt0 hx).mpr hh) z
      next hh =>
        refine ⟨(hk _ _ _ _ h).1, fun ls H locs cells slots hr => ?_⟩
        have hx := xm_c1 hr.2.1
        refine lv_if_lt F.1 F.2.1 D h2 (fun z => ?_) (fun z => ?_)
        · exact absurd ((xm_lt0 hx).mp z) hh
        · exact (hk _ _ _ _ h).2 _ N _ _ _ _ _ (hr.stk (xm_c2 hr.2.1))
    · simp only [] at h
      split at h
      next hh =>
        refine ⟨(hk _ _ _ _ h).1, fun ls H locs cells slots hr => ?_⟩
        have hx := xm_c1 hr.2.1
        refine lv_if_ge F.1 F.2.1 D h2 (fun z => ?_) (fun z => ?_)
        · exact absurd hh (Int.not_lt.mpr ((xm_0le hx).mp z))
        · exact (hk _ _ _ _ h).2 _ N _ _ _ _ _ (hr.stk (xm_c2 hr.2.1))
      next hh =>
        refine ⟨(hk _ _ _ _ h).1, fun ls H locs cells slots hr => ?_⟩
        have hx := xm_c1 hr.2.1
        refine lv_if_ge F.1 F.2.1 D h2 (fun z => ?_) (fun z => ?_)
        · exact (hk _ _ _ _ h).2 _ h1 _ _ _ _ _ (hr.stk (xm_c2 hr.2.1))
        · exact absurd ((xm_0le hx).mpr (Int.not_lt.mp hh)) z
    · simp only [] at h
      split at h
      next hh =>
        refine ⟨(hk _ _ _ _ h).1, fun ls H locs cells slots hr => ?_⟩
        have hx := xm_c1 hr.2.1
        refine lv_if_gt F.1 F.2.1 D h2 (fun z => ?_) (fun z => ?_)
        · exact (hk _ _ _ _ h).2 _ h1 _ _ _ _ _ (hr.stk (xm_c2 hr.2.1))
        · exact absurd ((xm_0lt hx).mpr hh) z
      next hh =>
        refine ⟨(hk _ _ _ _ h).1, fun ls H locs cells slots hr => ?_⟩
        have hx := xm_c1 hr.2.1
        refine lv_if_gt F.1 F.2.1 D h2 (fun z => ?_) (fun z => ?_)
        · exact absurd ((xm_0lt hx).mp z) hh
        · exact (hk _ _ _ _ h).2 _ N _ _ _ _ _ (hr.stk (xm_c2 hr.2.1))
    · simp only [] at h
      split at h
      next hh =>
        refine ⟨(hk _ _ _ _ h).1, fun ls H locs cells slots hr => ?_⟩
        have hx := xm_c1 hr.2.1
        refine lv_if_le F.1 F.2.1 D h2 (fun z => ?_) (fun z => ?_)
        · exact absurd hh (Int.not_lt.mpr ((xm_le0 hx).mp z))
        · exact (hk _ _ _ _ h).2 _ N _ _ _ _ _ (hr.stk (xm_c2 hr.2.1))
      next hh =>
        refine ⟨(hk _ _ _ _ h).1, fun ls H locs cells slots hr => ?_⟩
        have hx := xm_c1 hr.2.1
        refine lv_if_le F.1 F.2.1 D h2 (fun z => ?_) (fun z => ?_)
        · exact (hk _ _ _ _ h).2 _ h1 _ _ _ _ _ (hr.stk (xm_c2 hr.2.1))
        · exact absurd ((xm_le0 hx).mpr (Int.not_lt.mp hh)) z
  next => cases h
theorem xm_s_if_icmp {cnd : Jvm.ClassFile.Cond} {j : Int} (F : xm_Fr p s m args meth c cc nL own ini G o) (hk : xm_Sim p l e R s m args below meth c Q G nL mc ms cd k q) (hc : xm_chk own ini cc cd nL rk mt (.if_icmp cnd j, pc, nx, a, b, ps, sw) = true) (h : xm_step o xm_sta call (.if_icmp cnd j, pc, nx, a, b, ps, sw) L st w k = some q) : xm_Con p l e R s m args below meth c Q G nL mc ms q pc L st w := by
  simp only [xm_chk, Bool.and_eq_true] at hc
  simp only [xm_step] at h
  obtain ⟨t, h1, h2⟩ := xm_tg_ok hc.2
  split at h
  next y x r =>
    have N := xm_ofn hc.1.2
    have D := xm_dec_ok hc.1.1
    cases cnd
    · simp only [] at h
      split at h
      next hh =>
        refine ⟨(hk _ _ _ _ h).1, fun ls H locs cells slots hr => ?_⟩
        have hx := xm_c1 (xm_c2 hr.2.1)
        have hy := xm_c1 hr.2.1
        refine lv_icmp_eq F.1 F.2.1 D h2 (fun z => ?_) (fun z => ?_)
        · exact (hk _ _ _ _ h).2 _ h1 _ _ _ _ _ (hr.stk (xm_c2 (xm_c2 hr.2.1)))
        · exact absurd ((xm_eq hx hy).mpr hh) z
      next hh =>
        refine ⟨(hk _ _ _ _ h).1, fun ls H locs cells slots hr => ?_⟩
        have hx := xm_c1 (xm_c2 hr.2.1)
        have hy := xm_c1 hr.2.1
        refine lv_icmp_eq F.1 F.2.1 D h2 (fun z => ?_) (fun z => ?_)
        · exact absurd ((xm_eq hx hy).mp z) hh
        · exact (hk _ _ _ _ h).2 _ N _ _ _ _ _ (hr.stk (xm_c2 (xm_c2 hr.2.1)))
    · simp only [] at h
      split at h
      next hh =>
        refine ⟨(hk _ _ _ _ h).1, fun ls H locs cells slots hr => ?_⟩
        have hx := xm_c1 (xm_c2 hr.2.1)
        have hy := xm_c1 hr.2.1
        refine lv_icmp_ne F.1 F.2.1 D h2 (fun z => ?_) (fun z => ?_)
        · exact absurd hh (fun y => z ((xm_eq hx hy).mpr y))
        · exact (hk _ _ _ _ h).2 _ N _ _ _ _ _ (hr.stk (xm_c2 (xm_c2 hr.2.1)))
      next hh =>
        refine ⟨(hk _ _ _ _ h).1, fun ls H locs cells slots hr => ?_⟩
        have hx := xm_c1 (xm_c2 hr.2.1)
        have hy := xm_c1 hr.2.1
        refine lv_icmp_ne F.1 F.2.1 D h2 (fun z => ?_) (fun z => ?_)
        · exact (hk _ _ _ _ h).2 _ h1 _ _ _ _ _ (hr.stk (xm_c2 (xm_c2 hr.2.1)))
        · exact absurd ((xm_eq hx hy).mp z) hh
    · simp only [] at h
      split at h
      next hh =>
        refine ⟨(hk _ _ _ _ h).1, fun ls H locs cells slots hr => ?_⟩
        have hx := xm_c1 (xm_c2 hr.2.1)
        have hy := xm_c1 hr.2.1
        refine lv_icmp_lt F.1 F.2.1 D h2 (fun z => ?_) (fun z => ?_)
        · exact (hk _ _ _ _ h).2 _ h1 _ _ _ _ _ (hr.stk (xm_c2 (xm_c2 hr.2.1)))
        · exact absurd ((xm_lt hx hy).mpr hh) z
      next hh =>
        refine ⟨(hk _ _ _ _ h).1, fun ls H locs cells slots hr => ?_⟩
        have hx := xm_c1 (xm_c2 hr.2.1)
        have hy := xm_c1 hr.2.1
        refine lv_icmp_lt F.1 F.2.1 D h2 (fun z => ?_) (fun z => ?_)
        · exact absurd ((xm_lt hx hy).mp z) hh
        · exact (hk _ _ _ _ h).2 _ N _ _ _ _ _ (hr.stk (xm_c2 (xm_c2 hr.2.1)))
    · simp only [] at h
      split at h
      next hh =>
        refine ⟨(hk _ _ _ _ h).1, fun ls H locs cells slots hr => ?_⟩
        have hx := xm_c1 (xm_c2 hr.2.1)
        have hy := xm_c1 hr.2.1
        refine lv_icmp_ge F.1 F.2.1 D h2 (fun z => ?_) (fun z => ?_)
        · exact absurd hh (Int.not_lt.mpr ((xm_le hy hx).mp z))
        · exact (hk _ _ _ _ h).2 _ N _ _ _ _ _ (hr.stk (xm_c2 (xm_c2 hr.2.1)))
      next hh =>
        refine ⟨(hk _ _ _ _ h).1, fun ls H locs cells slots hr => ?_⟩
        have hx := xm_c1 (xm_c2 hr.2.1)
        have hy := xm_c1 hr.2.1
        refine lv_icmp_ge F.1 F.2.1 D h2 (fun z => ?_) (fun z => ?_)
        · exact (hk _ _ _ _ h).2 _ h1 _ _ _ _ _ (hr.stk (xm_c2 (xm_c2 hr.2.1)))
        · exact absurd ((xm_le hy hx).mpr (Int.not_lt.mp hh)) z
    · simp only [] at h
      split at h
      next hh =>
        refine ⟨(hk _ _ _ _ h).1, fun ls H locs cells slots hr => ?_⟩
        have hx := xm_c1 (xm_c2 hr.2.1)
        have hy := xm_c1 hr.2.1
        refine lv_icmp_gt F.1 F.2.1 D h2 (fun z => ?_) (fun z => ?_)
        · exact (hk _ _ _ _ h).2 _ h1 _ _ _ _ _ (hr.stk (xm_c2 (xm_c2 hr.2.1)))
        · exact absurd ((xm_lt hy hx).mpr hh) z
      next hh =>
        refine ⟨(hk _ _ _ _ h).1, fun ls H locs cells slots hr => ?_⟩
        have hx := xm_c1 (xm_c2 hr.2.1)
        have hy := xm_c1 hr.2.1
        refine lv_icmp_gt F.1 F.2.1 D h2 (fun z => ?_) (fun z => ?_)
        · exact absurd ((xm_lt hy hx).mp z) hh
        · exact (hk _ _ _ _ h).2 _ N _ _ _ _ _ (hr.stk (xm_c2 (xm_c2 hr.2.1)))
    · simp only [] at h
      split at h
      next hh =>
        refine ⟨(hk _ _ _ _ h).1, fun ls H locs cells slots hr => ?_⟩
        have hx := xm_c1 (xm_c2 hr.2.1)
        have hy := xm_c1 hr.2.1
        refine lv_icmp_le F.1 F.2.1 D h2 (fun z => ?_) (fun z => ?_)
        · exact absurd hh (Int.not_lt.mpr ((xm_le hx hy).mp z))
        · exact (hk _ _ _ _ h).2 _ N _ _ _ _ _ (hr.stk (xm_c2 (xm_c2 hr.2.1)))
      next hh =>
        refine ⟨(hk _ _ _ _ h).1, fun ls H locs cells slots hr => ?_⟩
        have hx := xm_c1 (xm_c2 hr.2.1)
        have hy := xm_c1 hr.2.1
        refine lv_icmp_le F.1 F.2.1 D h2 (fun z => ?_) (fun z => ?_)
        · exact (hk _ _ _ _ h).2 _ h1 _ _ _ _ _ (hr.stk (xm_c2 (xm_c2 hr.2.1)))
        · exact absurd ((xm_le hx hy).mpr (Int.not_lt.mp hh)) z
  next => cases h
theorem xm_s_ifnull {j : Int} (F : xm_Fr p s m args meth c cc nL own ini G o) (hk : xm_Sim p l e R s m args below meth c Q G nL mc ms cd k q) (hc : xm_chk own ini cc cd nL rk mt (.ifnull j, pc, nx, a, b, ps, sw) = true) (h : xm_step o xm_sta call (.ifnull j, pc, nx, a, b, ps, sw) L st w k = some q) : xm_Con p l e R s m args below meth c Q G nL mc ms q pc L st w := by
  simp only [xm_chk, Bool.and_eq_true] at hc
  simp only [xm_step] at h
  obtain ⟨t, h1, h2⟩ := xm_tg_ok hc.2
  split at h
  next r =>
    refine ⟨(hk _ _ _ _ h).1, fun ls H locs cells slots hr => ?_⟩
    exact lv_ifnullN F.1 F.2.1 (xm_dec_ok hc.1.1) h2 ((hk _ _ _ _ h).2 _ h1 _ _ _ _ _ (hr.stk (xm_c2 hr.2.1)))
  next x r =>
    refine ⟨(hk _ _ _ _ h).1, fun ls H locs cells slots hr => ?_⟩
    exact lv_ifnull F.1 F.2.1 (xm_dec_ok hc.1.1) ((hk _ _ _ _ h).2 _ (xm_ofn hc.1.2) _ _ _ _ _ (hr.stk (xm_c2 hr.2.1)))
  next => cases h
theorem xm_s_ifnonnull {j : Int} (F : xm_Fr p s m args meth c cc nL own ini G o) (hk : xm_Sim p l e R s m args below meth c Q G nL mc ms cd k q) (hc : xm_chk own ini cc cd nL rk mt (.ifnonnull j, pc, nx, a, b, ps, sw) = true) (h : xm_step o xm_sta call (.ifnonnull j, pc, nx, a, b, ps, sw) L st w k = some q) : xm_Con p l e R s m args below meth c Q G nL mc ms q pc L st w := by
  simp only [xm_chk, Bool.and_eq_true] at hc
  simp only [xm_step] at h
  obtain ⟨t, h1, h2⟩ := xm_tg_ok hc.2
  split at h
  next r =>
    refine ⟨(hk _ _ _ _ h).1, fun ls H locs cells slots hr => ?_⟩
    exact lv_ifnonnullN F.1 F.2.1 (xm_dec_ok hc.1.1) ((hk _ _ _ _ h).2 _ (xm_ofn hc.1.2) _ _ _ _ _ (hr.stk (xm_c2 hr.2.1)))
  next x r =>
    refine ⟨(hk _ _ _ _ h).1, fun ls H locs cells slots hr => ?_⟩
    exact lv_ifnonnull F.1 F.2.1 (xm_dec_ok hc.1.1) h2 ((hk _ _ _ _ h).2 _ h1 _ _ _ _ _ (hr.stk (xm_c2 hr.2.1)))
  next => cases h
theorem xm_s_tableswitch {d lo hi : Int} {os : Array Int} (F : xm_Fr p s m args meth c cc nL own ini G o) (hk : xm_Sim p l e R s m args below meth c Q G nL mc ms cd k q) (hc : xm_chk own ini cc cd nL rk mt (.tableswitch d lo hi os, pc, nx, a, b, ps, sw) = true) (h : xm_step o xm_sta call (.tableswitch d lo hi os, pc, nx, a, b, ps, sw) L st w k = some q) : xm_Con p l e R s m args below meth c Q G nL mc ms q pc L st w := by
  simp only [xm_chk, Bool.and_eq_true] at hc
  simp only [xm_step] at h
  obtain ⟨⟨⟨hd, ht⟩, htb⟩, hhi⟩ := hc
  have hhi := of_decide_eq_true hhi
  obtain ⟨td, h1, h2⟩ := xm_tg_ok ht
  obtain ⟨len, hdc⟩ : ∃ len, decode cc pc = .ok (.tableswitch d lo hi os, len) := by
    split at hd
    next i n hd2 => exact ⟨n, by rw [hd2, of_decide_eq_true hd]⟩
    next => cases hd
  split at h
  next x r =>
    refine ⟨(hk _ _ _ _ h).1, fun ls H locs cells slots hr => ?_⟩
    have hx := xm_c1 hr.2.1
    have K := fun pc hpc => (hk _ _ _ _ h).2 pc hpc _ _ _ _ _ (hr.stk (xm_c2 hr.2.1))
    rcases xm_tb_ok (d := a) os.toList sw lo x htb with ⟨h3, h4⟩ | ⟨ofs, t, h3, h4, h5, h6⟩
    · refine lv_tableOut F.1 F.2.1 hdc (by rw [xm_tic hx]; omega) h2 (K td (by rw [h4]; exact h1))
    · have h7 : (x - lo).toNat < os.toList.length := (List.getElem?_eq_some_iff.mp h4).1
      refine lv_tableIn F.1 F.2.1 hdc (by rw [xm_tic hx]; omega) (by rw [xm_tic hx]; omega) (by rw [xm_tic hx]; simpa using h4) h6 (K t h5)
  next => cases h
theorem xm_s_lookupswitch {d : Int} {os : Array (Int × Int)} (F : xm_Fr p s m args meth c cc nL own ini G o) (hk : xm_Sim p l e R s m args below meth c Q G nL mc ms cd k q) (hc : xm_chk own ini cc cd nL rk mt (.lookupswitch d os, pc, nx, a, b, ps, sw) = true) (h : xm_step o xm_sta call (.lookupswitch d os, pc, nx, a, b, ps, sw) L st w k = some q) : xm_Con p l e R s m args below meth c Q G nL mc ms q pc L st w := by
  simp only [xm_chk, Bool.and_eq_true] at hc
  simp only [xm_step] at h
  obtain ⟨⟨⟨hd, ht⟩, htb⟩, hsr⟩ := hc
  obtain ⟨td, h1, h2⟩ := xm_tg_ok ht
  obtain ⟨len, hdc⟩ : ∃ len, decode cc pc = .ok (.lookupswitch d os, len) := by
    split at hd
    next i n hd2 => exact ⟨n, by rw [hd2, of_decide_eq_true hd]⟩
    next => cases hd
  split at h
  next x r =>
    refine ⟨(hk _ _ _ _ h).1, fun ls H locs cells slots hr => ?_⟩
    have hx := xm_c1 hr.2.1
    obtain ⟨t, h3, h4⟩ := xm_lu_ok h1 h2 os.toList sw x htb
    exact lv_lookup F.1 F.2.1 hdc hsr (by rw [xm_tic hx]) h4 ((hk _ _ _ _ h).2 _ h3 _ _ _ _ _ (hr.stk (xm_c2 hr.2.1)))
  next => cases h
end xm_sec
end
section
def xm_WS : List Cond := lw_tbl.filter goodWord
theorem xm_ws_in {w : Cond} (h : w ∈ lw_tbl) (g : goodWord w = true) : w ∈ xm_WS := List.mem_filter.mpr ⟨h, g⟩
theorem xm_gd_in {i : Nat} {w : Cond} (h : xm_gd i w = true) : w ∈ lw_tbl ∧ goodWord w = true := by
  simp only [xm_gd, xm_wd, Bool.and_eq_true, decide_eq_true_eq] at h
  exact ⟨xm_look_in h.1, h.2⟩
theorem xm_wd_in {i : Nat} {w : Cond} (h : xm_wd i w = true) : w ∈ lw_tbl := by
  simp only [xm_wd, decide_eq_true_eq] at h
  exact xm_look_in h
theorem xm_Fr.hts {p : Program} {s : State} {m : MethodId} {args : Array Value} {meth : Method} {c : Code} {cc : ByteArray} {nL : Nat} {own : String} {ini : Bool} {G : xm_G} {o : xm_W} (F : xm_Fr p s m args meth c cc nL own ini G o) : ∀ w ∈ xm_WS, w.before args s = true := fun w h => F.2.2.2.2.1 w (List.mem_filter.mp h).1 (List.mem_filter.mp h).2
theorem xm_Fr.gd {p : Program} {s : State} {m : MethodId} {args : Array Value} {meth : Method} {c : Code} {cc : ByteArray} {nL : Nat} {own : String} {ini : Bool} {G : xm_G} {o : xm_W} (F : xm_Fr p s m args meth c cc nL own ini G o) {i : Nat} {w : Cond} (h : xm_gd i w = true) : w.before args s = true := F.2.2.2.2.1 w (xm_gd_in h).1 (xm_gd_in h).2
theorem xm_P1 {G : xm_G} {x : Nat × va_E} {H : Heap} (h : va_at G.1 xm_cl x H) : va_P G.1 xm_cl [x] H := fun k q hq => by
  match k, hq with
  | 0, hq => cases hq; exact h
  | k + 1, hq => simp at hq
theorem xm_sum_set : ∀ (l : List Nat) (k v : Nat), l[k]? = some v → (l.set k v).sum = l.sum
  | [], _, _, h => by simp at h
  | z :: l, 0, v, h => by
    have : z = v := by simpa using h
    subst this; rfl
  | z :: l, k + 1, v, h => by
    have h2 : l[k]? = some v := by simpa using h
    simp only [List.set_cons_succ, List.sum_cons, xm_sum_set l k v h2]
theorem xm_sz_set {w : xm_W} {k : Nat} {x x0 : xm_C} (hk : w[k]? = some x0) (h : xm_szC x = xm_szC x0) : xm_sz (w.set k x) = xm_sz w := by
  unfold xm_sz
  rw [List.map_set, h]
  exact xm_sum_set _ _ _ (by rw [List.getElem?_map, hk]; rfl)
theorem xm_sz_push (w : xm_W) (x : xm_C) : xm_sz (w ++ [x]) = xm_sz w + xm_szC x := by simp [xm_sz]
theorem xm_gr_set {w : xm_W} {k : Nat} {x x0 : xm_C} (hk : w[k]? = some x0) (h : xm_szC x = xm_szC x0) : xm_gr w (w.set k x) := ⟨by rw [List.length_set]; exact Nat.le_refl _, by rw [xm_sz_set hk h]; exact Nat.le_refl _⟩
theorem xm_gr_push (w : xm_W) (x : xm_C) : xm_gr w (w ++ [x]) := ⟨by simp, by rw [xm_sz_push]; omega⟩
theorem xm_Rep.at {G : xm_G} {w : xm_W} {H : Heap} (h : xm_Rep G w H) {k : Nat} {x : xm_C} (hx : w[k]? = some x) : va_at G.1 xm_cl (G.2.2.1 + k, xm_e G x) H := (h.2.2 k x hx).1
theorem xm_Rep.okc {G : xm_G} {w : xm_W} {H : Heap} (h : xm_Rep G w H) {k : Nat} {x : xm_C} (hx : w[k]? = some x) : xm_okC x := (h.2.2 k x hx).2
theorem xm_Rep.set {G : xm_G} {w : xm_W} {H H1 : Heap} (h : xm_Rep G w H) {k : Nat} {x : xm_C} (hx : va_at G.1 xm_cl (G.2.2.1 + k, xm_e G x) H1) (hok : xm_okC x) (hz : H1.size = H.size) (oq : ∀ q : Nat, q ≠ G.2.2.1 + k → H1[q]? = H[q]?) : xm_Rep G (w.set k x) H1 := by
  refine ⟨by rw [hz, List.length_set]; exact h.1, by rw [List.length_set]; exact h.2.1, fun j y hj => ?_⟩
  rw [List.getElem?_set] at hj
  by_cases hjk : k = j
  · subst hjk
    rw [if_pos rfl] at hj
    split at hj
    next => cases hj; exact ⟨hx, hok⟩
    next => cases hj
  · rw [if_neg hjk] at hj
    refine ⟨(h.at hj).kept (oq _ ?_), h.okc hj⟩
    show G.2.2.1 + j ≠ _
    omega
theorem xm_Rep.push {G : xm_G} {w : xm_W} {H H1 : Heap} (h : xm_Rep G w H) {x : xm_C} (hx : va_at G.1 xm_cl (G.2.2.1 + w.length, xm_e G x) H1) (hok : xm_okC x) (hz : H1.size = H.size + 1) (oq : ∀ q : Nat, q < H.size → H1[q]? = H[q]?) (hl : w.length + 1 < 1000000) : xm_Rep G (w ++ [x]) H1 := by
  refine ⟨by rw [hz, h.1, List.length_append]; rfl, by rw [List.length_append]; exact hl, fun j y hj => ?_⟩
  by_cases hjk : j < w.length
  · rw [List.getElem?_append_left hjk] at hj
    exact ⟨(h.at hj).kept (oq _ (by show G.2.2.1 + j < _; rw [h.1]; omega)), h.okc hj⟩
  · have hlt : j < (w ++ [x]).length := (List.getElem?_eq_some_iff.mp hj).1
    rw [List.length_append] at hlt
    have : j = w.length := by simp only [List.length_cons, List.length_nil] at hlt; omega
    subst this
    rw [List.getElem?_append_right (Nat.le_refl _), Nat.sub_self] at hj
    cases hj
    exact ⟨hx, hok⟩
theorem xm_Rl.put {G : xm_G} {s : State} {nL mc ms k sl : Nat} {wf : xm_W} {L : List (Option xm_V)} {st st' : List xm_V} {w : xm_W} {ls : Array Slot} {H H1 : Heap} {locs : List Loc} {cells slots : Nat} {x x0 : xm_C} (h : xm_Rl G s nL mc ms wf L st w ls H locs cells slots) (hk : w[k]? = some x0) (hsz : xm_szC x = xm_szC x0) (hx : va_at G.1 xm_cl (G.2.2.1 + k, xm_e G x) H1) (hok : xm_okC x) (hz : H1.size = H.size) (oq : ∀ q : Nat, q ≠ G.2.2.1 + k → H1[q]? = H[q]?) (hst : ∀ v ∈ st', xm_ok v) : xm_Rl G s nL mc ms wf L st' (w.set k x) ls H1 (locs ++ [⟨G.2.2.1 + k, sl⟩]) cells slots := by
  refine ⟨h.1, hst, h.2.2.1.set hx hok hz oq, h.2.2.2.1.put hz oq (Nat.le_add_right _ _), ?_, ?_⟩
  · rw [List.length_set]; exact h.2.2.2.2.1
  · rw [xm_sz_set hk hsz]; exact h.2.2.2.2.2
theorem xm_Rl.push {G : xm_G} {s : State} {nL mc ms : Nat} {wf : xm_W} {L : List (Option xm_V)} {st st' : List xm_V} {w : xm_W} {ls : Array Slot} {H H1 : Heap} {locs : List Loc} {cells slots : Nat} {x : xm_C} (h : xm_Rl G s nL mc ms wf L st w ls H locs cells slots) (hx : va_at G.1 xm_cl (G.2.2.1 + w.length, xm_e G x) H1) (hok : xm_okC x) (hz : H1.size = H.size + 1) (oq : ∀ q : Nat, q < H.size → H1[q]? = H[q]?) (hst : ∀ v ∈ st', xm_ok v) (hg : xm_gr (w ++ [x]) wf) (hwf : wf.length < 1000000) : xm_Rl G s nL mc ms wf L st' (w ++ [x]) ls H1 locs (cells + 1) (slots + xm_szC x) := by
  have hg1 : w.length + 1 ≤ wf.length := by have := hg.1; rw [List.length_append] at this; exact this
  have hS := h.2.2.2.1
  have h5 := h.2.2.2.2
  refine ⟨h.1, hst, h.2.2.1.push hx hok hz oq (by omega), ⟨by rw [hz]; exact Nat.le_trans hS.1 (Nat.le_succ _), fun q h1 h2 => by rw [oq q (Nat.lt_of_lt_of_le h1 hS.1)]; exact hS.2.1 q h1 h2, hS.2.2⟩, ?_, ?_⟩
  · rw [List.length_append]; simp only [List.length_cons, List.length_nil]; omega
  · rw [xm_sz_push]; omega
theorem xm_ad_lo {G : xm_G} {k : Nat} (h : k < 1000000) : xm_ad G k = G.2.2.1 + k := by unfold xm_ad; rw [if_pos h]
theorem xm_ad_hi {G : xm_G} {k : Nat} (h : ¬ k < 1000000) : xm_ad G k = G.2.2.2 (k - 1000000) := by unfold xm_ad; rw [if_neg h]
theorem xm_ints1.moved {U V : State} {H : Heap} {a : Nat} {ty : FieldType} {l : List Int} (hvm : U.vm.Alike V.vm) (h : xm_ints1 U H a ty l) : xm_ints1 V H a ty l := by
  obtain ⟨cell, h1, h2, h3⟩ := h
  exact ⟨cell, h1, State.isArrayOf_alike hvm h2, h3⟩
theorem xm_ints1.kept {U : State} {H H1 : Heap} {a : Nat} {ty : FieldType} {l : List Int} (h : xm_ints1 U H a ty l) (hq : H1[a]? = H[a]?) : xm_ints1 U H1 a ty l := by
  obtain ⟨cell, h1, h2⟩ := h
  exact ⟨cell, by rw [hq]; exact h1, h2⟩
theorem xm_o1.moved {G : xm_G} {U V : State} {H : Heap} {a : Nat} {x : xm_C} (hvm : U.vm.Alike V.vm) (h : xm_o1 G U H a x) : xm_o1 G V H a x := by
  obtain ⟨h1, h2, h3⟩ := h
  refine ⟨h1, h2, ?_⟩
  match x, h3 with
  | .inl l, h3 => exact ⟨h3.1.moved hvm, h3.2⟩
  | .inr (.inr (99, l)), h3 =>
    obtain ⟨l', e, h4, h5⟩ := h3
    exact ⟨l', e, h4.moved hvm, h5⟩
  | .inr (.inr (98, [v, u])), h3 =>
    obtain ⟨h4, h5, h6, h7, cell, h8, h9, h10⟩ := h3
    exact ⟨h4.moved hvm, h5.moved hvm, h6, h7, cell, h8, h9, by rw [hvm.findClass]; exact h10⟩
theorem xm_o1.kept {G : xm_G} {U : State} {H H1 : Heap} {a : Nat} {x : xm_C} (h : xm_o1 G U H a x) (hz : H.size ≤ H1.size) (hq : ∀ q : Nat, q < H.size → ¬ xm_A G q → H1[q]? = H[q]?) : xm_o1 G U H1 a x := by
  obtain ⟨h1, h2, h3⟩ := h
  refine ⟨Nat.lt_of_lt_of_le h1 hz, h2, ?_⟩
  match x, h3 with
  | .inl l, h3 => exact ⟨h3.1.kept (hq a h1 h2), h3.2⟩
  | .inr (.inr (99, l)), h3 =>
    obtain ⟨l', e, h4, h5⟩ := h3
    exact ⟨l', e, h4.kept (hq a h1 h2), h5⟩
  | .inr (.inr (98, [v, u])), h3 =>
    obtain ⟨h4, h5, h6, h7, cell, h8, h9, h10⟩ := h3
    exact ⟨h4.kept hq, h5.kept hq, h6, h7, cell, by rw [hq a h1 h2]; exact h8, h9, h10⟩
theorem xm_nest_at {s U : State} {w : Cond} (hn : xm_nest w = true) (hW : s.WarmedH U.vm) (h : va_Nw w s) : va_Nw w U := by
  match w, hn, h with
  | .fieldLinkNest .., _, h => exact h.warmF hW
  | .methodLinkNest .., _, h => exact h.warmM hW
theorem xm_nest_same {s U : State} {w : Cond} (hn : xm_nest w = true) (hW : s.vm = U.vm) (h : va_Nw w s) : va_Nw w U := by
  match w, hn, h with
  | .fieldLinkNest .., _, h => exact h.same rfl hW
  | .methodLinkNest .., _, h => exact h.same rfl hW
theorem xm_Kn.warm {G : xm_G} {o : xm_W} {sta : List xm_V} {sts : List (String × String × String)} {str : List (String × Nat × String)} {s U : State} {H : Heap} (hW : s.WarmedH U.vm) (h : xm_Kn G o sta sts str s H) : xm_Kn G o sta sts str U H := by
  obtain ⟨h1, h2, h3, h4, h5, h6⟩ := h
  have hvm := hW.alike
  refine ⟨fun w hw hn => xm_nest_at hn hW (h1 w hw hn), h2.moved hvm, ⟨h3.1.moved hvm, h3.2.1.moved hvm, h3.2.2.moved hvm⟩, fun i q hi => ?_, fun i q hi => (h5 i q hi).warm hW, fun k x hk => (h6 k x hk).moved hvm⟩
  obtain ⟨v, a1, a2, a3⟩ := h4 i q hi
  exact ⟨v, a1, a2, a3.moved hvm⟩
theorem xm_Kn.same {G : xm_G} {o : xm_W} {sta : List xm_V} {sts : List (String × String × String)} {str : List (String × Nat × String)} {s U : State} {H : Heap} (hW : s.vm = U.vm) (h : xm_Kn G o sta sts str s H) : xm_Kn G o sta sts str U H := by
  obtain ⟨h1, h2, h3, h4, h5, h6⟩ := h
  have hvm : s.vm.Alike U.vm := by rw [hW]; exact Vm.Alike.refl _
  refine ⟨fun w hw hn => xm_nest_same hn hW (h1 w hw hn), h2.moved hvm, ⟨h3.1.moved hvm, h3.2.1.moved hvm, h3.2.2.moved hvm⟩, fun i q hi => ?_, fun i q hi => (h5 i q hi).same hW.symm, fun k x hk => (h6 k x hk).moved hvm⟩
  obtain ⟨v, a1, a2, a3⟩ := h4 i q hi
  exact ⟨v, a1, a2, a3.moved hvm⟩
theorem xm_Kn.kept {G : xm_G} {o : xm_W} {sta : List xm_V} {sts : List (String × String × String)} {str : List (String × Nat × String)} {s : State} {H H1 : Heap} (hz : H.size ≤ H1.size) (hq : ∀ q : Nat, q < H.size → ¬ xm_A G q → H1[q]? = H[q]?) (h : xm_Kn G o sta sts str s H) : xm_Kn G o sta sts str s H1 := by
  obtain ⟨h1, h2, h3, h4, h5, h6⟩ := h
  refine ⟨h1, h2, h3, fun i q hi => ?_, h5, fun k x hk => (h6 k x hk).kept hz hq⟩
  obtain ⟨v, a1, a2, a3⟩ := h4 i q hi
  exact ⟨v, a1, a2, a3.kept hq⟩
end
section
section xm_sec2
variable {p : Program} {l : Launch} {e : Env} {R : Room} {s : State} {m : MethodId} {args : Array Value} {below : List Frame} {meth : Method} {c : Code} {Q : State → Prop} {cc : ByteArray} {nL mc ms rk : Nat} {own : String} {ini : Bool} {G : xm_G} {o : xm_W} {cd : List xm_I} {k : xm_Kt} {q : Option xm_V × xm_W} {mt : Nat → Option xm_M} {call : Nat → List xm_V → xm_W → xm_R} {pc nx a b : Nat} {ps : List Nat} {sw : List (Int × Nat)} {L : List (Option xm_V)} {st : List xm_V} {w : xm_W}
theorem xm_get_new {o w : xm_W} {j : Nat} (h : j < 1000000) : xm_get o w j = w[j]? := by
  unfold xm_get
  cases w[j]? with
  | some x => rfl
  | none => exact if_pos h
theorem xm_get_old {o w : xm_W} {j : Nat} (hl : w.length < 1000000) (h : ¬ j < 1000000) : xm_get o w j = o[j - 1000000]? := by
  unfold xm_get
  have e : w[j]? = none := List.getElem?_eq_none (by omega)
  rw [e]
  exact if_neg h
theorem xm_Rep.lt {w : xm_W} {H : Heap} {z : Nat} {x : xm_C} (h : xm_Rep G w H) (hz : w[z]? = some x) : z < 1000000 := Nat.lt_trans (List.getElem?_eq_some_iff.mp hz).1 h.2.1
/-- an object's field, of the list of classes -/
theorem xm_fd_ok {put : Bool} {j p0 : Nat} (h : xm_fd own ini put j a b p0 = true) (hb : b < 10) : ∃ C T N, xm_cl[b]? = some (C, T, N) ∧ a < N ∧ xm_gd p0 (.fieldLink own j (T a).1 (T a).2.1 (T a).2.2.1) = true ∧ (put = true → (T a).2.2.2 = true → (T a).1 = own ∧ ini = true) := by
  unfold xm_fd at h
  split at h
  next C T N hc =>
    simp only [Bool.and_eq_true, decide_eq_true_eq] at h
    refine ⟨C, T, N, hc, h.1.1, h.1.2, fun h1 h2 => ?_⟩
    have h3 := h.2
    rw [h1, h2] at h3
    simpa using h3
  next hc =>
    have : b < xm_cl.length := hb
    rw [List.getElem?_eq_getElem this] at hc
    cases hc
theorem xm_at_ok {α : Type} {l : List α} {i : Int} {x : α} (h : xm_at l i = some x) : 0 ≤ i ∧ i.toNat < l.length ∧ l[i.toNat]? = some x := by
  unfold xm_at at h
  split at h
  next h0 => exact ⟨h0, (List.getElem?_eq_some_iff.mp h).1, h⟩
  next => cases h
theorem xm_vpin {i : Int} {n : Nat} (hi : xm_ok (.inl i)) (h0 : 0 ≤ i) (h1 : i.toNat < n) : vp_in (Int32.ofInt i) n := by
  unfold vp_in
  rw [xm_lt0 hi, xm_clamp hi]
  omega
theorem xm_s_getfield {j : Nat} (F : xm_Fr p s m args meth c cc nL own ini G o) (hk : xm_Sim p l e R s m args below meth c Q G nL mc ms cd k q) (hc : xm_chk own ini cc cd nL rk mt (.getfield j, pc, nx, a, b, ps, sw) = true) (h : xm_step o xm_sta call (.getfield j, pc, nx, a, b, ps, sw) L st w k = some q) : xm_Con p l e R s m args below meth c Q G nL mc ms q pc L st w := by
  simp only [xm_chk, Bool.and_eq_true] at hc
  simp only [xm_step] at h
  split at h
  next z r =>
    split at h
    next v hv =>
      refine ⟨(hk _ _ _ _ h).1, fun ls H locs cells slots hr => ?_⟩
      have hrep := hr.2.2.1
      have K := fun z => (hk _ _ _ _ h).2 _ (xm_ofn hc.1.2) _ _ _ _ _ (hr.stk z)
      unfold xm_fld at hv
      split at hv
      next c' fs hg =>
        split at hv
        next hcc =>
          subst hcc
          by_cases hz : z < 1000000
          · rw [xm_get_new hz] at hg
            have hokc := hrep.okc hg
            obtain ⟨C, T, N, hcl, haN, hlk, -⟩ := xm_fd_ok hc.2 hokc.2.1
            show W _ _ _ _ _ _ _ _ _ _ _ _ _ _ _ (F0 m pc ls (.ref (xm_ad G z) :: r.map (xm_v G)))
            rw [xm_ad_lo hz]
            refine va_get (D := G.1) (ci := c') (v := xm_v G v) (C := C) (T := T) (N := N) F.1 F.2.1 F.hts (fun u hu => ?_) F.2.2.2.1 F.2.2.2.2.2.1.2.1 (xm_P1 (hrep.at hg)) 0 rfl hcl a haN (F.gd hlk) (fun _ h9 => h9) ?_ (xm_dec_ok hc.1.1) ?_
            · have := (xm_clok c' _ hcl).2.2.2 u hu
              exact xm_ws_in this.1 this.2
            · rw [List.getElem?_map, hv]; rfl
            · exact K (xm_c3 (hokc.2.2 v (List.mem_of_getElem? hv)) (xm_c2 hr.2.1))
          · rw [xm_get_old hrep.2.1 hz] at hg
            have ho := F.2.2.2.2.2.1.2.2.2.2.2 _ _ hg
            show W _ _ _ _ _ _ _ _ _ _ _ _ _ _ _ (F0 m pc ls (.ref (xm_ad G z) :: r.map (xm_v G)))
            rw [xm_ad_hi hz]
            have hfd := hc.2
            match c', fs, ho, hv, hfd with
            | 98, [v0, u0], ho, hv, hfd =>
              obtain ⟨-, -, h4, h5, h6, h7, -⟩ := ho
              match a, hv, hfd with
              | 0, hv, hfd =>
                cases hv
                exact vk_getf F.1 F.2.1 h4 hr.2.2.2.1 F.2.2.2.1 (F.gd hfd) (fun _ h9 => h9) (xm_dec_ok hc.1.1) (K (xm_c3 h6 (xm_c2 hr.2.1)))
              | 1, hv, hfd =>
                cases hv
                exact vk_getf F.1 F.2.1 h5 hr.2.2.2.1 F.2.2.2.1 (F.gd hfd) (fun _ h9 => h9) (xm_dec_ok hc.1.1) (K (xm_c3 h7 (xm_c2 hr.2.1)))
            | 99, fs, ho, hv, hfd =>
              simp [xm_fd] at hfd
        next => cases hv
      next => cases hv
    next => cases h
  next => cases h
theorem xm_fit_ok {ty : FieldType} {t : Nat} {v : xm_V} (h : xm_fit t v = true) (ht : xm_kind ty = t) : narrow ty (xm_v G v) = xm_v G v ∧ fits ty (xm_v G v) = true := by
  subst ht
  match v, h with
  | .inl z, h =>
    simp only [xm_fit, Bool.or_eq_true, Bool.and_eq_true, beq_iff_eq] at h
    rcases h with h | ⟨h, h2⟩
    · cases ty <;> first | (simp [xm_kind] at h; done) | exact ⟨rfl, rfl⟩
    · cases ty <;> first | (simp [xm_kind] at h; done) | (rcases h2 with rfl | rfl <;> exact ⟨rfl, rfl⟩)
  | .inr (.inl none), h =>
    simp only [xm_fit, beq_iff_eq] at h
    cases ty <;> first | (simp [xm_kind] at h; done) | exact ⟨rfl, rfl⟩
  | .inr (.inl (some x)), h =>
    simp only [xm_fit, beq_iff_eq] at h
    cases ty <;> first | (simp [xm_kind] at h; done) | exact ⟨rfl, rfl⟩
theorem xm_setf_ok {w w' : xm_W} {z c' a' t : Nat} {v : xm_V} (h : xm_setf w z c' a' t v = some w') : ∃ fs, w[z]? = some (.inr (.inr (c', fs))) ∧ a' < fs.length ∧ xm_fit t v = true ∧ w' = w.set z (.inr (.inr (c', fs.set a' v))) := by
  unfold xm_setf at h
  split at h
  next c1 fs hg =>
    split at h
    next hh =>
      obtain ⟨rfl, h2, h3⟩ := hh
      cases h
      exact ⟨fs, hg, h2, h3, rfl⟩
    next => cases h
  next => cases h
theorem xm_s_putfield {j : Nat} (F : xm_Fr p s m args meth c cc nL own ini G o) (hk : xm_Sim p l e R s m args below meth c Q G nL mc ms cd k q) (hc : xm_chk own ini cc cd nL rk mt (.putfield j, pc, nx, a, b, ps, sw) = true) (h : xm_step o xm_sta call (.putfield j, pc, nx, a, b, ps, sw) L st w k = some q) : xm_Con p l e R s m args below meth c Q G nL mc ms q pc L st w := by
  simp only [xm_chk, Bool.and_eq_true] at hc
  simp only [xm_step] at h
  split at h
  next v z r =>
    split at h
    next w' hw' =>
      obtain ⟨fs, hg, hal, hfit, rfl⟩ := xm_setf_ok hw'
      have hszc : xm_szC (.inr (.inr (b, fs.set a v))) = xm_szC (.inr (.inr (b, fs))) := by simp [xm_szC]
      refine ⟨xm_gr_tr (xm_gr_set hg hszc) (hk _ _ _ _ h).1, fun ls H locs cells slots hr => ?_⟩
      have hrep := hr.2.2.1
      have hz := hrep.lt hg
      have hokc := hrep.okc hg
      obtain ⟨C, T, N, hcl, haN, hlk, hput⟩ := xm_fd_ok hc.2 hokc.2.1
      obtain ⟨hnm, hty, hlen, hin⟩ := xm_clok b _ hcl
      have hin' : ∀ u ∈ u_ws C T N, u ∈ xm_WS := fun u hu => xm_ws_in (hin u hu).1 (hin u hu).2
      obtain ⟨hd, hkd⟩ := hty a haN
      have hkk : xm_kind (xm_ty b a) = (xm_kd b).getD a 9 := by rw [List.getD_eq_getElem?_getD, hkd]; rfl
      obtain ⟨hn, hfi⟩ := xm_fit_ok (G := G) hfit hkk
      have hK := F.2.2.2.2.2.1.2.1
      have hap := va_apart (own := own) F.hts hin' (xm_ty b) (fun k hk => (hty k hk).1) hnm hK hcl
      obtain ⟨r', h1, cell, q1, q2, q3, q4⟩ := hrep.at hg
      have hr' : r' = (C, T, N) := Option.some.inj (h1.symm.trans hcl)
      subst hr'
      obtain ⟨hS, hfc, kC, hkC, hkind⟩ := hK.1 b _ hcl
      obtain ⟨cf, kf, fi, f, hi, hsl⟩ := hS a haN
      have hst := (u_facts hfc hkC (u_lays F.hts hin' haN) hi).1
      have hV : ∀ (H' : Heap), H'[G.2.2.1 + z]? = some (cell.setSlot (G.1.2 b a) (xm_v G v)) → va_at G.1 xm_cl (G.2.2.1 + z, xm_e G (.inr (.inr (b, fs.set a v)))) H' := by
        intro H' e1
        refine ⟨_, hcl, t_OB.to (V := updV (vp_V (fs.map (xm_v G))) a (xm_v G v)) ⟨_, e1, q2, q3, t_set q4 hap haN (xm_v G v)⟩ (fun j' _ => ?_)⟩
        rw [List.map_set]
        exact vp_updV_set (by rw [List.length_map]; exact hal) _ j'
      have hokc' : xm_okC (.inr (.inr (b, fs.set a v))) := ⟨by rw [List.length_set]; exact hokc.1, hokc.2.1, fun u hu => by
        rcases List.mem_or_eq_of_mem_set hu with h3 | h3
        · exact hokc.2.2 u h3
        · rw [h3]; exact xm_c1 hr.2.1⟩
      have K := fun H' (e1 : H'[G.2.2.1 + z]? = some (cell.setSlot (G.1.2 b a) (xm_v G v))) e2 e3 => (hk _ _ _ _ h).2 _ (xm_ofn hc.1.2) _ H' (locs ++ [⟨G.2.2.1 + z, G.1.2 b a⟩]) _ _ (hr.put hg hszc (hV H' e1) hokc' e2 e3 (xm_c2 (xm_c2 hr.2.1)))
      show W _ _ _ _ _ _ _ _ _ _ _ _ _ _ _ (F0 m pc ls (xm_v G v :: .ref (xm_ad G z) :: r.map (xm_v G)))
      rw [xm_ad_lo hz]
      have hlay := F.hts _ (hin' _ (u_in_lay haN))
      unfold u_lay at hlay
      by_cases hfin : (T a).2.2.2 = true
      · rw [if_pos hfin] at hlay
        obtain ⟨hdecl, hini⟩ := hput rfl hfin
        have hcf : m.cls = cf := by
          obtain ⟨_, _, c', _, _, _, -, -, hf', -, -, -, hown2, -⟩ := Cond.laysFinal_spec hlay
          have e1 : c' = cf := by have := hi.symm.trans hf'; simp at this; exact this.1.symm
          rw [hdecl] at hown2
          rw [← e1]; exact Option.some.inj (F.2.2.2.1.symm.trans hown2)
        have h6 := u_fits hfc hkC hkind (Or.inr hlay) hi hd hn hfi
        refine W.putFinK F.1 F.2.1 F.2.2.2.1 (F.gd hlk) hi hst hcf (F.2.2.2.2.2.2.1 hini) (by rw [q2]; exact h6) q1 q3 (by rw [hsl]; exact k2_hasslot (q4 a haN)) rfl rfl (xm_dec_ok hc.1.1) fun H' e1 e2 e3 => ?_
        rw [hsl] at e1 ⊢
        exact K H' e1 e2 e3
      · rw [if_neg hfin] at hlay
        have h6 := u_store hfc hkC hkind hlay hi hd hn hfi
        refine W.putK F.1 F.2.1 (f := f) ⟨F.2.2.2.1, F.gd hlk, ⟨_, _, _, hi⟩, hst⟩ (by rw [q2]; exact h6) q1 q3 (by rw [hsl]; exact k2_hasslot (q4 a haN)) rfl rfl (xm_dec_ok hc.1.1) fun H' e1 e2 e3 => ?_
        rw [hsl] at e1 ⊢
        exact K H' e1 e2 e3
    next => cases h
  next => cases h
theorem xm_s_getstatic {j : Nat} (F : xm_Fr p s m args meth c cc nL own ini G o) (hk : xm_Sim p l e R s m args below meth c Q G nL mc ms cd k q) (hc : xm_chk own ini cc cd nL rk mt (.getstatic j, pc, nx, a, b, ps, sw) = true) (h : xm_step o xm_sta call (.getstatic j, pc, nx, a, b, ps, sw) L st w k = some q) : xm_Con p l e R s m args below meth c Q G nL mc ms q pc L st w := by
  simp only [xm_chk, Bool.and_eq_true] at hc
  simp only [xm_step] at h
  split at h
  next v hv =>
    refine ⟨(hk _ _ _ _ h).1, fun ls H locs cells slots hr => ?_⟩
    have K := fun z => (hk _ _ _ _ h).2 _ (xm_ofn hc.1.2) _ _ _ _ _ (hr.stk z)
    have hc2 := hc.2
    split at hc2
    next C n d hs =>
      obtain ⟨v', h1, h2, h3⟩ := F.2.2.2.2.2.1.2.2.2.1 a _ hs
      have : v' = v := Option.some.inj (h1.symm.trans hv)
      subst this
      rw [Bool.or_eq_true] at hc2
      rcases hc2 with hc2 | hc2
      · exact va_gets F.1 F.2.1 h3 hr.2.2.2.1 F.2.2.2.1 (F.gd hc2) (fun _ h9 => h9) (xm_dec_ok hc.1.1) (K (xm_c3 h2 hr.2.1))
      · have h4 := F.2.2.2.2.2.1.1 _ (xm_wd_in hc2) rfl
        exact va_getsN F.1 F.2.1 h3 hr.2.2.2.1 F.2.2.2.1 (va_Nw.use rfl h4) (fun _ h9 => h9) (xm_dec_ok hc.1.1) (K (xm_c3 h2 hr.2.1))
    next => cases hc2
  next => cases h
theorem xm_s_ldc {j : Nat} (F : xm_Fr p s m args meth c cc nL own ini G o) (hk : xm_Sim p l e R s m args below meth c Q G nL mc ms cd k q) (hc : xm_chk own ini cc cd nL rk mt (.ldc j, pc, nx, a, b, ps, sw) = true) (h : xm_step o xm_sta call (.ldc j, pc, nx, a, b, ps, sw) L st w k = some q) : xm_Con p l e R s m args below meth c Q G nL mc ms q pc L st w := by
  simp only [xm_chk, Bool.and_eq_true] at hc
  simp only [xm_step] at h
  split at h
  next z _ =>
    refine ⟨(hk _ _ _ _ h).1, fun ls H locs cells slots hr => ?_⟩
    have hc2 := hc.2
    simp only [Bool.and_eq_true] at hc2
    exact lv_ldc F.1 F.2.1 F.2.2.2.1 (F.gd hc2.1) (xm_dec_ok hc.1.1) ((hk _ _ _ _ h).2 _ (xm_ofn hc.1.2) _ _ _ _ _ (hr.stk (xm_c3 (xm_okb_ok hc2.2) hr.2.1)))
  next hne =>
    refine ⟨(hk _ _ _ _ h).1, fun ls H locs cells slots hr => ?_⟩
    have K := (hk _ _ _ _ h).2 _ (xm_ofn hc.1.2) _ _ _ _ _ (hr.stk (xm_c3 (xm_okr _) hr.2.1))
    have hc2 := hc.2
    split at hc2
    next z _ => exact absurd rfl (hne _ _)
    next =>
      split at hc2
      next ow kk tx hs =>
        simp only [Bool.and_eq_true, decide_eq_true_eq] at hc2
        obtain ⟨⟨rfl, rfl⟩, h2⟩ := hc2
        have hZ := F.2.2.2.2.2.1.2.2.2.2.1 (a - 2) _ hs
        rw [show a - 2 + 2 = a by omega] at hZ
        have e1 : xm_ad G (1000000 + a) = G.2.2.2 a := by rw [xm_ad_hi (by omega), Nat.add_sub_cancel_left]
        refine va_ldcS F.1 F.2.1 F.2.2.2.1 hZ (xm_dec_ok hc.1.1) ?_
        rw [← e1]
        exact K
      next => cases hc2
theorem xm_s_ldc_w {j : Nat} (F : xm_Fr p s m args meth c cc nL own ini G o) (hk : xm_Sim p l e R s m args below meth c Q G nL mc ms cd k q) (hc : xm_chk own ini cc cd nL rk mt (.ldc_w j, pc, nx, a, b, ps, sw) = true) (h : xm_step o xm_sta call (.ldc_w j, pc, nx, a, b, ps, sw) L st w k = some q) : xm_Con p l e R s m args below meth c Q G nL mc ms q pc L st w := by
  simp only [xm_chk, Bool.and_eq_true] at hc
  simp only [xm_step] at h
  split at h
  next z _ =>
    refine ⟨(hk _ _ _ _ h).1, fun ls H locs cells slots hr => ?_⟩
    have hc2 := hc.2
    simp only [Bool.and_eq_true] at hc2
    exact lv_ldcw F.1 F.2.1 F.2.2.2.1 (F.gd hc2.1) (xm_dec_ok hc.1.1) ((hk _ _ _ _ h).2 _ (xm_ofn hc.1.2) _ _ _ _ _ (hr.stk (xm_c3 (xm_okb_ok hc2.2) hr.2.1)))
  next => cases h
theorem xm_s_ldc2_w {j : Nat} (F : xm_Fr p s m args meth c cc nL own ini G o) (hk : xm_Sim p l e R s m args below meth c Q G nL mc ms cd k q) (hc : xm_chk own ini cc cd nL rk mt (.ldc2_w j, pc, nx, a, b, ps, sw) = true) (h : xm_step o xm_sta call (.ldc2_w j, pc, nx, a, b, ps, sw) L st w k = some q) : xm_Con p l e R s m args below meth c Q G nL mc ms q pc L st w := by
  simp only [xm_chk, Bool.and_eq_true] at hc
  simp only [xm_step] at h
  split at h
  next z _ =>
    refine ⟨(hk _ _ _ _ h).1, fun ls H locs cells slots hr => ?_⟩
    exact lv_ldc2 F.1 F.2.1 F.2.2.2.1 (F.gd hc.2) (xm_dec_ok hc.1.1) ((hk _ _ _ _ h).2 _ (xm_ofn hc.1.2) _ _ _ _ _ (hr.stk (xm_c3 (xm_okl _) hr.2.1)))
  next => cases h
end xm_sec2
end
section
theorem xm_toNat_len {i : Int} {n : Nat} (h0 : 0 ≤ i) (h : i < (n : Int)) : i.toNat < n := by omega
theorem xm_ofNat (n : Nat) : Int32.ofNat n = Int32.ofInt (n : Int) := rfl
theorem xm_okn {n : Nat} (h : n < 1000000) : xm_ok (.inl (n : Int)) := ⟨by omega, by omega⟩
theorem xm_set_fun {α β : Type} (l : List α) (g : α → β) (d : α) (i : Nat) (x : α) (hi : i < l.length) (j : Nat) : g ((l.set i x).getD j d) = if j = i then g x else g (l.getD j d) := by
  rw [List.getD_eq_getElem?_getD, List.getElem?_set, List.getD_eq_getElem?_getD]
  by_cases h : i = j
  · subst h
    simp [hi]
  · rw [if_neg h, if_neg (fun e => h e.symm)]
section xm_sec3
variable {p : Program} {l : Launch} {e : Env} {R : Room} {s : State} {m : MethodId} {args : Array Value} {below : List Frame} {meth : Method} {c : Code} {Q : State → Prop} {cc : ByteArray} {nL mc ms rk : Nat} {own : String} {ini : Bool} {G : xm_G} {o : xm_W} {cd : List xm_I} {k : xm_Kt} {q : Option xm_V × xm_W} {mt : Nat → Option xm_M} {call : Nat → List xm_V → xm_W → xm_R} {pc nx a b : Nat} {ps : List Nat} {sw : List (Int × Nat)} {L : List (Option xm_V)} {st : List xm_V} {w : xm_W}
theorem xm_s_iaload (F : xm_Fr p s m args meth c cc nL own ini G o) (hk : xm_Sim p l e R s m args below meth c Q G nL mc ms cd k q) (hc : xm_chk own ini cc cd nL rk mt (.iaload, pc, nx, a, b, ps, sw) = true) (h : xm_step o xm_sta call (.iaload, pc, nx, a, b, ps, sw) L st w k = some q) : xm_Con p l e R s m args below meth c Q G nL mc ms q pc L st w := by
  simp only [xm_chk, Bool.and_eq_true] at hc
  simp only [xm_step] at h
  split at h
  next i z r =>
    split at h
    next lst hl =>
      split at h
      next x hx =>
        refine ⟨(hk _ _ _ _ h).1, fun ls H locs cells slots hr => ?_⟩
        have hrep := hr.2.2.1
        have K := fun z => (hk _ _ _ _ h).2 _ (xm_ofn hc.2) _ _ _ _ _ (hr.stk z)
        have hi := xm_c1 hr.2.1
        obtain ⟨h0, hlt, hgx⟩ := xm_at_ok hx
        unfold xm_ints at hl
        split at hl
        next l' hg =>
          cases hl
          by_cases hz : z < 1000000
          · rw [xm_get_new hz] at hg
            have hok := (show xm_okC (.inl lst) from hrep.okc hg) x (List.mem_of_getElem? hgx)
            show W _ _ _ _ _ _ _ _ _ _ _ _ _ _ _ (F0 m pc ls (.int (Int32.ofInt i) :: .ref (xm_ad G z) :: r.map (xm_v G)))
            rw [xm_ad_lo hz]
            refine va_iald (D := G.1) F.1 F.2.1 F.2.2.2.2.2.1.2.1 (xm_P1 (hrep.at hg)) 0 0 rfl rfl (xm_vpin hi h0 hlt) (xm_dec_ok hc.1) ?_
            rw [xm_clamp hi, List.getD_eq_getElem?_getD, hgx]
            exact K (xm_c3 hok (xm_c2 (xm_c2 hr.2.1)))
          · rw [xm_get_old hrep.2.1 hz] at hg
            obtain ⟨ho1, ho2, ⟨cell, g1, g2, g3, g4, g6, g5⟩, ho3⟩ := F.2.2.2.2.2.1.2.2.2.2.2 _ _ hg
            show W _ _ _ _ _ _ _ _ _ _ _ _ _ _ _ (F0 m pc ls (.int (Int32.ofInt i) :: .ref (xm_ad G z) :: r.map (xm_v G)))
            rw [xm_ad_hi hz]
            refine W.iald (v := .int (Int32.ofInt x)) F.1 F.2.1 (by rw [hr.2.2.2.1.2.1 _ ho1 ho2]; exact g1) g2 g3 (xm_vpin hi h0 (Nat.lt_of_lt_of_le hlt g4)) (by rw [xm_clamp hi]; exact g5 _ _ hgx) rfl rfl (xm_dec_ok hc.1) ?_
            exact K (xm_c3 (ho3 x (List.mem_of_getElem? hgx)) (xm_c2 (xm_c2 hr.2.1)))
        next => cases hl
      next => cases h
    next => cases h
  next => cases h
theorem xm_s_baload (F : xm_Fr p s m args meth c cc nL own ini G o) (hk : xm_Sim p l e R s m args below meth c Q G nL mc ms cd k q) (hc : xm_chk own ini cc cd nL rk mt (.baload, pc, nx, a, b, ps, sw) = true) (h : xm_step o xm_sta call (.baload, pc, nx, a, b, ps, sw) L st w k = some q) : xm_Con p l e R s m args below meth c Q G nL mc ms q pc L st w := by
  simp only [xm_chk, Bool.and_eq_true] at hc
  simp only [xm_step] at h
  split at h
  next i z r =>
    split at h
    next lst hg =>
      split at h
      next x hx =>
        refine ⟨(hk _ _ _ _ h).1, fun ls H locs cells slots hr => ?_⟩
        have hrep := hr.2.2.1
        have K := fun z => (hk _ _ _ _ h).2 _ (xm_ofn hc.2) _ _ _ _ _ (hr.stk z)
        have hi := xm_c1 hr.2.1
        obtain ⟨h0, hlt, hgx⟩ := xm_at_ok hx
        by_cases hz : z < 1000000
        · rw [xm_get_new hz] at hg
          have := (hrep.okc hg).2.1
          omega
        · rw [xm_get_old hrep.2.1 hz] at hg
          obtain ⟨ho1, ho2, l', rfl, ⟨cell, g1, g2, g3, g4, g6, g5⟩, ho3⟩ := F.2.2.2.2.2.1.2.2.2.2.2 _ _ hg
          have hgx' : l'[i.toNat]? = some x := by
            rw [List.getElem?_map] at hgx
            cases hq : l'[i.toNat]? with
            | none => rw [hq] at hgx; cases hgx
            | some y => rw [hq] at hgx; cases hgx; rfl
          rw [List.length_map] at hlt
          show W _ _ _ _ _ _ _ _ _ _ _ _ _ _ _ (F0 m pc ls (.int (Int32.ofInt i) :: .ref (xm_ad G z) :: r.map (xm_v G)))
          rw [xm_ad_hi hz]
          refine W.bald (v := .int (Int32.ofInt x)) F.1 F.2.1 (by rw [hr.2.2.2.1.2.1 _ ho1 ho2]; exact g1) g2 g3 (xm_vpin hi h0 (Nat.lt_of_lt_of_le hlt g4)) (by rw [xm_clamp hi]; exact g5 _ _ hgx') rfl rfl (xm_dec_ok hc.1) ?_
          exact K (xm_c3 (ho3 x (List.mem_of_getElem? hgx')) (xm_c2 (xm_c2 hr.2.1)))
      next => cases h
    next => cases h
  next => cases h
theorem xm_seti_ok {w w' : xm_W} {z : Nat} {i x : Int} (h : xm_seti w z i x = some w') : ∃ lst, w[z]? = some (.inl lst) ∧ 0 ≤ i ∧ i < lst.length ∧ w' = w.set z (.inl (lst.set i.toNat x)) := by
  unfold xm_seti at h
  split at h
  next lst hg =>
    split at h
    next hh => cases h; exact ⟨lst, hg, hh.1, hh.2, rfl⟩
    next => cases h
  next => cases h
theorem xm_s_iastore (F : xm_Fr p s m args meth c cc nL own ini G o) (hk : xm_Sim p l e R s m args below meth c Q G nL mc ms cd k q) (hc : xm_chk own ini cc cd nL rk mt (.iastore, pc, nx, a, b, ps, sw) = true) (h : xm_step o xm_sta call (.iastore, pc, nx, a, b, ps, sw) L st w k = some q) : xm_Con p l e R s m args below meth c Q G nL mc ms q pc L st w := by
  simp only [xm_chk, Bool.and_eq_true] at hc
  simp only [xm_step] at h
  split at h
  next x i z r =>
    split at h
    next w' hw' =>
      obtain ⟨lst, hg, h0, hlt, rfl⟩ := xm_seti_ok hw'
      have hszc : xm_szC (.inl (lst.set i.toNat x)) = xm_szC (.inl lst) := by simp [xm_szC]
      refine ⟨xm_gr_tr (xm_gr_set hg hszc) (hk _ _ _ _ h).1, fun ls H locs cells slots hr => ?_⟩
      have hrep := hr.2.2.1
      have hz := hrep.lt hg
      have hokc : xm_okC (.inl lst) := hrep.okc hg
      have hx := xm_c1 hr.2.1
      have hi := xm_c1 (xm_c2 hr.2.1)
      have hlt' := xm_toNat_len h0 hlt
      have hK := F.2.2.2.2.2.1.2.1
      show W _ _ _ _ _ _ _ _ _ _ _ _ _ _ _ (F0 m pc ls (.int (Int32.ofInt x) :: .int (Int32.ofInt i) :: .ref (xm_ad G z) :: r.map (xm_v G)))
      rw [xm_ad_lo hz]
      refine W.iast F.1 F.2.1 (hrep.at hg) ((hK.2 0 _ rfl).1 lst.length (fun j => .int (Int32.ofInt (lst.getD j 0)))) (fun h9 => by cases h9) (by show ¬ (_ ∨ (arrV _ _ _).slots.size ≤ _); rw [arrV_size]; exact xm_vpin hi h0 hlt') rfl rfl (xm_dec_ok hc.1) fun H1 e1 e2 e3 => ?_
      refine (hk _ _ _ _ h).2 _ (xm_ofn hc.2) _ H1 _ _ _ (hr.put hg hszc ?_ (fun u hu => ?_) e2 e3 (xm_c2 (xm_c2 (xm_c2 hr.2.1))))
      · show H1[_]? = some (vp_cell _ _)
        rw [e1, vp_cell_i, vp_cell_i]
        rw [arrV_store, List.length_set, xm_clamp hi]
        congr 2
        funext j
        rw [xm_set_fun lst (fun y => Value.int (Int32.ofInt y)) 0 i.toNat x hlt' j]
        rfl
      · rcases List.mem_or_eq_of_mem_set hu with h3 | h3
        · exact hokc u h3
        · rw [h3]; exact hx
    next => cases h
  next => cases h
theorem xm_tag_ty (hK : va_K G.1 xm_cl (xm_tys G) s) {t : Nat} (ht : t = 4 ∨ t = 5 ∨ t = 7) : ∃ (t0 : Nat) (r : vw_C), (xm_tys G)[t0]? = some (G.2.1 t, .object r.1) ∧ xm_cl[t]? = some r := by
  rcases ht with rfl | rfl | rfl
  · exact ⟨1, (xm_R4, xm_F4, 7), rfl, rfl⟩
  · exact ⟨2, (xm_R5, xm_F5, 3), rfl, rfl⟩
  · exact ⟨3, (xm_R7, xm_F7, 1), rfl, rfl⟩
theorem xm_s_aaload (F : xm_Fr p s m args meth c cc nL own ini G o) (hk : xm_Sim p l e R s m args below meth c Q G nL mc ms cd k q) (hc : xm_chk own ini cc cd nL rk mt (.aaload, pc, nx, a, b, ps, sw) = true) (h : xm_step o xm_sta call (.aaload, pc, nx, a, b, ps, sw) L st w k = some q) : xm_Con p l e R s m args below meth c Q G nL mc ms q pc L st w := by
  simp only [xm_chk, Bool.and_eq_true] at hc
  simp only [xm_step] at h
  split at h
  next i z r =>
    split at h
    next lst hl =>
      split at h
      next x hx =>
        refine ⟨(hk _ _ _ _ h).1, fun ls H locs cells slots hr => ?_⟩
        have hrep := hr.2.2.1
        have K := (hk _ _ _ _ h).2 _ (xm_ofn hc.2) _ _ _ _ _ (hr.stk (xm_c3 (xm_okr x) (xm_c2 (xm_c2 hr.2.1))))
        have hi := xm_c1 hr.2.1
        obtain ⟨h0, hlt, hgx⟩ := xm_at_ok hx
        unfold xm_refs at hl
        split at hl
        next t l' hg =>
          cases hl
          by_cases hz : z < 1000000
          · rw [xm_get_new hz] at hg
            obtain ⟨t0, rr, ht0, -⟩ := xm_tag_ty F.2.2.2.2.2.1.2.1 (hrep.okc hg).1
            show W _ _ _ _ _ _ _ _ _ _ _ _ _ _ _ (F0 m pc ls (.int (Int32.ofInt i) :: .ref (xm_ad G z) :: r.map (xm_v G)))
            rw [xm_ad_lo hz]
            refine va_aldq (D := G.1) F.1 F.2.1 F.2.2.2.2.2.1.2.1 (xm_P1 (hrep.at hg)) 0 t0 rfl ht0 (xm_vpin hi h0 hlt) (xm_dec_ok hc.1) ?_
            rw [xm_clamp hi, List.getD_eq_getElem?_getD, hgx]
            have e : va_rf (((some x).getD none).map (xm_ad G)) = xm_v G (.inr (.inl x)) := by cases x <;> rfl
            rw [e]
            exact K
          · rw [xm_get_old hrep.2.1 hz] at hg
            exact absurd (F.2.2.2.2.2.1.2.2.2.2.2 _ _ hg).2.2 (fun f => f)
        next => cases hl
      next => cases h
    next => cases h
  next => cases h
theorem xm_setq_ok {w w' : xm_W} {z : Nat} {i : Int} {x : Option Nat} (h : xm_setq w z i x = some w') : ∃ t lst, w[z]? = some (.inr (.inl (t, lst))) ∧ 0 ≤ i ∧ i < lst.length ∧ (∀ v, x = some v → ∃ fs, w[v]? = some (.inr (.inr (t, fs)))) ∧ w' = w.set z (.inr (.inl (t, lst.set i.toNat x))) := by
  unfold xm_setq at h
  split at h
  next t lst hg =>
    split at h
    next hh =>
      cases h
      refine ⟨t, lst, hg, hh.1, hh.2.1, fun v hv => ?_, rfl⟩
      subst hv
      have h5 : xm_cls w v t = true := hh.2.2
      unfold xm_cls at h5
      split at h5
      next c' fs hv =>
        have : c' = t := by simpa using h5
        subst this
        exact ⟨fs, hv⟩
      next => cases h5
    next => cases h
  next => cases h
theorem xm_s_aastore (F : xm_Fr p s m args meth c cc nL own ini G o) (hk : xm_Sim p l e R s m args below meth c Q G nL mc ms cd k q) (hc : xm_chk own ini cc cd nL rk mt (.aastore, pc, nx, a, b, ps, sw) = true) (h : xm_step o xm_sta call (.aastore, pc, nx, a, b, ps, sw) L st w k = some q) : xm_Con p l e R s m args below meth c Q G nL mc ms q pc L st w := by
  simp only [xm_chk, Bool.and_eq_true] at hc
  simp only [xm_step] at h
  split at h
  next x i z r =>
    split at h
    next w' hw' =>
      obtain ⟨t, lst, hg, h0, hlt, hv, rfl⟩ := xm_setq_ok hw'
      have hszc : xm_szC (.inr (.inl (t, lst.set i.toNat x))) = xm_szC (.inr (.inl (t, lst))) := by simp [xm_szC]
      refine ⟨xm_gr_tr (xm_gr_set hg hszc) (hk _ _ _ _ h).1, fun ls H locs cells slots hr => ?_⟩
      have hrep := hr.2.2.1
      have hz := hrep.lt hg
      have hokc := hrep.okc hg
      have hi := xm_c1 (xm_c2 hr.2.1)
      have hlt' := xm_toNat_len h0 hlt
      have hK := F.2.2.2.2.2.1.2.1
      obtain ⟨t0, rr, ht0, hcl⟩ := xm_tag_ty hK hokc.1
      have hok' : xm_okC (.inr (.inl (t, lst.set i.toNat x))) := ⟨hokc.1, fun v hv2 => by
        rcases List.mem_or_eq_of_mem_set hv2 with h3 | h3
        · exact hokc.2 v h3
        · exact hrep.lt (hv v h3.symm).choose_spec⟩
      have K := fun H1 (e1 : va_at G.1 xm_cl (G.2.2.1 + z, xm_e G (.inr (.inl (t, lst.set i.toNat x)))) H1) e2 e3 => (hk _ _ _ _ h).2 _ (xm_ofn hc.2) _ H1 (locs ++ [⟨G.2.2.1 + z, (Int32.ofInt i).toNatClampNeg⟩]) _ _ (hr.put hg hszc e1 hok' e2 e3 (xm_c2 (xm_c2 (xm_c2 hr.2.1))))
      have hvin : ¬ (Int32.ofInt i < 0 ∨ lst.length ≤ (Int32.ofInt i).toNatClampNeg) := xm_vpin hi h0 hlt'
      have E : ∀ (H1 : Heap) (y : Value), y = va_rf (x.map (xm_ad G)) → H1[G.2.2.1 + z]? = some ((vp_cell (G.2.1 t) (lst.length, .inr (.inr (.inr (.inr fun j => (lst.getD j none).map (xm_ad G)))))).setSlot (Int32.ofInt i).toNatClampNeg y) → va_at G.1 xm_cl (G.2.2.1 + z, xm_e G (.inr (.inl (t, lst.set i.toNat x)))) H1 := by
        intro H1 y hy e1
        show H1[_]? = some (vp_cell _ _)
        rw [e1, vp_cell_q, vp_cell_q]
        rw [arrV_store, List.length_set, xm_clamp hi, hy]
        congr 2
        funext j
        rw [xm_set_fun lst (fun y => va_rf (y.map (xm_ad G))) none i.toNat x hlt' j]
        rfl
      match x, hv, K, E with
      | none, hv, K, E =>
        show W _ _ _ _ _ _ _ _ _ _ _ _ _ _ _ (F0 m pc ls (.null :: .int (Int32.ofInt i) :: .ref (xm_ad G z) :: r.map (xm_v G)))
        rw [xm_ad_lo hz]
        refine va_WaastN (C := rr.1) F.1 F.2.1 (hrep.at hg) ((hK.2 t0 _ ht0).1 lst.length (fun j => va_rf ((lst.getD j none).map (xm_ad G)))) (fun h9 => by cases h9) (by show ¬ (_ ∨ (arrV _ _ _).slots.size ≤ _); rw [arrV_size]; exact hvin) rfl rfl (xm_dec_ok hc.1) fun H1 e1 e2 e3 => ?_
        exact K H1 (E H1 _ rfl e1) e2 e3
      | some v, hv, K, E =>
        obtain ⟨fs, hvw⟩ := hv v rfl
        have hvl := hrep.lt hvw
        show W _ _ _ _ _ _ _ _ _ _ _ _ _ _ _ (F0 m pc ls (.ref (xm_ad G v) :: .int (Int32.ofInt i) :: .ref (xm_ad G z) :: r.map (xm_v G)))
        rw [xm_ad_lo hz]
        obtain ⟨r', hr', cellV, g1, g2, g3, -⟩ := hrep.at hvw
        have hrr : r' = rr := Option.some.inj (hr'.symm.trans hcl)
        subst hrr
        have hcls := (hK.1 t _ hcl).2
        obtain ⟨kA, comp, k1, k2, k3, -⟩ := (hK.2 t0 _ ht0).2
        have hcomp : comp = G.1.1 t := Option.some.inj (k3.symm.trans hcls.1)
        subst hcomp
        obtain ⟨kC, hkC, -⟩ := hcls.2
        refine W.aast (cv := cellV) F.1 F.2.1 (hrep.at hg) (fun q h => by cases h) (fun h => by cases h) k1 k2 rfl hkC ⟨fun h9 => hvin (Or.inl h9), by show _ < (arrV _ _ _).slots.size; rw [arrV_size]; exact Nat.not_le.mp fun h9 => hvin (Or.inr h9)⟩ (by rw [xm_ad_lo hvl]; exact g1) (fun q h => by rw [g3] at h; cases h) (by rw [g2]; exact hkC) (by rw [g2]; exact va_assign hcls) rfl rfl (xm_dec_ok hc.1) fun H1 e1 e2 e3 => ?_
        exact K H1 (E H1 _ rfl e1) e2 e3
    next => cases h
  next => cases h
theorem xm_s_arraylength (F : xm_Fr p s m args meth c cc nL own ini G o) (hk : xm_Sim p l e R s m args below meth c Q G nL mc ms cd k q) (hc : xm_chk own ini cc cd nL rk mt (.arraylength, pc, nx, a, b, ps, sw) = true) (h : xm_step o xm_sta call (.arraylength, pc, nx, a, b, ps, sw) L st w k = some q) : xm_Con p l e R s m args below meth c Q G nL mc ms q pc L st w := by
  simp only [xm_chk, Bool.and_eq_true] at hc
  simp only [xm_step] at h
  split at h
  next z r =>
    split at h
    next lst hg =>
      split at h
      next hlen =>
        refine ⟨(hk _ _ _ _ h).1, fun ls H locs cells slots hr => ?_⟩
        have hrep := hr.2.2.1
        have K := fun z => (hk _ _ _ _ h).2 _ (xm_ofn hc.2) _ _ _ _ _ (hr.stk z)
        show W _ _ _ _ _ _ _ _ _ _ _ _ _ _ _ (F0 m pc ls (.ref (xm_ad G z) :: r.map (xm_v G)))
        by_cases hz : z < 1000000
        · rw [xm_get_new hz] at hg
          rw [xm_ad_lo hz]
          refine va_alen (D := G.1) F.1 F.2.1 F.2.2.2.2.2.1.2.1 (xm_P1 (hrep.at hg)) 0 0 rfl rfl (xm_ofNat _) (xm_dec_ok hc.1) ?_
          exact K (xm_c3 (xm_okn hlen) (xm_c2 hr.2.1))
        · rw [xm_get_old hrep.2.1 hz] at hg
          obtain ⟨ho1, ho2, ⟨cell, g1, g2, g3, g4, g6, g5⟩, ho3⟩ := F.2.2.2.2.2.1.2.2.2.2.2 _ _ hg
          rw [xm_ad_hi hz]
          refine W.alen (n := Int32.ofInt (lst.length : Int)) F.1 F.2.1 (by rw [hr.2.2.2.1.2.1 _ ho1 ho2]; exact g1) g2 (by rw [g6]; rfl) rfl rfl (xm_dec_ok hc.1) ?_
          exact K (xm_c3 (xm_okn hlen) (xm_c2 hr.2.1))
      next => cases h
    next lst hg =>
      split at h
      next hlen =>
        refine ⟨(hk _ _ _ _ h).1, fun ls H locs cells slots hr => ?_⟩
        have hrep := hr.2.2.1
        have K := fun z => (hk _ _ _ _ h).2 _ (xm_ofn hc.2) _ _ _ _ _ (hr.stk z)
        show W _ _ _ _ _ _ _ _ _ _ _ _ _ _ _ (F0 m pc ls (.ref (xm_ad G z) :: r.map (xm_v G)))
        by_cases hz : z < 1000000
        · rw [xm_get_new hz] at hg
          have := (hrep.okc hg).2.1
          omega
        · rw [xm_get_old hrep.2.1 hz] at hg
          obtain ⟨ho1, ho2, l', rfl, ⟨cell, g1, g2, g3, g4, g6, g5⟩, ho3⟩ := F.2.2.2.2.2.1.2.2.2.2.2 _ _ hg
          rw [xm_ad_hi hz]
          refine W.alen (n := Int32.ofInt ((l'.map Sum.inl : List xm_V).length : Int)) F.1 F.2.1 (by rw [hr.2.2.2.1.2.1 _ ho1 ho2]; exact g1) g2 (by rw [g6, List.length_map]; rfl) rfl rfl (xm_dec_ok hc.1) ?_
          exact K (xm_c3 (xm_okn hlen) (xm_c2 hr.2.1))
      next => cases h
    next => cases h
  next => cases h
end xm_sec3
end
section
section xm_sec4
variable {p : Program} {l : Launch} {e : Env} {R : Room} {s : State} {m : MethodId} {args : Array Value} {below : List Frame} {meth : Method} {c : Code} {Q : State → Prop} {cc : ByteArray} {nL mc ms rk : Nat} {own : String} {ini : Bool} {G : xm_G} {o : xm_W} {cd : List xm_I} {k : xm_Kt} {q : Option xm_V × xm_W} {mt : Nat → Option xm_M} {call : Nat → List xm_V → xm_W → xm_R} {pc nx a b : Nat} {ps : List Nat} {sw : List (Int × Nat)} {L : List (Option xm_V)} {st : List xm_V} {w : xm_W}
theorem xm_dflt_ok {ty : FieldType} {t : Nat} (ht : xm_kind ty = t) (h9 : t ≤ 2) : defaultValue ty = xm_v G (xm_dflt t) ∧ xm_ok (xm_dflt t) := by
  subst ht
  cases ty <;> first | (simp [xm_kind] at h9; done) | exact ⟨rfl, by decide, by decide⟩ | exact ⟨rfl, trivial⟩
theorem xm_kd_le {c : Nat} {t : Nat} (h : t ∈ xm_kd c) : t ≤ 2 := by
  have hh : ∀ c, c < 10 → ∀ t ∈ xm_kd c, t ≤ 2 := by decide
  by_cases hc : c < 10
  · exact hh c hc t h
  · unfold xm_kd at h
    split at h <;> first | omega | (cases h)
theorem xm_s_new {j : Nat} (F : xm_Fr p s m args meth c cc nL own ini G o) (hk : xm_Sim p l e R s m args below meth c Q G nL mc ms cd k q) (hwf : q.2.length < 1000000) (hmc : mc ≤ R.cells ∧ ms ≤ R.slots) (hc : xm_chk own ini cc cd nL rk mt (.new j, pc, nx, a, b, ps, sw) = true) (h : xm_step o xm_sta call (.new j, pc, nx, a, b, ps, sw) L st w k = some q) : xm_Con p l e R s m args below meth c Q G nL mc ms q pc L st w := by
  simp only [xm_chk, Bool.and_eq_true] at hc
  simp only [xm_step] at h
  obtain ⟨⟨hd, hn⟩, hc2⟩ := hc
  split at hc2
  next C T N q0 q1 q2 hcl =>
    simp only [Bool.and_eq_true] at hc2
    have hG := xm_gr_tr (xm_gr_push w _) (hk _ _ _ _ h).1
    refine ⟨hG, fun ls H locs cells slots hr => ?_⟩
    have hrep := hr.2.2.1
    obtain ⟨hnm, hty, hlen, hin⟩ := xm_clok b _ hcl
    have hin' : ∀ u ∈ u_ws C T N, u ∈ xm_WS := fun u hu => xm_ws_in (hin u hu).1 (hin u hu).2
    have hK := F.2.2.2.2.2.1.2.1
    have hKn := hK.1 b _ hcl
    have hb : b < 10 := (List.getElem?_eq_some_iff.mp hcl).1
    have hg1 := (hk _ _ _ _ h).1
    have hsz : xm_szC (.inr (.inr (b, (xm_kd b).map xm_dflt))) = N := by simp [xm_szC, hlen]
    have ha := hr.2.2.2.2
    have hb1 := hg1.1
    have hb2 := hg1.2
    rw [xm_sz_push, hsz] at hb2
    rw [List.length_append] at hb1
    simp only [List.length_cons, List.length_nil] at hb1
    refine W.newcK F.1 F.2.1 F.2.2.2.1 (F.gd hc2.1.1) (F.gd hc2.1.2) (F.gd hc2.2) rfl (xm_dec_ok hd) (by omega) (by omega) hKn.2.1 rfl fun H1 kC hkC e1 z1 o1 => ?_
    have hva : va_at G.1 xm_cl (G.2.2.1 + w.length, xm_e G (.inr (.inr (b, (xm_kd b).map xm_dflt)))) H1 := by
      refine ⟨_, hcl, ?_⟩
      rw [← hrep.1]
      refine (u_born (xm_ty b) F.hts hin' hKn hkC e1 (fun k hk => (hty k hk).1)).to (fun j' hj => ?_)
      have h7 := (hty j' hj).2
      show _ = vp_V (((xm_kd b).map xm_dflt).map (xm_v G)) j'
      unfold vp_V
      rw [List.getD_eq_getElem?_getD, List.getElem?_map, List.getElem?_map, h7]
      exact (xm_dflt_ok rfl (xm_kd_le (List.mem_of_getElem? h7))).1
    have hok : xm_okC (.inr (.inr (b, (xm_kd b).map xm_dflt))) := ⟨by rw [List.length_map], hb, fun v hv => by
      obtain ⟨t, ht, rfl⟩ := List.mem_map.mp hv
      unfold xm_dflt
      split
      · trivial
      · exact ⟨by decide, by decide⟩⟩
    have K := (hk _ _ _ _ h).2 _ (xm_ofn hn) _ H1 locs (cells + 1) (slots + N) (by rw [← hsz]; exact hr.push hva hok z1 o1 (xm_c3 (xm_okr _) hr.2.1) hg1 hwf)
    have e9 : xm_v G (.inr (.inl (some w.length))) = .ref H.size := by
      show Value.ref (xm_ad G w.length) = _
      rw [xm_ad_lo (by omega), hrep.1]
    rw [List.map_cons, e9] at K
    exact K
  next => cases hc2
theorem xm_s_newarray {t : ArrayType} (F : xm_Fr p s m args meth c cc nL own ini G o) (hk : xm_Sim p l e R s m args below meth c Q G nL mc ms cd k q) (hwf : q.2.length < 1000000) (hmc : mc ≤ R.cells ∧ ms ≤ R.slots) (hc : xm_chk own ini cc cd nL rk mt (.newarray t, pc, nx, a, b, ps, sw) = true) (h : xm_step o xm_sta call (.newarray t, pc, nx, a, b, ps, sw) L st w k = some q) : xm_Con p l e R s m args below meth c Q G nL mc ms q pc L st w := by
  simp only [xm_chk, Bool.and_eq_true] at hc
  simp only [xm_step] at h
  obtain ⟨⟨⟨hd, hn⟩, ht⟩, hw⟩ := hc
  have ht := of_decide_eq_true ht
  subst ht
  split at h
  next n r =>
    split at h
    next hn0 =>
      have hG := xm_gr_tr (xm_gr_push w _) (hk _ _ _ _ h).1
      refine ⟨hG, fun ls H locs cells slots hr => ?_⟩
      have hrep := hr.2.2.1
      have hK := F.2.2.2.2.2.1.2.1
      have hg1 := (hk _ _ _ _ h).1
      have hsz : xm_szC (.inl (List.replicate n.toNat 0)) = n.toNat := by simp [xm_szC]
      have ha := hr.2.2.2.2
      have hb1 := hg1.1
      have hb2 := hg1.2
      rw [xm_sz_push, hsz] at hb2
      rw [List.length_append] at hb1
      simp only [List.length_cons, List.length_nil] at hb1
      have hi := xm_c1 hr.2.1
      refine va_newaK (atype := .int) F.1 F.2.1 (F.gd hw) rfl (xm_dec_ok hd) rfl (fun z => by have := (xm_lt0 hi).mp z; omega) (xm_clamp hi) (by show n.toNat * 4 ≤ _; omega) (by omega) (by omega) rfl fun H1 cA e1 z1 o1 hAr hNm => ?_
      have hcA : cA = G.2.1 0 := by
        have := (hK.2 0 _ rfl).2
        exact Option.some.inj (hNm.symm.trans this)
      subst hcA
      have hva : va_at G.1 xm_cl (G.2.2.1 + w.length, xm_e G (.inl (List.replicate n.toNat 0))) H1 := by
        show H1[_]? = some (vp_cell _ _)
        rw [← hrep.1, e1, vp_cell_i, List.length_replicate]
        congr 2
        funext j
        rw [List.getD_eq_getElem?_getD, List.getElem?_replicate]
        split <;> rfl
      have hok : xm_okC (.inl (List.replicate n.toNat 0)) := fun z hz => by
        rw [List.eq_of_mem_replicate hz]
        exact ⟨by decide, by decide⟩
      have P := hr.push hva hok z1 o1 (st' := .inr (.inl (some w.length)) :: r) (xm_c3 (xm_okr _) (xm_c2 hr.2.1)) hg1 hwf
      rw [hsz] at P
      have K := (hk _ _ _ _ h).2 _ (xm_ofn hn) _ H1 locs (cells + 1) (slots + n.toNat) P
      have e9 : xm_v G (.inr (.inl (some w.length))) = .ref H.size := by
        show Value.ref (xm_ad G w.length) = _
        rw [xm_ad_lo (by omega), hrep.1]
      rw [List.map_cons, e9] at K
      exact K
    next => cases h
  next => cases h
theorem xm_anew {C : String} {t j : Nat} {ls : Array Slot} {H : Heap} {locs : List Loc} {cells slots : Nat} {n : Int} {r : List xm_V} (F : xm_Fr p s m args meth c cc nL own ini G o) (hk : xm_Sim p l e R s m args below meth c Q G nL mc ms cd k q) (hwf : q.2.length < 1000000) (hmc : mc ≤ R.cells ∧ ms ≤ R.slots) (hd : decode cc pc = .ok (.anewarray j, 3)) (hn : xm_pc cd nx = some (pc + 3)) (hlk : (Cond.classLink own j C).before args s = true) (hao : va_AO C s) {t0 : Nat} (ht : t = 4 ∨ t = 5 ∨ t = 7) (ht0 : (xm_tys G)[t0]? = some (G.2.1 t, .object C)) (hn0 : 0 ≤ n ∧ n ≤ 1000) (h : k nx L (.inr (.inl (some w.length)) :: r) (w ++ [.inr (.inl (t, List.replicate n.toNat none))]) = some q) (hr : xm_Rl G s nL mc ms q.2 L (.inl n :: r) w ls H locs cells slots) : W p l e R s m args below meth c H locs cells slots Q (F0 m pc ls (.int (Int32.ofInt n) :: r.map (xm_v G))) := by
  have hrep := hr.2.2.1
  have hK := F.2.2.2.2.2.1.2.1
  have hg1 := (hk _ _ _ _ h).1
  have hsz : xm_szC (.inr (.inl (t, List.replicate n.toNat none))) = n.toNat := by simp [xm_szC]
  have ha := hr.2.2.2.2
  have hb1 := hg1.1
  have hb2 := hg1.2
  rw [xm_sz_push, hsz] at hb2
  rw [List.length_append] at hb1
  simp only [List.length_cons, List.length_nil] at hb1
  have hi := xm_c1 hr.2.1
  have hcl := xm_clamp hi
  refine W.anew F.1 F.2.1 F.2.2.2.1 hlk (va_AO.use hao) rfl hd rfl (fun z => by have := (xm_lt0 hi).mp z; omega) (by rw [hcl]; omega) (by omega) (by rw [hcl]; omega) fun cA kA comp f1 f2 f3 f4 => ?_
  have hcA : cA = G.2.1 t := by
    obtain ⟨_, _, _, _, _, h9⟩ := (hK.2 t0 _ ht0).2
    exact Option.some.inj (f1.symm.trans h9)
  subst hcA
  rw [hcl]
  generalize hH1 : H.push ({ cls := G.2.1 t, slots := Array.replicate n.toNat .null, vm := .none } : Cell) = H1
  have z1 : H1.size = H.size + 1 := by rw [← hH1, Array.size_push]
  have e1 : H1[H.size]? = some (arrV (G.2.1 t) n.toNat (fun _ => .null)) := by rw [← hH1, Array.getElem?_push_size, ← arrV_new]
  have o1 : ∀ q : Nat, q < H.size → H1[q]? = H[q]? := fun q hq => by rw [← hH1, Array.getElem?_push, if_neg (Nat.ne_of_lt hq)]
  have hva : va_at G.1 xm_cl (G.2.2.1 + w.length, xm_e G (.inr (.inl (t, List.replicate n.toNat none)))) H1 := by
    show H1[_]? = some (vp_cell _ _)
    rw [← hrep.1, e1, vp_cell_q, List.length_replicate]
    congr 2
    funext j
    rw [List.getD_eq_getElem?_getD, List.getElem?_replicate]
    split <;> rfl
  have hok : xm_okC (.inr (.inl (t, List.replicate n.toNat none))) := ⟨ht, fun z hz => by
    have := List.eq_of_mem_replicate hz
    cases this⟩
  have P := hr.push hva hok z1 o1 (st' := .inr (.inl (some w.length)) :: r) (xm_c3 (xm_okr _) (xm_c2 hr.2.1)) hg1 hwf
  rw [hsz] at P
  have K := (hk _ _ _ _ h).2 _ hn _ H1 locs (cells + 1) (slots + n.toNat) P
  have e9 : xm_v G (.inr (.inl (some w.length))) = .ref H.size := by
    show Value.ref (xm_ad G w.length) = _
    rw [xm_ad_lo (by omega), hrep.1]
  rw [List.map_cons, e9] at K
  exact K
theorem xm_s_anewarray {j : Nat} (F : xm_Fr p s m args meth c cc nL own ini G o) (hk : xm_Sim p l e R s m args below meth c Q G nL mc ms cd k q) (hwf : q.2.length < 1000000) (hmc : mc ≤ R.cells ∧ ms ≤ R.slots) (hc : xm_chk own ini cc cd nL rk mt (.anewarray j, pc, nx, a, b, ps, sw) = true) (h : xm_step o xm_sta call (.anewarray j, pc, nx, a, b, ps, sw) L st w k = some q) : xm_Con p l e R s m args below meth c Q G nL mc ms q pc L st w := by
  simp only [xm_chk, Bool.and_eq_true] at hc
  simp only [xm_step] at h
  obtain ⟨⟨hd, hn⟩, hc2⟩ := hc
  split at h
  next n r =>
    split at h
    next hn0 =>
      have hG := xm_gr_tr (xm_gr_push w _) (hk _ _ _ _ h).1
      refine ⟨hG, fun ls H locs cells slots hr => ?_⟩
      have hao := F.2.2.2.2.2.1.2.2.1
      match b, hc2, h with
      | 4, hc2, h => exact xm_anew F hk hwf hmc (xm_dec_ok hd) (xm_ofn hn) (F.gd hc2) hao.1 (t0 := 1) (Or.inl rfl) rfl hn0 h hr
      | 5, hc2, h => exact xm_anew F hk hwf hmc (xm_dec_ok hd) (xm_ofn hn) (F.gd hc2) hao.2.1 (t0 := 2) (Or.inr (Or.inl rfl)) rfl hn0 h hr
      | 7, hc2, h => exact xm_anew F hk hwf hmc (xm_dec_ok hd) (xm_ofn hn) (F.gd hc2) hao.2.2 (t0 := 3) (Or.inr (Or.inr rfl)) rfl hn0 h hr
    next => cases h
  next => cases h
end xm_sec4
end
section
def xm_PcX (G : xm_G) (o : xm_W) (as : List xm_V) (w : xm_W) : Array Value → State → Prop := va_Pc (as.map (xm_v G)) (fun U => xm_Rep G w U.heap ∧ xm_Kn G o xm_sta xm_sts xm_str U U.heap ∧ G.2.2.1 ≤ U.heap.size)
def xm_QcX (G : xm_G) (q : Option xm_V × xm_W) : Array Value → State → Outcome → State → Prop := fun _ st oc t => oc = .returned (q.1.map (xm_v G)) ∧ (∀ v, q.1 = some v → xm_ok v) ∧ xm_Rep G q.2 t.heap ∧ va_F (xm_A G) st t
/-- what a call's contract says -/
def xm_Cal (l : Launch) (G : xm_G) (o : xm_W) (mt : Nat → Option xm_M) (d : Nat) (call : Nat → List xm_V → xm_W → xm_R) : Prop :=
  ∀ y as w q, call y as w = some q → ∃ M, mt y = some M ∧ xm_gr w q.2 ∧ (q.2.length < 1000000 → (∀ v ∈ as, xm_ok v) → as.length = M.2.2.2.2.2.1 ∧ (M.2.2.2.2.2.2.1 ≠ 0 → ∃ z, as.head? = some (.inr (.inl (some z))) ∧ (M.2.2.2.2.2.2.1 ≠ 100 → ∃ fs, xm_get o w z = some (.inr (.inr (M.2.2.2.2.2.2.1 - 1, fs))))) ∧
    Met l M.1 (.code M.1 M.2.1 M.2.2.1 M.2.2.2.1 :: xm_WS) { frames := d, cells := q.2.length - w.length, slots := xm_sz q.2 - xm_sz w, locals := 60 * d } (xm_PcX G o as w) (xm_QcX G q) (q.2.length - w.length) (xm_sz q.2 - xm_sz w) (xm_A G))
theorem xm_blind (G : xm_G) (o : xm_W) (as : List xm_V) (w : xm_W) : FrameBlind (xm_PcX G o as w) := fun a U g mk q => by
  obtain ⟨q0, q1, q2, q3⟩ := q
  exact ⟨q0, q1, xm_Kn.same (s := U) (U := U.calling g mk a) (H := U.heap) rfl q2, q3⟩
theorem xm_cats : ∀ (l : List Value), (l.map fun v => v.category).sum ≤ 2 * l.length
  | [] => Nat.le_refl _
  | v :: l => by
    have := xm_cats l
    have h := lv_cat v
    simp only [List.map_cons, List.sum_cons, List.length_cons]
    omega
section xm_sec5
variable {p : Program} {l : Launch} {e : Env} {R : Room} {s : State} {m : MethodId} {args : Array Value} {below : List Frame} {meth : Method} {c : Code} {Q : State → Prop} {cc : ByteArray} {nL mc ms rk : Nat} {own : String} {ini : Bool} {G : xm_G} {o : xm_W} {cd : List xm_I} {k : xm_Kt} {q : Option xm_V × xm_W} {mt : Nat → Option xm_M} {call : Nat → List xm_V → xm_W → xm_R} {pc nx a b : Nat} {ps : List Nat} {sw : List (Int × Nat)} {L : List (Option xm_V)} {st : List xm_V} {w : xm_W}
theorem xm_Wcall {q1 : Option xm_V × xm_W} {as0 : Array Value} {H : Heap} {locs : List Loc} {cells slots mc1 ms1 : Nat} {ls : Array Slot} {st0 rest : List Value} {free : Addr → Prop} (hr : va_Run p l e R s m args below meth c H locs cells slots mc1 ms1 (F0 m pc ls st0) rest (xm_QcX G q1 as0) free)
    (kk : ∀ (H1 : Heap) (L1 : List Loc), (∀ v, q1.1 = some v → xm_ok v) → xm_Rep G q1.2 H1 → (∀ z ∈ L1, free z.base) → H.size ≤ H1.size → (∀ z : Nat, z < H.size → ¬ xm_A G z → H1[z]? = H[z]?) → W p l e R s m args below meth c H1 (locs ++ L1) (cells + mc1) (slots + ms1) Q (F0 m (pc + 3) ls ((q1.1.map (xm_v G)).toList ++ rest))) : W p l e R s m args below meth c H locs cells slots Q (F0 m pc ls st0) := by
  intro T hT X
  obtain ⟨v, st₀, t, T', L1, h0, X', hL, e1, e2, ⟨hv, hok1, hp, hz, hq⟩, hst⟩ := hr T hT X
  cases hv
  rw [h0] at hz hq
  obtain ⟨t2, a1, b1⟩ := kk T'.heap L1 hok1 (by rw [e1]; exact hp) hL (by rw [e1]; exact hz) (fun z h1 h2 => by rw [e1]; exact hq z h1 h2) T' rfl X'
  exact ⟨t2, hst t2 a1, b1⟩
/-- what the check of a call says -/
theorem xm_cw_ok {d : Nat} {kk j : Nat} {M : xm_M} {as : List xm_V} {q1 : Option xm_V × xm_W} (F : xm_Fr p s m args meth c cc nL own ini G o) (hR : d + 1 ≤ R.frames ∧ 60 * d + 60 ≤ R.locals) (hM : mt a = some M) (h : xm_cw own j kk mt a b ps = true) :
    M.2.2.2.2.2.1 = b ∧ (({ frames := d, cells := q1.2.length - w.length, slots := xm_sz q1.2 - xm_sz w, locals := 60 * d } : Room).cells = q1.2.length - w.length ∧ ({ frames := d, cells := q1.2.length - w.length, slots := xm_sz q1.2 - xm_sz w, locals := 60 * d } : Room).slots = xm_sz q1.2 - xm_sz w ∧ d + 1 ≤ R.frames ∧ 8 + (M.2.2.1 + 11) + 60 * d ≤ R.locals ∧ (∀ u ∈ (Cond.code M.1 M.2.1 M.2.2.1 M.2.2.2.1 :: xm_WS), ∀ (a' : Array Value) (U : State), s.WarmedH U.vm → u.before a' U = true) ∧ Cond.code M.1 M.2.1 M.2.2.1 M.2.2.2.1 ∈ (Cond.code M.1 M.2.1 M.2.2.1 M.2.2.2.1 :: xm_WS)) ∧
    (Cond.code M.1 M.2.1 M.2.2.1 M.2.2.2.1).before args s = true ∧ (Cond.initialized M.1.cls).before args s = true ∧ (M.1.cls ≠ "java/lang/invoke/MethodHandle" ∧ M.1.cls ≠ "java/lang/invoke/VarHandle") ∧
    ((Cond.methodLink own j M.1).before args s = true ∨ (Cond.methodLinkNest own j M.1 "ShodBackwards").before args s = true) ∧
    (match kk with
    | 0 => (Cond.instanceMethod M.1).before args s = true ∧ (Cond.selects M.1.cls M.1 M.1).before args s = true ∧ (parseMethodDescriptor M.1.desc).map (fun d => d.parameters.length + 1) = some b ∧ xm_rc M.2.2.2.2.2.2.1 M.1.cls = true
    | 1 => (Cond.instanceMethod M.1).before args s = true ∧ M.1.name = "<init>" ∧ (parseMethodDescriptor M.1.desc).map (fun d => d.parameters.length + 1) = some b ∧ M.2.2.2.1 = none ∧ M.2.2.2.2.2.2.1 ≠ 0
    | _ => (Cond.static M.1).before args s = true ∧ (parseMethodDescriptor M.1.desc).map (fun d => d.parameters.length) = some b) := by
  unfold xm_cw at h
  rw [hM] at h
  match ps, h with
  | [], h => cases h
  | [_], h => cases h
  | [_, _], h => cases h
  | [_, _, _], h => cases h
  | [_, _, _, _], h => cases h
  | _ :: _ :: _ :: _ :: _ :: _ :: _, h => cases h
  | [p0, p1, p2, p3, p4], h =>
    simp only [Bool.and_eq_true, decide_eq_true_eq, Bool.or_eq_true] at h
    obtain ⟨⟨⟨⟨⟨⟨⟨h1, h2⟩, h3⟩, h4⟩, h5⟩, h6⟩, h7⟩, h8⟩ := h
    have h5 := xm_gc_ok h5
    refine ⟨h1, ⟨rfl, rfl, hR.1, by omega, fun u hu a' U hW => ?_, List.mem_cons_self⟩, F.gd h5, F.gd h4, ⟨h6, h7⟩, ?_, ?_⟩
    · rcases List.mem_cons.mp hu with rfl | hu
      · exact word_at hW (good_of_word (xm_gd_in h5).2) (F.gd h5)
      · exact word_at hW (good_of_word (List.mem_filter.mp hu).2) (F.hts u hu)
    · rcases h3 with h3 | h3
      · exact Or.inl (F.gd h3)
      · exact Or.inr (va_Nw.use rfl (F.2.2.2.2.2.1.1 _ (xm_wd_in h3) rfl))
    · match kk, h8 with
      | 0, h8 =>
        simp only [Bool.and_eq_true, decide_eq_true_eq] at h8
        exact ⟨F.gd h8.1.1.1, F.gd h8.1.1.2, h8.1.2, h8.2⟩
      | 1, h8 =>
        simp only [Bool.and_eq_true, decide_eq_true_eq] at h8
        exact ⟨F.gd h8.1.1.1, h8.1.1.2, h8.1.2, h8.2⟩
      | kk + 2, h8 =>
        simp only [Bool.and_eq_true, decide_eq_true_eq] at h8
        exact ⟨F.gd h8.1, h8.2⟩
/-- the receiver's cell -/
theorem xm_recv {H : Heap} {locs : List Loc} {r z : Nat} {C : String} {fs : List xm_V} (F : xm_Fr p s m args meth c cc nL own ini G o) (hrep : xm_Rep G w H) (hS : va_S (xm_A G) s.heap H locs) (hr : xm_rc r C = true) (hg : xm_get o w z = some (.inr (.inr (r - 1, fs)))) : ∃ cellB : Cell, H[xm_ad G z]? = some cellB ∧ cellB.vm.isStatics = false ∧ s.vm.findClass C = some cellB.cls := by
  unfold xm_rc at hr
  simp only [Bool.and_eq_true, bne_iff_ne, ne_eq] at hr
  obtain ⟨h0, hr⟩ := hr
  by_cases hz : z < 1000000
  · rw [xm_get_new hz] at hg
    rw [xm_ad_lo hz]
    have hb := (hrep.okc hg).2.1
    rw [if_neg (by omega)] at hr
    split at hr
    next qq hcl =>
      have hC : qq.1 = C := by simpa using hr
      subst hC
      exact va_recv F.2.2.2.2.2.1.2.1 (xm_P1 (hrep.at hg)) (q0 := 0) hcl rfl
    next => cases hr
  · rw [xm_get_old hrep.2.1 hz] at hg
    rw [xm_ad_hi hz]
    have ho := F.2.2.2.2.2.1.2.2.2.2.2 _ _ hg
    by_cases h99 : r = 99
    · subst h99
      rw [if_pos rfl] at hr
      have hC : C = "java/lang/String" := by simpa using hr
      subst hC
      match fs, ho with
      | [v, u], ho =>
        obtain ⟨h1, h2, -, -, -, -, cell, h8, h9, h10⟩ := ho
        exact ⟨cell, by rw [hS.2.1 _ h1 h2]; exact h8, h9, h10⟩
    · rw [if_neg h99] at hr
      split at hr
      next qq hcl =>
        have hb : r - 1 < 10 := (List.getElem?_eq_some_iff.mp hcl).1
        exfalso
        revert ho
        generalize r - 1 = y at hb
        intro ho
        match y, hb, ho with
        | 0, _, ho => exact ho.2.2
        | 1, _, ho => exact ho.2.2
        | 2, _, ho => exact ho.2.2
        | 3, _, ho => exact ho.2.2
        | 4, _, ho => exact ho.2.2
        | 5, _, ho => exact ho.2.2
        | 6, _, ho => exact ho.2.2
        | 7, _, ho => exact ho.2.2
        | 8, _, ho => exact ho.2.2
        | 9, _, ho => exact ho.2.2
      next => cases hr
theorem xm_Rl_call {H H1 : Heap} {locs L1 : List Loc} {cells slots : Nat} {ls : Array Slot} {wf : xm_W} {w1 : xm_W} {st' : List xm_V} (hr : xm_Rl G s nL mc ms wf L st w ls H locs cells slots) (hg : xm_gr w w1) (hrep : xm_Rep G w1 H1) (hL : ∀ z ∈ L1, xm_A G z.base) (hz : H.size ≤ H1.size) (hq : ∀ z : Nat, z < H.size → ¬ xm_A G z → H1[z]? = H[z]?) (hst : ∀ v ∈ st', xm_ok v) : xm_Rl G s nL mc ms wf L st' w1 ls H1 (locs ++ L1) (cells + (w1.length - w.length)) (slots + (xm_sz w1 - xm_sz w)) := by
  have hS := hr.2.2.2.1
  have h5 := hr.2.2.2.2
  have h6 := hg.1
  have h7 := hg.2
  refine ⟨hr.1, hst, hrep, ⟨Nat.le_trans hS.1 hz, fun z h1 h2 => by rw [hq z (Nat.lt_of_lt_of_le h1 hS.1) h2]; exact hS.2.1 z h1 h2, fun z hz => ?_⟩, by omega, by omega⟩
  rcases List.mem_append.mp hz with h | h
  · exact hS.2.2 z h
  · exact hL z h
theorem xm_Kn_at {H : Heap} {locs : List Loc} (F : xm_Fr p s m args meth c cc nL own ini G o) (hS : va_S (xm_A G) s.heap H locs) : xm_Kn G o xm_sta xm_sts xm_str s H := xm_Kn.kept hS.1 hS.2.1 F.2.2.2.2.2.1
theorem xm_Pc_at {H : Heap} {locs : List Loc} {as : List xm_V} (F : xm_Fr p s m args meth c cc nL own ini G o) (hrep : xm_Rep G w H) (hS : va_S (xm_A G) s.heap H locs) {av : List Value} (hav : av = as.map (xm_v G)) (U : State) (hU : U.heap = H) (hW : s.WarmedH U.vm) : xm_PcX G o as w av.toArray U := by
  refine ⟨by rw [hav], ?_, ?_, ?_⟩
  · rw [hU]; exact hrep
  · rw [hU]; exact (xm_Kn_at F hS).warm hW
  · rw [hU, hrep.1]; exact Nat.le_add_right _ _
theorem xm_st_split (st : List xm_V) (b : Nat) : st.map (xm_v G) = ((st.take b).reverse.map (xm_v G)).reverse ++ (st.drop b).map (xm_v G) := by
  rw [List.map_reverse, List.reverse_reverse, ← List.map_append, List.take_append_drop]
theorem xm_okdrop {b : Nat} (h : ∀ v ∈ st, xm_ok v) : ∀ v ∈ st.drop b, xm_ok v := fun v hv => h v (List.mem_of_mem_drop hv)
theorem xm_oktake {b : Nat} (h : ∀ v ∈ st, xm_ok v) : ∀ v ∈ (st.take b).reverse, xm_ok v := fun v hv => h v (List.mem_of_mem_take (List.mem_reverse.mp hv))
/-- the three kinds of a call, behind one another -/
theorem xm_inv {d kk j : Nat} {ins : Instr} (hins : (kk = 0 ∧ ins = .invokevirtual j) ∨ (kk = 1 ∧ ins = .invokespecial j) ∨ (kk = 2 ∧ ins = .invokestatic j)) (F : xm_Fr p s m args meth c cc nL own ini G o) (hk : xm_Sim p l e R s m args below meth c Q G nL mc ms cd k q) (hwf : q.2.length < 1000000) (hmc : mc ≤ R.cells ∧ ms ≤ R.slots) (hR : d + 1 ≤ R.frames ∧ 60 * d + 60 ≤ R.locals) (hcal : xm_Cal l G o mt d call) (hd : decode cc pc = .ok (ins, 3)) (hn : xm_pc cd nx = some (pc + 3)) (hc : xm_cw own j kk mt a b ps = true)
    (h : (if (st.drop b).length ≤ 4 then (match call a (st.take b).reverse w with
    | some (none, w') => k nx L (st.drop b) w'
    | some (some v, w') => k nx L (v :: st.drop b) w'
    | none => none) else none) = some q) : xm_Con p l e R s m args below meth c Q G nL mc ms q pc L st w := by
  split at h
  next hl4 =>
    obtain ⟨q1, hq1, hk1⟩ : ∃ q1 : Option xm_V × xm_W, call a (st.take b).reverse w = some q1 ∧ k nx L (q1.1.toList ++ st.drop b) q1.2 = some q := by
      split at h
      next w' hh => exact ⟨_, hh, h⟩
      next v w' hh => exact ⟨_, hh, h⟩
      next => cases h
    obtain ⟨M, hM, hgr, hrest⟩ := hcal _ _ _ _ hq1
    have hk2 := hk _ _ _ _ hk1
    refine ⟨xm_gr_tr hgr hk2.1, fun ls H locs cells slots hr => ?_⟩
    have hrep := hr.2.2.1
    have hS := hr.2.2.2.1
    have hq1l : q1.2.length < 1000000 := Nat.lt_of_le_of_lt hk2.1.1 hwf
    obtain ⟨hlen, hrc, hMet⟩ := hrest hq1l (xm_oktake hr.2.1)
    obtain ⟨hnb, hroom, hcode, hini, hnot, hlink, hkind⟩ := xm_cw_ok (d := d) (w := w) (as := (st.take b).reverse) (q1 := q1) F hR hM hc
    have hacc := hr.2.2.2.2
    have hg1 := hgr.1
    have hg2 := hgr.2
    have hg3 := hk2.1.1
    have hg4 := hk2.1.2
    have hf : cells + (q1.2.length - w.length) ≤ R.cells ∧ slots + (xm_sz q1.2 - xm_sz w) ≤ R.slots := ⟨by omega, by omega⟩
    have hW8 : 2 * (F0 m pc ls (st.map (xm_v G))).monitorRoom + (((st.drop b).map (xm_v G)).map fun v => v.category).sum ≤ 8 := lv_room (by
      have := xm_cats ((st.drop b).map (xm_v G))
      rw [List.length_map] at this
      omega)
    have hsz : (F0 m pc ls (st.map (xm_v G))).locals.size = nL := hr.1.1.1
    have S : CallFix p m c cc nL s args xm_WS own := ⟨F.1, F.2.1, F.2.2.1, F.2.2.2.1, F.hts⟩
    have K : ∀ (H1 : Heap) (L1 : List Loc), (∀ v, q1.1 = some v → xm_ok v) → xm_Rep G q1.2 H1 → (∀ z ∈ L1, (xm_A G) z.base) → H.size ≤ H1.size → (∀ z : Nat, z < H.size → ¬ xm_A G z → H1[z]? = H[z]?) → W p l e R s m args below meth c H1 (locs ++ L1) (cells + (q1.2.length - w.length)) (slots + (xm_sz q1.2 - xm_sz w)) Q (F0 m (pc + 3) ls ((q1.1.map (xm_v G)).toList ++ (st.drop b).map (xm_v G))) := by
      intro H1 L1 hok1 a1 a2 a3 a4
      have e : (q1.1.map (xm_v G)).toList ++ (st.drop b).map (xm_v G) = (q1.1.toList ++ st.drop b).map (xm_v G) := by
        obtain ⟨r1, w1⟩ := q1
        cases r1 <;> rfl
      rw [e]
      refine hk2.2 _ hn _ _ _ _ _ (xm_Rl_call hr hgr a1 a2 a3 a4 (fun v hv => ?_))
      rcases List.mem_append.mp hv with hv | hv
      · exact hok1 v (Option.mem_toList.mp hv)
      · exact xm_okdrop hr.2.1 v hv
    rcases hins with ⟨rfl, rfl⟩ | ⟨rfl, rfl⟩ | ⟨rfl, rfl⟩
    · obtain ⟨hin, hsel, hds, hrcl⟩ := hkind
      have hr0 : M.2.2.2.2.2.2.1 ≠ 0 := by
        unfold xm_rc at hrcl
        simp only [Bool.and_eq_true, bne_iff_ne, ne_eq] at hrcl
        exact hrcl.1
      obtain ⟨z, hhd, hgz⟩ := hrc hr0
      obtain ⟨fs, hgz⟩ := hgz (fun e => by rw [e] at hrcl; simp [xm_rc] at hrcl)
      obtain ⟨as', has⟩ : ∃ as', (st.take b).reverse = .inr (.inl (some z)) :: as' := by
        cases hh : (st.take b).reverse with
        | nil => rw [hh] at hhd; cases hhd
        | cons u us => rw [hh] at hhd; cases hhd; exact ⟨us, rfl⟩
      rw [has] at hMet hlen
      have hst : (F0 m pc ls (st.map (xm_v G))).stack = (as'.map (xm_v G)).reverse ++ .ref (xm_ad G z) :: (st.drop b).map (xm_v G) := by
        show st.map (xm_v G) = _
        rw [xm_st_split st b, has, List.map_cons, List.reverse_cons, List.append_assoc]
        rfl
      have hpv : PreV s H M.1.cls (xm_ad G z) (xm_PcX G o (.inr (.inl (some z)) :: as') w) (as'.map (xm_v G)) := ⟨xm_blind _ _ _ _, xm_recv F hrep hS hrcl hgz, fun U hU hW => xm_Pc_at F hrep hS rfl U hU hW⟩
      have hls : ∀ sig, parseMethodDescriptor M.1.desc = some sig → b - 1 = sig.parameters.length := fun sig h => by
        rw [h] at hds
        have : sig.parameters.length + 1 = b := Option.some.inj hds
        omega
      have hn1 : (as'.map (xm_v G)).length = b - 1 := by
        rw [List.length_map]
        rw [List.length_cons] at hlen
        omega
      rcases hlink with hlink | hlink
      · exact xm_Wcall (va_runV S hMet ⟨⟨hroom.1, hroom.2.1, hroom.2.2.1, hroom.2.2.2.1, hroom.2.2.2.2.1, hroom.2.2.2.2.2, hcode, hini, hnot, hls, hlink⟩, hin, hsel⟩ hpv rfl hn1 hsz hst hW8 hd hf) K
      · exact xm_Wcall (va_runVN S hMet ⟨⟨hroom, hcode, hini, hnot, hls, hlink⟩, hin, hsel⟩ hpv rfl hn1 hsz hst hW8 hd hf) K
    · obtain ⟨hin, hnm, hds, hret, hr0⟩ := hkind
      obtain ⟨z, hhd, -⟩ := hrc hr0
      obtain ⟨as', has⟩ : ∃ as', (st.take b).reverse = .inr (.inl (some z)) :: as' := by
        cases hh : (st.take b).reverse with
        | nil => rw [hh] at hhd; cases hhd
        | cons u us => rw [hh] at hhd; cases hhd; exact ⟨us, rfl⟩
      rw [has] at hMet hlen
      have hst : (F0 m pc ls (st.map (xm_v G))).stack = (as'.map (xm_v G)).reverse ++ .ref (xm_ad G z) :: (st.drop b).map (xm_v G) := by
        show st.map (xm_v G) = _
        rw [xm_st_split st b, has, List.map_cons, List.reverse_cons, List.append_assoc]
        rfl
      have hls : ∀ sig, parseMethodDescriptor M.1.desc = some sig → b - 1 = sig.parameters.length := fun sig h => by
        rw [h] at hds
        have : sig.parameters.length + 1 = b := Option.some.inj hds
        omega
      have hn1 : (as'.map (xm_v G)).length = b - 1 := by
        rw [List.length_map]
        rw [List.length_cons] at hlen
        omega
      have hps : PreS s H (xm_PcX G o (.inr (.inl (some z)) :: as') w) (.ref (xm_ad G z) :: as'.map (xm_v G)) := ⟨xm_blind _ _ _ _, fun U hU hW => xm_Pc_at F hrep hS rfl U hU hW⟩
      rw [hret] at hMet hroom hcode
      rcases hlink with hlink | hlink
      · exact xm_Wcall (va_runI S hMet ⟨⟨hroom.1, hroom.2.1, hroom.2.2.1, hroom.2.2.2.1, hroom.2.2.2.2.1, hroom.2.2.2.2.2, hcode, hini, hnot, hls, hlink⟩, hnm, hin⟩ hps rfl hn1 hsz hst hW8 hd hf) K
      · exact xm_Wcall (va_runIN S hMet ⟨⟨hroom, hcode, hini, hnot, hls, hlink⟩, hnm, hin⟩ hps rfl hn1 hsz hst hW8 hd hf) K
    · obtain ⟨hstat, hds⟩ := hkind
      have hst : (F0 m pc ls (st.map (xm_v G))).stack = ((st.take b).reverse.map (xm_v G)).reverse ++ (st.drop b).map (xm_v G) := xm_st_split st b
      have hps : PreS s H (xm_PcX G o (st.take b).reverse w) ((st.take b).reverse.map (xm_v G)) := ⟨xm_blind _ _ _ _, fun U hU hW => xm_Pc_at F hrep hS rfl U hU hW⟩
      have hls : ∀ sig, parseMethodDescriptor M.1.desc = some sig → b = sig.parameters.length := fun sig h => by
        rw [h] at hds
        exact (show sig.parameters.length = b from Option.some.inj hds).symm
      have hn1 : ((st.take b).reverse.map (xm_v G)).length = b := by rw [List.length_map, hlen, hnb]
      rcases hlink with hlink | hlink
      · exact xm_Wcall (va_runS S hMet ⟨⟨hroom.1, hroom.2.1, hroom.2.2.1, hroom.2.2.2.1, hroom.2.2.2.2.1, hroom.2.2.2.2.2, hcode, hini, hnot, hls, hlink⟩, hstat⟩ hps rfl hn1 hsz hst hW8 hd hf) K
      · exact xm_Wcall (va_runSN S hMet ⟨⟨hroom, hcode, hini, hnot, hls, hlink⟩, hstat, trivial⟩ hps rfl hn1 hsz hst hW8 hd hf) K
  next => cases h
end xm_sec5
end
section
theorem xm_cpy_at (f g : List Int) (sp dp n j : Nat) (h1 : sp + n ≤ f.length) (h2 : dp + n ≤ g.length) : (xm_cpy f g sp dp n)[j]? = if dp ≤ j ∧ j < dp + n then f[sp + (j - dp)]? else g[j]? := by
  unfold xm_cpy
  have e1 : (g.take dp).length = dp := by rw [List.length_take]; omega
  have e2 : ((f.drop sp).take n).length = n := by rw [List.length_take, List.length_drop]; omega
  by_cases ha : j < dp
  · rw [List.getElem?_append_left (by rw [e1]; exact ha), if_neg (by omega), List.getElem?_take, if_pos ha]
  · rw [List.getElem?_append_right (by rw [e1]; omega), e1]
    by_cases hb : j < dp + n
    · rw [List.getElem?_append_left (by rw [e2]; omega), if_pos ⟨by omega, hb⟩, List.getElem?_take, if_pos (by omega), List.getElem?_drop]
    · rw [List.getElem?_append_right (by rw [e2]; omega), e2, if_neg (by omega), List.getElem?_drop]
      congr 1
      omega
theorem xm_cpy_len (f g : List Int) (sp dp n : Nat) (h1 : sp + n ≤ f.length) (h2 : dp + n ≤ g.length) : (xm_cpy f g sp dp n).length = g.length := by
  unfold xm_cpy
  rw [List.length_append, List.length_append, List.length_take, List.length_take, List.length_drop, List.length_drop]
  omega
theorem xm_copy_ok {w w' : xm_W} {k0 k1 : Nat} {sp dp n : Int} (h : xm_copy w k0 sp k1 dp n = some w') : ∃ f g, w[k0]? = some (.inl f) ∧ w[k1]? = some (.inl g) ∧ 0 ≤ sp ∧ 0 ≤ dp ∧ 0 ≤ n ∧ sp + n ≤ f.length ∧ dp + n ≤ g.length ∧ w' = w.set k1 (.inl (xm_cpy f g sp.toNat dp.toNat n.toNat)) := by
  unfold xm_copy at h
  split at h
  next f g hf hg =>
    split at h
    next hh =>
      cases h
      exact ⟨f, g, hf, hg, hh.1, hh.2.1, hh.2.2.1, hh.2.2.2.1, hh.2.2.2.2, rfl⟩
    next => cases h
  next => cases h
section xm_sec6
variable {p : Program} {l : Launch} {e : Env} {R : Room} {s : State} {m : MethodId} {args : Array Value} {below : List Frame} {meth : Method} {c : Code} {Q : State → Prop} {cc : ByteArray} {nL mc ms rk : Nat} {own : String} {ini : Bool} {G : xm_G} {o : xm_W} {cd : List xm_I} {k : xm_Kt} {q : Option xm_V × xm_W} {mt : Nat → Option xm_M} {call : Nat → List xm_V → xm_W → xm_R} {pc nx a b d : Nat} {ps : List Nat} {sw : List (Int × Nat)} {L : List (Option xm_V)} {st : List xm_V} {w : xm_W}
theorem xm_s_copy {j : Nat} {n dp sp : Int} {k0 k1 : Nat} {r : List xm_V} {w' : xm_W} (F : xm_Fr p s m args meth c cc nL own ini G o) (hk : xm_Sim p l e R s m args below meth c Q G nL mc ms cd k q) (hR : 1 ≤ R.frames ∧ 60 ≤ R.locals) (hr4 : r.length ≤ 4) (hd : decode cc pc = .ok (.invokestatic j, 3)) (hn : xm_pc cd nx = some (pc + 3))
    (hlink : (Cond.methodLink own j arraycopyName).before args s = true) (hnat : (Cond.native arraycopyName).before args s = true) (hstat : (Cond.static arraycopyName).before args s = true) (hini : (Cond.initialized "java/lang/System").before args s = true)
    (hw : xm_copy w k0 sp k1 dp n = some w') (h : k nx L r w' = some q) : xm_Con p l e R s m args below meth c Q G nL mc ms q pc L (.inl n :: .inl dp :: .inr (.inl (some k1)) :: .inl sp :: .inr (.inl (some k0)) :: r) w := by
  obtain ⟨f, g, hf, hg, h1, h2, h3, h4, h5, rfl⟩ := xm_copy_ok hw
  have hszc : xm_szC (.inl (xm_cpy f g sp.toNat dp.toNat n.toNat)) = xm_szC (.inl g) := xm_cpy_len f g _ _ _ (by omega) (by omega)
  refine ⟨xm_gr_tr (xm_gr_set hg hszc) (hk _ _ _ _ h).1, fun ls H locs cells slots hr => ?_⟩
  have hrep := hr.2.2.1
  have h6 := hrep.lt hf
  have h7 := hrep.lt hg
  have hK := F.2.2.2.2.2.1.2.1
  have hokf : xm_okC (.inl f) := hrep.okc hf
  have hokg : xm_okC (.inl g) := hrep.okc hg
  have hin := xm_c1 hr.2.1
  have hidp := xm_c1 (xm_c2 hr.2.1)
  have hisp := xm_c1 (xm_c2 (xm_c2 (xm_c2 hr.2.1)))
  have hst5 := xm_c2 (xm_c2 (xm_c2 (xm_c2 (xm_c2 hr.2.1))))
  have hc0 : H[G.2.2.1 + k0]? = some (vp_cell (G.2.1 0) (f.length, .inl (fun j => Int32.ofInt (f.getD j 0)))) := hrep.at hf
  have hc1 : H[G.2.2.1 + k1]? = some (vp_cell (G.2.1 0) (g.length, .inl (fun j => Int32.ofInt (g.getD j 0)))) := hrep.at hg
  have cn := xm_clamp hin
  have cdp := xm_clamp hidp
  have csp := xm_clamp hisp
  show W _ _ _ _ _ _ _ _ _ _ _ _ _ _ _ (F0 m pc ls (.int (Int32.ofInt n) :: .int (Int32.ofInt dp) :: .ref (xm_ad G k1) :: .int (Int32.ofInt sp) :: .ref (xm_ad G k0) :: r.map (xm_v G)))
  rw [xm_ad_lo h6, xm_ad_lo h7]
  intro T hT X
  obtain ⟨-, kk0, hk0, cm0, hkk0⟩ := (hK.2 0 _ rfl).1 f.length (fun j => .int (Int32.ofInt (f.getD j 0)))
  obtain ⟨-, kk1, hk1, cm1, hkk1⟩ := (hK.2 0 _ rfl).1 g.length (fun j => .int (Int32.ofInt (g.getD j 0)))
  have hcat := xm_cats (r.map (xm_v G))
  rw [List.length_map] at hcat
  have hnw : nativeFrameWords "java/lang/System" "arraycopy" 5 ≤ 36 := by decide +kernel
  obtain ⟨vm', X', step⟩ := X.arraycopy F.1 F.2.2.2.1 hlink hnat hstat hini (src := G.2.2.1 + k0) (dst := G.2.2.1 + k1) (cs := vp_cell (G.2.1 0) (f.length, .inl (fun j => Int32.ofInt (f.getD j 0)))) (cd := vp_cell (G.2.1 0) (g.length, .inl (fun j => Int32.ofInt (g.getD j 0)))) (srcPos := Int32.ofInt sp) (destPos := Int32.ofInt dp) (n := Int32.ofInt n) (by rw [hT]; exact hc0) (by rw [hT]; exact hc1)
    (fun _ h => by cases h) (fun _ h => by cases h) (fun h => by cases h) (fun h => by cases h) hk0 hk1 hkk0 hkk1 (by simp [refKind]) (fun z => by have := (xm_lt0 hisp).mp z; omega) (fun z => by have := (xm_lt0 hidp).mp z; omega) (fun z => by have := (xm_lt0 hin).mp z; omega)
    (by rw [xm_tic hisp, xm_tic hin]; show ¬ _ > ((arrV _ f.length (fun j => .int (Int32.ofInt (f.getD j 0)))).slots.size : Int); rw [arrV_size]; omega)
    (by rw [xm_tic hidp, xm_tic hin]; show ¬ _ > ((arrV _ g.length (fun j => .int (Int32.ofInt (g.getD j 0)))).slots.size : Int); rw [arrV_size]; omega)
    (fun vm₁ _ i hi => by
      have e : (vp_cell (G.2.1 0) (f.length, .inl (fun j => Int32.ofInt (f.getD j 0)))).slots.getD ((Int32.ofInt sp).toNatClampNeg + i) .null = .int (Int32.ofInt (f.getD ((Int32.ofInt sp).toNatClampNeg + i) 0)) := by
        show (arrV _ f.length (fun j => .int (Int32.ofInt (f.getD j 0)))).slots.getD _ _ = _
        rw [Array.getD_eq_getD_getElem?, arrV_read _ _ (by rw [csp]; rw [cn] at hi; omega)]
        rfl
      refine ⟨?_, ?_⟩
      · rw [e]; rfl
      · rw [e]; exact trivial)
    (g := F0 m pc ls (.int (Int32.ofInt n) :: .int (Int32.ofInt dp) :: .ref (G.2.2.1 + k1) :: .int (Int32.ofInt sp) :: .ref (G.2.2.1 + k0) :: r.map (xm_v G))) rfl (by rw [F.2.2.1]; exact hr.1.1.1) (rest := r.map (xm_v G)) rfl (by rw [F.2.1]; exact hd) hR.1 (by show 2 * 0 + _ + _ ≤ _; omega)
  have e1 : copied (vp_cell (G.2.1 0) (f.length, .inl (fun j => Int32.ofInt (f.getD j 0)))) (vp_cell (G.2.1 0) (g.length, .inl (fun j => Int32.ofInt (g.getD j 0)))) (Int32.ofInt sp) (Int32.ofInt dp) (Int32.ofInt n) = vp_cell (G.2.1 0) (g.length, .inl (va_cpy (fun j => Int32.ofInt (f.getD j 0)) (fun j => Int32.ofInt (g.getD j 0)) (Int32.ofInt sp).toNatClampNeg (Int32.ofInt dp).toNatClampNeg (Int32.ofInt n).toNatClampNeg)) := va_copied (fun z => .int z) (G.2.1 0) (G.2.1 0) (n0 := f.length) (n1 := g.length) (sp := (Int32.ofInt sp).toNatClampNeg) (dp := (Int32.ofInt dp).toNatClampNeg) (n := (Int32.ofInt n).toNatClampNeg) (fun j => Int32.ofInt (f.getD j 0)) (fun j => Int32.ofInt (g.getD j 0)) (by rw [csp, cn]; omega)
  rw [e1, csp, cdp, cn] at X' step
  have e2 : vp_cell (G.2.1 0) (g.length, .inl (va_cpy (fun j => Int32.ofInt (f.getD j 0)) (fun j => Int32.ofInt (g.getD j 0)) sp.toNat dp.toNat n.toNat)) = vp_cell (G.2.1 0) ((xm_cpy f g sp.toNat dp.toNat n.toNat).length, .inl (fun j => Int32.ofInt ((xm_cpy f g sp.toNat dp.toNat n.toNat).getD j 0))) := by
    rw [xm_cpy_len f g _ _ _ (by omega) (by omega)]
    congr 3
    funext jj
    rw [List.getD_eq_getElem?_getD, xm_cpy_at f g _ _ _ _ (by omega) (by omega)]
    unfold va_cpy
    by_cases hh : dp.toNat ≤ jj ∧ jj < dp.toNat + n.toNat
    · rw [if_pos hh, if_pos hh]; simp only [List.getD_eq_getElem?_getD]
    · rw [if_neg hh, if_neg hh]; simp only [List.getD_eq_getElem?_getD]
  rw [e2] at X' step
  have hl : G.2.2.1 + k1 < H.size := (Array.getElem?_eq_some_iff.mp hc1).1
  generalize hcell : vp_cell (G.2.1 0) ((xm_cpy f g sp.toNat dp.toNat n.toNat).length, .inl (fun j => Int32.ofInt ((xm_cpy f g sp.toNat dp.toNat n.toNat).getD j 0))) = cell at X' step
  have hheap : ((T.setVm vm').setCell (G.2.2.1 + k1) cell).heap = H.setIfInBounds (G.2.2.1 + k1) cell := by rw [← hT]; rfl
  have oq : ∀ q : Nat, q ≠ G.2.2.1 + k1 → (H.setIfInBounds (G.2.2.1 + k1) cell)[q]? = H[q]? := fun q hq => by simp [Array.getElem?_setIfInBounds, Ne.symm hq]
  have hrep' : xm_Rep G (w.set k1 (.inl (xm_cpy f g sp.toNat dp.toNat n.toNat))) (H.setIfInBounds (G.2.2.1 + k1) cell) := hrep.set (by
      show (H.setIfInBounds (G.2.2.1 + k1) cell)[_]? = some (vp_cell _ _)
      rw [hcell]
      simp [Array.getElem?_setIfInBounds, hl]) (fun z hz => by
      obtain ⟨jj, hjj⟩ := List.getElem?_of_mem hz
      rw [xm_cpy_at f g _ _ _ _ (by omega) (by omega)] at hjj
      split at hjj
      · exact hokf z (List.mem_of_getElem? hjj)
      · exact hokg z (List.mem_of_getElem? hjj)) (by simp) oq
  have hS := hr.2.2.2.1
  have hacc := hr.2.2.2.2
  obtain ⟨t, a1, b1⟩ := (hk _ _ _ _ h).2 _ hn ls (H.setIfInBounds (G.2.2.1 + k1) cell) (locs ++ _) cells slots ⟨hr.1, hst5, hrep', ⟨by simp; exact hS.1, fun q g1 g2 => by
      rw [oq q (fun e => g2 (by rw [e]; exact Nat.le_add_right _ _))]
      exact hS.2.1 q g1 g2, fun q hq => by
      rcases List.mem_append.mp hq with h | h
      · exact hS.2.2 q h
      · obtain ⟨z, -, hz⟩ := List.mem_map.mp h
        rw [← hz]
        exact Nat.le_add_right _ _⟩, by rw [List.length_set]; exact hacc.1, by rw [xm_sz_set hg hszc]; exact hacc.2⟩ _ hheap X'
  exact ⟨t, step t a1, b1⟩
end xm_sec6
end
section
/-- a method's ends -/
def xm_Ret (p : Program) (l : Launch) (e : Env) (R : Room) (s : State) (m : MethodId) (args : Array Value) (below : List Frame) (meth : Method) (c : Code) (Q : State → Prop) (G : xm_G) (cc : ByteArray) (mc ms rk : Nat) (q : Option xm_V × xm_W) : Prop :=
  ∀ pc ls H locs, xm_Rep G q.2 H → va_S (xm_A G) s.heap H locs →
    (∀ z, q.1 = some (.inl z) → xm_ok (.inl z) → (rk = 1 ∨ rk = 2 ∨ rk = 4) → decode cc pc = .ok (.ireturn, 1) → W p l e R s m args below meth c H locs mc ms Q (F0 m pc ls [.int (Int32.ofInt z)])) ∧
    (∀ x, q.1 = some (.inr (.inl x)) → rk = 3 → decode cc pc = .ok (.areturn, 1) → W p l e R s m args below meth c H locs mc ms Q (F0 m pc ls [xm_v G (.inr (.inl x))])) ∧
    (q.1 = none → rk = 0 → decode cc pc = .ok (.return_, 1) → W p l e R s m args below meth c H locs mc ms Q (F0 m pc ls []))
section xm_sec7
variable {p : Program} {l : Launch} {e : Env} {R : Room} {s : State} {m : MethodId} {args : Array Value} {below : List Frame} {meth : Method} {c : Code} {Q : State → Prop} {cc : ByteArray} {nL mc ms rk : Nat} {own : String} {ini : Bool} {G : xm_G} {o : xm_W} {cd : List xm_I} {k : xm_Kt} {q : Option xm_V × xm_W} {mt : Nat → Option xm_M} {call : Nat → List xm_V → xm_W → xm_R} {pc nx a b d : Nat} {ps : List Nat} {sw : List (Int × Nat)} {L : List (Option xm_V)} {st : List xm_V} {w : xm_W}
theorem xm_s_ireturn (hret : xm_Ret p l e R s m args below meth c Q G cc mc ms rk q) (hc : xm_chk own ini cc cd nL rk mt (.ireturn, pc, nx, a, b, ps, sw) = true) (h : xm_step o xm_sta call (.ireturn, pc, nx, a, b, ps, sw) L st w k = some q) : xm_Con p l e R s m args below meth c Q G nL mc ms q pc L st w := by
  simp only [xm_chk, Bool.and_eq_true, decide_eq_true_eq] at hc
  simp only [xm_step] at h
  split at h
  next x =>
    cases h
    refine ⟨xm_gr_rf _, fun ls H locs cells slots hr => ?_⟩
    have h5 : cells + w.length = mc + w.length ∧ slots + xm_sz w = ms + xm_sz w := hr.2.2.2.2
    have e1 : cells = mc := by omega
    have e2 : slots = ms := by omega
    subst e1; subst e2
    exact (hret pc ls H locs hr.2.2.1 hr.2.2.2.1).1 x rfl (xm_c1 hr.2.1) hc.2 (xm_dec_ok hc.1)
  next => cases h
theorem xm_s_areturn (hret : xm_Ret p l e R s m args below meth c Q G cc mc ms rk q) (hc : xm_chk own ini cc cd nL rk mt (.areturn, pc, nx, a, b, ps, sw) = true) (h : xm_step o xm_sta call (.areturn, pc, nx, a, b, ps, sw) L st w k = some q) : xm_Con p l e R s m args below meth c Q G nL mc ms q pc L st w := by
  simp only [xm_chk, Bool.and_eq_true, decide_eq_true_eq] at hc
  simp only [xm_step] at h
  split at h
  next x =>
    cases h
    refine ⟨xm_gr_rf _, fun ls H locs cells slots hr => ?_⟩
    have h5 : cells + w.length = mc + w.length ∧ slots + xm_sz w = ms + xm_sz w := hr.2.2.2.2
    have e1 : cells = mc := by omega
    have e2 : slots = ms := by omega
    subst e1; subst e2
    exact (hret pc ls H locs hr.2.2.1 hr.2.2.2.1).2.1 x rfl hc.2 (xm_dec_ok hc.1)
  next => cases h
theorem xm_s_return (hret : xm_Ret p l e R s m args below meth c Q G cc mc ms rk q) (hc : xm_chk own ini cc cd nL rk mt (.return_, pc, nx, a, b, ps, sw) = true) (h : xm_step o xm_sta call (.return_, pc, nx, a, b, ps, sw) L st w k = some q) : xm_Con p l e R s m args below meth c Q G nL mc ms q pc L st w := by
  simp only [xm_chk, Bool.and_eq_true, decide_eq_true_eq] at hc
  simp only [xm_step] at h
  split at h
  next =>
    cases h
    refine ⟨xm_gr_rf _, fun ls H locs cells slots hr => ?_⟩
    have h5 : cells + w.length = mc + w.length ∧ slots + xm_sz w = ms + xm_sz w := hr.2.2.2.2
    have e1 : cells = mc := by omega
    have e2 : slots = ms := by omega
    subst e1; subst e2
    exact (hret pc ls H locs hr.2.2.1 hr.2.2.2.1).2.2 rfl hc.2 (xm_dec_ok hc.1)
  next => cases h
theorem xm_step_ok {en : xm_I} (F : xm_Fr p s m args meth c cc nL own ini G o) (hk : xm_Sim p l e R s m args below meth c Q G nL mc ms cd k q) (hret : xm_Ret p l e R s m args below meth c Q G cc mc ms rk q) (hcal : xm_Cal l G o mt d call) (hwf : q.2.length < 1000000) (hmc : mc ≤ R.cells ∧ ms ≤ R.slots) (hR : d + 1 ≤ R.frames ∧ 60 * d + 60 ≤ R.locals) (hc : xm_chk own ini cc cd nL rk mt en = true) (h : xm_step o xm_sta call en L st w k = some q) : xm_Con p l e R s m args below meth c Q G nL mc ms q en.2.1 L st w := by
  obtain ⟨ins, pc, nx, a, b, ps, sw⟩ := en
  cases ins
  case iadd => exact xm_s_iadd F hk hc h
  case isub => exact xm_s_isub F hk hc h
  case imul => exact xm_s_imul F hk hc h
  case iand => exact xm_s_iand F hk hc h
  case ior => exact xm_s_ior F hk hc h
  case ixor => exact xm_s_ixor F hk hc h
  case ishl => exact xm_s_ishl F hk hc h
  case ishr => exact xm_s_ishr F hk hc h
  case iushr => exact xm_s_iushr F hk hc h
  case idiv => exact xm_s_idiv F hk hc h
  case irem => exact xm_s_irem F hk hc h
  case ineg => exact xm_s_ineg F hk hc h
  case i2b => exact xm_s_i2b F hk hc h
  case i2s => exact xm_s_i2s F hk hc h
  case i2c => exact xm_s_i2c F hk hc h
  case i2l => exact xm_s_i2l F hk hc h
  case l2i => exact xm_s_l2i F hk hc h
  case land => exact xm_s_land F hk hc h
  case lor => exact xm_s_lor F hk hc h
  case lshl => exact xm_s_lshl F hk hc h
  case lshr => exact xm_s_lshr F hk hc h
  case lushr => exact xm_s_lushr F hk hc h
  case dup => exact xm_s_dup F hk hc h
  case dup_x1 => exact xm_s_dup_x1 F hk hc h
  case dup2 => exact xm_s_dup2 F hk hc h
  case pop => exact xm_s_pop F hk hc h
  case iaload => exact xm_s_iaload F hk hc h
  case baload => exact xm_s_baload F hk hc h
  case iastore => exact xm_s_iastore F hk hc h
  case aaload => exact xm_s_aaload F hk hc h
  case aastore => exact xm_s_aastore F hk hc h
  case arraylength => exact xm_s_arraylength F hk hc h
  case aconst_null => exact xm_s_null F hk hc h
  case iconst z => exact xm_s_iconst F hk hc h
  case bipush z => exact xm_s_bipush F hk hc h
  case sipush z => exact xm_s_sipush F hk hc h
  case iload z => exact xm_s_iload F hk hc h
  case iload_n z => exact xm_s_iload_n F hk hc h
  case lload_n z => exact xm_s_lload_n F hk hc h
  case aload z => exact xm_s_aload F hk hc h
  case aload_n z => exact xm_s_aload_n F hk hc h
  case istore z => exact xm_s_istore F hk hc h
  case istore_n z => exact xm_s_istore_n F hk hc h
  case astore z => exact xm_s_astore F hk hc h
  case astore_n z => exact xm_s_astore_n F hk hc h
  case goto z => exact xm_s_goto F hk hc h
  case ifnull z => exact xm_s_ifnull F hk hc h
  case ifnonnull z => exact xm_s_ifnonnull F hk hc h
  case getfield z => exact xm_s_getfield F hk hc h
  case putfield z => exact xm_s_putfield F hk hc h
  case getstatic z => exact xm_s_getstatic F hk hc h
  case ldc z => exact xm_s_ldc F hk hc h
  case ldc_w z => exact xm_s_ldc_w F hk hc h
  case ldc2_w z => exact xm_s_ldc2_w F hk hc h
  case iinc y z => exact xm_s_iinc F hk hc h
  case ifCond y z => exact xm_s_ifCond F hk hc h
  case if_icmp y z => exact xm_s_if_icmp F hk hc h
  case lookupswitch y z => exact xm_s_lookupswitch F hk hc h
  case tableswitch x y z u => exact xm_s_tableswitch F hk hc h
  case new z => exact xm_s_new F hk hwf hmc hc h
  case newarray z => exact xm_s_newarray F hk hwf hmc hc h
  case anewarray z => exact xm_s_anewarray F hk hwf hmc hc h
  case invokevirtual j =>
    simp only [xm_chk, Bool.and_eq_true] at hc
    simp only [xm_step] at h
    exact xm_inv (kk := 0) (Or.inl ⟨rfl, rfl⟩) F hk hwf hmc hR hcal (xm_dec_ok hc.1.1) (xm_ofn hc.1.2) hc.2 h
  case invokespecial j =>
    simp only [xm_chk, Bool.and_eq_true] at hc
    simp only [xm_step] at h
    by_cases ha : a = 1
    · rw [if_pos ha] at h hc
      obtain ⟨⟨hd, hn⟩, hc2⟩ := hc
      split at h
      next z r =>
        split at h
        next hr4 =>
          match ps, hc2 with
          | [q0, q1, q2], hc2 =>
            simp only [Bool.and_eq_true] at hc2
            refine ⟨(hk _ _ _ _ h).1, fun ls H locs cells slots hr => ?_⟩
            have hcat := xm_cats (r.map (xm_v G))
            rw [List.length_map] at hcat
            refine W.objInit (a := xm_ad G z) (rest := r.map (xm_v G)) F.1 F.2.1 F.2.2.2.1 (F.gd hc2.1.1) (F.gd hc2.1.2) (F.gd hc2.2) rfl (by rw [F.2.2.1]; exact hr.1.1.1) rfl (xm_dec_ok hd) (by omega) (by show 2 * 0 + _ + _ ≤ _; omega) ?_
            exact (hk _ _ _ _ h).2 _ (xm_ofn hn) _ _ _ _ _ (hr.stk (xm_c2 hr.2.1))
        next => cases h
      next => cases h
    · rw [if_neg ha] at h hc
      exact xm_inv (kk := 1) (Or.inr (Or.inl ⟨rfl, rfl⟩)) F hk hwf hmc hR hcal (xm_dec_ok hc.1.1) (xm_ofn hc.1.2) hc.2 h
  case invokestatic j =>
    simp only [xm_chk, Bool.and_eq_true] at hc
    simp only [xm_step] at h
    by_cases ha : a = 2
    · rw [if_pos ha] at h hc
      split at h
      next n dp k1 sp k0 r =>
        split at h
        next hr4 =>
         split at h
         next w' hw' =>
          obtain ⟨⟨hd, hn⟩, hc2⟩ := hc
          match ps, hc2 with
          | [q0, q1, q2, q3], hc2 =>
            simp only [Bool.and_eq_true] at hc2
            exact xm_s_copy F hk ⟨by omega, by omega⟩ hr4 (xm_dec_ok hd) (xm_ofn hn) (F.gd hc2.1.1.1) (F.gd hc2.1.1.2) (F.gd hc2.1.2) (F.gd hc2.2) hw' h
         next => cases h
        next => cases h
      next => cases h
    · rw [if_neg ha] at h hc
      by_cases ha6 : a < 6
      · rw [if_pos ha6] at h hc
        obtain ⟨⟨hd, hn⟩, hc2⟩ := hc
        split at h
        next r hr =>
          split at h
          next hr5 =>
            refine ⟨(hk _ _ _ _ h).1, fun ls H locs cells slots hrl => ?_⟩
            have hsz : c.maxLocals = ls.size := by rw [F.2.2.1]; exact hrl.1.1.1.symm
            have hacc := hrl.2.2.2.2
            have hgr := (hk _ _ _ _ h).1
            have hg1 := hgr.1
            have hg2 := hgr.2
            unfold xm_mth at hr
            split at hr
            next y x r' =>
              cases hr
              match ps, hc2 with
              | [q0, q1, q2, q3], hc2 =>
                simp only [xm_cm, Bool.and_eq_true] at hc2
                have hy := xm_c1 hrl.2.1
                have hx := xm_c1 (xm_c2 hrl.2.1)
                have hcat := xm_cats (r'.map (xm_v G))
                rw [List.length_map] at hcat
                rw [List.length_cons] at hr5
                refine va_mmax F.1 F.2.1 hsz F.2.2.2.1 (F.gd hc2.1.1.1) (F.gd hc2.1.1.2) (F.gd hc2.1.2) (F.gd hc2.2) (by omega) (by omega) (by omega) (by omega) (xm_dec_ok hd) ?_
                have e1 : (if Int32.ofInt x < Int32.ofInt y then Int32.ofInt y else Int32.ofInt x) = Int32.ofInt (if x < y then y else x) := by
                  by_cases hh : x < y
                  · rw [if_pos hh, if_pos ((xm_lt hx hy).mpr hh)]
                  · rw [if_neg hh, if_neg (fun z => hh ((xm_lt hx hy).mp z))]
                rw [e1]
                exact (hk _ _ _ _ h).2 _ (xm_ofn hn) _ _ _ _ _ (hrl.stk (xm_c3 (by split <;> assumption) (xm_c2 (xm_c2 hrl.2.1))))
            next y x r' =>
              cases hr
              match ps, hc2 with
              | [q0, q1, q2, q3], hc2 =>
                simp only [xm_cm, Bool.and_eq_true] at hc2
                have hy := xm_c1 hrl.2.1
                have hx := xm_c1 (xm_c2 hrl.2.1)
                have hcat := xm_cats (r'.map (xm_v G))
                rw [List.length_map] at hcat
                rw [List.length_cons] at hr5
                refine va_mmin F.1 F.2.1 hsz F.2.2.2.1 (F.gd hc2.1.1.1) (F.gd hc2.1.1.2) (F.gd hc2.1.2) (F.gd hc2.2) (by omega) (by omega) (by omega) (by omega) (xm_dec_ok hd) ?_
                have e1 : (if Int32.ofInt y < Int32.ofInt x then Int32.ofInt y else Int32.ofInt x) = Int32.ofInt (if y < x then y else x) := by
                  by_cases hh : y < x
                  · rw [if_pos hh, if_pos ((xm_lt hy hx).mpr hh)]
                  · rw [if_neg hh, if_neg (fun z => hh ((xm_lt hy hx).mp z))]
                rw [e1]
                exact (hk _ _ _ _ h).2 _ (xm_ofn hn) _ _ _ _ _ (hrl.stk (xm_c3 (by split <;> assumption) (xm_c2 (xm_c2 hrl.2.1))))
            next x r' =>
              cases hr
              match ps, hc2 with
              | [q0, q1, q2, q3], hc2 =>
                simp only [xm_cm, Bool.and_eq_true] at hc2
                have hx := xm_c1 hrl.2.1
                have hcat := xm_cats (r'.map (xm_v G))
                rw [List.length_map] at hcat
                rw [List.length_cons] at hr5
                refine va_mabs F.1 F.2.1 hsz F.2.2.2.1 (F.gd hc2.1.1.1) (F.gd hc2.1.1.2) (F.gd hc2.1.2) (F.gd hc2.2) (by omega) (by omega) (by omega) (by omega) (xm_dec_ok hd) ?_
                have e1 : (if 0 ≤ Int32.ofInt x then Int32.ofInt x else 0 - Int32.ofInt x) = Int32.ofInt (if 0 ≤ x then x else xm_w (0 - x)) := by
                  by_cases hh : 0 ≤ x
                  · rw [if_pos hh, if_pos ((xm_0le hx).mpr hh)]
                  · rw [if_neg hh, if_neg (fun z => hh ((xm_0le hx).mp z))]
                    exact xm_sub (x := 0) ⟨by decide, by decide⟩ hx
                rw [e1]
                exact (hk _ _ _ _ h).2 _ (xm_ofn hn) _ _ _ _ _ (hrl.stk (xm_c3 (by split <;> first | assumption | exact xm_okw _) (xm_c2 hrl.2.1)))
            next => cases hr
          next => cases h
        next => cases h
      rw [if_neg ha6] at h hc
      exact xm_inv (kk := 2) (Or.inr (Or.inr ⟨rfl, rfl⟩)) F hk hwf hmc hR hcal (xm_dec_ok hc.1.1) (xm_ofn hc.1.2) hc.2 h
  case ireturn => exact xm_s_ireturn hret hc h
  case areturn => exact xm_s_areturn hret hc h
  case return_ => exact xm_s_return hret hc h
  all_goals (simp only [xm_step] at h; cases h)
theorem xm_run_ok (F : xm_Fr p s m args meth c cc nL own ini G o) (hret : xm_Ret p l e R s m args below meth c Q G cc mc ms rk q) (hcal : xm_Cal l G o mt d call) (hwf : q.2.length < 1000000) (hmc : mc ≤ R.cells ∧ ms ≤ R.slots) (hR : d + 1 ≤ R.frames ∧ 60 * d + 60 ≤ R.locals) (hchk : ∀ en ∈ cd, xm_chk own ini cc cd nL rk mt en = true) :
    ∀ n, xm_Sim p l e R s m args below meth c Q G nL mc ms cd (xm_run o xm_sta call cd n) q
  | 0 => fun i L st w h => by cases h
  | n + 1 => fun i L st w h => by
    unfold xm_run at h
    split at h
    next en hen =>
      have K := xm_step_ok F (xm_run_ok F hret hcal hwf hmc hR hchk n) hret hcal hwf hmc hR (hchk en (List.mem_of_getElem? hen)) h
      refine ⟨K.1, fun pc hpc => ?_⟩
      have : en.2.1 = pc := by
        unfold xm_pc at hpc
        rw [hen] at hpc
        exact Option.some.inj hpc
      subst this
      exact K.2
    next => cases h
end xm_sec7
end
