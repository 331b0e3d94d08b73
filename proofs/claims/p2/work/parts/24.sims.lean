/-- what a frame stands on -/
def xm_Fr (p : Program) (s : State) (m : MethodId) (args : Array Value) (meth : Method) (c : Code) (cc : ByteArray) (nL : Nat) (own : String) (ini : Bool) (G : xm_G) (o : xm_W) : Prop :=
  p.tables.exec = Jvm.exec ∧ c.code = cc ∧ c.maxLocals = nL ∧ s.vm.findClass own = some m.cls ∧ (∀ w ∈ lw_tbl, goodWord w = true → w.before args s = true) ∧ xm_Kn G o xm_sta xm_sts xm_str s s.heap ∧ (ini = true → meth.name = "<init>") ∧ G.2.2.1 ≤ s.heap.size
def xm_Rl (G : xm_G) (s : State) (nL mc ms : Nat) (wf : xm_W) (L : List (Option xm_V)) (st : List xm_V) (w : xm_W) (ls : Array Slot) (H : Heap) (locs : List Loc) (cells slots : Nat) : Prop :=
  (lv_has ls nL (xm_lv G L) ∧ L.length = nL ∧ ∀ v, some v ∈ L → xm_ok v) ∧ (∀ v ∈ st, xm_ok v) ∧ xm_Rep G w H ∧ va_S (xm_A G) s.heap H locs ∧ (cells + wf.length = mc + w.length ∧ slots + xm_sz wf = ms + xm_sz w)
def xm_Con (p : Program) (l : Launch) (e : Env) (R : Room) (s : State) (m : MethodId) (args : Array Value) (below : List Frame) (meth : Method) (c : Code) (Q : State → Prop) (G : xm_G) (nL mc ms : Nat) (q : Option xm_V × xm_W) (pc : Nat) (L : List (Option xm_V)) (st : List xm_V) (w : xm_W) : Prop :=
  xm_gr w q.2 ∧ ∀ ls H locs cells slots, xm_Rl G s nL mc ms q.2 L st w ls H locs cells slots → W p l e R s m args below meth c H locs cells slots Q (F0 m pc ls (st.map (xm_v G)))
def xm_Sim (p : Program) (l : Launch) (e : Env) (R : Room) (s : State) (m : MethodId) (args : Array Value) (below : List Frame) (meth : Method) (c : Code) (Q : State → Prop) (G : xm_G) (nL mc ms : Nat) (cd : List xm_I) (k : xm_Kt) (q : Option xm_V × xm_W) : Prop :=
  ∀ i L st w, k i L st w = some q → xm_gr w q.2 ∧ ∀ pc, xm_pc cd i = some pc → ∀ ls H locs cells slots, xm_Rl G s nL mc ms q.2 L st w ls H locs cells slots → W p l e R s m args below meth c H locs cells slots Q (F0 m pc ls (st.map (xm_v G)))
theorem xm_Rl.stk {G : xm_G} {s : State} {nL mc ms : Nat} {wf : xm_W} {L : List (Option xm_V)} {st st' : List xm_V} {w : xm_W} {ls : Array Slot} {H : Heap} {locs : List Loc} {cells slots : Nat} (h : xm_Rl G s nL mc ms wf L st w ls H locs cells slots) (h2 : ∀ v ∈ st', xm_ok v) : xm_Rl G s nL mc ms wf L st' w ls H locs cells slots := ⟨h.1, h2, h.2.2⟩
theorem xm_Rl.loc {G : xm_G} {s : State} {nL mc ms a : Nat} {wf : xm_W} {L : List (Option xm_V)} {st st' : List xm_V} {w : xm_W} {ls ls' : Array Slot} {H : Heap} {locs : List Loc} {cells slots : Nat} (h : xm_Rl G s nL mc ms wf L st w ls H locs cells slots) {v : xm_V} (hv : xm_ok v) (hl : lv_has ls' nL ((a, xm_v G v) :: (xm_lv G L).filter (fun q => !(q.1 == a) && !(q.1 + 1 == a && q.2.category == 2)))) (hnl : xm_nl L a = true) (h2 : ∀ v ∈ st', xm_ok v) : xm_Rl G s nL mc ms wf (L.set a (some v)) st' w ls' H locs cells slots := by
  refine ⟨⟨xm_lv_set hl hnl, by rw [List.length_set]; exact h.1.2.1, fun u hu => ?_⟩, h2, h.2.2⟩
  rcases List.mem_or_eq_of_mem_set hu with h3 | h3
  · exact h.1.2.2 u h3
  · cases h3; exact hv
section xm_sec
variable {p : Program} {l : Launch} {e : Env} {R : Room} {s : State} {m : MethodId} {args : Array Value} {below : List Frame} {meth : Method} {c : Code} {Q : State → Prop} {cc : ByteArray} {nL mc ms rk : Nat} {own : String} {ini : Bool} {G : xm_G} {o : xm_W} {cd : List xm_I} {k : xm_Kt} {q : Option xm_V × xm_W} {mt : Nat → Option xm_M} {call : Nat → List xm_V → xm_W → xm_R} {pc nx a b : Nat} {ps : List Nat} {sw : List (Int × Nat)} {L : List (Option xm_V)} {st : List xm_V} {w : xm_W}
theorem xm_ofn {cd : List xm_I} {pc nx len : Nat} (h : xm_nx cd pc nx len = true) : xm_pc cd nx = some (pc + len) := by simpa [xm_nx] using h
theorem xm_c1 {v : xm_V} {st : List xm_V} (h : ∀ x ∈ v :: st, xm_ok x) : xm_ok v := h v List.mem_cons_self
theorem xm_c2 {v : xm_V} {st : List xm_V} (h : ∀ x ∈ v :: st, xm_ok x) : ∀ x ∈ st, xm_ok x := fun x hx => h x (List.mem_cons_of_mem _ hx)
theorem xm_c3 {v : xm_V} {st : List xm_V} (h : xm_ok v) (h2 : ∀ x ∈ st, xm_ok x) : ∀ x ∈ v :: st, xm_ok x := fun x hx => by
  rcases List.mem_cons.mp hx with rfl | hx
  · exact h
  · exact h2 x hx
theorem xm_okb_ok {z : Int} (h : xm_okb0 z = true) : xm_ok (.inl z) := by
  have g : -2147483648 ≤ z ∧ z < 2147483648 := of_decide_eq_true h
  exact g
theorem xm_okr (r : Option Nat) : xm_ok (.inr (.inl r)) := trivial
theorem xm_okl (r : Int64) : xm_ok (.inr (.inr r)) := trivial
theorem xm_s_iadd (F : xm_Fr p s m args meth c cc nL own ini G o) (hk : xm_Sim p l e R s m args below meth c Q G nL mc ms cd k q) (hc : xm_chk own ini cc cd nL rk mt (.iadd, pc, nx, a, b, ps, sw) = true) (h : xm_step o xm_sta call (.iadd, pc, nx, a, b, ps, sw) L st w k = some q) : xm_Con p l e R s m args below meth c Q G nL mc ms q pc L st w := by
  simp only [xm_chk, Bool.and_eq_true] at hc
  simp only [xm_step] at h
  split at h
  next y x r =>
    refine ⟨(hk _ _ _ _ h).1, fun ls H locs cells slots hr => ?_⟩
    have hy := xm_c1 hr.2.1
    have hx := xm_c1 (xm_c2 hr.2.1)
    refine lv_iadd F.1 F.2.1 (xm_dec_ok hc.1) ?_
    rw [xm_add hx hy]
    exact (hk _ _ _ _ h).2 _ (xm_ofn hc.2) _ _ _ _ _ (hr.stk (xm_c3 (xm_okw _) (xm_c2 (xm_c2 hr.2.1))))
  next => cases h
theorem xm_s_isub (F : xm_Fr p s m args meth c cc nL own ini G o) (hk : xm_Sim p l e R s m args below meth c Q G nL mc ms cd k q) (hc : xm_chk own ini cc cd nL rk mt (.isub, pc, nx, a, b, ps, sw) = true) (h : xm_step o xm_sta call (.isub, pc, nx, a, b, ps, sw) L st w k = some q) : xm_Con p l e R s m args below meth c Q G nL mc ms q pc L st w := by
  simp only [xm_chk, Bool.and_eq_true] at hc
  simp only [xm_step] at h
  split at h
  next y x r =>
    refine ⟨(hk _ _ _ _ h).1, fun ls H locs cells slots hr => ?_⟩
    have hy := xm_c1 hr.2.1
    have hx := xm_c1 (xm_c2 hr.2.1)
    refine lv_isub F.1 F.2.1 (xm_dec_ok hc.1) ?_
    rw [xm_sub hx hy]
    exact (hk _ _ _ _ h).2 _ (xm_ofn hc.2) _ _ _ _ _ (hr.stk (xm_c3 (xm_okw _) (xm_c2 (xm_c2 hr.2.1))))
  next => cases h
theorem xm_s_imul (F : xm_Fr p s m args meth c cc nL own ini G o) (hk : xm_Sim p l e R s m args below meth c Q G nL mc ms cd k q) (hc : xm_chk own ini cc cd nL rk mt (.imul, pc, nx, a, b, ps, sw) = true) (h : xm_step o xm_sta call (.imul, pc, nx, a, b, ps, sw) L st w k = some q) : xm_Con p l e R s m args below meth c Q G nL mc ms q pc L st w := by
  simp only [xm_chk, Bool.and_eq_true] at hc
  simp only [xm_step] at h
  split at h
  next y x r =>
    refine ⟨(hk _ _ _ _ h).1, fun ls H locs cells slots hr => ?_⟩
    have hy := xm_c1 hr.2.1
    have hx := xm_c1 (xm_c2 hr.2.1)
    refine lv_imul F.1 F.2.1 (xm_dec_ok hc.1) ?_
    rw [xm_mul hx hy]
    exact (hk _ _ _ _ h).2 _ (xm_ofn hc.2) _ _ _ _ _ (hr.stk (xm_c3 (xm_okw _) (xm_c2 (xm_c2 hr.2.1))))
  next => cases h
theorem xm_s_iand (F : xm_Fr p s m args meth c cc nL own ini G o) (hk : xm_Sim p l e R s m args below meth c Q G nL mc ms cd k q) (hc : xm_chk own ini cc cd nL rk mt (.iand, pc, nx, a, b, ps, sw) = true) (h : xm_step o xm_sta call (.iand, pc, nx, a, b, ps, sw) L st w k = some q) : xm_Con p l e R s m args below meth c Q G nL mc ms q pc L st w := by
  simp only [xm_chk, Bool.and_eq_true] at hc
  simp only [xm_step] at h
  split at h
  next y x r =>
    refine ⟨(hk _ _ _ _ h).1, fun ls H locs cells slots hr => ?_⟩
    have hy := xm_c1 hr.2.1
    have hx := xm_c1 (xm_c2 hr.2.1)
    refine lv_iand F.1 F.2.1 (xm_dec_ok hc.1) ?_
    rw [xm_of (rfl : _ = xm_and x y)]
    exact (hk _ _ _ _ h).2 _ (xm_ofn hc.2) _ _ _ _ _ (hr.stk (xm_c3 (xm_okt _) (xm_c2 (xm_c2 hr.2.1))))
  next => cases h
theorem xm_s_ior (F : xm_Fr p s m args meth c cc nL own ini G o) (hk : xm_Sim p l e R s m args below meth c Q G nL mc ms cd k q) (hc : xm_chk own ini cc cd nL rk mt (.ior, pc, nx, a, b, ps, sw) = true) (h : xm_step o xm_sta call (.ior, pc, nx, a, b, ps, sw) L st w k = some q) : xm_Con p l e R s m args below meth c Q G nL mc ms q pc L st w := by
  simp only [xm_chk, Bool.and_eq_true] at hc
  simp only [xm_step] at h
  split at h
  next y x r =>
    refine ⟨(hk _ _ _ _ h).1, fun ls H locs cells slots hr => ?_⟩
    have hy := xm_c1 hr.2.1
    have hx := xm_c1 (xm_c2 hr.2.1)
    refine lv_ior F.1 F.2.1 (xm_dec_ok hc.1) ?_
    rw [xm_of (rfl : _ = xm_or x y)]
    exact (hk _ _ _ _ h).2 _ (xm_ofn hc.2) _ _ _ _ _ (hr.stk (xm_c3 (xm_okt _) (xm_c2 (xm_c2 hr.2.1))))
  next => cases h
theorem xm_s_ixor (F : xm_Fr p s m args meth c cc nL own ini G o) (hk : xm_Sim p l e R s m args below meth c Q G nL mc ms cd k q) (hc : xm_chk own ini cc cd nL rk mt (.ixor, pc, nx, a, b, ps, sw) = true) (h : xm_step o xm_sta call (.ixor, pc, nx, a, b, ps, sw) L st w k = some q) : xm_Con p l e R s m args below meth c Q G nL mc ms q pc L st w := by
  simp only [xm_chk, Bool.and_eq_true] at hc
  simp only [xm_step] at h
  split at h
  next y x r =>
    refine ⟨(hk _ _ _ _ h).1, fun ls H locs cells slots hr => ?_⟩
    have hy := xm_c1 hr.2.1
    have hx := xm_c1 (xm_c2 hr.2.1)
    refine lv_ixor F.1 F.2.1 (xm_dec_ok hc.1) ?_
    rw [xm_of (rfl : _ = xm_xor x y)]
    exact (hk _ _ _ _ h).2 _ (xm_ofn hc.2) _ _ _ _ _ (hr.stk (xm_c3 (xm_okt _) (xm_c2 (xm_c2 hr.2.1))))
  next => cases h
theorem xm_s_ishl (F : xm_Fr p s m args meth c cc nL own ini G o) (hk : xm_Sim p l e R s m args below meth c Q G nL mc ms cd k q) (hc : xm_chk own ini cc cd nL rk mt (.ishl, pc, nx, a, b, ps, sw) = true) (h : xm_step o xm_sta call (.ishl, pc, nx, a, b, ps, sw) L st w k = some q) : xm_Con p l e R s m args below meth c Q G nL mc ms q pc L st w := by
  simp only [xm_chk, Bool.and_eq_true] at hc
  simp only [xm_step] at h
  split at h
  next y x r =>
    refine ⟨(hk _ _ _ _ h).1, fun ls H locs cells slots hr => ?_⟩
    have hy := xm_c1 hr.2.1
    have hx := xm_c1 (xm_c2 hr.2.1)
    refine lv_ishl F.1 F.2.1 (xm_dec_ok hc.1) ?_
    rw [xm_of (rfl : _ = xm_shl x y)]
    exact (hk _ _ _ _ h).2 _ (xm_ofn hc.2) _ _ _ _ _ (hr.stk (xm_c3 (xm_okt _) (xm_c2 (xm_c2 hr.2.1))))
  next => cases h
theorem xm_s_ishr (F : xm_Fr p s m args meth c cc nL own ini G o) (hk : xm_Sim p l e R s m args below meth c Q G nL mc ms cd k q) (hc : xm_chk own ini cc cd nL rk mt (.ishr, pc, nx, a, b, ps, sw) = true) (h : xm_step o xm_sta call (.ishr, pc, nx, a, b, ps, sw) L st w k = some q) : xm_Con p l e R s m args below meth c Q G nL mc ms q pc L st w := by
  simp only [xm_chk, Bool.and_eq_true] at hc
  simp only [xm_step] at h
  split at h
  next y x r =>
    refine ⟨(hk _ _ _ _ h).1, fun ls H locs cells slots hr => ?_⟩
    have hy := xm_c1 hr.2.1
    have hx := xm_c1 (xm_c2 hr.2.1)
    refine lv_ishr F.1 F.2.1 (xm_dec_ok hc.1) ?_
    rw [xm_of (rfl : _ = xm_shr x y)]
    exact (hk _ _ _ _ h).2 _ (xm_ofn hc.2) _ _ _ _ _ (hr.stk (xm_c3 (xm_okt _) (xm_c2 (xm_c2 hr.2.1))))
  next => cases h
theorem xm_s_iushr (F : xm_Fr p s m args meth c cc nL own ini G o) (hk : xm_Sim p l e R s m args below meth c Q G nL mc ms cd k q) (hc : xm_chk own ini cc cd nL rk mt (.iushr, pc, nx, a, b, ps, sw) = true) (h : xm_step o xm_sta call (.iushr, pc, nx, a, b, ps, sw) L st w k = some q) : xm_Con p l e R s m args below meth c Q G nL mc ms q pc L st w := by
  simp only [xm_chk, Bool.and_eq_true] at hc
  simp only [xm_step] at h
  split at h
  next y x r =>
    refine ⟨(hk _ _ _ _ h).1, fun ls H locs cells slots hr => ?_⟩
    have hy := xm_c1 hr.2.1
    have hx := xm_c1 (xm_c2 hr.2.1)
    refine lv_iushr F.1 F.2.1 (xm_dec_ok hc.1) (xm_of (rfl : _ = xm_ushr x y)) ?_
    skip
    exact (hk _ _ _ _ h).2 _ (xm_ofn hc.2) _ _ _ _ _ (hr.stk (xm_c3 (xm_okt _) (xm_c2 (xm_c2 hr.2.1))))
  next => cases h
theorem xm_s_idiv (F : xm_Fr p s m args meth c cc nL own ini G o) (hk : xm_Sim p l e R s m args below meth c Q G nL mc ms cd k q) (hc : xm_chk own ini cc cd nL rk mt (.idiv, pc, nx, a, b, ps, sw) = true) (h : xm_step o xm_sta call (.idiv, pc, nx, a, b, ps, sw) L st w k = some q) : xm_Con p l e R s m args below meth c Q G nL mc ms q pc L st w := by
  simp only [xm_chk, Bool.and_eq_true] at hc
  simp only [xm_step] at h
  split at h
  next y x r =>
    split at h
    next => cases h
    next hne =>
      refine ⟨(hk _ _ _ _ h).1, fun ls H locs cells slots hr => ?_⟩
      have hy := xm_c1 hr.2.1
      have hx := xm_c1 (xm_c2 hr.2.1)
      refine lv_idiv F.1 F.2.1 (xm_dec_ok hc.1) (fun z => hne ((xm_eq0 hy).mp z)) ?_
      rw [xm_div hx hy]
      exact (hk _ _ _ _ h).2 _ (xm_ofn hc.2) _ _ _ _ _ (hr.stk (xm_c3 (xm_okw _) (xm_c2 (xm_c2 hr.2.1))))
  next => cases h
theorem xm_okm {x y : Int} (hx : xm_ok (.inl x)) (hy : xm_ok (.inl y)) : xm_ok (.inl (x.tmod y)) := by
  rw [← xm_tic hx, ← xm_tic hy, ← Int32.toInt_mod]
  exact xm_okt _
theorem xm_s_irem (F : xm_Fr p s m args meth c cc nL own ini G o) (hk : xm_Sim p l e R s m args below meth c Q G nL mc ms cd k q) (hc : xm_chk own ini cc cd nL rk mt (.irem, pc, nx, a, b, ps, sw) = true) (h : xm_step o xm_sta call (.irem, pc, nx, a, b, ps, sw) L st w k = some q) : xm_Con p l e R s m args below meth c Q G nL mc ms q pc L st w := by
  simp only [xm_chk, Bool.and_eq_true] at hc
  simp only [xm_step] at h
  split at h
  next y x r =>
    split at h
    next => cases h
    next hne =>
      refine ⟨(hk _ _ _ _ h).1, fun ls H locs cells slots hr => ?_⟩
      have hy := xm_c1 hr.2.1
      have hx := xm_c1 (xm_c2 hr.2.1)
      refine lv_irem F.1 F.2.1 (xm_dec_ok hc.1) (fun z => hne ((xm_eq0 hy).mp z)) ?_
      rw [xm_mod hx hy]
      exact (hk _ _ _ _ h).2 _ (xm_ofn hc.2) _ _ _ _ _ (hr.stk (xm_c3 (xm_okm hx hy) (xm_c2 (xm_c2 hr.2.1))))
  next => cases h
theorem xm_s_ineg (F : xm_Fr p s m args meth c cc nL own ini G o) (hk : xm_Sim p l e R s m args below meth c Q G nL mc ms cd k q) (hc : xm_chk own ini cc cd nL rk mt (.ineg, pc, nx, a, b, ps, sw) = true) (h : xm_step o xm_sta call (.ineg, pc, nx, a, b, ps, sw) L st w k = some q) : xm_Con p l e R s m args below meth c Q G nL mc ms q pc L st w := by
  simp only [xm_chk, Bool.and_eq_true] at hc
  simp only [xm_step] at h
  split at h
  next x r =>
    refine ⟨(hk _ _ _ _ h).1, fun ls H locs cells slots hr => ?_⟩
    have hx := xm_c1 hr.2.1
    refine lv_ineg F.1 F.2.1 (xm_dec_ok hc.1) ?_
    rw [xm_neg hx]
    exact (hk _ _ _ _ h).2 _ (xm_ofn hc.2) _ _ _ _ _ (hr.stk (xm_c3 (xm_okw _) (xm_c2 hr.2.1)))
  next => cases h
theorem xm_s_i2b (F : xm_Fr p s m args meth c cc nL own ini G o) (hk : xm_Sim p l e R s m args below meth c Q G nL mc ms cd k q) (hc : xm_chk own ini cc cd nL rk mt (.i2b, pc, nx, a, b, ps, sw) = true) (h : xm_step o xm_sta call (.i2b, pc, nx, a, b, ps, sw) L st w k = some q) : xm_Con p l e R s m args below meth c Q G nL mc ms q pc L st w := by
  simp only [xm_chk, Bool.and_eq_true] at hc
  simp only [xm_step] at h
  split at h
  next x r =>
    refine ⟨(hk _ _ _ _ h).1, fun ls H locs cells slots hr => ?_⟩
    have hx := xm_c1 hr.2.1
    refine lv_i2b F.1 F.2.1 (xm_dec_ok hc.1) xm_i2b ?_
    skip
    exact (hk _ _ _ _ h).2 _ (xm_ofn hc.2) _ _ _ _ _ (hr.stk (xm_c3 (xm_okb _) (xm_c2 hr.2.1)))
  next => cases h
theorem xm_s_i2s (F : xm_Fr p s m args meth c cc nL own ini G o) (hk : xm_Sim p l e R s m args below meth c Q G nL mc ms cd k q) (hc : xm_chk own ini cc cd nL rk mt (.i2s, pc, nx, a, b, ps, sw) = true) (h : xm_step o xm_sta call (.i2s, pc, nx, a, b, ps, sw) L st w k = some q) : xm_Con p l e R s m args below meth c Q G nL mc ms q pc L st w := by
  simp only [xm_chk, Bool.and_eq_true] at hc
  simp only [xm_step] at h
  split at h
  next x r =>
    refine ⟨(hk _ _ _ _ h).1, fun ls H locs cells slots hr => ?_⟩
    have hx := xm_c1 hr.2.1
    refine lv_i2s F.1 F.2.1 (xm_dec_ok hc.1) xm_i2s ?_
    skip
    exact (hk _ _ _ _ h).2 _ (xm_ofn hc.2) _ _ _ _ _ (hr.stk (xm_c3 (xm_oks _) (xm_c2 hr.2.1)))
  next => cases h
theorem xm_s_i2c (F : xm_Fr p s m args meth c cc nL own ini G o) (hk : xm_Sim p l e R s m args below meth c Q G nL mc ms cd k q) (hc : xm_chk own ini cc cd nL rk mt (.i2c, pc, nx, a, b, ps, sw) = true) (h : xm_step o xm_sta call (.i2c, pc, nx, a, b, ps, sw) L st w k = some q) : xm_Con p l e R s m args below meth c Q G nL mc ms q pc L st w := by
  simp only [xm_chk, Bool.and_eq_true] at hc
  simp only [xm_step] at h
  split at h
  next x r =>
    refine ⟨(hk _ _ _ _ h).1, fun ls H locs cells slots hr => ?_⟩
    have hx := xm_c1 hr.2.1
    refine lv_i2c F.1 F.2.1 (xm_dec_ok hc.1) (xm_i2c hx) ?_
    skip
    exact (hk _ _ _ _ h).2 _ (xm_ofn hc.2) _ _ _ _ _ (hr.stk (xm_c3 (⟨by omega, by omega⟩) (xm_c2 hr.2.1)))
  next => cases h
theorem xm_s_i2l (F : xm_Fr p s m args meth c cc nL own ini G o) (hk : xm_Sim p l e R s m args below meth c Q G nL mc ms cd k q) (hc : xm_chk own ini cc cd nL rk mt (.i2l, pc, nx, a, b, ps, sw) = true) (h : xm_step o xm_sta call (.i2l, pc, nx, a, b, ps, sw) L st w k = some q) : xm_Con p l e R s m args below meth c Q G nL mc ms q pc L st w := by
  simp only [xm_chk, Bool.and_eq_true] at hc
  simp only [xm_step] at h
  split at h
  next x r =>
    refine ⟨(hk _ _ _ _ h).1, fun ls H locs cells slots hr => ?_⟩
    have hx := xm_c1 hr.2.1
    refine lv_i2l F.1 F.2.1 (xm_dec_ok hc.1) rfl ?_
    skip
    exact (hk _ _ _ _ h).2 _ (xm_ofn hc.2) _ _ _ _ _ (hr.stk (xm_c3 (xm_okl _) (xm_c2 hr.2.1)))
  next => cases h
theorem xm_s_l2i (F : xm_Fr p s m args meth c cc nL own ini G o) (hk : xm_Sim p l e R s m args below meth c Q G nL mc ms cd k q) (hc : xm_chk own ini cc cd nL rk mt (.l2i, pc, nx, a, b, ps, sw) = true) (h : xm_step o xm_sta call (.l2i, pc, nx, a, b, ps, sw) L st w k = some q) : xm_Con p l e R s m args below meth c Q G nL mc ms q pc L st w := by
  simp only [xm_chk, Bool.and_eq_true] at hc
  simp only [xm_step] at h
  split at h
  next x r =>
    refine ⟨(hk _ _ _ _ h).1, fun ls H locs cells slots hr => ?_⟩
    have hx := xm_c1 hr.2.1
    refine lv_l2i F.1 F.2.1 (xm_dec_ok hc.1) (xm_of rfl) ?_
    skip
    exact (hk _ _ _ _ h).2 _ (xm_ofn hc.2) _ _ _ _ _ (hr.stk (xm_c3 (xm_okt _) (xm_c2 hr.2.1)))
  next => cases h
theorem xm_s_land (F : xm_Fr p s m args meth c cc nL own ini G o) (hk : xm_Sim p l e R s m args below meth c Q G nL mc ms cd k q) (hc : xm_chk own ini cc cd nL rk mt (.land, pc, nx, a, b, ps, sw) = true) (h : xm_step o xm_sta call (.land, pc, nx, a, b, ps, sw) L st w k = some q) : xm_Con p l e R s m args below meth c Q G nL mc ms q pc L st w := by
  simp only [xm_chk, Bool.and_eq_true] at hc
  simp only [xm_step] at h
  split at h
  next y x r =>
    refine ⟨(hk _ _ _ _ h).1, fun ls H locs cells slots hr => ?_⟩
    refine lv_land F.1 F.2.1 (xm_dec_ok hc.1) ?_
    exact (hk _ _ _ _ h).2 _ (xm_ofn hc.2) _ _ _ _ _ (hr.stk (xm_c3 (xm_okl _) (xm_c2 (xm_c2 hr.2.1))))
  next => cases h
theorem xm_s_lor (F : xm_Fr p s m args meth c cc nL own ini G o) (hk : xm_Sim p l e R s m args below meth c Q G nL mc ms cd k q) (hc : xm_chk own ini cc cd nL rk mt (.lor, pc, nx, a, b, ps, sw) = true) (h : xm_step o xm_sta call (.lor, pc, nx, a, b, ps, sw) L st w k = some q) : xm_Con p l e R s m args below meth c Q G nL mc ms q pc L st w := by
  simp only [xm_chk, Bool.and_eq_true] at hc
  simp only [xm_step] at h
  split at h
  next y x r =>
    refine ⟨(hk _ _ _ _ h).1, fun ls H locs cells slots hr => ?_⟩
    refine lv_lor F.1 F.2.1 (xm_dec_ok hc.1) ?_
    exact (hk _ _ _ _ h).2 _ (xm_ofn hc.2) _ _ _ _ _ (hr.stk (xm_c3 (xm_okl _) (xm_c2 (xm_c2 hr.2.1))))
  next => cases h
theorem xm_s_lshl (F : xm_Fr p s m args meth c cc nL own ini G o) (hk : xm_Sim p l e R s m args below meth c Q G nL mc ms cd k q) (hc : xm_chk own ini cc cd nL rk mt (.lshl, pc, nx, a, b, ps, sw) = true) (h : xm_step o xm_sta call (.lshl, pc, nx, a, b, ps, sw) L st w k = some q) : xm_Con p l e R s m args below meth c Q G nL mc ms q pc L st w := by
  simp only [xm_chk, Bool.and_eq_true] at hc
  simp only [xm_step] at h
  split at h
  next y x r =>
    refine ⟨(hk _ _ _ _ h).1, fun ls H locs cells slots hr => ?_⟩
    refine lv_lshl F.1 F.2.1 (xm_dec_ok hc.1) rfl ?_
    exact (hk _ _ _ _ h).2 _ (xm_ofn hc.2) _ _ _ _ _ (hr.stk (xm_c3 (xm_okl _) (xm_c2 (xm_c2 hr.2.1))))
  next => cases h
theorem xm_s_lshr (F : xm_Fr p s m args meth c cc nL own ini G o) (hk : xm_Sim p l e R s m args below meth c Q G nL mc ms cd k q) (hc : xm_chk own ini cc cd nL rk mt (.lshr, pc, nx, a, b, ps, sw) = true) (h : xm_step o xm_sta call (.lshr, pc, nx, a, b, ps, sw) L st w k = some q) : xm_Con p l e R s m args below meth c Q G nL mc ms q pc L st w := by
  simp only [xm_chk, Bool.and_eq_true] at hc
  simp only [xm_step] at h
  split at h
  next y x r =>
    refine ⟨(hk _ _ _ _ h).1, fun ls H locs cells slots hr => ?_⟩
    refine lv_lshr F.1 F.2.1 (xm_dec_ok hc.1) rfl ?_
    exact (hk _ _ _ _ h).2 _ (xm_ofn hc.2) _ _ _ _ _ (hr.stk (xm_c3 (xm_okl _) (xm_c2 (xm_c2 hr.2.1))))
  next => cases h
theorem xm_s_lushr (F : xm_Fr p s m args meth c cc nL own ini G o) (hk : xm_Sim p l e R s m args below meth c Q G nL mc ms cd k q) (hc : xm_chk own ini cc cd nL rk mt (.lushr, pc, nx, a, b, ps, sw) = true) (h : xm_step o xm_sta call (.lushr, pc, nx, a, b, ps, sw) L st w k = some q) : xm_Con p l e R s m args below meth c Q G nL mc ms q pc L st w := by
  simp only [xm_chk, Bool.and_eq_true] at hc
  simp only [xm_step] at h
  split at h
  next y x r =>
    refine ⟨(hk _ _ _ _ h).1, fun ls H locs cells slots hr => ?_⟩
    refine lv_lushr F.1 F.2.1 (xm_dec_ok hc.1) rfl ?_
    exact (hk _ _ _ _ h).2 _ (xm_ofn hc.2) _ _ _ _ _ (hr.stk (xm_c3 (xm_okl _) (xm_c2 (xm_c2 hr.2.1))))
  next => cases h
theorem xm_s_iconst {z : Int} (F : xm_Fr p s m args meth c cc nL own ini G o) (hk : xm_Sim p l e R s m args below meth c Q G nL mc ms cd k q) (hc : xm_chk own ini cc cd nL rk mt (.iconst z, pc, nx, a, b, ps, sw) = true) (h : xm_step o xm_sta call (.iconst z, pc, nx, a, b, ps, sw) L st w k = some q) : xm_Con p l e R s m args below meth c Q G nL mc ms q pc L st w := by
  simp only [xm_chk, Bool.and_eq_true] at hc
  simp only [xm_step] at h
  refine ⟨(hk _ _ _ _ h).1, fun ls H locs cells slots hr => ?_⟩
  refine lv_iconst F.1 F.2.1 (xm_dec_ok hc.1.1) rfl ?_
  exact (hk _ _ _ _ h).2 _ (xm_ofn hc.1.2) _ _ _ _ _ (hr.stk (xm_c3 (xm_okb_ok hc.2) hr.2.1))
theorem xm_s_bipush {z : Int} (F : xm_Fr p s m args meth c cc nL own ini G o) (hk : xm_Sim p l e R s m args below meth c Q G nL mc ms cd k q) (hc : xm_chk own ini cc cd nL rk mt (.bipush z, pc, nx, a, b, ps, sw) = true) (h : xm_step o xm_sta call (.bipush z, pc, nx, a, b, ps, sw) L st w k = some q) : xm_Con p l e R s m args below meth c Q G nL mc ms q pc L st w := by
  simp only [xm_chk, Bool.and_eq_true] at hc
  simp only [xm_step] at h
  refine ⟨(hk _ _ _ _ h).1, fun ls H locs cells slots hr => ?_⟩
  refine lv_bipush F.1 F.2.1 (xm_dec_ok hc.1.1.1) (of_decide_eq_true hc.2) ?_
  exact (hk _ _ _ _ h).2 _ (xm_ofn hc.1.1.2) _ _ _ _ _ (hr.stk (xm_c3 (xm_okb_ok hc.1.2) hr.2.1))
theorem xm_s_sipush {z : Int} (F : xm_Fr p s m args meth c cc nL own ini G o) (hk : xm_Sim p l e R s m args below meth c Q G nL mc ms cd k q) (hc : xm_chk own ini cc cd nL rk mt (.sipush z, pc, nx, a, b, ps, sw) = true) (h : xm_step o xm_sta call (.sipush z, pc, nx, a, b, ps, sw) L st w k = some q) : xm_Con p l e R s m args below meth c Q G nL mc ms q pc L st w := by
  simp only [xm_chk, Bool.and_eq_true] at hc
  simp only [xm_step] at h
  refine ⟨(hk _ _ _ _ h).1, fun ls H locs cells slots hr => ?_⟩
  refine lv_sipush F.1 F.2.1 (xm_dec_ok hc.1.1.1) (of_decide_eq_true hc.2) ?_
  exact (hk _ _ _ _ h).2 _ (xm_ofn hc.1.1.2) _ _ _ _ _ (hr.stk (xm_c3 (xm_okb_ok hc.1.2) hr.2.1))
theorem xm_s_null (F : xm_Fr p s m args meth c cc nL own ini G o) (hk : xm_Sim p l e R s m args below meth c Q G nL mc ms cd k q) (hc : xm_chk own ini cc cd nL rk mt (.aconst_null, pc, nx, a, b, ps, sw) = true) (h : xm_step o xm_sta call (.aconst_null, pc, nx, a, b, ps, sw) L st w k = some q) : xm_Con p l e R s m args below meth c Q G nL mc ms q pc L st w := by
  simp only [xm_chk, Bool.and_eq_true] at hc
  simp only [xm_step] at h
  refine ⟨(hk _ _ _ _ h).1, fun ls H locs cells slots hr => ?_⟩
  refine lv_null F.1 F.2.1 (xm_dec_ok hc.1) ?_
  exact (hk _ _ _ _ h).2 _ (xm_ofn hc.2) _ _ _ _ _ (hr.stk (xm_c3 trivial hr.2.1))
theorem xm_s_iload {j : Nat} (F : xm_Fr p s m args meth c cc nL own ini G o) (hk : xm_Sim p l e R s m args below meth c Q G nL mc ms cd k q) (hc : xm_chk own ini cc cd nL rk mt (.iload j, pc, nx, a, b, ps, sw) = true) (h : xm_step o xm_sta call (.iload j, pc, nx, a, b, ps, sw) L st w k = some q) : xm_Con p l e R s m args below meth c Q G nL mc ms q pc L st w := by
  simp only [xm_chk, Bool.and_eq_true] at hc
  simp only [xm_step] at h
  split at h
  next x hx =>
    refine ⟨(hk _ _ _ _ h).1, fun ls H locs cells slots hr => ?_⟩
    have hls := hr.1.1.2.2 (a, xm_v G _) (xm_lv_in.mpr ⟨_, hx, rfl⟩)
    have hok := hr.1.2.2 _ (List.mem_of_getElem? hx)
    have hi : j = a := by simpa using hc.2
    subst hi; refine lv_iload F.1 F.2.1 (xm_dec_ok hc.1.1) hls ?_
    exact (hk _ _ _ _ h).2 _ (xm_ofn hc.1.2) _ _ _ _ _ (hr.stk (xm_c3 hok hr.2.1))
  next => cases h
theorem xm_s_iload_n {j : Fin 4} (F : xm_Fr p s m args meth c cc nL own ini G o) (hk : xm_Sim p l e R s m args below meth c Q G nL mc ms cd k q) (hc : xm_chk own ini cc cd nL rk mt (.iload_n j, pc, nx, a, b, ps, sw) = true) (h : xm_step o xm_sta call (.iload_n j, pc, nx, a, b, ps, sw) L st w k = some q) : xm_Con p l e R s m args below meth c Q G nL mc ms q pc L st w := by
  simp only [xm_chk, Bool.and_eq_true] at hc
  simp only [xm_step] at h
  split at h
  next x hx =>
    refine ⟨(hk _ _ _ _ h).1, fun ls H locs cells slots hr => ?_⟩
    have hls := hr.1.1.2.2 (a, xm_v G _) (xm_lv_in.mpr ⟨_, hx, rfl⟩)
    have hok := hr.1.2.2 _ (List.mem_of_getElem? hx)
    have hi : j.val = a := by simpa using hc.2
    refine lv_iload_n F.1 F.2.1 (xm_dec_ok hc.1.1) hi hls ?_
    exact (hk _ _ _ _ h).2 _ (xm_ofn hc.1.2) _ _ _ _ _ (hr.stk (xm_c3 hok hr.2.1))
  next => cases h
theorem xm_s_lload_n {j : Fin 4} (F : xm_Fr p s m args meth c cc nL own ini G o) (hk : xm_Sim p l e R s m args below meth c Q G nL mc ms cd k q) (hc : xm_chk own ini cc cd nL rk mt (.lload_n j, pc, nx, a, b, ps, sw) = true) (h : xm_step o xm_sta call (.lload_n j, pc, nx, a, b, ps, sw) L st w k = some q) : xm_Con p l e R s m args below meth c Q G nL mc ms q pc L st w := by
  simp only [xm_chk, Bool.and_eq_true] at hc
  simp only [xm_step] at h
  split at h
  next x hx =>
    refine ⟨(hk _ _ _ _ h).1, fun ls H locs cells slots hr => ?_⟩
    have hls := hr.1.1.2.2 (a, xm_v G _) (xm_lv_in.mpr ⟨_, hx, rfl⟩)
    have hok := hr.1.2.2 _ (List.mem_of_getElem? hx)
    have hi : j.val = a := by simpa using hc.2
    refine lv_lload_n F.1 F.2.1 (xm_dec_ok hc.1.1) hi hls ?_
    exact (hk _ _ _ _ h).2 _ (xm_ofn hc.1.2) _ _ _ _ _ (hr.stk (xm_c3 hok hr.2.1))
  next => cases h
theorem xm_s_aload {j : Nat} (F : xm_Fr p s m args meth c cc nL own ini G o) (hk : xm_Sim p l e R s m args below meth c Q G nL mc ms cd k q) (hc : xm_chk own ini cc cd nL rk mt (.aload j, pc, nx, a, b, ps, sw) = true) (h : xm_step o xm_sta call (.aload j, pc, nx, a, b, ps, sw) L st w k = some q) : xm_Con p l e R s m args below meth c Q G nL mc ms q pc L st w := by
  simp only [xm_chk, Bool.and_eq_true] at hc
  simp only [xm_step] at h
  split at h
  next x hx =>
    refine ⟨(hk _ _ _ _ h).1, fun ls H locs cells slots hr => ?_⟩
    have hls := hr.1.1.2.2 (a, xm_v G _) (xm_lv_in.mpr ⟨_, hx, rfl⟩)
    have hi : j = a := by simpa using hc.2
    have K := (hk _ _ _ _ h).2 _ (xm_ofn hc.1.2) _ _ _ _ _ (hr.stk (xm_c3 (xm_okr _) hr.2.1))
    match x, hls, K with
    | none, hls, K => (subst hi; exact lv_aloadN F.1 F.2.1 (xm_dec_ok hc.1.1) hls K)
    | some x, hls, K => (subst hi; exact lv_aload F.1 F.2.1 (xm_dec_ok hc.1.1) hls K)
  next => cases h
theorem xm_s_aload_n {j : Fin 4} (F : xm_Fr p s m args meth c cc nL own ini G o) (hk : xm_Sim p l e R s m args below meth c Q G nL mc ms cd k q) (hc : xm_chk own ini cc cd nL rk mt (.aload_n j, pc, nx, a, b, ps, sw) = true) (h : xm_step o xm_sta call (.aload_n j, pc, nx, a, b, ps, sw) L st w k = some q) : xm_Con p l e R s m args below meth c Q G nL mc ms q pc L st w := by
  simp only [xm_chk, Bool.and_eq_true] at hc
  simp only [xm_step] at h
  split at h
  next x hx =>
    refine ⟨(hk _ _ _ _ h).1, fun ls H locs cells slots hr => ?_⟩
    have hls := hr.1.1.2.2 (a, xm_v G _) (xm_lv_in.mpr ⟨_, hx, rfl⟩)
    have hi : j.val = a := by simpa using hc.2
    have K := (hk _ _ _ _ h).2 _ (xm_ofn hc.1.2) _ _ _ _ _ (hr.stk (xm_c3 (xm_okr _) hr.2.1))
    match x, hls, K with
    | none, hls, K => exact lv_aload_nN F.1 F.2.1 (xm_dec_ok hc.1.1) hi hls K
    | some x, hls, K => exact lv_aload_n F.1 F.2.1 (xm_dec_ok hc.1.1) hi hls K
  next => cases h
theorem xm_s_istore {j : Nat} (F : xm_Fr p s m args meth c cc nL own ini G o) (hk : xm_Sim p l e R s m args below meth c Q G nL mc ms cd k q) (hc : xm_chk own ini cc cd nL rk mt (.istore j, pc, nx, a, b, ps, sw) = true) (h : xm_step o xm_sta call (.istore j, pc, nx, a, b, ps, sw) L st w k = some q) : xm_Con p l e R s m args below meth c Q G nL mc ms q pc L st w := by
  simp only [xm_chk, Bool.and_eq_true] at hc
  simp only [xm_step] at h
  split at h
  next x r =>
    split at h
    next hnl =>
      refine ⟨(hk _ _ _ _ h).1, fun ls H locs cells slots hr => ?_⟩
      have hi : j = a := by simpa using hc.1.2
      have hn : a < nL := of_decide_eq_true hc.2
      subst hi; refine lv_istore F.1 F.2.1 (xm_dec_ok hc.1.1.1) hr.1.1 hn rfl (fun ls hl => ?_)
      exact (hk _ _ _ _ h).2 _ (xm_ofn hc.1.1.2) _ _ _ _ _ (hr.loc (xm_c1 hr.2.1) hl hnl (xm_c2 hr.2.1))
    next => cases h
  next => cases h
theorem xm_s_istore_n {j : Fin 4} (F : xm_Fr p s m args meth c cc nL own ini G o) (hk : xm_Sim p l e R s m args below meth c Q G nL mc ms cd k q) (hc : xm_chk own ini cc cd nL rk mt (.istore_n j, pc, nx, a, b, ps, sw) = true) (h : xm_step o xm_sta call (.istore_n j, pc, nx, a, b, ps, sw) L st w k = some q) : xm_Con p l e R s m args below meth c Q G nL mc ms q pc L st w := by
  simp only [xm_chk, Bool.and_eq_true] at hc
  simp only [xm_step] at h
  split at h
  next x r =>
    split at h
    next hnl =>
      refine ⟨(hk _ _ _ _ h).1, fun ls H locs cells slots hr => ?_⟩
      have hi : j.val = a := by simpa using hc.1.2
      have hn : a < nL := of_decide_eq_true hc.2
      refine lv_istore_n F.1 F.2.1 (xm_dec_ok hc.1.1.1) hi hr.1.1 hn rfl (fun ls hl => ?_)
      exact (hk _ _ _ _ h).2 _ (xm_ofn hc.1.1.2) _ _ _ _ _ (hr.loc (xm_c1 hr.2.1) hl hnl (xm_c2 hr.2.1))
    next => cases h
  next => cases h
theorem xm_s_astore {j : Nat} (F : xm_Fr p s m args meth c cc nL own ini G o) (hk : xm_Sim p l e R s m args below meth c Q G nL mc ms cd k q) (hc : xm_chk own ini cc cd nL rk mt (.astore j, pc, nx, a, b, ps, sw) = true) (h : xm_step o xm_sta call (.astore j, pc, nx, a, b, ps, sw) L st w k = some q) : xm_Con p l e R s m args below meth c Q G nL mc ms q pc L st w := by
  simp only [xm_chk, Bool.and_eq_true] at hc
  simp only [xm_step] at h
  split at h
  next x r =>
    split at h
    next hnl =>
      refine ⟨(hk _ _ _ _ h).1, fun ls H locs cells slots hr => ?_⟩
      have hi : j = a := by simpa using hc.1.2
      have hn : a < nL := of_decide_eq_true hc.2
      have K := fun ls hl => (hk _ _ _ _ h).2 _ (xm_ofn hc.1.1.2) _ _ _ _ _ (hr.loc (ls' := ls) (xm_okr x) hl hnl (xm_c2 hr.2.1))
      match x, K with
      | none, K => (subst hi; exact lv_astoreN F.1 F.2.1 (xm_dec_ok hc.1.1.1) hr.1.1 hn rfl K)
      | some x, K => (subst hi; exact lv_astore F.1 F.2.1 (xm_dec_ok hc.1.1.1) hr.1.1 hn rfl K)
    next => cases h
  next => cases h
theorem xm_s_astore_n {j : Fin 4} (F : xm_Fr p s m args meth c cc nL own ini G o) (hk : xm_Sim p l e R s m args below meth c Q G nL mc ms cd k q) (hc : xm_chk own ini cc cd nL rk mt (.astore_n j, pc, nx, a, b, ps, sw) = true) (h : xm_step o xm_sta call (.astore_n j, pc, nx, a, b, ps, sw) L st w k = some q) : xm_Con p l e R s m args below meth c Q G nL mc ms q pc L st w := by
  simp only [xm_chk, Bool.and_eq_true] at hc
  simp only [xm_step] at h
  split at h
  next x r =>
    split at h
    next hnl =>
      refine ⟨(hk _ _ _ _ h).1, fun ls H locs cells slots hr => ?_⟩
      have hi : j.val = a := by simpa using hc.1.2
      have hn : a < nL := of_decide_eq_true hc.2
      have K := fun ls hl => (hk _ _ _ _ h).2 _ (xm_ofn hc.1.1.2) _ _ _ _ _ (hr.loc (ls' := ls) (xm_okr x) hl hnl (xm_c2 hr.2.1))
      match x, K with
      | none, K => exact lv_astore_nN F.1 F.2.1 (xm_dec_ok hc.1.1.1) hi hr.1.1 hn rfl K
      | some x, K => exact lv_astore_n F.1 F.2.1 (xm_dec_ok hc.1.1.1) hi hr.1.1 hn rfl K
    next => cases h
  next => cases h
theorem xm_s_iinc {j : Nat} {z : Int} (F : xm_Fr p s m args meth c cc nL own ini G o) (hk : xm_Sim p l e R s m args below meth c Q G nL mc ms cd k q) (hc : xm_chk own ini cc cd nL rk mt (.iinc j z, pc, nx, a, b, ps, sw) = true) (h : xm_step o xm_sta call (.iinc j z, pc, nx, a, b, ps, sw) L st w k = some q) : xm_Con p l e R s m args below meth c Q G nL mc ms q pc L st w := by
  simp only [xm_chk, Bool.and_eq_true] at hc
  simp only [xm_step] at h
  split at h
  next x hx =>
    split at h
    next hnl =>
      refine ⟨(hk _ _ _ _ h).1, fun ls H locs cells slots hr => ?_⟩
      have hi : j = a := by simpa using hc.1.2
      have hn : a < nL := of_decide_eq_true hc.2
      have hok : xm_ok (.inl x) := hr.1.2.2 _ (List.mem_of_getElem? hx)
      obtain ⟨kk, hkk⟩ := List.getElem?_of_mem (xm_lv_in.mpr ⟨_, hx, rfl⟩ : (a, xm_v G (.inl x)) ∈ xm_lv G L)
      subst hi
      refine lv_iinc F.1 F.2.1 (xm_dec_ok hc.1.1.1) hr.1.1 (k := kk) hkk (v := Int32.ofInt (xm_w (x + z))) (by rw [xm_ow, Int32.ofInt_add]) hn rfl (fun ls hl => ?_)
      exact (hk _ _ _ _ h).2 _ (xm_ofn hc.1.1.2) _ _ _ _ _ (hr.loc (xm_okw _) hl hnl hr.2.1)
    next => cases h
  next => cases h
theorem xm_s_dup (F : xm_Fr p s m args meth c cc nL own ini G o) (hk : xm_Sim p l e R s m args below meth c Q G nL mc ms cd k q) (hc : xm_chk own ini cc cd nL rk mt (.dup, pc, nx, a, b, ps, sw) = true) (h : xm_step o xm_sta call (.dup, pc, nx, a, b, ps, sw) L st w k = some q) : xm_Con p l e R s m args below meth c Q G nL mc ms q pc L st w := by
  simp only [xm_chk, Bool.and_eq_true] at hc
  simp only [xm_step] at h
  split at h
  next x r =>
    refine ⟨(hk _ _ _ _ h).1, fun ls H locs cells slots hr => ?_⟩
    have K := fun z => (hk _ _ _ _ h).2 _ (xm_ofn hc.2) _ _ _ _ _ (hr.stk z)
    exact lv_dup F.1 F.2.1 (xm_dec_ok hc.1) rfl (K (xm_c3 (xm_c1 hr.2.1) hr.2.1))
  next x r =>
    refine ⟨(hk _ _ _ _ h).1, fun ls H locs cells slots hr => ?_⟩
    have K := fun z => (hk _ _ _ _ h).2 _ (xm_ofn hc.2) _ _ _ _ _ (hr.stk z)
    exact lv_dup F.1 F.2.1 (xm_dec_ok hc.1) (by cases x <;> rfl) (K (xm_c3 (xm_c1 hr.2.1) hr.2.1))
  next => cases h
theorem xm_s_dup_x1 (F : xm_Fr p s m args meth c cc nL own ini G o) (hk : xm_Sim p l e R s m args below meth c Q G nL mc ms cd k q) (hc : xm_chk own ini cc cd nL rk mt (.dup_x1, pc, nx, a, b, ps, sw) = true) (h : xm_step o xm_sta call (.dup_x1, pc, nx, a, b, ps, sw) L st w k = some q) : xm_Con p l e R s m args below meth c Q G nL mc ms q pc L st w := by
  simp only [xm_chk, Bool.and_eq_true] at hc
  simp only [xm_step] at h
  split at h
  next x y r =>
    refine ⟨(hk _ _ _ _ h).1, fun ls H locs cells slots hr => ?_⟩
    have K := fun z => (hk _ _ _ _ h).2 _ (xm_ofn hc.2) _ _ _ _ _ (hr.stk z)
    exact lv_dup_x1 F.1 F.2.1 (xm_dec_ok hc.1) rfl (by cases y <;> rfl) (K (xm_c3 (xm_c1 hr.2.1) (xm_c3 (xm_c1 (xm_c2 hr.2.1)) (xm_c3 (xm_c1 hr.2.1) (xm_c2 (xm_c2 hr.2.1))))))
  next x y r =>
    refine ⟨(hk _ _ _ _ h).1, fun ls H locs cells slots hr => ?_⟩
    have K := fun z => (hk _ _ _ _ h).2 _ (xm_ofn hc.2) _ _ _ _ _ (hr.stk z)
    exact lv_dup_x1 F.1 F.2.1 (xm_dec_ok hc.1) rfl rfl (K (xm_c3 (xm_c1 hr.2.1) (xm_c3 (xm_c1 (xm_c2 hr.2.1)) (xm_c3 (xm_c1 hr.2.1) (xm_c2 (xm_c2 hr.2.1))))))
  next => cases h
theorem xm_s_dup2 (F : xm_Fr p s m args meth c cc nL own ini G o) (hk : xm_Sim p l e R s m args below meth c Q G nL mc ms cd k q) (hc : xm_chk own ini cc cd nL rk mt (.dup2, pc, nx, a, b, ps, sw) = true) (h : xm_step o xm_sta call (.dup2, pc, nx, a, b, ps, sw) L st w k = some q) : xm_Con p l e R s m args below meth c Q G nL mc ms q pc L st w := by
  simp only [xm_chk, Bool.and_eq_true] at hc
  simp only [xm_step] at h
  split at h
  next x y r =>
    refine ⟨(hk _ _ _ _ h).1, fun ls H locs cells slots hr => ?_⟩
    have K := fun z => (hk _ _ _ _ h).2 _ (xm_ofn hc.2) _ _ _ _ _ (hr.stk z)
    exact lv_dup2_11 F.1 F.2.1 (xm_dec_ok hc.1) rfl (by cases y <;> rfl) (K (xm_c3 (xm_c1 hr.2.1) (xm_c3 (xm_c1 (xm_c2 hr.2.1)) hr.2.1)))
  next => cases h
theorem xm_s_pop (F : xm_Fr p s m args meth c cc nL own ini G o) (hk : xm_Sim p l e R s m args below meth c Q G nL mc ms cd k q) (hc : xm_chk own ini cc cd nL rk mt (.pop, pc, nx, a, b, ps, sw) = true) (h : xm_step o xm_sta call (.pop, pc, nx, a, b, ps, sw) L st w k = some q) : xm_Con p l e R s m args below meth c Q G nL mc ms q pc L st w := by
  simp only [xm_chk, Bool.and_eq_true] at hc
  simp only [xm_step] at h
  split at h
  next x r =>
    refine ⟨(hk _ _ _ _ h).1, fun ls H locs cells slots hr => ?_⟩
    have K := fun z => (hk _ _ _ _ h).2 _ (xm_ofn hc.2) _ _ _ _ _ (hr.stk z)
    exact lv_pop F.1 F.2.1 (xm_dec_ok hc.1) rfl (K (xm_c2 hr.2.1))
  next => cases h
theorem xm_s_goto {j : Int} (F : xm_Fr p s m args meth c cc nL own ini G o) (hk : xm_Sim p l e R s m args below meth c Q G nL mc ms cd k q) (hc : xm_chk own ini cc cd nL rk mt (.goto j, pc, nx, a, b, ps, sw) = true) (h : xm_step o xm_sta call (.goto j, pc, nx, a, b, ps, sw) L st w k = some q) : xm_Con p l e R s m args below meth c Q G nL mc ms q pc L st w := by
  simp only [xm_chk, Bool.and_eq_true] at hc
  simp only [xm_step] at h
  obtain ⟨t, h1, h2⟩ := xm_tg_ok hc.2
  refine ⟨(hk _ _ _ _ h).1, fun ls H locs cells slots hr => ?_⟩
  exact lv_goto F.1 F.2.1 (xm_dec_ok hc.1) h2 ((hk _ _ _ _ h).2 _ h1 _ _ _ _ _ hr)
theorem xm_s_ifCond {cnd : Jvm.ClassFile.Cond} {j : Int} (F : xm_Fr p s m args meth c cc nL own ini G o) (hk : xm_Sim p l e R s m args below meth c Q G nL mc ms cd k q) (hc : xm_chk own ini cc cd nL rk mt (.ifCond cnd j, pc, nx, a, b, ps, sw) = true) (h : xm_step o xm_sta call (.ifCond cnd j, pc, nx, a, b, ps, sw) L st w k = some q) : xm_Con p l e R s m args below meth c Q G nL mc ms q pc L st w := by
  simp only [xm_chk, Bool.and_eq_true] at hc
  simp only [xm_step] at h
  obtain ⟨t, h1, h2⟩ := xm_tg_ok hc.2
  split at h
  next x r =>
    have N := xm_ofn hc.1.2
    have D := xm_dec_ok hc.1.1
    cases cnd
    · simp only [] at h
      split at h
      next hh =>
        refine ⟨(hk _ _ _ _ h).1, fun ls H locs cells slots hr => ?_⟩
        have hx := xm_c1 hr.2.1
        refine lv_if_eq F.1 F.2.1 D h2 (fun z => ?_) (fun z => ?_)
        · exact (hk _ _ _ _ h).2 _ h1 _ _ _ _ _ (hr.stk (xm_c2 hr.2.1))
        · exact absurd ((xm_eq0 hx).mpr hh) z
      next hh =>
        refine ⟨(hk _ _ _ _ h).1, fun ls H locs cells slots hr => ?_⟩
        have hx := xm_c1 hr.2.1
        refine lv_if_eq F.1 F.2.1 D h2 (fun z => ?_) (fun z => ?_)
        · exact absurd ((xm_eq0 hx).mp z) hh
        · exact (hk _ _ _ _ h).2 _ N _ _ _ _ _ (hr.stk (xm_c2 hr.2.1))
    · simp only [] at h
      split at h
      next hh =>
        refine ⟨(hk _ _ _ _ h).1, fun ls H locs cells slots hr => ?_⟩
        have hx := xm_c1 hr.2.1
        refine lv_if_ne F.1 F.2.1 D h2 (fun z => ?_) (fun z => ?_)
        · exact absurd hh (fun y => z ((xm_eq0 hx).mpr y))
        · exact (hk _ _ _ _ h).2 _ N _ _ _ _ _ (hr.stk (xm_c2 hr.2.1))
      next hh =>
        refine ⟨(hk _ _ _ _ h).1, fun ls H locs cells slots hr => ?_⟩
        have hx := xm_c1 hr.2.1
        refine lv_if_ne F.1 F.2.1 D h2 (fun z => ?_) (fun z => ?_)
        · exact (hk _ _ _ _ h).2 _ h1 _ _ _ _ _ (hr.stk (xm_c2 hr.2.1))
        · exact absurd ((xm_eq0 hx).mp z) hh
    · simp only [] at h
      split at h
      next hh =>
        refine ⟨(hk _ _ _ _ h).1, fun ls H locs cells slots hr => ?_⟩
        have hx := xm_c1 hr.2.1
        refine lv_if_lt F.1 F.2.1 D h2 (fun z => ?_) (fun z => ?_)
        · exact (hk _ _ _ _ h).2 _ h1 _ _ _ _ _ (hr.stk (xm_c2 hr.2.1))
        · exact absurd ((xm_lt0 hx).mpr hh) z
      next hh =>
        refine ⟨(hk _ _ _ _ h).1, fun ls H locs cells slots hr => ?_⟩
        have hx := xm_c1 hr.2.1
        refine lv_if_lt F.1 F.2.1 D h2 (fun z => ?_) (fun z => ?_)
        · exact absurd ((xm_lt0 hx).mp z) hh
        · exact (hk _ _ _ _ h).2 _ N _ _ _ _ _ (hr.stk (xm_c2 hr.2.1))
    · simp only [] at h
      split at h
      next hh =>
        refine ⟨(hk _ _ _ _ h).1, fun ls H locs cells slots hr => ?_⟩
        have hx := xm_c1 hr.2.1
        refine lv_if_ge F.1 F.2.1 D h2 (fun z => ?_) (fun z => ?_)
        · exact absurd hh (Int.not_lt.mpr ((xm_0le hx).mp z))
        · exact (hk _ _ _ _ h).2 _ N _ _ _ _ _ (hr.stk (xm_c2 hr.2.1))
      next hh =>
        refine ⟨(hk _ _ _ _ h).1, fun ls H locs cells slots hr => ?_⟩
        have hx := xm_c1 hr.2.1
        refine lv_if_ge F.1 F.2.1 D h2 (fun z => ?_) (fun z => ?_)
        · exact (hk _ _ _ _ h).2 _ h1 _ _ _ _ _ (hr.stk (xm_c2 hr.2.1))
        · exact absurd ((xm_0le hx).mpr (Int.not_lt.mp hh)) z
    · simp only [] at h
      split at h
      next hh =>
        refine ⟨(hk _ _ _ _ h).1, fun ls H locs cells slots hr => ?_⟩
        have hx := xm_c1 hr.2.1
        refine lv_if_gt F.1 F.2.1 D h2 (fun z => ?_) (fun z => ?_)
        · exact (hk _ _ _ _ h).2 _ h1 _ _ _ _ _ (hr.stk (xm_c2 hr.2.1))
        · exact absurd ((xm_0lt hx).mpr hh) z
      next hh =>
        refine ⟨(hk _ _ _ _ h).1, fun ls H locs cells slots hr => ?_⟩
        have hx := xm_c1 hr.2.1
        refine lv_if_gt F.1 F.2.1 D h2 (fun z => ?_) (fun z => ?_)
        · exact absurd ((xm_0lt hx).mp z) hh
        · exact (hk _ _ _ _ h).2 _ N _ _ _ _ _ (hr.stk (xm_c2 hr.2.1))
    · simp only [] at h
      split at h
      next hh =>
        refine ⟨(hk _ _ _ _ h).1, fun ls H locs cells slots hr => ?_⟩
        have hx := xm_c1 hr.2.1
        refine lv_if_le F.1 F.2.1 D h2 (fun z => ?_) (fun z => ?_)
        · exact absurd hh (Int.not_lt.mpr ((xm_le0 hx).mp z))
        · exact (hk _ _ _ _ h).2 _ N _ _ _ _ _ (hr.stk (xm_c2 hr.2.1))
      next hh =>
        refine ⟨(hk _ _ _ _ h).1, fun ls H locs cells slots hr => ?_⟩
        have hx := xm_c1 hr.2.1
        refine lv_if_le F.1 F.2.1 D h2 (fun z => ?_) (fun z => ?_)
        · exact (hk _ _ _ _ h).2 _ h1 _ _ _ _ _ (hr.stk (xm_c2 hr.2.1))
        · exact absurd ((xm_le0 hx).mpr (Int.not_lt.mp hh)) z
  next => cases h
theorem xm_s_if_icmp {cnd : Jvm.ClassFile.Cond} {j : Int} (F : xm_Fr p s m args meth c cc nL own ini G o) (hk : xm_Sim p l e R s m args below meth c Q G nL mc ms cd k q) (hc : xm_chk own ini cc cd nL rk mt (.if_icmp cnd j, pc, nx, a, b, ps, sw) = true) (h : xm_step o xm_sta call (.if_icmp cnd j, pc, nx, a, b, ps, sw) L st w k = some q) : xm_Con p l e R s m args below meth c Q G nL mc ms q pc L st w := by
  simp only [xm_chk, Bool.and_eq_true] at hc
  simp only [xm_step] at h
  obtain ⟨t, h1, h2⟩ := xm_tg_ok hc.2
  split at h
  next y x r =>
    have N := xm_ofn hc.1.2
    have D := xm_dec_ok hc.1.1
    cases cnd
    · simp only [] at h
      split at h
      next hh =>
        refine ⟨(hk _ _ _ _ h).1, fun ls H locs cells slots hr => ?_⟩
        have hx := xm_c1 (xm_c2 hr.2.1)
        have hy := xm_c1 hr.2.1
        refine lv_icmp_eq F.1 F.2.1 D h2 (fun z => ?_) (fun z => ?_)
        · exact (hk _ _ _ _ h).2 _ h1 _ _ _ _ _ (hr.stk (xm_c2 (xm_c2 hr.2.1)))
        · exact absurd ((xm_eq hx hy).mpr hh) z
      next hh =>
        refine ⟨(hk _ _ _ _ h).1, fun ls H locs cells slots hr => ?_⟩
        have hx := xm_c1 (xm_c2 hr.2.1)
        have hy := xm_c1 hr.2.1
        refine lv_icmp_eq F.1 F.2.1 D h2 (fun z => ?_) (fun z => ?_)
        · exact absurd ((xm_eq hx hy).mp z) hh
        · exact (hk _ _ _ _ h).2 _ N _ _ _ _ _ (hr.stk (xm_c2 (xm_c2 hr.2.1)))
    · simp only [] at h
      split at h
      next hh =>
        refine ⟨(hk _ _ _ _ h).1, fun ls H locs cells slots hr => ?_⟩
        have hx := xm_c1 (xm_c2 hr.2.1)
        have hy := xm_c1 hr.2.1
        refine lv_icmp_ne F.1 F.2.1 D h2 (fun z => ?_) (fun z => ?_)
        · exact absurd hh (fun y => z ((xm_eq hx hy).mpr y))
        · exact (hk _ _ _ _ h).2 _ N _ _ _ _ _ (hr.stk (xm_c2 (xm_c2 hr.2.1)))
      next hh =>
        refine ⟨(hk _ _ _ _ h).1, fun ls H locs cells slots hr => ?_⟩
        have hx := xm_c1 (xm_c2 hr.2.1)
        have hy := xm_c1 hr.2.1
        refine lv_icmp_ne F.1 F.2.1 D h2 (fun z => ?_) (fun z => ?_)
        · exact (hk _ _ _ _ h).2 _ h1 _ _ _ _ _ (hr.stk (xm_c2 (xm_c2 hr.2.1)))
        · exact absurd ((xm_eq hx hy).mp z) hh
    · simp only [] at h
      split at h
      next hh =>
        refine ⟨(hk _ _ _ _ h).1, fun ls H locs cells slots hr => ?_⟩
        have hx := xm_c1 (xm_c2 hr.2.1)
        have hy := xm_c1 hr.2.1
        refine lv_icmp_lt F.1 F.2.1 D h2 (fun z => ?_) (fun z => ?_)
        · exact (hk _ _ _ _ h).2 _ h1 _ _ _ _ _ (hr.stk (xm_c2 (xm_c2 hr.2.1)))
        · exact absurd ((xm_lt hx hy).mpr hh) z
      next hh =>
        refine ⟨(hk _ _ _ _ h).1, fun ls H locs cells slots hr => ?_⟩
        have hx := xm_c1 (xm_c2 hr.2.1)
        have hy := xm_c1 hr.2.1
        refine lv_icmp_lt F.1 F.2.1 D h2 (fun z => ?_) (fun z => ?_)
        · exact absurd ((xm_lt hx hy).mp z) hh
        · exact (hk _ _ _ _ h).2 _ N _ _ _ _ _ (hr.stk (xm_c2 (xm_c2 hr.2.1)))
    · simp only [] at h
      split at h
      next hh =>
        refine ⟨(hk _ _ _ _ h).1, fun ls H locs cells slots hr => ?_⟩
        have hx := xm_c1 (xm_c2 hr.2.1)
        have hy := xm_c1 hr.2.1
        refine lv_icmp_ge F.1 F.2.1 D h2 (fun z => ?_) (fun z => ?_)
        · exact absurd hh (Int.not_lt.mpr ((xm_le hy hx).mp z))
        · exact (hk _ _ _ _ h).2 _ N _ _ _ _ _ (hr.stk (xm_c2 (xm_c2 hr.2.1)))
      next hh =>
        refine ⟨(hk _ _ _ _ h).1, fun ls H locs cells slots hr => ?_⟩
        have hx := xm_c1 (xm_c2 hr.2.1)
        have hy := xm_c1 hr.2.1
        refine lv_icmp_ge F.1 F.2.1 D h2 (fun z => ?_) (fun z => ?_)
        · exact (hk _ _ _ _ h).2 _ h1 _ _ _ _ _ (hr.stk (xm_c2 (xm_c2 hr.2.1)))
        · exact absurd ((xm_le hy hx).mpr (Int.not_lt.mp hh)) z
    · simp only [] at h
      split at h
      next hh =>
        refine ⟨(hk _ _ _ _ h).1, fun ls H locs cells slots hr => ?_⟩
        have hx := xm_c1 (xm_c2 hr.2.1)
        have hy := xm_c1 hr.2.1
        refine lv_icmp_gt F.1 F.2.1 D h2 (fun z => ?_) (fun z => ?_)
        · exact (hk _ _ _ _ h).2 _ h1 _ _ _ _ _ (hr.stk (xm_c2 (xm_c2 hr.2.1)))
        · exact absurd ((xm_lt hy hx).mpr hh) z
      next hh =>
        refine ⟨(hk _ _ _ _ h).1, fun ls H locs cells slots hr => ?_⟩
        have hx := xm_c1 (xm_c2 hr.2.1)
        have hy := xm_c1 hr.2.1
        refine lv_icmp_gt F.1 F.2.1 D h2 (fun z => ?_) (fun z => ?_)
        · exact absurd ((xm_lt hy hx).mp z) hh
        · exact (hk _ _ _ _ h).2 _ N _ _ _ _ _ (hr.stk (xm_c2 (xm_c2 hr.2.1)))
    · simp only [] at h
      split at h
      next hh =>
        refine ⟨(hk _ _ _ _ h).1, fun ls H locs cells slots hr => ?_⟩
        have hx := xm_c1 (xm_c2 hr.2.1)
        have hy := xm_c1 hr.2.1
        refine lv_icmp_le F.1 F.2.1 D h2 (fun z => ?_) (fun z => ?_)
        · exact absurd hh (Int.not_lt.mpr ((xm_le hx hy).mp z))
        · exact (hk _ _ _ _ h).2 _ N _ _ _ _ _ (hr.stk (xm_c2 (xm_c2 hr.2.1)))
      next hh =>
        refine ⟨(hk _ _ _ _ h).1, fun ls H locs cells slots hr => ?_⟩
        have hx := xm_c1 (xm_c2 hr.2.1)
        have hy := xm_c1 hr.2.1
        refine lv_icmp_le F.1 F.2.1 D h2 (fun z => ?_) (fun z => ?_)
        · exact (hk _ _ _ _ h).2 _ h1 _ _ _ _ _ (hr.stk (xm_c2 (xm_c2 hr.2.1)))
        · exact absurd ((xm_le hx hy).mpr (Int.not_lt.mp hh)) z
  next => cases h
theorem xm_s_ifnull {j : Int} (F : xm_Fr p s m args meth c cc nL own ini G o) (hk : xm_Sim p l e R s m args below meth c Q G nL mc ms cd k q) (hc : xm_chk own ini cc cd nL rk mt (.ifnull j, pc, nx, a, b, ps, sw) = true) (h : xm_step o xm_sta call (.ifnull j, pc, nx, a, b, ps, sw) L st w k = some q) : xm_Con p l e R s m args below meth c Q G nL mc ms q pc L st w := by
  simp only [xm_chk, Bool.and_eq_true] at hc
  simp only [xm_step] at h
  obtain ⟨t, h1, h2⟩ := xm_tg_ok hc.2
  split at h
  next r =>
    refine ⟨(hk _ _ _ _ h).1, fun ls H locs cells slots hr => ?_⟩
    exact lv_ifnullN F.1 F.2.1 (xm_dec_ok hc.1.1) h2 ((hk _ _ _ _ h).2 _ h1 _ _ _ _ _ (hr.stk (xm_c2 hr.2.1)))
  next x r =>
    refine ⟨(hk _ _ _ _ h).1, fun ls H locs cells slots hr => ?_⟩
    exact lv_ifnull F.1 F.2.1 (xm_dec_ok hc.1.1) ((hk _ _ _ _ h).2 _ (xm_ofn hc.1.2) _ _ _ _ _ (hr.stk (xm_c2 hr.2.1)))
  next => cases h
theorem xm_s_ifnonnull {j : Int} (F : xm_Fr p s m args meth c cc nL own ini G o) (hk : xm_Sim p l e R s m args below meth c Q G nL mc ms cd k q) (hc : xm_chk own ini cc cd nL rk mt (.ifnonnull j, pc, nx, a, b, ps, sw) = true) (h : xm_step o xm_sta call (.ifnonnull j, pc, nx, a, b, ps, sw) L st w k = some q) : xm_Con p l e R s m args below meth c Q G nL mc ms q pc L st w := by
  simp only [xm_chk, Bool.and_eq_true] at hc
  simp only [xm_step] at h
  obtain ⟨t, h1, h2⟩ := xm_tg_ok hc.2
  split at h
  next r =>
    refine ⟨(hk _ _ _ _ h).1, fun ls H locs cells slots hr => ?_⟩
    exact lv_ifnonnullN F.1 F.2.1 (xm_dec_ok hc.1.1) ((hk _ _ _ _ h).2 _ (xm_ofn hc.1.2) _ _ _ _ _ (hr.stk (xm_c2 hr.2.1)))
  next x r =>
    refine ⟨(hk _ _ _ _ h).1, fun ls H locs cells slots hr => ?_⟩
    exact lv_ifnonnull F.1 F.2.1 (xm_dec_ok hc.1.1) h2 ((hk _ _ _ _ h).2 _ h1 _ _ _ _ _ (hr.stk (xm_c2 hr.2.1)))
  next => cases h
theorem xm_s_tableswitch {d lo hi : Int} {os : Array Int} (F : xm_Fr p s m args meth c cc nL own ini G o) (hk : xm_Sim p l e R s m args below meth c Q G nL mc ms cd k q) (hc : xm_chk own ini cc cd nL rk mt (.tableswitch d lo hi os, pc, nx, a, b, ps, sw) = true) (h : xm_step o xm_sta call (.tableswitch d lo hi os, pc, nx, a, b, ps, sw) L st w k = some q) : xm_Con p l e R s m args below meth c Q G nL mc ms q pc L st w := by
  simp only [xm_chk, Bool.and_eq_true] at hc
  simp only [xm_step] at h
  obtain ⟨⟨⟨hd, ht⟩, htb⟩, hhi⟩ := hc
  have hhi := of_decide_eq_true hhi
  obtain ⟨td, h1, h2⟩ := xm_tg_ok ht
  obtain ⟨len, hdc⟩ : ∃ len, decode cc pc = .ok (.tableswitch d lo hi os, len) := by
    split at hd
    next i n hd2 => exact ⟨n, by rw [hd2, of_decide_eq_true hd]⟩
    next => cases hd
  split at h
  next x r =>
    refine ⟨(hk _ _ _ _ h).1, fun ls H locs cells slots hr => ?_⟩
    have hx := xm_c1 hr.2.1
    have K := fun pc hpc => (hk _ _ _ _ h).2 pc hpc _ _ _ _ _ (hr.stk (xm_c2 hr.2.1))
    rcases xm_tb_ok (d := a) os.toList sw lo x htb with ⟨h3, h4⟩ | ⟨ofs, t, h3, h4, h5, h6⟩
    · refine lv_tableOut F.1 F.2.1 hdc (by rw [xm_tic hx]; omega) h2 (K td (by rw [h4]; exact h1))
    · have h7 : (x - lo).toNat < os.toList.length := (List.getElem?_eq_some_iff.mp h4).1
      refine lv_tableIn F.1 F.2.1 hdc (by rw [xm_tic hx]; omega) (by rw [xm_tic hx]; omega) (by rw [xm_tic hx]; simpa using h4) h6 (K t h5)
  next => cases h
theorem xm_s_lookupswitch {d : Int} {os : Array (Int × Int)} (F : xm_Fr p s m args meth c cc nL own ini G o) (hk : xm_Sim p l e R s m args below meth c Q G nL mc ms cd k q) (hc : xm_chk own ini cc cd nL rk mt (.lookupswitch d os, pc, nx, a, b, ps, sw) = true) (h : xm_step o xm_sta call (.lookupswitch d os, pc, nx, a, b, ps, sw) L st w k = some q) : xm_Con p l e R s m args below meth c Q G nL mc ms q pc L st w := by
  simp only [xm_chk, Bool.and_eq_true] at hc
  simp only [xm_step] at h
  obtain ⟨⟨⟨hd, ht⟩, htb⟩, hsr⟩ := hc
  obtain ⟨td, h1, h2⟩ := xm_tg_ok ht
  obtain ⟨len, hdc⟩ : ∃ len, decode cc pc = .ok (.lookupswitch d os, len) := by
    split at hd
    next i n hd2 => exact ⟨n, by rw [hd2, of_decide_eq_true hd]⟩
    next => cases hd
  split at h
  next x r =>
    refine ⟨(hk _ _ _ _ h).1, fun ls H locs cells slots hr => ?_⟩
    have hx := xm_c1 hr.2.1
    obtain ⟨t, h3, h4⟩ := xm_lu_ok h1 h2 os.toList sw x htb
    exact lv_lookup F.1 F.2.1 hdc hsr (by rw [xm_tic hx]) h4 ((hk _ _ _ _ h).2 _ h3 _ _ _ _ _ (hr.stk (xm_c2 hr.2.1)))
  next => cases h
end xm_sec
