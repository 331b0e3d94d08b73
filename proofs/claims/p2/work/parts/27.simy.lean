theorem xm_toNat_len {i : Int} {n : Nat} (h0 : 0 ≤ i) (h : i < (n : Int)) : i.toNat < n := by omega
theorem xm_ofNat (n : Nat) : Int32.ofNat n = Int32.ofInt (n : Int) := rfl
theorem xm_okn {n : Nat} (h : n < 1000000) : xm_ok (.inl (n : Int)) := ⟨by omega, by omega⟩
theorem xm_set_fun {α β : Type} (l : List α) (g : α → β) (d : α) (i : Nat) (x : α) (hi : i < l.length) (j : Nat) : g ((l.set i x).getD j d) = if j = i then g x else g (l.getD j d) := by
  rw [List.getD_eq_getElem?_getD, List.getElem?_set, List.getD_eq_getElem?_getD]
  by_cases h : i = j
  · subst h
    simp [hi]
  · rw [if_neg h, if_neg (fun e => h e.symm)]
section xm_sec3
variable {p : Program} {l : Launch} {e : Env} {R : Room} {s : State} {m : MethodId} {args : Array Value} {below : List Frame} {meth : Method} {c : Code} {Q : State → Prop} {cc : ByteArray} {nL mc ms rk : Nat} {own : String} {ini : Bool} {G : xm_G} {o : xm_W} {cd : List xm_I} {k : xm_Kt} {q : Option xm_V × xm_W} {mt : Nat → Option xm_M} {call : Nat → List xm_V → xm_W → xm_R} {pc nx a b : Nat} {ps : List Nat} {sw : List (Int × Nat)} {L : List (Option xm_V)} {st : List xm_V} {w : xm_W}
theorem xm_s_iaload (F : xm_Fr p s m args meth c cc nL own ini G o) (hk : xm_Sim p l e R s m args below meth c Q G nL mc ms cd k q) (hc : xm_chk own ini cc cd nL rk mt (.iaload, pc, nx, a, b, ps, sw) = true) (h : xm_step o xm_sta call (.iaload, pc, nx, a, b, ps, sw) L st w k = some q) : xm_Con p l e R s m args below meth c Q G nL mc ms q pc L st w := by
  simp only [xm_chk, Bool.and_eq_true] at hc
  simp only [xm_step] at h
  split at h
  next i z r =>
    split at h
    next lst hl =>
      split at h
      next x hx =>
        refine ⟨(hk _ _ _ _ h).1, fun ls H locs cells slots hr => ?_⟩
        have hrep := hr.2.2.1
        have K := fun z => (hk _ _ _ _ h).2 _ (xm_ofn hc.2) _ _ _ _ _ (hr.stk z)
        have hi := xm_c1 hr.2.1
        obtain ⟨h0, hlt, hgx⟩ := xm_at_ok hx
        unfold xm_ints at hl
        split at hl
        next l' hg =>
          cases hl
          by_cases hz : z < 1000000
          · rw [xm_get_new hz] at hg
            have hok := (show xm_okC (.inl lst) from hrep.okc hg) x (List.mem_of_getElem? hgx)
            show W _ _ _ _ _ _ _ _ _ _ _ _ _ _ _ (F0 m pc ls (.int (Int32.ofInt i) :: .ref (xm_ad G z) :: r.map (xm_v G)))
            rw [xm_ad_lo hz]
            refine va_iald (D := G.1) F.1 F.2.1 F.2.2.2.2.2.1.2.1 (xm_P1 (hrep.at hg)) 0 0 rfl rfl (xm_vpin hi h0 hlt) (xm_dec_ok hc.1) ?_
            rw [xm_clamp hi, List.getD_eq_getElem?_getD, hgx]
            exact K (xm_c3 hok (xm_c2 (xm_c2 hr.2.1)))
          · rw [xm_get_old hrep.2.1 hz] at hg
            obtain ⟨ho1, ho2, ⟨cell, g1, g2, g3, g4, g6, g5⟩, ho3⟩ := F.2.2.2.2.2.1.2.2.2.2.2 _ _ hg
            show W _ _ _ _ _ _ _ _ _ _ _ _ _ _ _ (F0 m pc ls (.int (Int32.ofInt i) :: .ref (xm_ad G z) :: r.map (xm_v G)))
            rw [xm_ad_hi hz]
            refine W.iald (v := .int (Int32.ofInt x)) F.1 F.2.1 (by rw [hr.2.2.2.1.2.1 _ ho1 ho2]; exact g1) g2 g3 (xm_vpin hi h0 (Nat.lt_of_lt_of_le hlt g4)) (by rw [xm_clamp hi]; exact g5 _ _ hgx) rfl rfl (xm_dec_ok hc.1) ?_
            exact K (xm_c3 (ho3 x (List.mem_of_getElem? hgx)) (xm_c2 (xm_c2 hr.2.1)))
        next => cases hl
      next => cases h
    next => cases h
  next => cases h
theorem xm_s_baload (F : xm_Fr p s m args meth c cc nL own ini G o) (hk : xm_Sim p l e R s m args below meth c Q G nL mc ms cd k q) (hc : xm_chk own ini cc cd nL rk mt (.baload, pc, nx, a, b, ps, sw) = true) (h : xm_step o xm_sta call (.baload, pc, nx, a, b, ps, sw) L st w k = some q) : xm_Con p l e R s m args below meth c Q G nL mc ms q pc L st w := by
  simp only [xm_chk, Bool.and_eq_true] at hc
  simp only [xm_step] at h
  split at h
  next i z r =>
    split at h
    next lst hg =>
      split at h
      next x hx =>
        refine ⟨(hk _ _ _ _ h).1, fun ls H locs cells slots hr => ?_⟩
        have hrep := hr.2.2.1
        have K := fun z => (hk _ _ _ _ h).2 _ (xm_ofn hc.2) _ _ _ _ _ (hr.stk z)
        have hi := xm_c1 hr.2.1
        obtain ⟨h0, hlt, hgx⟩ := xm_at_ok hx
        by_cases hz : z < 1000000
        · rw [xm_get_new hz] at hg
          have := (hrep.okc hg).2.1
          omega
        · rw [xm_get_old hrep.2.1 hz] at hg
          obtain ⟨ho1, ho2, l', rfl, ⟨cell, g1, g2, g3, g4, g6, g5⟩, ho3⟩ := F.2.2.2.2.2.1.2.2.2.2.2 _ _ hg
          have hgx' : l'[i.toNat]? = some x := by
            rw [List.getElem?_map] at hgx
            cases hq : l'[i.toNat]? with
            | none => rw [hq] at hgx; cases hgx
            | some y => rw [hq] at hgx; cases hgx; rfl
          rw [List.length_map] at hlt
          show W _ _ _ _ _ _ _ _ _ _ _ _ _ _ _ (F0 m pc ls (.int (Int32.ofInt i) :: .ref (xm_ad G z) :: r.map (xm_v G)))
          rw [xm_ad_hi hz]
          refine W.bald (v := .int (Int32.ofInt x)) F.1 F.2.1 (by rw [hr.2.2.2.1.2.1 _ ho1 ho2]; exact g1) g2 g3 (xm_vpin hi h0 (Nat.lt_of_lt_of_le hlt g4)) (by rw [xm_clamp hi]; exact g5 _ _ hgx') rfl rfl (xm_dec_ok hc.1) ?_
          exact K (xm_c3 (ho3 x (List.mem_of_getElem? hgx')) (xm_c2 (xm_c2 hr.2.1)))
      next => cases h
    next => cases h
  next => cases h
theorem xm_seti_ok {w w' : xm_W} {z : Nat} {i x : Int} (h : xm_seti w z i x = some w') : ∃ lst, w[z]? = some (.inl lst) ∧ 0 ≤ i ∧ i < lst.length ∧ w' = w.set z (.inl (lst.set i.toNat x)) := by
  unfold xm_seti at h
  split at h
  next lst hg =>
    split at h
    next hh => cases h; exact ⟨lst, hg, hh.1, hh.2, rfl⟩
    next => cases h
  next => cases h
theorem xm_s_iastore (F : xm_Fr p s m args meth c cc nL own ini G o) (hk : xm_Sim p l e R s m args below meth c Q G nL mc ms cd k q) (hc : xm_chk own ini cc cd nL rk mt (.iastore, pc, nx, a, b, ps, sw) = true) (h : xm_step o xm_sta call (.iastore, pc, nx, a, b, ps, sw) L st w k = some q) : xm_Con p l e R s m args below meth c Q G nL mc ms q pc L st w := by
  simp only [xm_chk, Bool.and_eq_true] at hc
  simp only [xm_step] at h
  split at h
  next x i z r =>
    split at h
    next w' hw' =>
      obtain ⟨lst, hg, h0, hlt, rfl⟩ := xm_seti_ok hw'
      have hszc : xm_szC (.inl (lst.set i.toNat x)) = xm_szC (.inl lst) := by simp [xm_szC]
      refine ⟨xm_gr_tr (xm_gr_set hg hszc) (hk _ _ _ _ h).1, fun ls H locs cells slots hr => ?_⟩
      have hrep := hr.2.2.1
      have hz := hrep.lt hg
      have hokc : xm_okC (.inl lst) := hrep.okc hg
      have hx := xm_c1 hr.2.1
      have hi := xm_c1 (xm_c2 hr.2.1)
      have hlt' := xm_toNat_len h0 hlt
      have hK := F.2.2.2.2.2.1.2.1
      show W _ _ _ _ _ _ _ _ _ _ _ _ _ _ _ (F0 m pc ls (.int (Int32.ofInt x) :: .int (Int32.ofInt i) :: .ref (xm_ad G z) :: r.map (xm_v G)))
      rw [xm_ad_lo hz]
      refine W.iast F.1 F.2.1 (hrep.at hg) ((hK.2 0 _ rfl).1 lst.length (fun j => .int (Int32.ofInt (lst.getD j 0)))) (fun h9 => by cases h9) (by show ¬ (_ ∨ (arrV _ _ _).slots.size ≤ _); rw [arrV_size]; exact xm_vpin hi h0 hlt') rfl rfl (xm_dec_ok hc.1) fun H1 e1 e2 e3 => ?_
      refine (hk _ _ _ _ h).2 _ (xm_ofn hc.2) _ H1 _ _ _ (hr.put hg hszc ?_ (fun u hu => ?_) e2 e3 (xm_c2 (xm_c2 (xm_c2 hr.2.1))))
      · show H1[_]? = some (vp_cell _ _)
        rw [e1, vp_cell_i, vp_cell_i]
        rw [arrV_store, List.length_set, xm_clamp hi]
        congr 2
        funext j
        rw [xm_set_fun lst (fun y => Value.int (Int32.ofInt y)) 0 i.toNat x hlt' j]
        rfl
      · rcases List.mem_or_eq_of_mem_set hu with h3 | h3
        · exact hokc u h3
        · rw [h3]; exact hx
    next => cases h
  next => cases h
theorem xm_tag_ty (hK : va_K G.1 xm_cl (xm_tys G) s) {t : Nat} (ht : t = 4 ∨ t = 5 ∨ t = 7) : ∃ (t0 : Nat) (r : vw_C), (xm_tys G)[t0]? = some (G.2.1 t, .object r.1) ∧ xm_cl[t]? = some r := by
  rcases ht with rfl | rfl | rfl
  · exact ⟨1, (xm_R4, xm_F4, 7), rfl, rfl⟩
  · exact ⟨2, (xm_R5, xm_F5, 3), rfl, rfl⟩
  · exact ⟨3, (xm_R7, xm_F7, 1), rfl, rfl⟩
theorem xm_s_aaload (F : xm_Fr p s m args meth c cc nL own ini G o) (hk : xm_Sim p l e R s m args below meth c Q G nL mc ms cd k q) (hc : xm_chk own ini cc cd nL rk mt (.aaload, pc, nx, a, b, ps, sw) = true) (h : xm_step o xm_sta call (.aaload, pc, nx, a, b, ps, sw) L st w k = some q) : xm_Con p l e R s m args below meth c Q G nL mc ms q pc L st w := by
  simp only [xm_chk, Bool.and_eq_true] at hc
  simp only [xm_step] at h
  split at h
  next i z r =>
    split at h
    next lst hl =>
      split at h
      next x hx =>
        refine ⟨(hk _ _ _ _ h).1, fun ls H locs cells slots hr => ?_⟩
        have hrep := hr.2.2.1
        have K := (hk _ _ _ _ h).2 _ (xm_ofn hc.2) _ _ _ _ _ (hr.stk (xm_c3 (xm_okr x) (xm_c2 (xm_c2 hr.2.1))))
        have hi := xm_c1 hr.2.1
        obtain ⟨h0, hlt, hgx⟩ := xm_at_ok hx
        unfold xm_refs at hl
        split at hl
        next t l' hg =>
          cases hl
          by_cases hz : z < 1000000
          · rw [xm_get_new hz] at hg
            obtain ⟨t0, rr, ht0, -⟩ := xm_tag_ty F.2.2.2.2.2.1.2.1 (hrep.okc hg).1
            show W _ _ _ _ _ _ _ _ _ _ _ _ _ _ _ (F0 m pc ls (.int (Int32.ofInt i) :: .ref (xm_ad G z) :: r.map (xm_v G)))
            rw [xm_ad_lo hz]
            refine va_aldq (D := G.1) F.1 F.2.1 F.2.2.2.2.2.1.2.1 (xm_P1 (hrep.at hg)) 0 t0 rfl ht0 (xm_vpin hi h0 hlt) (xm_dec_ok hc.1) ?_
            rw [xm_clamp hi, List.getD_eq_getElem?_getD, hgx]
            have e : va_rf (((some x).getD none).map (xm_ad G)) = xm_v G (.inr (.inl x)) := by cases x <;> rfl
            rw [e]
            exact K
          · rw [xm_get_old hrep.2.1 hz] at hg
            exact absurd (F.2.2.2.2.2.1.2.2.2.2.2 _ _ hg).2.2 (fun f => f)
        next => cases hl
      next => cases h
    next => cases h
  next => cases h
theorem xm_setq_ok {w w' : xm_W} {z : Nat} {i : Int} {x : Option Nat} (h : xm_setq w z i x = some w') : ∃ t lst, w[z]? = some (.inr (.inl (t, lst))) ∧ 0 ≤ i ∧ i < lst.length ∧ (∀ v, x = some v → ∃ fs, w[v]? = some (.inr (.inr (t, fs)))) ∧ w' = w.set z (.inr (.inl (t, lst.set i.toNat x))) := by
  unfold xm_setq at h
  split at h
  next t lst hg =>
    split at h
    next hh =>
      cases h
      refine ⟨t, lst, hg, hh.1, hh.2.1, fun v hv => ?_, rfl⟩
      subst hv
      have h5 : xm_cls w v t = true := hh.2.2
      unfold xm_cls at h5
      split at h5
      next c' fs hv =>
        have : c' = t := by simpa using h5
        subst this
        exact ⟨fs, hv⟩
      next => cases h5
    next => cases h
  next => cases h
theorem xm_s_aastore (F : xm_Fr p s m args meth c cc nL own ini G o) (hk : xm_Sim p l e R s m args below meth c Q G nL mc ms cd k q) (hc : xm_chk own ini cc cd nL rk mt (.aastore, pc, nx, a, b, ps, sw) = true) (h : xm_step o xm_sta call (.aastore, pc, nx, a, b, ps, sw) L st w k = some q) : xm_Con p l e R s m args below meth c Q G nL mc ms q pc L st w := by
  simp only [xm_chk, Bool.and_eq_true] at hc
  simp only [xm_step] at h
  split at h
  next x i z r =>
    split at h
    next w' hw' =>
      obtain ⟨t, lst, hg, h0, hlt, hv, rfl⟩ := xm_setq_ok hw'
      have hszc : xm_szC (.inr (.inl (t, lst.set i.toNat x))) = xm_szC (.inr (.inl (t, lst))) := by simp [xm_szC]
      refine ⟨xm_gr_tr (xm_gr_set hg hszc) (hk _ _ _ _ h).1, fun ls H locs cells slots hr => ?_⟩
      have hrep := hr.2.2.1
      have hz := hrep.lt hg
      have hokc := hrep.okc hg
      have hi := xm_c1 (xm_c2 hr.2.1)
      have hlt' := xm_toNat_len h0 hlt
      have hK := F.2.2.2.2.2.1.2.1
      obtain ⟨t0, rr, ht0, hcl⟩ := xm_tag_ty hK hokc.1
      have hok' : xm_okC (.inr (.inl (t, lst.set i.toNat x))) := ⟨hokc.1, fun v hv2 => by
        rcases List.mem_or_eq_of_mem_set hv2 with h3 | h3
        · exact hokc.2 v h3
        · exact hrep.lt (hv v h3.symm).choose_spec⟩
      have K := fun H1 (e1 : va_at G.1 xm_cl (G.2.2.1 + z, xm_e G (.inr (.inl (t, lst.set i.toNat x)))) H1) e2 e3 => (hk _ _ _ _ h).2 _ (xm_ofn hc.2) _ H1 (locs ++ [⟨G.2.2.1 + z, (Int32.ofInt i).toNatClampNeg⟩]) _ _ (hr.put hg hszc e1 hok' e2 e3 (xm_c2 (xm_c2 (xm_c2 hr.2.1))))
      have hvin : ¬ (Int32.ofInt i < 0 ∨ lst.length ≤ (Int32.ofInt i).toNatClampNeg) := xm_vpin hi h0 hlt'
      have E : ∀ (H1 : Heap) (y : Value), y = va_rf (x.map (xm_ad G)) → H1[G.2.2.1 + z]? = some ((vp_cell (G.2.1 t) (lst.length, .inr (.inr (.inr (.inr fun j => (lst.getD j none).map (xm_ad G)))))).setSlot (Int32.ofInt i).toNatClampNeg y) → va_at G.1 xm_cl (G.2.2.1 + z, xm_e G (.inr (.inl (t, lst.set i.toNat x)))) H1 := by
        intro H1 y hy e1
        show H1[_]? = some (vp_cell _ _)
        rw [e1, vp_cell_q, vp_cell_q]
        rw [arrV_store, List.length_set, xm_clamp hi, hy]
        congr 2
        funext j
        rw [xm_set_fun lst (fun y => va_rf (y.map (xm_ad G))) none i.toNat x hlt' j]
        rfl
      match x, hv, K, E with
      | none, hv, K, E =>
        show W _ _ _ _ _ _ _ _ _ _ _ _ _ _ _ (F0 m pc ls (.null :: .int (Int32.ofInt i) :: .ref (xm_ad G z) :: r.map (xm_v G)))
        rw [xm_ad_lo hz]
        refine va_WaastN (C := rr.1) F.1 F.2.1 (hrep.at hg) ((hK.2 t0 _ ht0).1 lst.length (fun j => va_rf ((lst.getD j none).map (xm_ad G)))) (fun h9 => by cases h9) (by show ¬ (_ ∨ (arrV _ _ _).slots.size ≤ _); rw [arrV_size]; exact hvin) rfl rfl (xm_dec_ok hc.1) fun H1 e1 e2 e3 => ?_
        exact K H1 (E H1 _ rfl e1) e2 e3
      | some v, hv, K, E =>
        obtain ⟨fs, hvw⟩ := hv v rfl
        have hvl := hrep.lt hvw
        show W _ _ _ _ _ _ _ _ _ _ _ _ _ _ _ (F0 m pc ls (.ref (xm_ad G v) :: .int (Int32.ofInt i) :: .ref (xm_ad G z) :: r.map (xm_v G)))
        rw [xm_ad_lo hz]
        obtain ⟨r', hr', cellV, g1, g2, g3, -⟩ := hrep.at hvw
        have hrr : r' = rr := Option.some.inj (hr'.symm.trans hcl)
        subst hrr
        have hcls := (hK.1 t _ hcl).2
        obtain ⟨kA, comp, k1, k2, k3, -⟩ := (hK.2 t0 _ ht0).2
        have hcomp : comp = G.1.1 t := Option.some.inj (k3.symm.trans hcls.1)
        subst hcomp
        obtain ⟨kC, hkC, -⟩ := hcls.2
        refine W.aast (cv := cellV) F.1 F.2.1 (hrep.at hg) (fun q h => by cases h) (fun h => by cases h) k1 k2 rfl hkC ⟨fun h9 => hvin (Or.inl h9), by show _ < (arrV _ _ _).slots.size; rw [arrV_size]; exact Nat.not_le.mp fun h9 => hvin (Or.inr h9)⟩ (by rw [xm_ad_lo hvl]; exact g1) (fun q h => by rw [g3] at h; cases h) (by rw [g2]; exact hkC) (by rw [g2]; exact va_assign hcls) rfl rfl (xm_dec_ok hc.1) fun H1 e1 e2 e3 => ?_
        exact K H1 (E H1 _ rfl e1) e2 e3
    next => cases h
  next => cases h
theorem xm_s_arraylength (F : xm_Fr p s m args meth c cc nL own ini G o) (hk : xm_Sim p l e R s m args below meth c Q G nL mc ms cd k q) (hc : xm_chk own ini cc cd nL rk mt (.arraylength, pc, nx, a, b, ps, sw) = true) (h : xm_step o xm_sta call (.arraylength, pc, nx, a, b, ps, sw) L st w k = some q) : xm_Con p l e R s m args below meth c Q G nL mc ms q pc L st w := by
  simp only [xm_chk, Bool.and_eq_true] at hc
  simp only [xm_step] at h
  split at h
  next z r =>
    split at h
    next lst hg =>
      split at h
      next hlen =>
        refine ⟨(hk _ _ _ _ h).1, fun ls H locs cells slots hr => ?_⟩
        have hrep := hr.2.2.1
        have K := fun z => (hk _ _ _ _ h).2 _ (xm_ofn hc.2) _ _ _ _ _ (hr.stk z)
        show W _ _ _ _ _ _ _ _ _ _ _ _ _ _ _ (F0 m pc ls (.ref (xm_ad G z) :: r.map (xm_v G)))
        by_cases hz : z < 1000000
        · rw [xm_get_new hz] at hg
          rw [xm_ad_lo hz]
          refine va_alen (D := G.1) F.1 F.2.1 F.2.2.2.2.2.1.2.1 (xm_P1 (hrep.at hg)) 0 0 rfl rfl (xm_ofNat _) (xm_dec_ok hc.1) ?_
          exact K (xm_c3 (xm_okn hlen) (xm_c2 hr.2.1))
        · rw [xm_get_old hrep.2.1 hz] at hg
          obtain ⟨ho1, ho2, ⟨cell, g1, g2, g3, g4, g6, g5⟩, ho3⟩ := F.2.2.2.2.2.1.2.2.2.2.2 _ _ hg
          rw [xm_ad_hi hz]
          refine W.alen (n := Int32.ofInt (lst.length : Int)) F.1 F.2.1 (by rw [hr.2.2.2.1.2.1 _ ho1 ho2]; exact g1) g2 (by rw [g6]; rfl) rfl rfl (xm_dec_ok hc.1) ?_
          exact K (xm_c3 (xm_okn hlen) (xm_c2 hr.2.1))
      next => cases h
    next lst hg =>
      split at h
      next hlen =>
        refine ⟨(hk _ _ _ _ h).1, fun ls H locs cells slots hr => ?_⟩
        have hrep := hr.2.2.1
        have K := fun z => (hk _ _ _ _ h).2 _ (xm_ofn hc.2) _ _ _ _ _ (hr.stk z)
        show W _ _ _ _ _ _ _ _ _ _ _ _ _ _ _ (F0 m pc ls (.ref (xm_ad G z) :: r.map (xm_v G)))
        by_cases hz : z < 1000000
        · rw [xm_get_new hz] at hg
          have := (hrep.okc hg).2.1
          omega
        · rw [xm_get_old hrep.2.1 hz] at hg
          obtain ⟨ho1, ho2, l', rfl, ⟨cell, g1, g2, g3, g4, g6, g5⟩, ho3⟩ := F.2.2.2.2.2.1.2.2.2.2.2 _ _ hg
          rw [xm_ad_hi hz]
          refine W.alen (n := Int32.ofInt ((l'.map Sum.inl : List xm_V).length : Int)) F.1 F.2.1 (by rw [hr.2.2.2.1.2.1 _ ho1 ho2]; exact g1) g2 (by rw [g6, List.length_map]; rfl) rfl rfl (xm_dec_ok hc.1) ?_
          exact K (xm_c3 (xm_okn hlen) (xm_c2 hr.2.1))
      next => cases h
    next => cases h
  next => cases h
end xm_sec3
