section xm_sec2
variable {p : Program} {l : Launch} {e : Env} {R : Room} {s : State} {m : MethodId} {args : Array Value} {below : List Frame} {meth : Method} {c : Code} {Q : State → Prop} {cc : ByteArray} {nL mc ms rk : Nat} {own : String} {ini : Bool} {G : xm_G} {o : xm_W} {cd : List xm_I} {k : xm_Kt} {q : Option xm_V × xm_W} {mt : Nat → Option xm_M} {call : Nat → List xm_V → xm_W → xm_R} {pc nx a b : Nat} {ps : List Nat} {sw : List (Int × Nat)} {L : List (Option xm_V)} {st : List xm_V} {w : xm_W}
theorem xm_get_new {o w : xm_W} {j : Nat} (h : j < 1000000) : xm_get o w j = w[j]? := by
  unfold xm_get
  cases w[j]? with
  | some x => rfl
  | none => exact if_pos h
theorem xm_get_old {o w : xm_W} {j : Nat} (hl : w.length < 1000000) (h : ¬ j < 1000000) : xm_get o w j = o[j - 1000000]? := by
  unfold xm_get
  have e : w[j]? = none := List.getElem?_eq_none (by omega)
  rw [e]
  exact if_neg h
theorem xm_Rep.lt {w : xm_W} {H : Heap} {z : Nat} {x : xm_C} (h : xm_Rep G w H) (hz : w[z]? = some x) : z < 1000000 := Nat.lt_trans (List.getElem?_eq_some_iff.mp hz).1 h.2.1
/-- an object's field, of the list of classes -/
theorem xm_fd_ok {put : Bool} {j p0 : Nat} (h : xm_fd own ini put j a b p0 = true) (hb : b < 10) : ∃ C T N, xm_cl[b]? = some (C, T, N) ∧ a < N ∧ xm_gd p0 (.fieldLink own j (T a).1 (T a).2.1 (T a).2.2.1) = true ∧ (put = true → (T a).2.2.2 = true → (T a).1 = own ∧ ini = true) := by
  unfold xm_fd at h
  split at h
  next C T N hc =>
    simp only [Bool.and_eq_true, decide_eq_true_eq] at h
    refine ⟨C, T, N, hc, h.1.1, h.1.2, fun h1 h2 => ?_⟩
    have h3 := h.2
    rw [h1, h2] at h3
    simpa using h3
  next hc =>
    have : b < xm_cl.length := hb
    rw [List.getElem?_eq_getElem this] at hc
    cases hc
theorem xm_at_ok {α : Type} {l : List α} {i : Int} {x : α} (h : xm_at l i = some x) : 0 ≤ i ∧ i.toNat < l.length ∧ l[i.toNat]? = some x := by
  unfold xm_at at h
  split at h
  next h0 => exact ⟨h0, (List.getElem?_eq_some_iff.mp h).1, h⟩
  next => cases h
theorem xm_vpin {i : Int} {n : Nat} (hi : xm_ok (.inl i)) (h0 : 0 ≤ i) (h1 : i.toNat < n) : vp_in (Int32.ofInt i) n := by
  unfold vp_in
  rw [xm_lt0 hi, xm_clamp hi]
  omega
theorem xm_s_getfield {j : Nat} (F : xm_Fr p s m args meth c cc nL own ini G o) (hk : xm_Sim p l e R s m args below meth c Q G nL mc ms cd k q) (hc : xm_chk own ini cc cd nL rk mt (.getfield j, pc, nx, a, b, ps, sw) = true) (h : xm_step o xm_sta call (.getfield j, pc, nx, a, b, ps, sw) L st w k = some q) : xm_Con p l e R s m args below meth c Q G nL mc ms q pc L st w := by
  simp only [xm_chk, Bool.and_eq_true] at hc
  simp only [xm_step] at h
  split at h
  next z r =>
    split at h
    next v hv =>
      refine ⟨(hk _ _ _ _ h).1, fun ls H locs cells slots hr => ?_⟩
      have hrep := hr.2.2.1
      have K := fun z => (hk _ _ _ _ h).2 _ (xm_ofn hc.1.2) _ _ _ _ _ (hr.stk z)
      unfold xm_fld at hv
      split at hv
      next c' fs hg =>
        split at hv
        next hcc =>
          subst hcc
          by_cases hz : z < 1000000
          · rw [xm_get_new hz] at hg
            have hokc := hrep.okc hg
            obtain ⟨C, T, N, hcl, haN, hlk, -⟩ := xm_fd_ok hc.2 hokc.2.1
            show W _ _ _ _ _ _ _ _ _ _ _ _ _ _ _ (F0 m pc ls (.ref (xm_ad G z) :: r.map (xm_v G)))
            rw [xm_ad_lo hz]
            refine va_get (D := G.1) (ci := c') (v := xm_v G v) (C := C) (T := T) (N := N) F.1 F.2.1 F.hts (fun u hu => ?_) F.2.2.2.1 F.2.2.2.2.2.1.2.1 (xm_P1 (hrep.at hg)) 0 rfl hcl a haN (F.gd hlk) (fun _ h9 => h9) ?_ (xm_dec_ok hc.1.1) ?_
            · have := (xm_clok c' _ hcl).2.2.2 u hu
              exact xm_ws_in this.1 this.2
            · rw [List.getElem?_map, hv]; rfl
            · exact K (xm_c3 (hokc.2.2 v (List.mem_of_getElem? hv)) (xm_c2 hr.2.1))
          · rw [xm_get_old hrep.2.1 hz] at hg
            have ho := F.2.2.2.2.2.1.2.2.2.2.2 _ _ hg
            show W _ _ _ _ _ _ _ _ _ _ _ _ _ _ _ (F0 m pc ls (.ref (xm_ad G z) :: r.map (xm_v G)))
            rw [xm_ad_hi hz]
            have hfd := hc.2
            match c', fs, ho, hv, hfd with
            | 98, [v0, u0], ho, hv, hfd =>
              obtain ⟨-, -, h4, h5, h6, h7, -⟩ := ho
              match a, hv, hfd with
              | 0, hv, hfd =>
                cases hv
                exact vk_getf F.1 F.2.1 h4 hr.2.2.2.1 F.2.2.2.1 (F.gd hfd) (fun _ h9 => h9) (xm_dec_ok hc.1.1) (K (xm_c3 h6 (xm_c2 hr.2.1)))
              | 1, hv, hfd =>
                cases hv
                exact vk_getf F.1 F.2.1 h5 hr.2.2.2.1 F.2.2.2.1 (F.gd hfd) (fun _ h9 => h9) (xm_dec_ok hc.1.1) (K (xm_c3 h7 (xm_c2 hr.2.1)))
            | 99, fs, ho, hv, hfd =>
              simp [xm_fd] at hfd
        next => cases hv
      next => cases hv
    next => cases h
  next => cases h
theorem xm_fit_ok {ty : FieldType} {t : Nat} {v : xm_V} (h : xm_fit t v = true) (ht : xm_kind ty = t) : narrow ty (xm_v G v) = xm_v G v ∧ fits ty (xm_v G v) = true := by
  subst ht
  match v, h with
  | .inl z, h =>
    simp only [xm_fit, Bool.or_eq_true, Bool.and_eq_true, beq_iff_eq] at h
    rcases h with h | ⟨h, h2⟩
    · cases ty <;> first | (simp [xm_kind] at h; done) | exact ⟨rfl, rfl⟩
    · cases ty <;> first | (simp [xm_kind] at h; done) | (rcases h2 with rfl | rfl <;> exact ⟨rfl, rfl⟩)
  | .inr (.inl none), h =>
    simp only [xm_fit, beq_iff_eq] at h
    cases ty <;> first | (simp [xm_kind] at h; done) | exact ⟨rfl, rfl⟩
  | .inr (.inl (some x)), h =>
    simp only [xm_fit, beq_iff_eq] at h
    cases ty <;> first | (simp [xm_kind] at h; done) | exact ⟨rfl, rfl⟩
theorem xm_setf_ok {w w' : xm_W} {z c' a' t : Nat} {v : xm_V} (h : xm_setf w z c' a' t v = some w') : ∃ fs, w[z]? = some (.inr (.inr (c', fs))) ∧ a' < fs.length ∧ xm_fit t v = true ∧ w' = w.set z (.inr (.inr (c', fs.set a' v))) := by
  unfold xm_setf at h
  split at h
  next c1 fs hg =>
    split at h
    next hh =>
      obtain ⟨rfl, h2, h3⟩ := hh
      cases h
      exact ⟨fs, hg, h2, h3, rfl⟩
    next => cases h
  next => cases h
theorem xm_s_putfield {j : Nat} (F : xm_Fr p s m args meth c cc nL own ini G o) (hk : xm_Sim p l e R s m args below meth c Q G nL mc ms cd k q) (hc : xm_chk own ini cc cd nL rk mt (.putfield j, pc, nx, a, b, ps, sw) = true) (h : xm_step o xm_sta call (.putfield j, pc, nx, a, b, ps, sw) L st w k = some q) : xm_Con p l e R s m args below meth c Q G nL mc ms q pc L st w := by
  simp only [xm_chk, Bool.and_eq_true] at hc
  simp only [xm_step] at h
  split at h
  next v z r =>
    split at h
    next w' hw' =>
      obtain ⟨fs, hg, hal, hfit, rfl⟩ := xm_setf_ok hw'
      have hszc : xm_szC (.inr (.inr (b, fs.set a v))) = xm_szC (.inr (.inr (b, fs))) := by simp [xm_szC]
      refine ⟨xm_gr_tr (xm_gr_set hg hszc) (hk _ _ _ _ h).1, fun ls H locs cells slots hr => ?_⟩
      have hrep := hr.2.2.1
      have hz := hrep.lt hg
      have hokc := hrep.okc hg
      obtain ⟨C, T, N, hcl, haN, hlk, hput⟩ := xm_fd_ok hc.2 hokc.2.1
      obtain ⟨hnm, hty, hlen, hin⟩ := xm_clok b _ hcl
      have hin' : ∀ u ∈ u_ws C T N, u ∈ xm_WS := fun u hu => xm_ws_in (hin u hu).1 (hin u hu).2
      obtain ⟨hd, hkd⟩ := hty a haN
      have hkk : xm_kind (xm_ty b a) = (xm_kd b).getD a 9 := by rw [List.getD_eq_getElem?_getD, hkd]; rfl
      obtain ⟨hn, hfi⟩ := xm_fit_ok (G := G) hfit hkk
      have hK := F.2.2.2.2.2.1.2.1
      have hap := va_apart (own := own) F.hts hin' (xm_ty b) (fun k hk => (hty k hk).1) hnm hK hcl
      obtain ⟨r', h1, cell, q1, q2, q3, q4⟩ := hrep.at hg
      have hr' : r' = (C, T, N) := Option.some.inj (h1.symm.trans hcl)
      subst hr'
      obtain ⟨hS, hfc, kC, hkC, hkind⟩ := hK.1 b _ hcl
      obtain ⟨cf, kf, fi, f, hi, hsl⟩ := hS a haN
      have hst := (u_facts hfc hkC (u_lays F.hts hin' haN) hi).1
      have hV : ∀ (H' : Heap), H'[G.2.2.1 + z]? = some (cell.setSlot (G.1.2 b a) (xm_v G v)) → va_at G.1 xm_cl (G.2.2.1 + z, xm_e G (.inr (.inr (b, fs.set a v)))) H' := by
        intro H' e1
        refine ⟨_, hcl, t_OB.to (V := updV (vp_V (fs.map (xm_v G))) a (xm_v G v)) ⟨_, e1, q2, q3, t_set q4 hap haN (xm_v G v)⟩ (fun j' _ => ?_)⟩
        rw [List.map_set]
        exact vp_updV_set (by rw [List.length_map]; exact hal) _ j'
      have hokc' : xm_okC (.inr (.inr (b, fs.set a v))) := ⟨by rw [List.length_set]; exact hokc.1, hokc.2.1, fun u hu => by
        rcases List.mem_or_eq_of_mem_set hu with h3 | h3
        · exact hokc.2.2 u h3
        · rw [h3]; exact xm_c1 hr.2.1⟩
      have K := fun H' (e1 : H'[G.2.2.1 + z]? = some (cell.setSlot (G.1.2 b a) (xm_v G v))) e2 e3 => (hk _ _ _ _ h).2 _ (xm_ofn hc.1.2) _ H' (locs ++ [⟨G.2.2.1 + z, G.1.2 b a⟩]) _ _ (hr.put hg hszc (hV H' e1) hokc' e2 e3 (xm_c2 (xm_c2 hr.2.1)))
      show W _ _ _ _ _ _ _ _ _ _ _ _ _ _ _ (F0 m pc ls (xm_v G v :: .ref (xm_ad G z) :: r.map (xm_v G)))
      rw [xm_ad_lo hz]
      have hlay := F.hts _ (hin' _ (u_in_lay haN))
      unfold u_lay at hlay
      by_cases hfin : (T a).2.2.2 = true
      · rw [if_pos hfin] at hlay
        obtain ⟨hdecl, hini⟩ := hput rfl hfin
        have hcf : m.cls = cf := by
          obtain ⟨_, _, c', _, _, _, -, -, hf', -, -, -, hown2, -⟩ := Cond.laysFinal_spec hlay
          have e1 : c' = cf := by have := hi.symm.trans hf'; simp at this; exact this.1.symm
          rw [hdecl] at hown2
          rw [← e1]; exact Option.some.inj (F.2.2.2.1.symm.trans hown2)
        have h6 := u_fits hfc hkC hkind (Or.inr hlay) hi hd hn hfi
        refine W.putFinK F.1 F.2.1 F.2.2.2.1 (F.gd hlk) hi hst hcf (F.2.2.2.2.2.2.1 hini) (by rw [q2]; exact h6) q1 q3 (by rw [hsl]; exact k2_hasslot (q4 a haN)) rfl rfl (xm_dec_ok hc.1.1) fun H' e1 e2 e3 => ?_
        rw [hsl] at e1 ⊢
        exact K H' e1 e2 e3
      · rw [if_neg hfin] at hlay
        have h6 := u_store hfc hkC hkind hlay hi hd hn hfi
        refine W.putK F.1 F.2.1 (f := f) ⟨F.2.2.2.1, F.gd hlk, ⟨_, _, _, hi⟩, hst⟩ (by rw [q2]; exact h6) q1 q3 (by rw [hsl]; exact k2_hasslot (q4 a haN)) rfl rfl (xm_dec_ok hc.1.1) fun H' e1 e2 e3 => ?_
        rw [hsl] at e1 ⊢
        exact K H' e1 e2 e3
    next => cases h
  next => cases h
theorem xm_s_getstatic {j : Nat} (F : xm_Fr p s m args meth c cc nL own ini G o) (hk : xm_Sim p l e R s m args below meth c Q G nL mc ms cd k q) (hc : xm_chk own ini cc cd nL rk mt (.getstatic j, pc, nx, a, b, ps, sw) = true) (h : xm_step o xm_sta call (.getstatic j, pc, nx, a, b, ps, sw) L st w k = some q) : xm_Con p l e R s m args below meth c Q G nL mc ms q pc L st w := by
  simp only [xm_chk, Bool.and_eq_true] at hc
  simp only [xm_step] at h
  split at h
  next v hv =>
    refine ⟨(hk _ _ _ _ h).1, fun ls H locs cells slots hr => ?_⟩
    have K := fun z => (hk _ _ _ _ h).2 _ (xm_ofn hc.1.2) _ _ _ _ _ (hr.stk z)
    have hc2 := hc.2
    split at hc2
    next C n d hs =>
      obtain ⟨v', h1, h2, h3⟩ := F.2.2.2.2.2.1.2.2.2.1 a _ hs
      have : v' = v := Option.some.inj (h1.symm.trans hv)
      subst this
      rw [Bool.or_eq_true] at hc2
      rcases hc2 with hc2 | hc2
      · exact va_gets F.1 F.2.1 h3 hr.2.2.2.1 F.2.2.2.1 (F.gd hc2) (fun _ h9 => h9) (xm_dec_ok hc.1.1) (K (xm_c3 h2 hr.2.1))
      · have h4 := F.2.2.2.2.2.1.1 _ (xm_wd_in hc2) rfl
        exact va_getsN F.1 F.2.1 h3 hr.2.2.2.1 F.2.2.2.1 (va_Nw.use rfl h4) (fun _ h9 => h9) (xm_dec_ok hc.1.1) (K (xm_c3 h2 hr.2.1))
    next => cases hc2
  next => cases h
theorem xm_s_ldc {j : Nat} (F : xm_Fr p s m args meth c cc nL own ini G o) (hk : xm_Sim p l e R s m args below meth c Q G nL mc ms cd k q) (hc : xm_chk own ini cc cd nL rk mt (.ldc j, pc, nx, a, b, ps, sw) = true) (h : xm_step o xm_sta call (.ldc j, pc, nx, a, b, ps, sw) L st w k = some q) : xm_Con p l e R s m args below meth c Q G nL mc ms q pc L st w := by
  simp only [xm_chk, Bool.and_eq_true] at hc
  simp only [xm_step] at h
  split at h
  next z _ =>
    refine ⟨(hk _ _ _ _ h).1, fun ls H locs cells slots hr => ?_⟩
    have hc2 := hc.2
    simp only [Bool.and_eq_true] at hc2
    exact lv_ldc F.1 F.2.1 F.2.2.2.1 (F.gd hc2.1) (xm_dec_ok hc.1.1) ((hk _ _ _ _ h).2 _ (xm_ofn hc.1.2) _ _ _ _ _ (hr.stk (xm_c3 (xm_okb_ok hc2.2) hr.2.1)))
  next hne =>
    refine ⟨(hk _ _ _ _ h).1, fun ls H locs cells slots hr => ?_⟩
    have K := (hk _ _ _ _ h).2 _ (xm_ofn hc.1.2) _ _ _ _ _ (hr.stk (xm_c3 (xm_okr _) hr.2.1))
    have hc2 := hc.2
    split at hc2
    next z _ => exact absurd rfl (hne _ _)
    next =>
      split at hc2
      next ow kk tx hs =>
        simp only [Bool.and_eq_true, decide_eq_true_eq] at hc2
        obtain ⟨⟨rfl, rfl⟩, h2⟩ := hc2
        have hZ := F.2.2.2.2.2.1.2.2.2.2.1 (a - 2) _ hs
        rw [show a - 2 + 2 = a by omega] at hZ
        have e1 : xm_ad G (1000000 + a) = G.2.2.2 a := by rw [xm_ad_hi (by omega), Nat.add_sub_cancel_left]
        refine va_ldcS F.1 F.2.1 F.2.2.2.1 hZ (xm_dec_ok hc.1.1) ?_
        rw [← e1]
        exact K
      next => cases hc2
theorem xm_s_ldc_w {j : Nat} (F : xm_Fr p s m args meth c cc nL own ini G o) (hk : xm_Sim p l e R s m args below meth c Q G nL mc ms cd k q) (hc : xm_chk own ini cc cd nL rk mt (.ldc_w j, pc, nx, a, b, ps, sw) = true) (h : xm_step o xm_sta call (.ldc_w j, pc, nx, a, b, ps, sw) L st w k = some q) : xm_Con p l e R s m args below meth c Q G nL mc ms q pc L st w := by
  simp only [xm_chk, Bool.and_eq_true] at hc
  simp only [xm_step] at h
  split at h
  next z _ =>
    refine ⟨(hk _ _ _ _ h).1, fun ls H locs cells slots hr => ?_⟩
    have hc2 := hc.2
    simp only [Bool.and_eq_true] at hc2
    exact lv_ldcw F.1 F.2.1 F.2.2.2.1 (F.gd hc2.1) (xm_dec_ok hc.1.1) ((hk _ _ _ _ h).2 _ (xm_ofn hc.1.2) _ _ _ _ _ (hr.stk (xm_c3 (xm_okb_ok hc2.2) hr.2.1)))
  next => cases h
theorem xm_s_ldc2_w {j : Nat} (F : xm_Fr p s m args meth c cc nL own ini G o) (hk : xm_Sim p l e R s m args below meth c Q G nL mc ms cd k q) (hc : xm_chk own ini cc cd nL rk mt (.ldc2_w j, pc, nx, a, b, ps, sw) = true) (h : xm_step o xm_sta call (.ldc2_w j, pc, nx, a, b, ps, sw) L st w k = some q) : xm_Con p l e R s m args below meth c Q G nL mc ms q pc L st w := by
  simp only [xm_chk, Bool.and_eq_true] at hc
  simp only [xm_step] at h
  split at h
  next z _ =>
    refine ⟨(hk _ _ _ _ h).1, fun ls H locs cells slots hr => ?_⟩
    exact lv_ldc2 F.1 F.2.1 F.2.2.2.1 (F.gd hc.2) (xm_dec_ok hc.1.1) ((hk _ _ _ _ h).2 _ (xm_ofn hc.1.2) _ _ _ _ _ (hr.stk (xm_c3 (xm_okl _) hr.2.1)))
  next => cases h
end xm_sec2
