/-- a method's ends -/
def xm_Ret (p : Program) (l : Launch) (e : Env) (R : Room) (s : State) (m : MethodId) (args : Array Value) (below : List Frame) (meth : Method) (c : Code) (Q : State → Prop) (G : xm_G) (cc : ByteArray) (mc ms rk : Nat) (q : Option xm_V × xm_W) : Prop :=
  ∀ pc ls H locs, xm_Rep G q.2 H → va_S (xm_A G) s.heap H locs →
    (∀ z, q.1 = some (.inl z) → xm_ok (.inl z) → (rk = 1 ∨ rk = 2 ∨ rk = 4) → decode cc pc = .ok (.ireturn, 1) → W p l e R s m args below meth c H locs mc ms Q (F0 m pc ls [.int (Int32.ofInt z)])) ∧
    (∀ x, q.1 = some (.inr (.inl x)) → rk = 3 → decode cc pc = .ok (.areturn, 1) → W p l e R s m args below meth c H locs mc ms Q (F0 m pc ls [xm_v G (.inr (.inl x))])) ∧
    (q.1 = none → rk = 0 → decode cc pc = .ok (.return_, 1) → W p l e R s m args below meth c H locs mc ms Q (F0 m pc ls []))
section xm_sec7
variable {p : Program} {l : Launch} {e : Env} {R : Room} {s : State} {m : MethodId} {args : Array Value} {below : List Frame} {meth : Method} {c : Code} {Q : State → Prop} {cc : ByteArray} {nL mc ms rk : Nat} {own : String} {ini : Bool} {G : xm_G} {o : xm_W} {cd : List xm_I} {k : xm_Kt} {q : Option xm_V × xm_W} {mt : Nat → Option xm_M} {call : Nat → List xm_V → xm_W → xm_R} {pc nx a b d : Nat} {ps : List Nat} {sw : List (Int × Nat)} {L : List (Option xm_V)} {st : List xm_V} {w : xm_W}
theorem xm_s_ireturn (hret : xm_Ret p l e R s m args below meth c Q G cc mc ms rk q) (hc : xm_chk own ini cc cd nL rk mt (.ireturn, pc, nx, a, b, ps, sw) = true) (h : xm_step o xm_sta call (.ireturn, pc, nx, a, b, ps, sw) L st w k = some q) : xm_Con p l e R s m args below meth c Q G nL mc ms q pc L st w := by
  simp only [xm_chk, Bool.and_eq_true, decide_eq_true_eq] at hc
  simp only [xm_step] at h
  split at h
  next x =>
    cases h
    refine ⟨xm_gr_rf _, fun ls H locs cells slots hr => ?_⟩
    have h5 : cells + w.length = mc + w.length ∧ slots + xm_sz w = ms + xm_sz w := hr.2.2.2.2
    have e1 : cells = mc := by omega
    have e2 : slots = ms := by omega
    subst e1; subst e2
    exact (hret pc ls H locs hr.2.2.1 hr.2.2.2.1).1 x rfl (xm_c1 hr.2.1) hc.2 (xm_dec_ok hc.1)
  next => cases h
theorem xm_s_areturn (hret : xm_Ret p l e R s m args below meth c Q G cc mc ms rk q) (hc : xm_chk own ini cc cd nL rk mt (.areturn, pc, nx, a, b, ps, sw) = true) (h : xm_step o xm_sta call (.areturn, pc, nx, a, b, ps, sw) L st w k = some q) : xm_Con p l e R s m args below meth c Q G nL mc ms q pc L st w := by
  simp only [xm_chk, Bool.and_eq_true, decide_eq_true_eq] at hc
  simp only [xm_step] at h
  split at h
  next x =>
    cases h
    refine ⟨xm_gr_rf _, fun ls H locs cells slots hr => ?_⟩
    have h5 : cells + w.length = mc + w.length ∧ slots + xm_sz w = ms + xm_sz w := hr.2.2.2.2
    have e1 : cells = mc := by omega
    have e2 : slots = ms := by omega
    subst e1; subst e2
    exact (hret pc ls H locs hr.2.2.1 hr.2.2.2.1).2.1 x rfl hc.2 (xm_dec_ok hc.1)
  next => cases h
theorem xm_s_return (hret : xm_Ret p l e R s m args below meth c Q G cc mc ms rk q) (hc : xm_chk own ini cc cd nL rk mt (.return_, pc, nx, a, b, ps, sw) = true) (h : xm_step o xm_sta call (.return_, pc, nx, a, b, ps, sw) L st w k = some q) : xm_Con p l e R s m args below meth c Q G nL mc ms q pc L st w := by
  simp only [xm_chk, Bool.and_eq_true, decide_eq_true_eq] at hc
  simp only [xm_step] at h
  split at h
  next =>
    cases h
    refine ⟨xm_gr_rf _, fun ls H locs cells slots hr => ?_⟩
    have h5 : cells + w.length = mc + w.length ∧ slots + xm_sz w = ms + xm_sz w := hr.2.2.2.2
    have e1 : cells = mc := by omega
    have e2 : slots = ms := by omega
    subst e1; subst e2
    exact (hret pc ls H locs hr.2.2.1 hr.2.2.2.1).2.2 rfl hc.2 (xm_dec_ok hc.1)
  next => cases h
theorem xm_step_ok {en : xm_I} (F : xm_Fr p s m args meth c cc nL own ini G o) (hk : xm_Sim p l e R s m args below meth c Q G nL mc ms cd k q) (hret : xm_Ret p l e R s m args below meth c Q G cc mc ms rk q) (hcal : xm_Cal l G o mt d call) (hwf : q.2.length < 1000000) (hmc : mc ≤ R.cells ∧ ms ≤ R.slots) (hR : d + 1 ≤ R.frames ∧ 60 * d + 60 ≤ R.locals) (hc : xm_chk own ini cc cd nL rk mt en = true) (h : xm_step o xm_sta call en L st w k = some q) : xm_Con p l e R s m args below meth c Q G nL mc ms q en.2.1 L st w := by
  obtain ⟨ins, pc, nx, a, b, ps, sw⟩ := en
  cases ins
  case iadd => exact xm_s_iadd F hk hc h
  case isub => exact xm_s_isub F hk hc h
  case imul => exact xm_s_imul F hk hc h
  case iand => exact xm_s_iand F hk hc h
  case ior => exact xm_s_ior F hk hc h
  case ixor => exact xm_s_ixor F hk hc h
  case ishl => exact xm_s_ishl F hk hc h
  case ishr => exact xm_s_ishr F hk hc h
  case iushr => exact xm_s_iushr F hk hc h
  case idiv => exact xm_s_idiv F hk hc h
  case irem => exact xm_s_irem F hk hc h
  case ineg => exact xm_s_ineg F hk hc h
  case i2b => exact xm_s_i2b F hk hc h
  case i2s => exact xm_s_i2s F hk hc h
  case i2c => exact xm_s_i2c F hk hc h
  case i2l => exact xm_s_i2l F hk hc h
  case l2i => exact xm_s_l2i F hk hc h
  case land => exact xm_s_land F hk hc h
  case lor => exact xm_s_lor F hk hc h
  case lshl => exact xm_s_lshl F hk hc h
  case lshr => exact xm_s_lshr F hk hc h
  case lushr => exact xm_s_lushr F hk hc h
  case dup => exact xm_s_dup F hk hc h
  case dup_x1 => exact xm_s_dup_x1 F hk hc h
  case dup2 => exact xm_s_dup2 F hk hc h
  case pop => exact xm_s_pop F hk hc h
  case iaload => exact xm_s_iaload F hk hc h
  case baload => exact xm_s_baload F hk hc h
  case iastore => exact xm_s_iastore F hk hc h
  case aaload => exact xm_s_aaload F hk hc h
  case aastore => exact xm_s_aastore F hk hc h
  case arraylength => exact xm_s_arraylength F hk hc h
  case aconst_null => exact xm_s_null F hk hc h
  case iconst z => exact xm_s_iconst F hk hc h
  case bipush z => exact xm_s_bipush F hk hc h
  case sipush z => exact xm_s_sipush F hk hc h
  case iload z => exact xm_s_iload F hk hc h
  case iload_n z => exact xm_s_iload_n F hk hc h
  case lload_n z => exact xm_s_lload_n F hk hc h
  case aload z => exact xm_s_aload F hk hc h
  case aload_n z => exact xm_s_aload_n F hk hc h
  case istore z => exact xm_s_istore F hk hc h
  case istore_n z => exact xm_s_istore_n F hk hc h
  case astore z => exact xm_s_astore F hk hc h
  case astore_n z => exact xm_s_astore_n F hk hc h
  case goto z => exact xm_s_goto F hk hc h
  case ifnull z => exact xm_s_ifnull F hk hc h
  case ifnonnull z => exact xm_s_ifnonnull F hk hc h
  case getfield z => exact xm_s_getfield F hk hc h
  case putfield z => exact xm_s_putfield F hk hc h
  case getstatic z => exact xm_s_getstatic F hk hc h
  case ldc z => exact xm_s_ldc F hk hc h
  case ldc_w z => exact xm_s_ldc_w F hk hc h
  case ldc2_w z => exact xm_s_ldc2_w F hk hc h
  case iinc y z => exact xm_s_iinc F hk hc h
  case ifCond y z => exact xm_s_ifCond F hk hc h
  case if_icmp y z => exact xm_s_if_icmp F hk hc h
  case lookupswitch y z => exact xm_s_lookupswitch F hk hc h
  case tableswitch x y z u => exact xm_s_tableswitch F hk hc h
  case new z => exact xm_s_new F hk hwf hmc hc h
  case newarray z => exact xm_s_newarray F hk hwf hmc hc h
  case anewarray z => exact xm_s_anewarray F hk hwf hmc hc h
  case invokevirtual j =>
    simp only [xm_chk, Bool.and_eq_true] at hc
    simp only [xm_step] at h
    exact xm_inv (kk := 0) (Or.inl ⟨rfl, rfl⟩) F hk hwf hmc hR hcal (xm_dec_ok hc.1.1) (xm_ofn hc.1.2) hc.2 h
  case invokespecial j =>
    simp only [xm_chk, Bool.and_eq_true] at hc
    simp only [xm_step] at h
    by_cases ha : a = 1
    · rw [if_pos ha] at h hc
      obtain ⟨⟨hd, hn⟩, hc2⟩ := hc
      split at h
      next z r =>
        split at h
        next hr4 =>
          match ps, hc2 with
          | [q0, q1, q2], hc2 =>
            simp only [Bool.and_eq_true] at hc2
            refine ⟨(hk _ _ _ _ h).1, fun ls H locs cells slots hr => ?_⟩
            have hcat := xm_cats (r.map (xm_v G))
            rw [List.length_map] at hcat
            refine W.objInit (a := xm_ad G z) (rest := r.map (xm_v G)) F.1 F.2.1 F.2.2.2.1 (F.gd hc2.1.1) (F.gd hc2.1.2) (F.gd hc2.2) rfl (by rw [F.2.2.1]; exact hr.1.1.1) rfl (xm_dec_ok hd) (by omega) (by show 2 * 0 + _ + _ ≤ _; omega) ?_
            exact (hk _ _ _ _ h).2 _ (xm_ofn hn) _ _ _ _ _ (hr.stk (xm_c2 hr.2.1))
        next => cases h
      next => cases h
    · rw [if_neg ha] at h hc
      exact xm_inv (kk := 1) (Or.inr (Or.inl ⟨rfl, rfl⟩)) F hk hwf hmc hR hcal (xm_dec_ok hc.1.1) (xm_ofn hc.1.2) hc.2 h
  case invokestatic j =>
    simp only [xm_chk, Bool.and_eq_true] at hc
    simp only [xm_step] at h
    by_cases ha : a = 2
    · rw [if_pos ha] at h hc
      split at h
      next n dp k1 sp k0 r =>
        split at h
        next hr4 =>
         split at h
         next w' hw' =>
          obtain ⟨⟨hd, hn⟩, hc2⟩ := hc
          match ps, hc2 with
          | [q0, q1, q2, q3], hc2 =>
            simp only [Bool.and_eq_true] at hc2
            exact xm_s_copy F hk ⟨by omega, by omega⟩ hr4 (xm_dec_ok hd) (xm_ofn hn) (F.gd hc2.1.1.1) (F.gd hc2.1.1.2) (F.gd hc2.1.2) (F.gd hc2.2) hw' h
         next => cases h
        next => cases h
      next => cases h
    · rw [if_neg ha] at h hc
      by_cases ha6 : a < 6
      · rw [if_pos ha6] at h hc
        obtain ⟨⟨hd, hn⟩, hc2⟩ := hc
        split at h
        next r hr =>
          split at h
          next hr5 =>
            refine ⟨(hk _ _ _ _ h).1, fun ls H locs cells slots hrl => ?_⟩
            have hsz : c.maxLocals = ls.size := by rw [F.2.2.1]; exact hrl.1.1.1.symm
            have hacc := hrl.2.2.2.2
            have hgr := (hk _ _ _ _ h).1
            have hg1 := hgr.1
            have hg2 := hgr.2
            unfold xm_mth at hr
            split at hr
            next y x r' =>
              cases hr
              match ps, hc2 with
              | [q0, q1, q2, q3], hc2 =>
                simp only [xm_cm, Bool.and_eq_true] at hc2
                have hy := xm_c1 hrl.2.1
                have hx := xm_c1 (xm_c2 hrl.2.1)
                have hcat := xm_cats (r'.map (xm_v G))
                rw [List.length_map] at hcat
                rw [List.length_cons] at hr5
                refine va_mmax F.1 F.2.1 hsz F.2.2.2.1 (F.gd hc2.1.1.1) (F.gd hc2.1.1.2) (F.gd hc2.1.2) (F.gd hc2.2) (by omega) (by omega) (by omega) (by omega) (xm_dec_ok hd) ?_
                have e1 : (if Int32.ofInt x < Int32.ofInt y then Int32.ofInt y else Int32.ofInt x) = Int32.ofInt (if x < y then y else x) := by
                  by_cases hh : x < y
                  · rw [if_pos hh, if_pos ((xm_lt hx hy).mpr hh)]
                  · rw [if_neg hh, if_neg (fun z => hh ((xm_lt hx hy).mp z))]
                rw [e1]
                exact (hk _ _ _ _ h).2 _ (xm_ofn hn) _ _ _ _ _ (hrl.stk (xm_c3 (by split <;> assumption) (xm_c2 (xm_c2 hrl.2.1))))
            next y x r' =>
              cases hr
              match ps, hc2 with
              | [q0, q1, q2, q3], hc2 =>
                simp only [xm_cm, Bool.and_eq_true] at hc2
                have hy := xm_c1 hrl.2.1
                have hx := xm_c1 (xm_c2 hrl.2.1)
                have hcat := xm_cats (r'.map (xm_v G))
                rw [List.length_map] at hcat
                rw [List.length_cons] at hr5
                refine va_mmin F.1 F.2.1 hsz F.2.2.2.1 (F.gd hc2.1.1.1) (F.gd hc2.1.1.2) (F.gd hc2.1.2) (F.gd hc2.2) (by omega) (by omega) (by omega) (by omega) (xm_dec_ok hd) ?_
                have e1 : (if Int32.ofInt y < Int32.ofInt x then Int32.ofInt y else Int32.ofInt x) = Int32.ofInt (if y < x then y else x) := by
                  by_cases hh : y < x
                  · rw [if_pos hh, if_pos ((xm_lt hy hx).mpr hh)]
                  · rw [if_neg hh, if_neg (fun z => hh ((xm_lt hy hx).mp z))]
                rw [e1]
                exact (hk _ _ _ _ h).2 _ (xm_ofn hn) _ _ _ _ _ (hrl.stk (xm_c3 (by split <;> assumption) (xm_c2 (xm_c2 hrl.2.1))))
            next x r' =>
              cases hr
              match ps, hc2 with
              | [q0, q1, q2, q3], hc2 =>
                simp only [xm_cm, Bool.and_eq_true] at hc2
                have hx := xm_c1 hrl.2.1
                have hcat := xm_cats (r'.map (xm_v G))
                rw [List.length_map] at hcat
                rw [List.length_cons] at hr5
                refine va_mabs F.1 F.2.1 hsz F.2.2.2.1 (F.gd hc2.1.1.1) (F.gd hc2.1.1.2) (F.gd hc2.1.2) (F.gd hc2.2) (by omega) (by omega) (by omega) (by omega) (xm_dec_ok hd) ?_
                have e1 : (if 0 ≤ Int32.ofInt x then Int32.ofInt x else 0 - Int32.ofInt x) = Int32.ofInt (if 0 ≤ x then x else xm_w (0 - x)) := by
                  by_cases hh : 0 ≤ x
                  · rw [if_pos hh, if_pos ((xm_0le hx).mpr hh)]
                  · rw [if_neg hh, if_neg (fun z => hh ((xm_0le hx).mp z))]
                    exact xm_sub (x := 0) ⟨by decide, by decide⟩ hx
                rw [e1]
                exact (hk _ _ _ _ h).2 _ (xm_ofn hn) _ _ _ _ _ (hrl.stk (xm_c3 (by split <;> first | assumption | exact xm_okw _) (xm_c2 hrl.2.1)))
            next => cases hr
          next => cases h
        next => cases h
      rw [if_neg ha6] at h hc
      exact xm_inv (kk := 2) (Or.inr (Or.inr ⟨rfl, rfl⟩)) F hk hwf hmc hR hcal (xm_dec_ok hc.1.1) (xm_ofn hc.1.2) hc.2 h
  case ireturn => exact xm_s_ireturn hret hc h
  case areturn => exact xm_s_areturn hret hc h
  case return_ => exact xm_s_return hret hc h
  all_goals (simp only [xm_step] at h; cases h)
theorem xm_run_ok (F : xm_Fr p s m args meth c cc nL own ini G o) (hret : xm_Ret p l e R s m args below meth c Q G cc mc ms rk q) (hcal : xm_Cal l G o mt d call) (hwf : q.2.length < 1000000) (hmc : mc ≤ R.cells ∧ ms ≤ R.slots) (hR : d + 1 ≤ R.frames ∧ 60 * d + 60 ≤ R.locals) (hchk : ∀ en ∈ cd, xm_chk own ini cc cd nL rk mt en = true) :
    ∀ n, xm_Sim p l e R s m args below meth c Q G nL mc ms cd (xm_run o xm_sta call cd n) q
  | 0 => fun i L st w h => by cases h
  | n + 1 => fun i L st w h => by
    unfold xm_run at h
    split at h
    next en hen =>
      have K := xm_step_ok F (xm_run_ok F hret hcal hwf hmc hR hchk n) hret hcal hwf hmc hR (hchk en (List.mem_of_getElem? hen)) h
      refine ⟨K.1, fun pc hpc => ?_⟩
      have : en.2.1 = pc := by
        unfold xm_pc at hpc
        rw [hen] at hpc
        exact Option.some.inj hpc
      subst this
      exact K.2
    next => cases h
end xm_sec7
