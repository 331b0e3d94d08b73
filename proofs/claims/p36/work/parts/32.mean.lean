section
theorem xm_step_mono {o : xm_W} {sta : List xm_V} {call : Nat → List xm_V → xm_W → xm_R} {en : xm_I} {L : List (Option xm_V)} {st : List xm_V} {w : xm_W} {k k' : xm_Kt} {q : Option xm_V × xm_W} (hk : ∀ i L st w q, k i L st w = some q → k' i L st w = some q) (h : xm_step o sta call en L st w k = some q) : xm_step o sta call en L st w k' = some q := by
  obtain ⟨ins, pc, nx, a, b, ps, sw⟩ := en
  cases ins
  case iadd => 
    simp only [xm_step] at h ⊢
    split at h
    · exact hk _ _ _ _ _ h
    · cases h
  case invokestatic j =>
    simp only [xm_step] at h ⊢
    by_cases ha : a = 2
    · rw [if_pos ha] at h ⊢
      split at h
      next =>
        split at h
        next hr =>
          split at h
          next hw => 
            simp only [if_pos hr, hw]
            exact hk _ _ _ _ _ h
          next => cases h
        next => cases h
      next => cases h
    · rw [if_neg ha] at h ⊢
      by_cases ha6 : a < 6
      · rw [if_pos ha6] at h ⊢
        split at h
        next r hr =>
          split at h
          next hr5 =>
            simp only [hr, if_pos hr5]
            exact hk _ _ _ _ _ h
          next => cases h
        next => cases h
      rw [if_neg ha6] at h ⊢
      split at h
      next hr =>
        rw [if_pos hr]
        split at h
        next hw => exact hk _ _ _ _ _ h
        next hw => exact hk _ _ _ _ _ h
        next => cases h
      next => cases h
  case invokespecial j =>
    simp only [xm_step] at h ⊢
    by_cases ha : a = 1
    · rw [if_pos ha] at h ⊢
      split at h
      next =>
        split at h
        next hr =>
          simp only [if_pos hr]
          exact hk _ _ _ _ _ h
        next => cases h
      next => cases h
    · rw [if_neg ha] at h ⊢
      split at h
      next hr =>
        rw [if_pos hr]
        split at h
        next hw => exact hk _ _ _ _ _ h
        next hw => exact hk _ _ _ _ _ h
        next => cases h
      next => cases h
  all_goals (simp only [xm_step] at h ⊢)
  all_goals first
    | exact hk _ _ _ _ _ h
    | exact h
    | (cases h; done)
    | skip
  all_goals (repeat' split at h)
  all_goals first
    | exact hk _ _ _ _ _ h
    | exact h
    | (cases h; done)
    | (rw [if_pos (by assumption)]; exact hk _ _ _ _ _ h)
    | (rw [if_neg (by assumption)]; exact hk _ _ _ _ _ h)
    | (rw [if_neg (by assumption), if_pos (by assumption)]; exact hk _ _ _ _ _ h)
    | (simp_all only [if_true, if_false, if_pos, if_neg, not_false_eq_true]; done)
    | (simp_all; done)
    | skip
theorem xm_run_mono {o : xm_W} {sta : List xm_V} {call : Nat → List xm_V → xm_W → xm_R} {cd : List xm_I} {q : Option xm_V × xm_W} : ∀ (n n' : Nat), n ≤ n' → ∀ i L st w, xm_run o sta call cd n i L st w = some q → xm_run o sta call cd n' i L st w = some q
  | 0, _, _, _, _, _, _, h => by cases h
  | n + 1, 0, hn, _, _, _, _, _ => by omega
  | n + 1, n' + 1, hn, i, L, st, w, h => by
    unfold xm_run at h ⊢
    split at h
    next en hen =>
      exact xm_step_mono (fun i L st w q hq => by
        have : ∀ q, xm_run o sta call cd n i L st w = some q → xm_run o sta call cd n' i L st w = some q := fun q hq => xm_run_mono (q := q) n n' (by omega) i L st w hq
        exact this q hq) h
    next => cases h
/-- the run comes to an end with q -/
def xm_E (o : xm_W) (sta : List xm_V) (call : Nat → List xm_V → xm_W → xm_R) (cd : List xm_I) (i : Nat) (L : List (Option xm_V)) (st : List xm_V) (w : xm_W) (q : Option xm_V × xm_W) : Prop := ∃ n, xm_run o sta call cd n i L st w = some q
theorem xm_E_fun {o : xm_W} {sta : List xm_V} {call : Nat → List xm_V → xm_W → xm_R} {cd : List xm_I} {i : Nat} {L : List (Option xm_V)} {st : List xm_V} {w : xm_W} {q q' : Option xm_V × xm_W} (h : xm_E o sta call cd i L st w q) (h' : xm_E o sta call cd i L st w q') : q = q' := by
  obtain ⟨n, h⟩ := h
  obtain ⟨n', h'⟩ := h'
  have a := xm_run_mono n (n + n') (by omega) i L st w h
  have b := xm_run_mono n' (n + n') (by omega) i L st w h'
  exact Option.some.inj (a.symm.trans b)
def xm_lc : List xm_V → List (Option xm_V)
  | [] => []
  | .inr (.inr x) :: r => some (.inr (.inr x)) :: none :: xm_lc r
  | .inl x :: r => some (.inl x) :: xm_lc r
  | .inr (.inl x) :: r => some (.inr (.inl x)) :: xm_lc r
def xm_loc (nL : Nat) (as : List xm_V) : List (Option xm_V) := xm_lc as ++ List.replicate (nL - (xm_lc as).length) none
def xm_rok (rk : Nat) (r : Option xm_V) : Bool := match rk, r with
  | 0, none => true
  | 1, some (.inl _) => true
  | 2, some (.inl z) => z == 0 || z == 1
  | 4, some (.inl z) => z == 0 || z == 1
  | 3, some (.inr (.inl _)) => true
  | _, _ => false
def xm_hd (o w : xm_W) (r : Nat) (as : List xm_V) : Prop := r ≠ 0 → ∃ z, as.head? = some (.inr (.inl (some z))) ∧ (r ≠ 100 → ∃ fs, xm_get o w z = some (.inr (.inr (r - 1, fs))))
def xm_YP (o : xm_W) (M : xm_M) (call : Nat → List xm_V → xm_W → xm_R) (as : List xm_V) (w : xm_W) (q : Option xm_V × xm_W) : Prop :=
  xm_E o xm_sta call M.2.2.2.2.2.2.2 0 (xm_loc M.2.2.1 as) [] w q ∧ xm_rok M.2.2.2.2.1 q.1 = true ∧ as.length = M.2.2.2.2.2.1 ∧ (xm_lc as).length ≤ M.2.2.1 ∧ xm_hd o w M.2.2.2.2.2.2.1 as
noncomputable def xm_Y (o : xm_W) (M : xm_M) (call : Nat → List xm_V → xm_W → xm_R) (as : List xm_V) (w : xm_W) : xm_R :=
  @dite xm_R (∃ q, xm_YP o M call as w q) (Classical.propDecidable _) (fun h => some (Classical.choose h)) (fun _ => none)
noncomputable def xm_X (o : xm_W) (mt : Nat → Option xm_M) : Nat → Nat → List xm_V → xm_W → xm_R
  | 0 => fun _ _ _ => none
  | d + 1 => fun y as w => match mt y with
    | none => none
    | some M => xm_Y o M (xm_X o mt d) as w
theorem xm_Y_of {o : xm_W} {M : xm_M} {call : Nat → List xm_V → xm_W → xm_R} {as : List xm_V} {w : xm_W} {q : Option xm_V × xm_W} (h : xm_YP o M call as w q) : xm_Y o M call as w = some q := by
  have hh : ∃ q, xm_YP o M call as w q := ⟨q, h⟩
  unfold xm_Y
  rw [dif_pos hh]
  exact congrArg some (xm_E_fun (Classical.choose_spec hh).1 h.1)
theorem xm_Y_is {o : xm_W} {M : xm_M} {call : Nat → List xm_V → xm_W → xm_R} {as : List xm_V} {w : xm_W} {q : Option xm_V × xm_W} (h : xm_Y o M call as w = some q) : xm_YP o M call as w q := by
  unfold xm_Y at h
  by_cases hh : ∃ q, xm_YP o M call as w q
  · rw [dif_pos hh] at h
    have := Classical.choose_spec hh
    rw [Option.some.inj h] at this
    exact this
  · rw [dif_neg hh] at h
    cases h
theorem xm_X_of {o : xm_W} {mt : Nat → Option xm_M} {d y : Nat} {M : xm_M} {as : List xm_V} {w : xm_W} {q : Option xm_V × xm_W} (hM : mt y = some M) (h : xm_YP o M (xm_X o mt d) as w q) : xm_X o mt (d + 1) y as w = some q := by
  show (match mt y with
    | none => none
    | some M => xm_Y o M (xm_X o mt d) as w) = some q
  rw [hM]
  exact xm_Y_of h
end
section
theorem xm_lc_args {G : xm_G} : ∀ (as : List xm_V) (i j : Nat) (v : xm_V), (xm_lc as)[j]? = some (some v) → (i + j, xm_v G v) ∈ lv_args i (as.map (xm_v G))
  | [], _, _, _, h => by simp [xm_lc] at h
  | .inr (.inr x) :: r, i, j, v, h => by
    have hc : (xm_v G (.inr (.inr x))).category = 2 := rfl
    simp only [List.map_cons, lv_args, hc, if_true]
    match j, h with
    | 0, h =>
      cases h
      exact List.mem_cons_self
    | 1, h => cases h
    | j + 2, h =>
      have h2 : (xm_lc r)[j]? = some (some v) := h
      have := xm_lc_args (G := G) r (i + 2) j v h2
      rw [show i + 2 + j = i + (j + 2) by omega] at this
      exact List.mem_cons_of_mem _ this
  | .inl x :: r, i, j, v, h => by
    have hc : ¬ (xm_v G (.inl x)).category = 2 := by simp [xm_v, Value.category]
    simp only [List.map_cons, lv_args, hc, if_false]
    match j, h with
    | 0, h =>
      cases h
      exact List.mem_cons_self
    | j + 1, h =>
      have h2 : (xm_lc r)[j]? = some (some v) := h
      have := xm_lc_args (G := G) r (i + 1) j v h2
      rw [show i + 1 + j = i + (j + 1) by omega] at this
      exact List.mem_cons_of_mem _ this
  | .inr (.inl x) :: r, i, j, v, h => by
    have hc : ¬ (xm_v G (.inr (.inl x))).category = 2 := by cases x <;> simp [xm_v, Value.category]
    simp only [List.map_cons, lv_args, hc, if_false]
    match j, h with
    | 0, h =>
      cases h
      exact List.mem_cons_self
    | j + 1, h =>
      have h2 : (xm_lc r)[j]? = some (some v) := h
      have := xm_lc_args (G := G) r (i + 1) j v h2
      rw [show i + 1 + j = i + (j + 1) by omega] at this
      exact List.mem_cons_of_mem _ this
theorem xm_lc_len {G : xm_G} : ∀ (as : List xm_V), (lg_sl (as.map (xm_v G))).length = (xm_lc as).length
  | [] => rfl
  | .inr (.inr x) :: r => by
    have h := xm_lc_len (G := G) r
    simp only [lg_sl, List.map_cons, List.flatMap_cons, xm_lc, List.length_append, List.length_cons] at h ⊢
    rw [h]
    simp [xm_v, Value.category]
    omega
  | .inl x :: r => by
    have h := xm_lc_len (G := G) r
    simp only [lg_sl, List.map_cons, List.flatMap_cons, xm_lc, List.length_append, List.length_cons] at h ⊢
    rw [h]
    simp [xm_v, Value.category]
    omega
  | .inr (.inl x) :: r => by
    have h := xm_lc_len (G := G) r
    simp only [lg_sl, List.map_cons, List.flatMap_cons, xm_lc, List.length_append, List.length_cons] at h ⊢
    rw [h]
    cases x <;> simp [xm_v, Value.category] <;> omega
theorem xm_lc_mem : ∀ (as : List xm_V) (v : xm_V), some v ∈ xm_lc as → v ∈ as
  | [], _, h => by cases h
  | .inr (.inr x) :: r, v, h => by
    simp only [xm_lc, List.mem_cons] at h
    rcases h with h | h | h
    · cases h; exact List.mem_cons_self
    · cases h
    · exact List.mem_cons_of_mem _ (xm_lc_mem r v h)
  | .inl x :: r, v, h => by
    simp only [xm_lc, List.mem_cons] at h
    rcases h with h | h
    · cases h; exact List.mem_cons_self
    · exact List.mem_cons_of_mem _ (xm_lc_mem r v h)
  | .inr (.inl x) :: r, v, h => by
    simp only [xm_lc, List.mem_cons] at h
    rcases h with h | h
    · cases h; exact List.mem_cons_self
    · exact List.mem_cons_of_mem _ (xm_lc_mem r v h)
/-- the locals at a method's entry -/
theorem xm_entry {G : xm_G} {as : List xm_V} {nL : Nat} (hl : (xm_lc as).length ≤ nL) (hok : ∀ v ∈ as, xm_ok v) : lv_has ((lg_sl (as.map (xm_v G)) ++ List.replicate (nL - (lg_sl (as.map (xm_v G))).length) Slot.unset).toArray) nL (xm_lv G (xm_loc nL as)) ∧ (xm_loc nL as).length = nL ∧ ∀ v, some v ∈ xm_loc nL as → xm_ok v := by
  have h1 := lv_entry (as.map (xm_v G)) (n := nL) (by rw [xm_lc_len]; exact hl)
  refine ⟨lv_mono h1 fun q hq => ?_, by unfold xm_loc; rw [List.length_append, List.length_replicate]; omega, fun v hv => ?_⟩
  · obtain ⟨j, x⟩ := q
    obtain ⟨v, hv, rfl⟩ := xm_lv_in.mp hq
    unfold xm_loc at hv
    by_cases hj : j < (xm_lc as).length
    · rw [List.getElem?_append_left hj] at hv
      have := xm_lc_args (G := G) as 0 j v hv
      rw [Nat.zero_add] at this
      exact this
    · rw [List.getElem?_append_right (by omega), List.getElem?_replicate] at hv
      split at hv <;> cases hv
  · unfold xm_loc at hv
    rcases List.mem_append.mp hv with h | h
    · exact hok v (xm_lc_mem as v h)
    · have := List.eq_of_mem_replicate h
      cases this
/-- a method's table stands for its bytes -/
def xm_Mok (mt : Nat → Option xm_M) (M : xm_M) : Prop :=
  (∀ en ∈ M.2.2.2.2.2.2.2, xm_chk M.1.cls (M.1.name == "<init>") M.2.1 M.2.2.2.2.2.2.2 M.2.2.1 M.2.2.2.2.1 mt en = true) ∧ plainName M.1.cls = true ∧ xm_pc M.2.2.2.2.2.2.2 0 = some 0 ∧
  (match M.2.2.2.2.1 with
  | 0 => M.2.2.2.1 = none
  | 1 => M.2.2.2.1 = some .int
  | 2 => M.2.2.2.1 = some .boolean
  | 4 => M.2.2.2.1 = some .byte
  | 3 => ∃ t, M.2.2.2.1 = some t ∧ ((∃ n, t = .object n) ∨ ∃ n, t = .array n)
  | _ => False)
/-- a method of the table meets its contract -/
theorem xm_Met {l : Launch} {G : xm_G} {o : xm_W} {mt : Nat → Option xm_M} {d : Nat} {call : Nat → List xm_V → xm_W → xm_R} {M : xm_M} {as : List xm_V} {w : xm_W} {q : Option xm_V × xm_W} (hM : xm_Mok mt M) (hcal : xm_Cal l G o mt d call) (h : xm_YP o M call as w q) (hwf : q.2.length < 1000000) (hok : ∀ v ∈ as, xm_ok v) :
    Met l M.1 (.code M.1 M.2.1 M.2.2.1 M.2.2.2.1 :: xm_WS) { frames := d + 1, cells := q.2.length - w.length, slots := xm_sz q.2 - xm_sz w, locals := 60 * (d + 1) } (xm_PcX G o as w) (xm_QcX G q) (q.2.length - w.length) (xm_sz q.2 - xm_sz w) (xm_A G) := by
  obtain ⟨⟨n, hrun⟩, hro, hlen, hlc, hhd⟩ := h
  refine Met.ofW (cc := M.2.1) (maxL := M.2.2.1) (ret := M.2.2.2.1) hM.2.1 rfl ?_
  intro p e s m args below meth c s₁ B hml hv
  obtain ⟨rfl, hrep, hKn, hbase⟩ := hv
  have hts := atoms_spec (ws := Cond.code M.1 M.2.1 M.2.2.1 M.2.2.2.1 :: xm_WS) B.pre
  have hown : s.vm.findClass M.1.cls = some m.cls := findClass_of_methodNamed B.named
  have hin : meth.name = M.1.name := (name_of_methodNamed B.named B.method).1
  have hr := B.returns
  have hlocks := B.notSynchronized
  have F : xm_Fr p s m ((as.map (xm_v G)).toArray) meth c M.2.1 M.2.2.1 M.1.cls (M.1.name == "<init>") G o := ⟨B.exec, B.bytes, hml, hown, fun u hu hg => hts u (List.mem_cons_of_mem _ (xm_ws_in hu hg)), hKn, fun hi => by rw [hin]; simpa using hi, hbase⟩
  rw [lg_entry_eq]
  generalize hQ : MQ below (xm_QcX G q) ((as.map (xm_v G)).toArray) s (q.2.length - w.length) (xm_sz q.2 - xm_sz w) (xm_A G) = Q
  have hret : xm_Ret p l e (headSpec (Cond.code M.1 M.2.1 M.2.2.1 M.2.2.2.1 :: xm_WS) { frames := d + 1, cells := q.2.length - w.length, slots := xm_sz q.2 - xm_sz w, locals := 60 * (d + 1) }).room s m ((as.map (xm_v G)).toArray) below meth c Q G M.2.1 (q.2.length - w.length) (xm_sz q.2 - xm_sz w) M.2.2.2.2.1 q := by
    intro pc ls H locs hrep' hS
    subst hQ
    have hQc : ∀ (rv : Option xm_V), q.1 = rv → (∀ v, rv = some v → xm_ok v) → ∀ t : State, t.heap = H → s.WarmedH t.vm → xm_QcX G q ((as.map (xm_v G)).toArray) s (.returned (rv.map (xm_v G))) t := fun rv hrv hrk t ht hW => ⟨by rw [hrv], fun v hv => hrk v (by rw [← hrv]; exact hv), by rw [ht]; exact hrep', hS.F ht⟩
    refine ⟨fun z hz hzok hrk hd => ?_, fun x hx hrk hd => ?_, fun hn hrk hd => ?_⟩
    · have h4 := hM.2.2.2
      rcases hrk with hrk | hrk | hrk
      · rw [hrk] at h4
        exact W.iret B.exec B.bytes (by rw [hr]; exact h4) (hQc _ hz (fun v hv => by cases hv; exact hzok)) hS.2.2 hd
      · rw [hrk] at h4
        refine W.zret (ty := .boolean) B.exec B.bytes (by rw [hr]; exact h4) ?_ (hQc _ hz (fun v hv => by cases hv; exact hzok)) hS.2.2 hd
        rw [hrk, hz] at hro
        simp only [xm_rok, Bool.or_eq_true, beq_iff_eq] at hro
        rcases hro with rfl | rfl <;> rfl
      · rw [hrk] at h4
        refine W.zret (ty := .byte) B.exec B.bytes (by rw [hr]; exact h4) ?_ (hQc _ hz (fun v hv => by cases hv; exact hzok)) hS.2.2 hd
        rw [hrk, hz] at hro
        simp only [xm_rok, Bool.or_eq_true, beq_iff_eq] at hro
        rcases hro with rfl | rfl <;> rfl
    · have h4 := hM.2.2.2
      rw [hrk] at h4
      obtain ⟨t, h4, h5⟩ := h4
      refine W.aret (rt := t) B.exec B.bytes (by rw [hr]; exact h4) h5 ?_ (hQc _ hx (fun v hv => by cases hv; trivial)) hS.2.2 hd
      cases x with
      | none => exact Or.inl rfl
      | some x => exact Or.inr ⟨_, rfl⟩
    · have h4 := hM.2.2.2
      rw [hrk] at h4
      exact W.vret B.exec B.bytes (by rw [hr]; exact h4) (hQc _ hn (fun v hv => by cases hv)) hS.2.2 hd
  have E := xm_entry (G := G) (nL := M.2.2.1) hlc hok
  refine (xm_run_ok (d := d) F hret hcal hwf ⟨Nat.le_refl _, Nat.le_refl _⟩ ⟨Nat.le_refl _, by show 60 * d + 60 ≤ 60 * (d + 1); omega⟩ hM.1 n _ _ _ _ hrun).2 0 hM.2.2.1 _ s.heap [] 0 0 ⟨E, (fun v hv => by cases hv), hrep, va_S.rf, ?_⟩
  have G1 := (xm_run_ok (d := d) F hret hcal hwf ⟨Nat.le_refl _, Nat.le_refl _⟩ ⟨Nat.le_refl _, by show 60 * d + 60 ≤ 60 * (d + 1); omega⟩ hM.1 n _ _ _ _ hrun).1
  have := G1.1
  have := G1.2
  exact ⟨by omega, by omega⟩
end
section
theorem xm_step_gr {o : xm_W} {sta : List xm_V} {call : Nat → List xm_V → xm_W → xm_R} {en : xm_I} {L : List (Option xm_V)} {st : List xm_V} {w : xm_W} {k : xm_Kt} {q : Option xm_V × xm_W} (hk : ∀ i L st w q, k i L st w = some q → xm_gr w q.2) (hcall : ∀ y as w q, call y as w = some q → xm_gr w q.2) (h : xm_step o sta call en L st w k = some q) : xm_gr w q.2 := by
  obtain ⟨ins, pc, nx, a, b, ps, sw⟩ := en
  have hc : ∀ {y : Nat} {as : List xm_V} {i : Nat} {L : List (Option xm_V)} {st : List xm_V}, (match call y as w with
    | some (none, w') => k i L st w'
    | some (some v, w') => k i L (v :: st) w'
    | none => none) = some q → xm_gr w q.2 := by
    intro y as i L st h
    split at h
    next w' hw => exact xm_gr_tr (hcall _ _ _ _ hw) (hk _ _ _ _ _ h)
    next v w' hw => exact xm_gr_tr (hcall _ _ _ _ hw) (hk _ _ _ _ _ h)
    next => cases h
  cases ins
  case invokestatic j =>
    simp only [xm_step] at h
    by_cases ha : a = 2
    · rw [if_pos ha] at h
      split at h
      next n dp k1 sp k0 r =>
        split at h
        next hr =>
          split at h
          next hw =>
            obtain ⟨f, g, -, hg, h1, h2, h3, h4, h5, rfl⟩ := xm_copy_ok hw
            exact xm_gr_tr (xm_gr_set hg (show xm_szC (.inl (xm_cpy f g sp.toNat dp.toNat n.toNat)) = xm_szC (.inl g) from xm_cpy_len f g _ _ _ (by omega) (by omega))) (hk _ _ _ _ _ h)
          next => cases h
        next => cases h
      next => cases h
    · rw [if_neg ha] at h
      by_cases ha6 : a < 6
      · rw [if_pos ha6] at h
        split at h
        next r hr =>
          split at h
          next hr5 => exact hk _ _ _ _ _ h
          next => cases h
        next => cases h
      rw [if_neg ha6] at h
      split at h
      next hr => exact hc h
      next => cases h
  case invokevirtual j =>
    simp only [xm_step] at h
    split at h
    next hr => exact hc h
    next => cases h
  case invokespecial j =>
    simp only [xm_step] at h
    by_cases ha : a = 1
    · rw [if_pos ha] at h
      split at h
      next =>
        split at h
        next hr => exact hk _ _ _ _ _ h
        next => cases h
      next => cases h
    · rw [if_neg ha] at h
      split at h
      next hr => exact hc h
      next => cases h
  case putfield j =>
    simp only [xm_step] at h
    split at h
    next =>
      split at h
      next hw =>
        obtain ⟨fs, hg, -, -, rfl⟩ := xm_setf_ok hw
        exact xm_gr_tr (xm_gr_set hg (by simp [xm_szC])) (hk _ _ _ _ _ h)
      next => cases h
    next => cases h
  case iastore =>
    simp only [xm_step] at h
    split at h
    next =>
      split at h
      next hw =>
        obtain ⟨fs, hg, -, -, rfl⟩ := xm_seti_ok hw
        exact xm_gr_tr (xm_gr_set hg (by simp [xm_szC])) (hk _ _ _ _ _ h)
      next => cases h
    next => cases h
  case aastore =>
    simp only [xm_step] at h
    split at h
    next =>
      split at h
      next hw =>
        obtain ⟨t, fs, hg, -, -, -, rfl⟩ := xm_setq_ok hw
        exact xm_gr_tr (xm_gr_set hg (by simp [xm_szC])) (hk _ _ _ _ _ h)
      next => cases h
    next => cases h
  case new j =>
    simp only [xm_step] at h
    exact xm_gr_tr (xm_gr_push w _) (hk _ _ _ _ _ h)
  case newarray j =>
    simp only [xm_step] at h
    split at h
    next =>
      split at h
      next => exact xm_gr_tr (xm_gr_push w _) (hk _ _ _ _ _ h)
      next => cases h
    next => cases h
  case anewarray j =>
    simp only [xm_step] at h
    split at h
    next =>
      split at h
      next => exact xm_gr_tr (xm_gr_push w _) (hk _ _ _ _ _ h)
      next => cases h
    next => cases h
  all_goals (simp only [xm_step] at h)
  all_goals first
    | exact hk _ _ _ _ _ h
    | (cases h; done)
    | skip
  all_goals (repeat' split at h)
  all_goals first
    | exact hk _ _ _ _ _ h
    | (cases h; done)
    | (cases h; exact xm_gr_rf _)
theorem xm_run_gr {o : xm_W} {sta : List xm_V} {call : Nat → List xm_V → xm_W → xm_R} {cd : List xm_I} (hcall : ∀ y as w q, call y as w = some q → xm_gr w q.2) : ∀ (n : Nat) i L st w q, xm_run o sta call cd n i L st w = some q → xm_gr w q.2
  | 0, _, _, _, _, _, h => by cases h
  | n + 1, i, L, st, w, q, h => by
    unfold xm_run at h
    split at h
    next en hen => exact xm_step_gr (xm_run_gr hcall n) hcall h
    next => cases h
theorem xm_X_gr {o : xm_W} {mt : Nat → Option xm_M} : ∀ (d : Nat) y as w q, xm_X o mt d y as w = some q → xm_gr w q.2
  | 0, _, _, _, _, h => by cases h
  | d + 1, y, as, w, q, h => by
    have h : (match mt y with
      | none => none
      | some M => xm_Y o M (xm_X o mt d) as w) = some q := h
    split at h
    next => cases h
    next M hM =>
      obtain ⟨⟨n, hn⟩, -⟩ := xm_Y_is h
      exact xm_run_gr (xm_X_gr d) n _ _ _ _ _ hn
theorem xm_X_cal {l : Launch} {G : xm_G} {o : xm_W} {mt : Nat → Option xm_M} (hmt : ∀ y M, mt y = some M → xm_Mok mt M) : ∀ d, xm_Cal l G o mt d (xm_X o mt d)
  | 0 => fun y as w q h => by cases h
  | d + 1 => fun y as w q h => by
    have hgr := xm_X_gr (d + 1) y as w q h
    have h : (match mt y with
      | none => none
      | some M => xm_Y o M (xm_X o mt d) as w) = some q := h
    split at h
    next => cases h
    next M hM =>
      have hY := xm_Y_is h
      exact ⟨M, hM, hgr, fun hwf hok => ⟨hY.2.2.1, hY.2.2.2.2, xm_Met (hmt y M hM) (xm_X_cal hmt d) hY hwf hok⟩⟩
end
