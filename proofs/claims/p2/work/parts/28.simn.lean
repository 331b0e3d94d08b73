section xm_sec4
variable {p : Program} {l : Launch} {e : Env} {R : Room} {s : State} {m : MethodId} {args : Array Value} {below : List Frame} {meth : Method} {c : Code} {Q : State → Prop} {cc : ByteArray} {nL mc ms rk : Nat} {own : String} {ini : Bool} {G : xm_G} {o : xm_W} {cd : List xm_I} {k : xm_Kt} {q : Option xm_V × xm_W} {mt : Nat → Option xm_M} {call : Nat → List xm_V → xm_W → xm_R} {pc nx a b : Nat} {ps : List Nat} {sw : List (Int × Nat)} {L : List (Option xm_V)} {st : List xm_V} {w : xm_W}
theorem xm_dflt_ok {ty : FieldType} {t : Nat} (ht : xm_kind ty = t) (h9 : t ≤ 2) : defaultValue ty = xm_v G (xm_dflt t) ∧ xm_ok (xm_dflt t) := by
  subst ht
  cases ty <;> first | (simp [xm_kind] at h9; done) | exact ⟨rfl, by decide, by decide⟩ | exact ⟨rfl, trivial⟩
theorem xm_kd_le {c : Nat} {t : Nat} (h : t ∈ xm_kd c) : t ≤ 2 := by
  have hh : ∀ c, c < 10 → ∀ t ∈ xm_kd c, t ≤ 2 := by decide
  by_cases hc : c < 10
  · exact hh c hc t h
  · unfold xm_kd at h
    split at h <;> first | omega | (cases h)
theorem xm_s_new {j : Nat} (F : xm_Fr p s m args meth c cc nL own ini G o) (hk : xm_Sim p l e R s m args below meth c Q G nL mc ms cd k q) (hwf : q.2.length < 1000000) (hmc : mc ≤ R.cells ∧ ms ≤ R.slots) (hc : xm_chk own ini cc cd nL rk mt (.new j, pc, nx, a, b, ps, sw) = true) (h : xm_step o xm_sta call (.new j, pc, nx, a, b, ps, sw) L st w k = some q) : xm_Con p l e R s m args below meth c Q G nL mc ms q pc L st w := by
  simp only [xm_chk, Bool.and_eq_true] at hc
  simp only [xm_step] at h
  obtain ⟨⟨hd, hn⟩, hc2⟩ := hc
  split at hc2
  next C T N q0 q1 q2 hcl =>
    simp only [Bool.and_eq_true] at hc2
    have hG := xm_gr_tr (xm_gr_push w _) (hk _ _ _ _ h).1
    refine ⟨hG, fun ls H locs cells slots hr => ?_⟩
    have hrep := hr.2.2.1
    obtain ⟨hnm, hty, hlen, hin⟩ := xm_clok b _ hcl
    have hin' : ∀ u ∈ u_ws C T N, u ∈ xm_WS := fun u hu => xm_ws_in (hin u hu).1 (hin u hu).2
    have hK := F.2.2.2.2.2.1.2.1
    have hKn := hK.1 b _ hcl
    have hb : b < 10 := (List.getElem?_eq_some_iff.mp hcl).1
    have hg1 := (hk _ _ _ _ h).1
    have hsz : xm_szC (.inr (.inr (b, (xm_kd b).map xm_dflt))) = N := by simp [xm_szC, hlen]
    have ha := hr.2.2.2.2
    have hb1 := hg1.1
    have hb2 := hg1.2
    rw [xm_sz_push, hsz] at hb2
    rw [List.length_append] at hb1
    simp only [List.length_cons, List.length_nil] at hb1
    refine W.newcK F.1 F.2.1 F.2.2.2.1 (F.gd hc2.1.1) (F.gd hc2.1.2) (F.gd hc2.2) rfl (xm_dec_ok hd) (by omega) (by omega) hKn.2.1 rfl fun H1 kC hkC e1 z1 o1 => ?_
    have hva : va_at G.1 xm_cl (G.2.2.1 + w.length, xm_e G (.inr (.inr (b, (xm_kd b).map xm_dflt)))) H1 := by
      refine ⟨_, hcl, ?_⟩
      rw [← hrep.1]
      refine (u_born (xm_ty b) F.hts hin' hKn hkC e1 (fun k hk => (hty k hk).1)).to (fun j' hj => ?_)
      have h7 := (hty j' hj).2
      show _ = vp_V (((xm_kd b).map xm_dflt).map (xm_v G)) j'
      unfold vp_V
      rw [List.getD_eq_getElem?_getD, List.getElem?_map, List.getElem?_map, h7]
      exact (xm_dflt_ok rfl (xm_kd_le (List.mem_of_getElem? h7))).1
    have hok : xm_okC (.inr (.inr (b, (xm_kd b).map xm_dflt))) := ⟨by rw [List.length_map], hb, fun v hv => by
      obtain ⟨t, ht, rfl⟩ := List.mem_map.mp hv
      unfold xm_dflt
      split
      · trivial
      · exact ⟨by decide, by decide⟩⟩
    have K := (hk _ _ _ _ h).2 _ (xm_ofn hn) _ H1 locs (cells + 1) (slots + N) (by rw [← hsz]; exact hr.push hva hok z1 o1 (xm_c3 (xm_okr _) hr.2.1) hg1 hwf)
    have e9 : xm_v G (.inr (.inl (some w.length))) = .ref H.size := by
      show Value.ref (xm_ad G w.length) = _
      rw [xm_ad_lo (by omega), hrep.1]
    rw [List.map_cons, e9] at K
    exact K
  next => cases hc2
theorem xm_s_newarray {t : ArrayType} (F : xm_Fr p s m args meth c cc nL own ini G o) (hk : xm_Sim p l e R s m args below meth c Q G nL mc ms cd k q) (hwf : q.2.length < 1000000) (hmc : mc ≤ R.cells ∧ ms ≤ R.slots) (hc : xm_chk own ini cc cd nL rk mt (.newarray t, pc, nx, a, b, ps, sw) = true) (h : xm_step o xm_sta call (.newarray t, pc, nx, a, b, ps, sw) L st w k = some q) : xm_Con p l e R s m args below meth c Q G nL mc ms q pc L st w := by
  simp only [xm_chk, Bool.and_eq_true] at hc
  simp only [xm_step] at h
  obtain ⟨⟨⟨hd, hn⟩, ht⟩, hw⟩ := hc
  have ht := of_decide_eq_true ht
  subst ht
  split at h
  next n r =>
    split at h
    next hn0 =>
      have hG := xm_gr_tr (xm_gr_push w _) (hk _ _ _ _ h).1
      refine ⟨hG, fun ls H locs cells slots hr => ?_⟩
      have hrep := hr.2.2.1
      have hK := F.2.2.2.2.2.1.2.1
      have hg1 := (hk _ _ _ _ h).1
      have hsz : xm_szC (.inl (List.replicate n.toNat 0)) = n.toNat := by simp [xm_szC]
      have ha := hr.2.2.2.2
      have hb1 := hg1.1
      have hb2 := hg1.2
      rw [xm_sz_push, hsz] at hb2
      rw [List.length_append] at hb1
      simp only [List.length_cons, List.length_nil] at hb1
      have hi := xm_c1 hr.2.1
      refine va_newaK (atype := .int) F.1 F.2.1 (F.gd hw) rfl (xm_dec_ok hd) rfl (fun z => by have := (xm_lt0 hi).mp z; omega) (xm_clamp hi) (by show n.toNat * 4 ≤ _; omega) (by omega) (by omega) rfl fun H1 cA e1 z1 o1 hAr hNm => ?_
      have hcA : cA = G.2.1 0 := by
        have := (hK.2 0 _ rfl).2
        exact Option.some.inj (hNm.symm.trans this)
      subst hcA
      have hva : va_at G.1 xm_cl (G.2.2.1 + w.length, xm_e G (.inl (List.replicate n.toNat 0))) H1 := by
        show H1[_]? = some (vp_cell _ _)
        rw [← hrep.1, e1, vp_cell_i, List.length_replicate]
        congr 2
        funext j
        rw [List.getD_eq_getElem?_getD, List.getElem?_replicate]
        split <;> rfl
      have hok : xm_okC (.inl (List.replicate n.toNat 0)) := fun z hz => by
        rw [List.eq_of_mem_replicate hz]
        exact ⟨by decide, by decide⟩
      have P := hr.push hva hok z1 o1 (st' := .inr (.inl (some w.length)) :: r) (xm_c3 (xm_okr _) (xm_c2 hr.2.1)) hg1 hwf
      rw [hsz] at P
      have K := (hk _ _ _ _ h).2 _ (xm_ofn hn) _ H1 locs (cells + 1) (slots + n.toNat) P
      have e9 : xm_v G (.inr (.inl (some w.length))) = .ref H.size := by
        show Value.ref (xm_ad G w.length) = _
        rw [xm_ad_lo (by omega), hrep.1]
      rw [List.map_cons, e9] at K
      exact K
    next => cases h
  next => cases h
theorem xm_anew {C : String} {t j : Nat} {ls : Array Slot} {H : Heap} {locs : List Loc} {cells slots : Nat} {n : Int} {r : List xm_V} (F : xm_Fr p s m args meth c cc nL own ini G o) (hk : xm_Sim p l e R s m args below meth c Q G nL mc ms cd k q) (hwf : q.2.length < 1000000) (hmc : mc ≤ R.cells ∧ ms ≤ R.slots) (hd : decode cc pc = .ok (.anewarray j, 3)) (hn : xm_pc cd nx = some (pc + 3)) (hlk : (Cond.classLink own j C).before args s = true) (hao : va_AO C s) {t0 : Nat} (ht : t = 4 ∨ t = 5 ∨ t = 7) (ht0 : (xm_tys G)[t0]? = some (G.2.1 t, .object C)) (hn0 : 0 ≤ n ∧ n ≤ 1000) (h : k nx L (.inr (.inl (some w.length)) :: r) (w ++ [.inr (.inl (t, List.replicate n.toNat none))]) = some q) (hr : xm_Rl G s nL mc ms q.2 L (.inl n :: r) w ls H locs cells slots) : W p l e R s m args below meth c H locs cells slots Q (F0 m pc ls (.int (Int32.ofInt n) :: r.map (xm_v G))) := by
  have hrep := hr.2.2.1
  have hK := F.2.2.2.2.2.1.2.1
  have hg1 := (hk _ _ _ _ h).1
  have hsz : xm_szC (.inr (.inl (t, List.replicate n.toNat none))) = n.toNat := by simp [xm_szC]
  have ha := hr.2.2.2.2
  have hb1 := hg1.1
  have hb2 := hg1.2
  rw [xm_sz_push, hsz] at hb2
  rw [List.length_append] at hb1
  simp only [List.length_cons, List.length_nil] at hb1
  have hi := xm_c1 hr.2.1
  have hcl := xm_clamp hi
  refine W.anew F.1 F.2.1 F.2.2.2.1 hlk (va_AO.use hao) rfl hd rfl (fun z => by have := (xm_lt0 hi).mp z; omega) (by rw [hcl]; omega) (by omega) (by rw [hcl]; omega) fun cA kA comp f1 f2 f3 f4 => ?_
  have hcA : cA = G.2.1 t := by
    obtain ⟨_, _, _, _, _, h9⟩ := (hK.2 t0 _ ht0).2
    exact Option.some.inj (f1.symm.trans h9)
  subst hcA
  rw [hcl]
  generalize hH1 : H.push ({ cls := G.2.1 t, slots := Array.replicate n.toNat .null, vm := .none } : Cell) = H1
  have z1 : H1.size = H.size + 1 := by rw [← hH1, Array.size_push]
  have e1 : H1[H.size]? = some (arrV (G.2.1 t) n.toNat (fun _ => .null)) := by rw [← hH1, Array.getElem?_push_size, ← arrV_new]
  have o1 : ∀ q : Nat, q < H.size → H1[q]? = H[q]? := fun q hq => by rw [← hH1, Array.getElem?_push, if_neg (Nat.ne_of_lt hq)]
  have hva : va_at G.1 xm_cl (G.2.2.1 + w.length, xm_e G (.inr (.inl (t, List.replicate n.toNat none)))) H1 := by
    show H1[_]? = some (vp_cell _ _)
    rw [← hrep.1, e1, vp_cell_q, List.length_replicate]
    congr 2
    funext j
    rw [List.getD_eq_getElem?_getD, List.getElem?_replicate]
    split <;> rfl
  have hok : xm_okC (.inr (.inl (t, List.replicate n.toNat none))) := ⟨ht, fun z hz => by
    have := List.eq_of_mem_replicate hz
    cases this⟩
  have P := hr.push hva hok z1 o1 (st' := .inr (.inl (some w.length)) :: r) (xm_c3 (xm_okr _) (xm_c2 hr.2.1)) hg1 hwf
  rw [hsz] at P
  have K := (hk _ _ _ _ h).2 _ hn _ H1 locs (cells + 1) (slots + n.toNat) P
  have e9 : xm_v G (.inr (.inl (some w.length))) = .ref H.size := by
    show Value.ref (xm_ad G w.length) = _
    rw [xm_ad_lo (by omega), hrep.1]
  rw [List.map_cons, e9] at K
  exact K
theorem xm_s_anewarray {j : Nat} (F : xm_Fr p s m args meth c cc nL own ini G o) (hk : xm_Sim p l e R s m args below meth c Q G nL mc ms cd k q) (hwf : q.2.length < 1000000) (hmc : mc ≤ R.cells ∧ ms ≤ R.slots) (hc : xm_chk own ini cc cd nL rk mt (.anewarray j, pc, nx, a, b, ps, sw) = true) (h : xm_step o xm_sta call (.anewarray j, pc, nx, a, b, ps, sw) L st w k = some q) : xm_Con p l e R s m args below meth c Q G nL mc ms q pc L st w := by
  simp only [xm_chk, Bool.and_eq_true] at hc
  simp only [xm_step] at h
  obtain ⟨⟨hd, hn⟩, hc2⟩ := hc
  split at h
  next n r =>
    split at h
    next hn0 =>
      have hG := xm_gr_tr (xm_gr_push w _) (hk _ _ _ _ h).1
      refine ⟨hG, fun ls H locs cells slots hr => ?_⟩
      have hao := F.2.2.2.2.2.1.2.2.1
      match b, hc2, h with
      | 4, hc2, h => exact xm_anew F hk hwf hmc (xm_dec_ok hd) (xm_ofn hn) (F.gd hc2) hao.1 (t0 := 1) (Or.inl rfl) rfl hn0 h hr
      | 5, hc2, h => exact xm_anew F hk hwf hmc (xm_dec_ok hd) (xm_ofn hn) (F.gd hc2) hao.2.1 (t0 := 2) (Or.inr (Or.inl rfl)) rfl hn0 h hr
      | 7, hc2, h => exact xm_anew F hk hwf hmc (xm_dec_ok hd) (xm_ofn hn) (F.gd hc2) hao.2.2 (t0 := 3) (Or.inr (Or.inr rfl)) rfl hn0 h hr
    next => cases h
  next => cases h
end xm_sec4
