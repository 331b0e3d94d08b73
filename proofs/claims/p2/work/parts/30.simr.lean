theorem xm_cpy_at (f g : List Int) (sp dp n j : Nat) (h1 : sp + n ≤ f.length) (h2 : dp + n ≤ g.length) : (xm_cpy f g sp dp n)[j]? = if dp ≤ j ∧ j < dp + n then f[sp + (j - dp)]? else g[j]? := by
  unfold xm_cpy
  have e1 : (g.take dp).length = dp := by rw [List.length_take]; omega
  have e2 : ((f.drop sp).take n).length = n := by rw [List.length_take, List.length_drop]; omega
  by_cases ha : j < dp
  · rw [List.getElem?_append_left (by rw [e1]; exact ha), if_neg (by omega), List.getElem?_take, if_pos ha]
  · rw [List.getElem?_append_right (by rw [e1]; omega), e1]
    by_cases hb : j < dp + n
    · rw [List.getElem?_append_left (by rw [e2]; omega), if_pos ⟨by omega, hb⟩, List.getElem?_take, if_pos (by omega), List.getElem?_drop]
    · rw [List.getElem?_append_right (by rw [e2]; omega), e2, if_neg (by omega), List.getElem?_drop]
      congr 1
      omega
theorem xm_cpy_len (f g : List Int) (sp dp n : Nat) (h1 : sp + n ≤ f.length) (h2 : dp + n ≤ g.length) : (xm_cpy f g sp dp n).length = g.length := by
  unfold xm_cpy
  rw [List.length_append, List.length_append, List.length_take, List.length_take, List.length_drop, List.length_drop]
  omega
theorem xm_copy_ok {w w' : xm_W} {k0 k1 : Nat} {sp dp n : Int} (h : xm_copy w k0 sp k1 dp n = some w') : ∃ f g, w[k0]? = some (.inl f) ∧ w[k1]? = some (.inl g) ∧ 0 ≤ sp ∧ 0 ≤ dp ∧ 0 ≤ n ∧ sp + n ≤ f.length ∧ dp + n ≤ g.length ∧ w' = w.set k1 (.inl (xm_cpy f g sp.toNat dp.toNat n.toNat)) := by
  unfold xm_copy at h
  split at h
  next f g hf hg =>
    split at h
    next hh =>
      cases h
      exact ⟨f, g, hf, hg, hh.1, hh.2.1, hh.2.2.1, hh.2.2.2.1, hh.2.2.2.2, rfl⟩
    next => cases h
  next => cases h
section xm_sec6
variable {p : Program} {l : Launch} {e : Env} {R : Room} {s : State} {m : MethodId} {args : Array Value} {below : List Frame} {meth : Method} {c : Code} {Q : State → Prop} {cc : ByteArray} {nL mc ms rk : Nat} {own : String} {ini : Bool} {G : xm_G} {o : xm_W} {cd : List xm_I} {k : xm_Kt} {q : Option xm_V × xm_W} {mt : Nat → Option xm_M} {call : Nat → List xm_V → xm_W → xm_R} {pc nx a b d : Nat} {ps : List Nat} {sw : List (Int × Nat)} {L : List (Option xm_V)} {st : List xm_V} {w : xm_W}
theorem xm_s_copy {j : Nat} {n dp sp : Int} {k0 k1 : Nat} {r : List xm_V} {w' : xm_W} (F : xm_Fr p s m args meth c cc nL own ini G o) (hk : xm_Sim p l e R s m args below meth c Q G nL mc ms cd k q) (hR : 1 ≤ R.frames ∧ 60 ≤ R.locals) (hr4 : r.length ≤ 4) (hd : decode cc pc = .ok (.invokestatic j, 3)) (hn : xm_pc cd nx = some (pc + 3))
    (hlink : (Cond.methodLink own j arraycopyName).before args s = true) (hnat : (Cond.native arraycopyName).before args s = true) (hstat : (Cond.static arraycopyName).before args s = true) (hini : (Cond.initialized "java/lang/System").before args s = true)
    (hw : xm_copy w k0 sp k1 dp n = some w') (h : k nx L r w' = some q) : xm_Con p l e R s m args below meth c Q G nL mc ms q pc L (.inl n :: .inl dp :: .inr (.inl (some k1)) :: .inl sp :: .inr (.inl (some k0)) :: r) w := by
  obtain ⟨f, g, hf, hg, h1, h2, h3, h4, h5, rfl⟩ := xm_copy_ok hw
  have hszc : xm_szC (.inl (xm_cpy f g sp.toNat dp.toNat n.toNat)) = xm_szC (.inl g) := xm_cpy_len f g _ _ _ (by omega) (by omega)
  refine ⟨xm_gr_tr (xm_gr_set hg hszc) (hk _ _ _ _ h).1, fun ls H locs cells slots hr => ?_⟩
  have hrep := hr.2.2.1
  have h6 := hrep.lt hf
  have h7 := hrep.lt hg
  have hK := F.2.2.2.2.2.1.2.1
  have hokf : xm_okC (.inl f) := hrep.okc hf
  have hokg : xm_okC (.inl g) := hrep.okc hg
  have hin := xm_c1 hr.2.1
  have hidp := xm_c1 (xm_c2 hr.2.1)
  have hisp := xm_c1 (xm_c2 (xm_c2 (xm_c2 hr.2.1)))
  have hst5 := xm_c2 (xm_c2 (xm_c2 (xm_c2 (xm_c2 hr.2.1))))
  have hc0 : H[G.2.2.1 + k0]? = some (vp_cell (G.2.1 0) (f.length, .inl (fun j => Int32.ofInt (f.getD j 0)))) := hrep.at hf
  have hc1 : H[G.2.2.1 + k1]? = some (vp_cell (G.2.1 0) (g.length, .inl (fun j => Int32.ofInt (g.getD j 0)))) := hrep.at hg
  have cn := xm_clamp hin
  have cdp := xm_clamp hidp
  have csp := xm_clamp hisp
  show W _ _ _ _ _ _ _ _ _ _ _ _ _ _ _ (F0 m pc ls (.int (Int32.ofInt n) :: .int (Int32.ofInt dp) :: .ref (xm_ad G k1) :: .int (Int32.ofInt sp) :: .ref (xm_ad G k0) :: r.map (xm_v G)))
  rw [xm_ad_lo h6, xm_ad_lo h7]
  intro T hT X
  obtain ⟨-, kk0, hk0, cm0, hkk0⟩ := (hK.2 0 _ rfl).1 f.length (fun j => .int (Int32.ofInt (f.getD j 0)))
  obtain ⟨-, kk1, hk1, cm1, hkk1⟩ := (hK.2 0 _ rfl).1 g.length (fun j => .int (Int32.ofInt (g.getD j 0)))
  have hcat := xm_cats (r.map (xm_v G))
  rw [List.length_map] at hcat
  have hnw : nativeFrameWords "java/lang/System" "arraycopy" 5 ≤ 36 := by decide +kernel
  obtain ⟨vm', X', step⟩ := X.arraycopy F.1 F.2.2.2.1 hlink hnat hstat hini (src := G.2.2.1 + k0) (dst := G.2.2.1 + k1) (cs := vp_cell (G.2.1 0) (f.length, .inl (fun j => Int32.ofInt (f.getD j 0)))) (cd := vp_cell (G.2.1 0) (g.length, .inl (fun j => Int32.ofInt (g.getD j 0)))) (srcPos := Int32.ofInt sp) (destPos := Int32.ofInt dp) (n := Int32.ofInt n) (by rw [hT]; exact hc0) (by rw [hT]; exact hc1)
    (fun _ h => by cases h) (fun _ h => by cases h) (fun h => by cases h) (fun h => by cases h) hk0 hk1 hkk0 hkk1 (by simp [refKind]) (fun z => by have := (xm_lt0 hisp).mp z; omega) (fun z => by have := (xm_lt0 hidp).mp z; omega) (fun z => by have := (xm_lt0 hin).mp z; omega)
    (by rw [xm_tic hisp, xm_tic hin]; show ¬ _ > ((arrV _ f.length (fun j => .int (Int32.ofInt (f.getD j 0)))).slots.size : Int); rw [arrV_size]; omega)
    (by rw [xm_tic hidp, xm_tic hin]; show ¬ _ > ((arrV _ g.length (fun j => .int (Int32.ofInt (g.getD j 0)))).slots.size : Int); rw [arrV_size]; omega)
    (fun vm₁ _ i hi => by
      have e : (vp_cell (G.2.1 0) (f.length, .inl (fun j => Int32.ofInt (f.getD j 0)))).slots.getD ((Int32.ofInt sp).toNatClampNeg + i) .null = .int (Int32.ofInt (f.getD ((Int32.ofInt sp).toNatClampNeg + i) 0)) := by
        show (arrV _ f.length (fun j => .int (Int32.ofInt (f.getD j 0)))).slots.getD _ _ = _
        rw [Array.getD_eq_getD_getElem?, arrV_read _ _ (by rw [csp]; rw [cn] at hi; omega)]
        rfl
      refine ⟨?_, ?_⟩
      · rw [e]; rfl
      · rw [e]; exact trivial)
    (g := F0 m pc ls (.int (Int32.ofInt n) :: .int (Int32.ofInt dp) :: .ref (G.2.2.1 + k1) :: .int (Int32.ofInt sp) :: .ref (G.2.2.1 + k0) :: r.map (xm_v G))) rfl (by rw [F.2.2.1]; exact hr.1.1.1) (rest := r.map (xm_v G)) rfl (by rw [F.2.1]; exact hd) hR.1 (by show 2 * 0 + _ + _ ≤ _; omega)
  have e1 : copied (vp_cell (G.2.1 0) (f.length, .inl (fun j => Int32.ofInt (f.getD j 0)))) (vp_cell (G.2.1 0) (g.length, .inl (fun j => Int32.ofInt (g.getD j 0)))) (Int32.ofInt sp) (Int32.ofInt dp) (Int32.ofInt n) = vp_cell (G.2.1 0) (g.length, .inl (va_cpy (fun j => Int32.ofInt (f.getD j 0)) (fun j => Int32.ofInt (g.getD j 0)) (Int32.ofInt sp).toNatClampNeg (Int32.ofInt dp).toNatClampNeg (Int32.ofInt n).toNatClampNeg)) := va_copied (fun z => .int z) (G.2.1 0) (G.2.1 0) (n0 := f.length) (n1 := g.length) (sp := (Int32.ofInt sp).toNatClampNeg) (dp := (Int32.ofInt dp).toNatClampNeg) (n := (Int32.ofInt n).toNatClampNeg) (fun j => Int32.ofInt (f.getD j 0)) (fun j => Int32.ofInt (g.getD j 0)) (by rw [csp, cn]; omega)
  rw [e1, csp, cdp, cn] at X' step
  have e2 : vp_cell (G.2.1 0) (g.length, .inl (va_cpy (fun j => Int32.ofInt (f.getD j 0)) (fun j => Int32.ofInt (g.getD j 0)) sp.toNat dp.toNat n.toNat)) = vp_cell (G.2.1 0) ((xm_cpy f g sp.toNat dp.toNat n.toNat).length, .inl (fun j => Int32.ofInt ((xm_cpy f g sp.toNat dp.toNat n.toNat).getD j 0))) := by
    rw [xm_cpy_len f g _ _ _ (by omega) (by omega)]
    congr 3
    funext jj
    rw [List.getD_eq_getElem?_getD, xm_cpy_at f g _ _ _ _ (by omega) (by omega)]
    unfold va_cpy
    by_cases hh : dp.toNat ≤ jj ∧ jj < dp.toNat + n.toNat
    · rw [if_pos hh, if_pos hh]; simp only [List.getD_eq_getElem?_getD]
    · rw [if_neg hh, if_neg hh]; simp only [List.getD_eq_getElem?_getD]
  rw [e2] at X' step
  have hl : G.2.2.1 + k1 < H.size := (Array.getElem?_eq_some_iff.mp hc1).1
  generalize hcell : vp_cell (G.2.1 0) ((xm_cpy f g sp.toNat dp.toNat n.toNat).length, .inl (fun j => Int32.ofInt ((xm_cpy f g sp.toNat dp.toNat n.toNat).getD j 0))) = cell at X' step
  have hheap : ((T.setVm vm').setCell (G.2.2.1 + k1) cell).heap = H.setIfInBounds (G.2.2.1 + k1) cell := by rw [← hT]; rfl
  have oq : ∀ q : Nat, q ≠ G.2.2.1 + k1 → (H.setIfInBounds (G.2.2.1 + k1) cell)[q]? = H[q]? := fun q hq => by simp [Array.getElem?_setIfInBounds, Ne.symm hq]
  have hrep' : xm_Rep G (w.set k1 (.inl (xm_cpy f g sp.toNat dp.toNat n.toNat))) (H.setIfInBounds (G.2.2.1 + k1) cell) := hrep.set (by
      show (H.setIfInBounds (G.2.2.1 + k1) cell)[_]? = some (vp_cell _ _)
      rw [hcell]
      simp [Array.getElem?_setIfInBounds, hl]) (fun z hz => by
      obtain ⟨jj, hjj⟩ := List.getElem?_of_mem hz
      rw [xm_cpy_at f g _ _ _ _ (by omega) (by omega)] at hjj
      split at hjj
      · exact hokf z (List.mem_of_getElem? hjj)
      · exact hokg z (List.mem_of_getElem? hjj)) (by simp) oq
  have hS := hr.2.2.2.1
  have hacc := hr.2.2.2.2
  obtain ⟨t, a1, b1⟩ := (hk _ _ _ _ h).2 _ hn ls (H.setIfInBounds (G.2.2.1 + k1) cell) (locs ++ _) cells slots ⟨hr.1, hst5, hrep', ⟨by simp; exact hS.1, fun q g1 g2 => by
      rw [oq q (fun e => g2 (by rw [e]; exact Nat.le_add_right _ _))]
      exact hS.2.1 q g1 g2, fun q hq => by
      rcases List.mem_append.mp hq with h | h
      · exact hS.2.2 q h
      · obtain ⟨z, -, hz⟩ := List.mem_map.mp h
        rw [← hz]
        exact Nat.le_add_right _ _⟩, by rw [List.length_set]; exact hacc.1, by rw [xm_sz_set hg hszc]; exact hacc.2⟩ _ hheap X'
  exact ⟨t, step t a1, b1⟩
end xm_sec6
