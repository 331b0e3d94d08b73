section
/-- the start: what the Statement gives, in the words of the small machine -/
theorem xm_okd {l : List Int} (h : ∀ z ∈ l, -2147483648 ≤ z ∧ z < 2147483648) : ∀ z ∈ l, xm_ok (.inl z) := h
theorem xm_hin (i : Nat) (w : Cond) (h : lw_tbl[i]? = some w) : w ∈ lw_tbl := List.mem_of_getElem? h
theorem xm_start {s : State} {m : MethodId} {b L : Nat} {xs : Nat → Int32} (hts : ∀ w ∈ lw_tbl, w.before #[Value.ref b] s = true) (hX : va_X b L xs s s.heap) (hbl : b < s.heap.size) (hgv : (Jvm.Cond.and given_1 narrow_1).before #[Value.ref b] s = true) : ∃ G : xm_G, G.2.2.1 = s.heap.size ∧ G.2.2.2 8 = b ∧ xm_Kn G (xm_old ((List.range L).map fun j => (xs j).toInt)) xm_sta xm_sts xm_str s s.heap := by
  have hg := flat_of_before _ hgv
  obtain ⟨c0, iS0, hK0⟩ := u_known (C := xm_R0) (T := xm_F0) (N := 5) (n := 5) hts (fun u hu => (xm_i0 u hu).1) (hts (.instantiable "ShodBackwards$Bargain" 5) (xm_hin 272 _ (by decide +kernel)))
  obtain ⟨c1, iS1, hK1⟩ := u_known (C := xm_R1) (T := xm_F1) (N := 5) (n := 5) hts (fun u hu => (xm_i1 u hu).1) (hts (.instantiable "ShodBackwards$Desk" 5) (xm_hin 193 _ (by decide +kernel)))
  obtain ⟨c2, iS2, hK2⟩ := u_known (C := xm_R2) (T := xm_F2) (N := 10) (n := 10) hts (fun u hu => (xm_i2 u hu).1) (hts (.instantiable "ShodBackwards$Moor" 10) (xm_hin 101 _ (by decide +kernel)))
  obtain ⟨c3, iS3, hK3⟩ := u_known (C := xm_R3) (T := xm_F3) (N := 6) (n := 6) hts (fun u hu => (xm_i3 u hu).1) (hts (.instantiable "ShodBackwards$Reader" 6) (xm_hin 220 _ (by decide +kernel)))
  obtain ⟨c4, iS4, hK4⟩ := u_known (C := xm_R4) (T := xm_F4) (N := 7) (n := 7) hts (fun u hu => (xm_i4 u hu).1) (hts (.instantiable "ShodBackwards$Rider" 7) (xm_hin 110 _ (by decide +kernel)))
  obtain ⟨c5, iS5, hK5⟩ := u_known (C := xm_R5) (T := xm_F5) (N := 3) (n := 3) hts (fun u hu => (xm_i5 u hu).1) (hts (.instantiable "ShodBackwards$Sheet" 3) (xm_hin 296 _ (by decide +kernel)))
  obtain ⟨c6, iS6, hK6⟩ := u_known (C := xm_R6) (T := xm_F6) (N := 5) (n := 5) hts (fun u hu => (xm_i6 u hu).1) (hts (.instantiable "ShodBackwards$Speaker" 5) (xm_hin 248 _ (by decide +kernel)))
  obtain ⟨c7, iS7, hK7⟩ := u_known (C := xm_R7) (T := xm_F7) (N := 1) (n := 1) hts (fun u hu => (xm_i7 u hu).1) (hts (.instantiable "ShodBackwards$Text" 1) (xm_hin 590 _ (by decide +kernel)))
  obtain ⟨c8, iS8, hK8⟩ := u_known (C := xm_R8) (T := xm_F8) (N := 11) (n := 11) hts (fun u hu => (xm_i8 u hu).1) (hts (.instantiable "ShodBackwards" 11) (xm_hin 93 _ (by decide +kernel)))
  obtain ⟨c9, iS9, hK9⟩ := u_known (C := xm_R9) (T := xm_F9) (N := 22) (n := 22) hts (fun u hu => (xm_i9 u hu).1) (hts (.instantiable "ShodBackwardsModel" 22) (xm_hin 875 _ (by decide +kernel)))
  obtain ⟨cI, kI, coI, hI1, hI2, hI3⟩ := Cond.arrayClass_spec (type := .int) (hts (.arrayClass .int) (xm_hin 152 _ (by decide +kernel)))
  have hao4 := hts (.arrayOver (.object "ShodBackwards$Rider")) (xm_hin 107 _ (by decide +kernel))
  obtain ⟨cp4, ca4, ka4, ha41, ha42, ha43, ha44, ha45⟩ := Cond.arrayOver_spec hao4
  have hao5 := hts (.arrayOver (.object "ShodBackwards$Sheet")) (xm_hin 295 _ (by decide +kernel))
  obtain ⟨cp5, ca5, ka5, ha51, ha52, ha53, ha54, ha55⟩ := Cond.arrayOver_spec hao5
  have hao7 := hts (.arrayOver (.object "ShodBackwards$Text")) (xm_hin 109 _ (by decide +kernel))
  obtain ⟨cp7, ca7, ka7, ha71, ha72, ha73, ha74, ha75⟩ := Cond.arrayOver_spec hao7
  have hA : ∀ a : Nat, a < s.heap.size → ¬ (fun q : Nat => s.heap.size ≤ q) a := fun a h1 h2 => Nat.lt_irrefl _ (Nat.lt_of_lt_of_le h1 h2)
  obtain ⟨t0, et0, hT0⟩ := va_Tof (tm := .static "ShodBackwards" "ABOVE" "[I") (ty := .int) (N := 7) (f := fun j => .int (Int32.ofInt ((xm_st0).getD j 0))) (A := fun q : Nat => s.heap.size ≤ q) (by decide) (hg _ (by decide +kernel)) (va_eqt (hg _ (by decide +kernel))) (fun j hj => va_eqt (z := Int32.ofInt ((xm_st0).getD j 0)) (hg _ (by
    have : ∀ j, j < 7 → (Cond.eq (.elem (.static "ShodBackwards" "ABOVE" "[I") (.int (Int32.ofNat j))) (.int (Int32.ofInt ((xm_st0).getD j 0)))) ∈ flatC (Jvm.Cond.and given_1 narrow_1) := by decide +kernel
    exact this j hj))) hA
  have hZ0 := va_Zof (A := fun q : Nat => s.heap.size ≤ q) (hts (.laysStatic "ShodBackwards" "ABOVE" "[I") (xm_hin 425 _ (by decide +kernel))) (hts (.initialized "ShodBackwards") (xm_hin 75 _ (by decide +kernel))) et0 hA
  obtain ⟨t1, et1, hT1⟩ := va_Tof (tm := .static "ShodBackwards" "BODIES" "[I") (ty := .int) (N := 28) (f := fun j => .int (Int32.ofInt ((xm_st1).getD j 0))) (A := fun q : Nat => s.heap.size ≤ q) (by decide) (hg _ (by decide +kernel)) (va_eqt (hg _ (by decide +kernel))) (fun j hj => va_eqt (z := Int32.ofInt ((xm_st1).getD j 0)) (hg _ (by
    have : ∀ j, j < 28 → (Cond.eq (.elem (.static "ShodBackwards" "BODIES" "[I") (.int (Int32.ofNat j))) (.int (Int32.ofInt ((xm_st1).getD j 0)))) ∈ flatC (Jvm.Cond.and given_1 narrow_1) := by decide +kernel
    exact this j hj))) hA
  have hZ1 := va_Zof (A := fun q : Nat => s.heap.size ≤ q) (hts (.laysStatic "ShodBackwards" "BODIES" "[I") (xm_hin 798 _ (by decide +kernel))) (hts (.initialized "ShodBackwards") (xm_hin 75 _ (by decide +kernel))) et1 hA
  have hZ2 := va_Zof (A := fun q : Nat => s.heap.size ≤ q) (hts (.laysStatic "java/lang/String" "COMPACT_STRINGS" "Z") (xm_hin 500 _ (by decide +kernel))) (hts (.initialized "java/lang/String") (xm_hin 85 _ (by decide +kernel))) (va_eqi (z := 1) (hg _ (by decide +kernel))) hA
  obtain ⟨adK, adV, hS, hSe⟩ := vk_Sof (s := s) (args := #[Value.ref b]) (N := 3) (tm := fun i => match i with | 0 => .string "ShodBackwards$Reader" 15 | 1 => .string "ShodBackwards" 143 | _ => .string "ShodBackwards" 145) (len := [0, 4, 3]) (byt := [[], [119, 115, 109, 103], [110, 100, 97]]) (A := fun q : Nat => s.heap.size ≤ q)
    (by decide)
    (fun i hi => hg _ (by
      have : ∀ i : Nat, i < 3 → (Cond.exactly ((match i with | 0 => Term.string "ShodBackwards$Reader" 15 | 1 => Term.string "ShodBackwards" 143 | _ => Term.string "ShodBackwards" 145 : Term)) "java/lang/String") ∈ flatC (Jvm.Cond.and given_1 narrow_1) := by decide +kernel
      exact this i hi))
    (fun i hi => hg _ (by
      have : ∀ i : Nat, i < 3 → (Cond.eq (.field ((match i with | 0 => Term.string "ShodBackwards$Reader" 15 | 1 => Term.string "ShodBackwards" 143 | _ => Term.string "ShodBackwards" 145 : Term)) "java/lang/String" "coder" "B") (.int 0)) ∈ flatC (Jvm.Cond.and given_1 narrow_1) := by decide +kernel
      exact this i hi))
    (fun i hi => hg _ (by
      have : ∀ i : Nat, i < 3 → (Cond.arrayOf (.field ((match i with | 0 => Term.string "ShodBackwards$Reader" 15 | 1 => Term.string "ShodBackwards" 143 | _ => Term.string "ShodBackwards" 145 : Term)) "java/lang/String" "value" "[B") .byte) ∈ flatC (Jvm.Cond.and given_1 narrow_1) := by decide +kernel
      exact this i hi))
    (fun i hi => hg _ (by
      have : ∀ i : Nat, i < 3 → (Cond.eq (.length (.field ((match i with | 0 => Term.string "ShodBackwards$Reader" 15 | 1 => Term.string "ShodBackwards" 143 | _ => Term.string "ShodBackwards" 145 : Term)) "java/lang/String" "value" "[B")) (.int (Int32.ofNat (([0, 4, 3] : List Nat).getD i 0)))) ∈ flatC (Jvm.Cond.and given_1 narrow_1) := by decide +kernel
      exact this i hi))
    (fun i hi j hj => hg _ (by
      have : ∀ i : Nat, i < 3 → ∀ j : Nat, j < ([0, 4, 3] : List Nat).getD i 0 → (Cond.eq (.elem (.field (match i with | 0 => Term.string "ShodBackwards$Reader" 15 | 1 => Term.string "ShodBackwards" 143 | _ => Term.string "ShodBackwards" 145 : Term) "java/lang/String" "value" "[B") (.int (Int32.ofNat j))) (.int ((([[], [119, 115, 109, 103], [110, 100, 97]] : List (List Int32)).getD i []).getD j 0))) ∈ flatC (Jvm.Cond.and given_1 narrow_1) := by decide +kernel
      exact this i hi j hj))
    (fun i j hi hj hij => by
      have : ∀ i : Nat, i < 3 → ∀ j : Nat, j < 3 → i ≠ j → (Cond.not (Cond.eq (match i with | 0 => Term.string "ShodBackwards$Reader" 15 | 1 => Term.string "ShodBackwards" 143 | _ => Term.string "ShodBackwards" 145 : Term) (match j with | 0 => Term.string "ShodBackwards$Reader" 15 | 1 => Term.string "ShodBackwards" 143 | _ => Term.string "ShodBackwards" 145 : Term))) ∈ flatC (Jvm.Cond.and given_1 narrow_1) ∨ (Cond.not (Cond.eq (match j with | 0 => Term.string "ShodBackwards$Reader" 15 | 1 => Term.string "ShodBackwards" 143 | _ => Term.string "ShodBackwards" 145 : Term) (match i with | 0 => Term.string "ShodBackwards$Reader" 15 | 1 => Term.string "ShodBackwards" 143 | _ => Term.string "ShodBackwards" 145 : Term))) ∈ flatC (Jvm.Cond.and given_1 narrow_1) := by decide +kernel
      rcases this i hi j hj hij with h | h
      · exact Or.inl (hg _ h)
      · exact Or.inr (hg _ h)) hA
  refine ⟨((fun k => match k with | 0 => c0 | 1 => c1 | 2 => c2 | 3 => c3 | 4 => c4 | 5 => c5 | 6 => c6 | 7 => c7 | 8 => c8 | _ => c9, fun k => match k with | 0 => iS0 | 1 => iS1 | 2 => iS2 | 3 => iS3 | 4 => iS4 | 5 => iS5 | 6 => iS6 | 7 => iS7 | 8 => iS8 | _ => iS9), (fun t => match t with | 4 => ca4 | 5 => ca5 | 7 => ca7 | _ => cI), s.heap.size, (fun k => match k with | 0 => t0 | 1 => t1 | 2 => adK 0 | 3 => adK 1 | 4 => adK 2 | 5 => adV 0 | 6 => adV 1 | 7 => adV 2 | _ => b)), rfl, rfl, ?_⟩
  refine ⟨fun w hw hn => ?_, ⟨fun c q hq => ?_, fun k q hq => ?_⟩, ⟨hao4, hao5, hao7⟩, fun i q hq => ?_, fun i q hq => ?_, fun k x hx => ?_⟩
  · have h1 := hts w hw
    match w, hn, h1 with
    | .fieldLinkNest .., _, h1 => exact va_Nw.of rfl h1
    | .methodLinkNest .., _, h1 => exact va_Nw.of rfl h1
  · match c, hq with
    | 0, hq => cases hq; exact hK0
    | 1, hq => cases hq; exact hK1
    | 2, hq => cases hq; exact hK2
    | 3, hq => cases hq; exact hK3
    | 4, hq => cases hq; exact hK4
    | 5, hq => cases hq; exact hK5
    | 6, hq => cases hq; exact hK6
    | 7, hq => cases hq; exact hK7
    | 8, hq => cases hq; exact hK8
    | 9, hq => cases hq; exact hK9
    | c + 10, hq => simp [xm_cl] at hq
  · match k, hq with
    | 0, hq => cases hq; exact ⟨fun n z => ⟨fun k h => (by cases h), kI, hI2, coI, hI3⟩, hI1⟩
    | 1, hq => cases hq; exact ⟨fun n z => ⟨fun k h => (by cases h), ka4, ha43, cp4, ha44⟩, ka4, cp4, ha43, ha44, ha41, ha45⟩
    | 2, hq => cases hq; exact ⟨fun n z => ⟨fun k h => (by cases h), ka5, ha53, cp5, ha54⟩, ka5, cp5, ha53, ha54, ha51, ha55⟩
    | 3, hq => cases hq; exact ⟨fun n z => ⟨fun k h => (by cases h), ka7, ha73, cp7, ha74⟩, ka7, cp7, ha73, ha74, ha71, ha75⟩
    | k + 4, hq => simp [xm_tys] at hq
  · match i, hq with
    | 0, hq => cases hq; exact ⟨_, rfl, trivial, hZ0⟩
    | 1, hq => cases hq; exact ⟨_, rfl, trivial, hZ1⟩
    | 2, hq => cases hq; exact ⟨_, rfl, ⟨by decide, by decide⟩, hZ2⟩
    | i + 3, hq => simp [xm_sts] at hq
  · match i, hq with
    | 0, hq => cases hq; exact vk_R.of (hts (.stringRef "ShodBackwards$Reader" 15 "") (xm_hin 225 _ (by decide +kernel))) (hSe 0 (by decide))
    | 1, hq => cases hq; exact vk_R.of (hts (.stringRef "ShodBackwards" 143 "wsmg") (xm_hin 462 _ (by decide +kernel))) (hSe 1 (by decide))
    | 2, hq => cases hq; exact vk_R.of (hts (.stringRef "ShodBackwards" 145 "nda") (xm_hin 463 _ (by decide +kernel))) (hSe 2 (by decide))
    | i + 3, hq => simp [xm_str] at hq
  · have hA2 := hA
    match k, hx with
    | 0, hx =>
      cases hx
      obtain ⟨cell, h1, h2, h3, h4, h5, h6, -⟩ := hT0
      exact ⟨(Array.getElem?_eq_some_iff.mp h1).1, hA _ (Array.getElem?_eq_some_iff.mp h1).1, ⟨cell, h1, h2, h3, h4, h5, fun j z hz => by
        have hl := (List.getElem?_eq_some_iff.mp hz).1
        rw [h6 j hl]
        simp only [List.getD_eq_getElem?_getD, hz, Option.getD_some]⟩, xm_okd (by decide)⟩
    | 1, hx =>
      cases hx
      obtain ⟨cell, h1, h2, h3, h4, h5, h6, -⟩ := hT1
      exact ⟨(Array.getElem?_eq_some_iff.mp h1).1, hA _ (Array.getElem?_eq_some_iff.mp h1).1, ⟨cell, h1, h2, h3, h4, h5, fun j z hz => by
        have hl := (List.getElem?_eq_some_iff.mp hz).1
        rw [h6 j hl]
        simp only [List.getD_eq_getElem?_getD, hz, Option.getD_some]⟩, xm_okd (by decide)⟩
    | 2, hx =>
      cases hx
      obtain ⟨⟨cell, h1, h2, h3, h4⟩, h5, h6, -⟩ := hS.1 0 (by decide)
      exact ⟨(Array.getElem?_eq_some_iff.mp h1).1, h4, h6, h5, trivial, ⟨by decide, by decide⟩, cell, h1, h2, h3⟩
    | 3, hx =>
      cases hx
      obtain ⟨⟨cell, h1, h2, h3, h4⟩, h5, h6, -⟩ := hS.1 1 (by decide)
      exact ⟨(Array.getElem?_eq_some_iff.mp h1).1, h4, h6, h5, trivial, ⟨by decide, by decide⟩, cell, h1, h2, h3⟩
    | 4, hx =>
      cases hx
      obtain ⟨⟨cell, h1, h2, h3, h4⟩, h5, h6, -⟩ := hS.1 2 (by decide)
      exact ⟨(Array.getElem?_eq_some_iff.mp h1).1, h4, h6, h5, trivial, ⟨by decide, by decide⟩, cell, h1, h2, h3⟩
    | 5, hx =>
      cases hx
      obtain ⟨-, -, -, ⟨cell, h1, h2, h3, h4, h5, h6, h7⟩⟩ := hS.1 0 (by decide)
      exact ⟨(Array.getElem?_eq_some_iff.mp h1).1, h7, [], rfl, ⟨cell, h1, h2, h3, h4, h5, fun j z hz => by
        have hl := (List.getElem?_eq_some_iff.mp hz).1
        rw [h6 j hl]
        have : ∀ j : Nat, j < 0 → Value.int (((([[], [119, 115, 109, 103], [110, 100, 97]] : List (List Int32)).getD 0 []).getD j 0)) = .int (Int32.ofInt (([] : List Int).getD j 0)) := by decide
        refine congrArg some ((this j hl).trans ?_)
        rw [List.getD_eq_getElem?_getD, hz]
        rfl⟩, xm_okd (by decide)⟩
    | 6, hx =>
      cases hx
      obtain ⟨-, -, -, ⟨cell, h1, h2, h3, h4, h5, h6, h7⟩⟩ := hS.1 1 (by decide)
      exact ⟨(Array.getElem?_eq_some_iff.mp h1).1, h7, [119, 115, 109, 103], rfl, ⟨cell, h1, h2, h3, h4, h5, fun j z hz => by
        have hl := (List.getElem?_eq_some_iff.mp hz).1
        rw [h6 j hl]
        have : ∀ j : Nat, j < 4 → Value.int (((([[], [119, 115, 109, 103], [110, 100, 97]] : List (List Int32)).getD 1 []).getD j 0)) = .int (Int32.ofInt (([119, 115, 109, 103] : List Int).getD j 0)) := by decide
        refine congrArg some ((this j hl).trans ?_)
        rw [List.getD_eq_getElem?_getD, hz]
        rfl⟩, xm_okd (by decide)⟩
    | 7, hx =>
      cases hx
      obtain ⟨-, -, -, ⟨cell, h1, h2, h3, h4, h5, h6, h7⟩⟩ := hS.1 2 (by decide)
      exact ⟨(Array.getElem?_eq_some_iff.mp h1).1, h7, [110, 100, 97], rfl, ⟨cell, h1, h2, h3, h4, h5, fun j z hz => by
        have hl := (List.getElem?_eq_some_iff.mp hz).1
        rw [h6 j hl]
        have : ∀ j : Nat, j < 3 → Value.int (((([[], [119, 115, 109, 103], [110, 100, 97]] : List (List Int32)).getD 2 []).getD j 0)) = .int (Int32.ofInt (([110, 100, 97] : List Int).getD j 0)) := by decide
        refine congrArg some ((this j hl).trans ?_)
        rw [List.getD_eq_getElem?_getD, hz]
        rfl⟩, xm_okd (by decide)⟩
    | 8, hx =>
      cases hx
      obtain ⟨cell, h1, h2, h3, h4, h5⟩ := hX
      refine ⟨hbl, hA _ hbl, ⟨cell, h1, h2, h3, by simp [h4], by simp [h4], fun j z hz => ?_⟩, fun z hz => ?_⟩
      · have hl : j < L := by have := (List.getElem?_eq_some_iff.mp hz).1; simpa using this
        rw [h5 j hl]
        have e : z = (xs j).toInt := by
          simp [hl] at hz
          exact hz.symm
        rw [e, Int32.ofInt_toInt]
      · obtain ⟨j, -, rfl⟩ := List.mem_map.mp hz
        exact xm_okt _
    | k + 9, hx => simp [xm_old] at hx
/-- THE LAW, from its entry, out of its run on the small machine -/
theorem xm_whole {p : Program} {e : Env} {s : State} {m : MethodId} {below : List Frame} {meth : Method} {c : Code} (l : Launch) {b L : Nat} {xs : Nat → Int32} (C0 : lw_At p s m meth c b L xs) (hmk : ∀ y M, xm_mt y = some M → xm_Mok xm_mt M) (hlk : xm_cl0.all (xm_chk "ShodBackwardsLaw" false code xm_cl0 4 2 xm_mt) = true) {d : Nat} (hd : d ≤ 1000) {wf : xm_W} (hlen : wf.length ≤ 600000) (hsz : xm_sz wf ≤ 7302250)
    (hE : xm_E (xm_old ((List.range L).map fun j => (xs j).toInt)) xm_sta (xm_X (xm_old ((List.range L).map fun j => (xs j).toInt)) xm_mt d) xm_cl0 0 (xm_loc 4 [.inr (.inl (some 1000008))]) [] [] (some (.inl 1), wf)) : W p l e room_1 s m #[Value.ref b] below meth c s.heap [] 0 0 (lw_Z below #[Value.ref b] s) (entryFrame m ([Value.ref b] : List Value).toArray 4) := by
  obtain ⟨hx, hb, hr, hml, hown, hts, hX, hbl, hlocks, hgv⟩ := id C0
  obtain ⟨G, hG1, hG2, hKn⟩ := xm_start (m := m) hts hX hbl hgv
  obtain ⟨n, hn⟩ := hE
  have F : xm_Fr p s m #[Value.ref b] meth c code 4 "ShodBackwardsLaw" false G (xm_old ((List.range L).map fun j => (xs j).toInt)) := ⟨hx, hb, hml, hown, fun w hw _ => hts w hw, hKn, fun h => (by cases h), Nat.le_of_eq hG1⟩
  have hret : xm_Ret p l e room_1 s m #[Value.ref b] below meth c (lw_Z below #[Value.ref b] s) G code wf.length (xm_sz wf) 2 (some (.inl 1), wf) := by
    intro pc ls H locs hrep hS
    refine ⟨fun z hz _ _ hdg => ?_, fun x hx => (by cases hx), fun hx => (by cases hx)⟩
    cases hz
    refine va_forget (fun q hq => ?_) ?_
    · have := hS.2.2 q hq
      rw [← hG1]
      exact this
    · refine W.widen hlen hsz ?_
      exact lw_ret hx hb hr hlocks hdg
  have E := xm_entry (G := G) (nL := 4) (as := [.inr (.inl (some 1000008))]) (by decide) (fun v hv => by
    rcases List.mem_singleton.mp hv with rfl
    trivial)
  have hb2 : ([.inr (.inl (some 1000008))] : List xm_V).map (xm_v G) = [Value.ref b] := by
    show [Value.ref (xm_ad G 1000008)] = _
    rw [xm_ad_hi (by decide)]
    show [Value.ref (G.2.2.2 8)] = _
    rw [hG2]
  rw [hb2] at E
  rw [lg_entry_eq]
  have hroom : wf.length ≤ room_1.cells ∧ xm_sz wf ≤ room_1.slots := ⟨hlen, hsz⟩
  have K := xm_run_ok (p := p) (e := e) (below := below) (Q := lw_Z below #[Value.ref b] s) (rk := 2) (mc := wf.length) (ms := xm_sz wf) (d := d) (R := room_1) F hret (xm_X_cal hmk d) (show wf.length < 1000000 by omega) hroom ⟨by show d + 1 ≤ 2048; omega, by show 60 * d + 60 ≤ 84000; omega⟩ (List.all_eq_true.mp hlk) n _ _ _ _ hn
  refine K.2 0 rfl _ s.heap [] 0 0 ⟨E, (fun v hv => by cases hv), ⟨by rw [hG1]; rfl, by decide, fun k x hk => by simp at hk⟩, va_S.rf, by show 0 + wf.length = wf.length + 0; omega, by show 0 + xm_sz wf = xm_sz wf + xm_sz []; simp [xm_sz]⟩
end
section
/-! THE RUN AS A FORMULA: what must hold for the run to end with q, read off the code by computing -/
def xm_O {α : Type} (x : Option α) (k : α → Prop) : Prop := match x with
  | some v => k v
  | none => False
def xm_Oi (x : xm_R) (k : Int → xm_W → Prop) : Prop := match x with
  | some (some (.inl z), w) => k z w
  | _ => False
def xm_Ov (x : xm_R) (k : xm_W → Prop) : Prop := match x with
  | some (none, w) => k w
  | _ => False
def xm_Oq (x : xm_R) (k : Option Nat → xm_W → Prop) : Prop := match x with
  | some (some (.inr (.inl r)), w) => k r w
  | _ => False
def xm_fi (o w : xm_W) (k c a : Nat) : Option Int := match xm_fld o w k c a with
  | some (.inl z) => some z
  | _ => none
def xm_fr (o w : xm_W) (k c a : Nat) : Option Nat := match xm_fld o w k c a with
  | some (.inr (.inl (some j))) => some j
  | _ => none
noncomputable def xm_rkd (y : Nat) : Nat := match xm_mt y with
  | some M => M.2.2.2.2.1
  | none => 9
def xm_fk (c a : Nat) : Nat := if c = 98 then (if a = 0 then 2 else 0) else (xm_kd c).getD a 9
def xm_swP : List (Int × Nat) → Nat → Int → (Nat → Prop) → Prop
  | [], d, _, f => f d
  | (v, t) :: l, d, x, f => if x = v then f t else xm_swP l d x f
theorem xm_swP_ok {f : Nat → Prop} : ∀ (l : List (Int × Nat)) (d : Nat) (x : Int), xm_swP l d x f → f (xm_sw l d x)
  | [], _, _, h => h
  | (v, t) :: l, d, x, h => by
    by_cases hx : x = v
    · have h : (if x = v then f t else xm_swP l d x f) := h
      rw [if_pos hx] at h
      show f (if x = v then t else xm_sw l d x)
      rw [if_pos hx]; exact h
    · have h : (if x = v then f t else xm_swP l d x f) := h
      rw [if_neg hx] at h
      show f (if x = v then t else xm_sw l d x)
      rw [if_neg hx]; exact xm_swP_ok l d x h
abbrev xm_KP : Type := Nat → List (Option xm_V) → List xm_V → xm_W → Prop
def xm_sh (r : List xm_V) : Bool := match r with
  | _ :: _ :: _ :: _ :: _ :: _ => false
  | _ => true
theorem xm_sh_ok : ∀ {r : List xm_V}, xm_sh r = true → r.length ≤ 4
  | [], _ => Nat.zero_le _
  | [_], _ => Nat.le_of_ble_eq_true rfl
  | [_, _], _ => Nat.le_of_ble_eq_true rfl
  | [_, _, _], _ => Nat.le_of_ble_eq_true rfl
  | [_, _, _, _], _ => Nat.le_of_ble_eq_true rfl
  | _ :: _ :: _ :: _ :: _ :: _, h => by cases h
def xm_inP (call : Nat → List xm_V → xm_W → xm_R) (nx a b : Nat) (L : List (Option xm_V)) (st : List xm_V) (w : xm_W) (k : xm_KP) : Prop :=
  match xm_sh (st.drop b) with
  | false => False
  | true => (match xm_rkd a with
    | 0 => xm_Ov (call a (st.take b).reverse w) (fun w' => k nx L (st.drop b) w')
    | 1 => xm_Oi (call a (st.take b).reverse w) (fun z w' => k nx L (.inl z :: st.drop b) w')
    | 2 => xm_Oi (call a (st.take b).reverse w) (fun z w' => k nx L (.inl z :: st.drop b) w')
    | 4 => xm_Oi (call a (st.take b).reverse w) (fun z w' => k nx L (.inl z :: st.drop b) w')
    | 3 => xm_Oq (call a (st.take b).reverse w) (fun z w' => k nx L (.inr (.inl z) :: st.drop b) w')
    | _ => False)
def xm_sp (o : xm_W) (sta : List xm_V) (call : Nat → List xm_V → xm_W → xm_R) (e : xm_I) (L : List (Option xm_V)) (st : List xm_V) (w : xm_W) (q : Option xm_V × xm_W) (k : xm_KP) : Prop :=
  match e with
  | (ins, _, nx, a, b, _, sw) =>
  match ins with
  | .iconst z => k nx L (.inl z :: st) w
  | .bipush z => k nx L (.inl z :: st) w
  | .sipush z => k nx L (.inl z :: st) w
  | .ldc _ => (match sw with
    | [(z, _)] => k nx L (.inl z :: st) w
    | _ => k nx L (.inr (.inl (some (1000000 + a))) :: st) w)
  | .ldc_w _ => (match sw with
    | [(z, _)] => k nx L (.inl z :: st) w
    | _ => False)
  | .ldc2_w _ => (match sw with
    | [(z, _)] => k nx L (.inr (.inr (Int64.ofInt z)) :: st) w
    | _ => False)
  | .iload _ => (match L[a]? with
    | some (some (.inl x)) => k nx L (.inl x :: st) w
    | _ => False)
  | .iload_n _ => (match L[a]? with
    | some (some (.inl x)) => k nx L (.inl x :: st) w
    | _ => False)
  | .aload _ => (match L[a]? with
    | some (some (.inr (.inl x))) => k nx L (.inr (.inl x) :: st) w
    | _ => False)
  | .aload_n _ => (match L[a]? with
    | some (some (.inr (.inl x))) => k nx L (.inr (.inl x) :: st) w
    | _ => False)
  | .lload_n _ => (match L[a]? with
    | some (some (.inr (.inr x))) => k nx L (.inr (.inr x) :: st) w
    | _ => False)
  | .istore _ => (match st with
    | .inl x :: r => (match xm_nl L a with
      | true => k nx (L.set a (some (.inl x))) r w
      | false => False)
    | _ => False)
  | .istore_n _ => (match st with
    | .inl x :: r => (match xm_nl L a with
      | true => k nx (L.set a (some (.inl x))) r w
      | false => False)
    | _ => False)
  | .astore _ => (match st with
    | .inr (.inl x) :: r => (match xm_nl L a with
      | true => k nx (L.set a (some (.inr (.inl x)))) r w
      | false => False)
    | _ => False)
  | .astore_n _ => (match st with
    | .inr (.inl x) :: r => (match xm_nl L a with
      | true => k nx (L.set a (some (.inr (.inl x)))) r w
      | false => False)
    | _ => False)
  | .iinc _ z => (match L[a]? with
    | some (some (.inl x)) => (match xm_nl L a with
      | true => k nx (L.set a (some (.inl (xm_w (x + z))))) st w
      | false => False)
    | _ => False)
  | .aconst_null => k nx L (.inr (.inl none) :: st) w
  | .dup => (match st with
    | .inl x :: r => k nx L (.inl x :: .inl x :: r) w
    | .inr (.inl x) :: r => k nx L (.inr (.inl x) :: .inr (.inl x) :: r) w
    | _ => False)
  | .dup_x1 => (match st with
    | .inl x :: .inr (.inl y) :: r => k nx L (.inl x :: .inr (.inl y) :: .inl x :: r) w
    | .inl x :: .inl y :: r => k nx L (.inl x :: .inl y :: .inl x :: r) w
    | _ => False)
  | .dup2 => (match st with
    | .inl x :: .inr (.inl y) :: r => k nx L (.inl x :: .inr (.inl y) :: .inl x :: .inr (.inl y) :: r) w
    | _ => False)
  | .pop => (match st with
    | .inl _ :: r => k nx L r w
    | _ => False)
  | .iadd => (match st with
    | .inl y :: .inl x :: r => k nx L (.inl (xm_w (x + y)) :: r) w
    | _ => False)
  | .isub => (match st with
    | .inl y :: .inl x :: r => k nx L (.inl (xm_w (x - y)) :: r) w
    | _ => False)
  | .imul => (match st with
    | .inl y :: .inl x :: r => k nx L (.inl (xm_w (x * y)) :: r) w
    | _ => False)
  | .idiv => (match st with
    | .inl y :: .inl x :: r => y ≠ 0 ∧ k nx L (.inl (xm_w (x.tdiv y)) :: r) w
    | _ => False)
  | .irem => (match st with
    | .inl y :: .inl x :: r => y ≠ 0 ∧ k nx L (.inl (x.tmod y) :: r) w
    | _ => False)
  | .ineg => (match st with
    | .inl x :: r => k nx L (.inl (xm_w (-x)) :: r) w
    | _ => False)
  | .iand => (match st with
    | .inl y :: .inl x :: r => k nx L (.inl (xm_and x y) :: r) w
    | _ => False)
  | .ior => (match st with
    | .inl y :: .inl x :: r => k nx L (.inl (xm_or x y) :: r) w
    | _ => False)
  | .ixor => (match st with
    | .inl y :: .inl x :: r => k nx L (.inl (xm_xor x y) :: r) w
    | _ => False)
  | .ishl => (match st with
    | .inl y :: .inl x :: r => k nx L (.inl (xm_shl x y) :: r) w
    | _ => False)
  | .ishr => (match st with
    | .inl y :: .inl x :: r => k nx L (.inl (xm_shr x y) :: r) w
    | _ => False)
  | .iushr => (match st with
    | .inl y :: .inl x :: r => k nx L (.inl (xm_ushr x y) :: r) w
    | _ => False)
  | .i2b => (match st with
    | .inl x :: r => k nx L (.inl (xm_b x) :: r) w
    | _ => False)
  | .i2s => (match st with
    | .inl x :: r => k nx L (.inl (xm_s x) :: r) w
    | _ => False)
  | .i2c => (match st with
    | .inl x :: r => k nx L (.inl (x % 65536) :: r) w
    | _ => False)
  | .i2l => (match st with
    | .inl x :: r => k nx L (.inr (.inr (Int32.ofInt x).toInt64) :: r) w
    | _ => False)
  | .l2i => (match st with
    | .inr (.inr x) :: r => k nx L (.inl x.toInt32.toInt :: r) w
    | _ => False)
  | .land => (match st with
    | .inr (.inr y) :: .inr (.inr x) :: r => k nx L (.inr (.inr (x &&& y)) :: r) w
    | _ => False)
  | .lor => (match st with
    | .inr (.inr y) :: .inr (.inr x) :: r => k nx L (.inr (.inr (x ||| y)) :: r) w
    | _ => False)
  | .lshl => (match st with
    | .inl y :: .inr (.inr x) :: r => k nx L (.inr (.inr (xm_lshl x y)) :: r) w
    | _ => False)
  | .lshr => (match st with
    | .inl y :: .inr (.inr x) :: r => k nx L (.inr (.inr (xm_lshr x y)) :: r) w
    | _ => False)
  | .lushr => (match st with
    | .inl y :: .inr (.inr x) :: r => k nx L (.inr (.inr (xm_lushr x y)) :: r) w
    | _ => False)
  | .ifCond c _ => (match st with
    | .inl x :: r => (match c with
      | .eq => if x = 0 then k a L r w else k nx L r w
      | .ne => if x = 0 then k nx L r w else k a L r w
      | .lt => if x < 0 then k a L r w else k nx L r w
      | .ge => if x < 0 then k nx L r w else k a L r w
      | .gt => if 0 < x then k a L r w else k nx L r w
      | .le => if 0 < x then k nx L r w else k a L r w)
    | _ => False)
  | .if_icmp c _ => (match st with
    | .inl y :: .inl x :: r => (match c with
      | .eq => if x = y then k a L r w else k nx L r w
      | .ne => if x = y then k nx L r w else k a L r w
      | .lt => if x < y then k a L r w else k nx L r w
      | .ge => if x < y then k nx L r w else k a L r w
      | .gt => if y < x then k a L r w else k nx L r w
      | .le => if y < x then k nx L r w else k a L r w)
    | _ => False)
  | .ifnull _ => (match st with
    | .inr (.inl z) :: r => if z = none then k a L r w else k nx L r w
    | _ => False)
  | .ifnonnull _ => (match st with
    | .inr (.inl z) :: r => if z = none then k nx L r w else k a L r w
    | _ => False)
  | .goto _ => k a L st w
  | .tableswitch _ _ _ _ => (match st with
    | .inl x :: r => xm_swP sw a x (fun t => k t L r w)
    | _ => False)
  | .lookupswitch _ _ => (match st with
    | .inl x :: r => xm_swP sw a x (fun t => k t L r w)
    | _ => False)
  | .getfield _ => (match st with
    | .inr (.inl z) :: r => (match xm_fk b a with
      | 2 => xm_O z (fun y => xm_O (xm_fr o w y b a) (fun v => k nx L (.inr (.inl (some v)) :: r) w))
      | _ => xm_O z (fun y => xm_O (xm_fi o w y b a) (fun v => k nx L (.inl v :: r) w)))
    | _ => False)
  | .putfield _ => (match st with
    | v :: .inr (.inl z) :: r => xm_O z (fun y => xm_O (xm_setf w y b a ((xm_kd b).getD a 9) v) (fun w' => k nx L r w'))
    | _ => False)
  | .getstatic _ => (match sta[a]? with
    | some v => k nx L (v :: st) w
    | none => False)
  | .iaload => (match st with
    | .inl i :: .inr (.inl z) :: r => xm_O z (fun y => xm_O (xm_ints o w y) (fun l => xm_O (xm_at l i) (fun x => k nx L (.inl x :: r) w)))
    | _ => False)
  | .baload => (match st with
    | .inl i :: .inr (.inl z) :: r => xm_O z (fun y => (match xm_get o w y with
      | some (.inr (.inr (99, l))) => (match xm_at l i with
        | some (.inl x) => k nx L (.inl x :: r) w
        | _ => False)
      | _ => False))
    | _ => False)
  | .iastore => (match st with
    | .inl x :: .inl i :: .inr (.inl z) :: r => xm_O z (fun y => xm_O (xm_seti w y i x) (fun w' => k nx L r w'))
    | _ => False)
  | .aaload => (match st with
    | .inl i :: .inr (.inl z) :: r => xm_O z (fun y => xm_O (xm_refs o w y) (fun l => xm_O (xm_at l i) (fun x => k nx L (.inr (.inl x) :: r) w)))
    | _ => False)
  | .aastore => (match st with
    | .inr (.inl v) :: .inl i :: .inr (.inl z) :: r => xm_O z (fun y => xm_O (xm_setq w y i v) (fun w' => k nx L r w'))
    | _ => False)
  | .arraylength => (match st with
    | .inr (.inl z) :: r => xm_O z (fun y => (match xm_get o w y with
      | some (.inl l) => l.length < 1000000 ∧ k nx L (.inl (l.length : Int) :: r) w
      | some (.inr (.inr (99, l))) => l.length < 1000000 ∧ k nx L (.inl (l.length : Int) :: r) w
      | _ => False))
    | _ => False)
  | .new _ => k nx L (.inr (.inl (some w.length)) :: st) (w ++ [.inr (.inr (b, (xm_kd b).map xm_dflt))])
  | .newarray _ => (match st with
    | .inl n :: r => (0 ≤ n ∧ n ≤ 1000) ∧ k nx L (.inr (.inl (some w.length)) :: r) (w ++ [.inl (List.replicate n.toNat 0)])
    | _ => False)
  | .anewarray _ => (match st with
    | .inl n :: r => (0 ≤ n ∧ n ≤ 1000) ∧ k nx L (.inr (.inl (some w.length)) :: r) (w ++ [.inr (.inl (b, List.replicate n.toNat none))])
    | _ => False)
  | .invokevirtual _ => xm_inP call nx a b L st w k
  | .invokespecial _ => (match a with
    | 1 => (match st with
      | .inr (.inl (some _)) :: r => (match xm_sh r with
        | false => False
        | true => k nx L r w)
      | _ => False)
    | _ => xm_inP call nx a b L st w k)
  | .invokestatic _ => (match a with
    | 2 => (match st with
      | .inl n :: .inl dp :: .inr (.inl z1) :: .inl sp :: .inr (.inl z0) :: r => (match xm_sh r with
        | false => False
        | true => xm_O z1 (fun k1 => xm_O z0 (fun k0 => xm_O (xm_copy w k0 sp k1 dp n) (fun w' => k nx L r w'))))
      | _ => False)
    | 3 => (match st with
      | .inl y :: .inl x :: r => (match xm_sh r with
        | false => False
        | true => k nx L (.inl (if x < y then y else x) :: r) w)
      | _ => False)
    | 4 => (match st with
      | .inl y :: .inl x :: r => (match xm_sh r with
        | false => False
        | true => k nx L (.inl (if y < x then y else x) :: r) w)
      | _ => False)
    | 5 => (match st with
      | .inl x :: r => (match xm_sh r with
        | false => False
        | true => k nx L (.inl (if 0 ≤ x then x else xm_w (0 - x)) :: r) w)
      | _ => False)
    | 0 => False
    | 1 => False
    | a + 6 => xm_inP call nx (a + 6) b L st w k)
  | .ireturn => (match st with
    | [.inl x] => q = (some (.inl x), w)
    | _ => False)
  | .areturn => (match st with
    | [.inr (.inl x)] => q = (some (.inr (.inl x)), w)
    | _ => False)
  | .return_ => (match st with
    | [] => q = (none, w)
    | _ => False)
  | _ => False
def xm_One (o : xm_W) (sta : List xm_V) (call : Nat → List xm_V → xm_W → xm_R) (e : xm_I) (L : List (Option xm_V)) (st : List xm_V) (w : xm_W) (q : Option xm_V × xm_W) (k : xm_KP) : Prop :=
  (∀ K, xm_step o sta call e L st w K = some q) ∨ ∃ i' L' st' w', k i' L' st' w' ∧ ∀ K, xm_step o sta call e L st w K = K i' L' st' w'
theorem xm_inP_one {call : Nat → List xm_V → xm_W → xm_R} {nx a b : Nat} {L : List (Option xm_V)} {st : List xm_V} {w : xm_W} {k : xm_KP} (h : xm_inP call nx a b L st w k) : ∃ L' st' w', k nx L' st' w' ∧ ∀ K : xm_Kt, (if (st.drop b).length ≤ 4 then (match call a (st.take b).reverse w with
    | some (none, w') => K nx L (st.drop b) w'
    | some (some v, w') => K nx L (v :: st.drop b) w'
    | none => none) else none) = K nx L' st' w' := by
  unfold xm_inP at h
  split at h
  next => cases h
  next hr =>
    have hl : (st.drop b).length ≤ 4 := xm_sh_ok hr
    have key : ∀ (P : Prop), (xm_Oi (call a (st.take b).reverse w) (fun z w' => k nx L (.inl z :: st.drop b) w')) → ∃ L' st' w', k nx L' st' w' ∧ ∀ K : xm_Kt, (if (st.drop b).length ≤ 4 then (match call a (st.take b).reverse w with
        | some (none, w') => K nx L (st.drop b) w'
        | some (some v, w') => K nx L (v :: st.drop b) w'
        | none => none) else none) = K nx L' st' w' := by
      intro _ h
      unfold xm_Oi at h
      split at h
      next z w' hc => exact ⟨_, _, _, h, fun K => by rw [if_pos hl, hc]⟩
      next => cases h
    split at h
    · unfold xm_Ov at h
      split at h
      next w' hc => exact ⟨_, _, _, h, fun K => by rw [if_pos hl, hc]⟩
      next => cases h
    · exact key True h
    · exact key True h
    · exact key True h
    · unfold xm_Oq at h
      split at h
      next z w' hc => exact ⟨_, _, _, h, fun K => by rw [if_pos hl, hc]⟩
      next => cases h
    · cases h
theorem xm_O_is {α : Type} {x : Option α} {k : α → Prop} (h : xm_O x k) : ∃ v, x = some v ∧ k v := by
  cases x with
  | some v => exact ⟨v, rfl, h⟩
  | none => cases h
theorem xm_fi_is {o w : xm_W} {y c a : Nat} {z : Int} (h : xm_fi o w y c a = some z) : xm_fld o w y c a = some (.inl z) := by
  unfold xm_fi at h
  split at h
  next z' hz => cases h; exact hz
  next => cases h
theorem xm_fr_is {o w : xm_W} {y c a z : Nat} (h : xm_fr o w y c a = some z) : xm_fld o w y c a = some (.inr (.inl (some z))) := by
  unfold xm_fr at h
  split at h
  next z' hz => cases h; exact hz
  next => cases h
theorem xm_sp_one {o : xm_W} {sta : List xm_V} {call : Nat → List xm_V → xm_W → xm_R} {e : xm_I} {L : List (Option xm_V)} {st : List xm_V} {w : xm_W} {q : Option xm_V × xm_W} {k : xm_KP} (h : xm_sp o sta call e L st w q k) : xm_One o sta call e L st w q k := by
  obtain ⟨ins, pc, nx, a, b, ps, sw⟩ := e
  cases ins
  case getfield j =>
    simp only [xm_sp] at h
    split at h
    next z r =>
      split at h
      · obtain ⟨y, e1, g1⟩ := xm_O_is h
        subst e1
        obtain ⟨v, hv, g2⟩ := xm_O_is g1
        exact Or.inr ⟨_, _, _, _, g2, fun K => by simp only [xm_step, xm_fr_is hv]⟩
      · obtain ⟨y, e1, g1⟩ := xm_O_is h
        subst e1
        obtain ⟨v, hv, g2⟩ := xm_O_is g1
        exact Or.inr ⟨_, _, _, _, g2, fun K => by simp only [xm_step, xm_fi_is hv]⟩
    next => cases h
  case putfield j =>
    simp only [xm_sp] at h
    split at h
    next v z r =>
      obtain ⟨y, e1, g1⟩ := xm_O_is h
      subst e1
      obtain ⟨v, hv, g2⟩ := xm_O_is g1
      exact Or.inr ⟨_, _, _, _, g2, fun K => by simp only [xm_step, hv]⟩
    next => cases h
  case iaload =>
    simp only [xm_sp] at h
    split at h
    next =>
      obtain ⟨y, e1, g1⟩ := xm_O_is h
      subst e1
      obtain ⟨v, hv, g2⟩ := xm_O_is g1
      obtain ⟨x, hx, g3⟩ := xm_O_is g2
      exact Or.inr ⟨_, _, _, _, g3, fun K => by simp only [xm_step, hv, hx]⟩
    next => cases h
  case aaload =>
    simp only [xm_sp] at h
    split at h
    next =>
      obtain ⟨y, e1, g1⟩ := xm_O_is h
      subst e1
      obtain ⟨v, hv, g2⟩ := xm_O_is g1
      obtain ⟨x, hx, g3⟩ := xm_O_is g2
      exact Or.inr ⟨_, _, _, _, g3, fun K => by simp only [xm_step, hv, hx]⟩
    next => cases h
  case baload =>
    simp only [xm_sp] at h
    split at h
    next =>
      obtain ⟨y, e1, g1⟩ := xm_O_is h
      subst e1
      split at g1
      next lst hg =>
        split at g1
        next x hx => exact Or.inr ⟨_, _, _, _, g1, fun K => by simp only [xm_step, hg, hx]⟩
        next => cases g1
      next => cases g1
    next => cases h
  case iastore =>
    simp only [xm_sp] at h
    split at h
    next =>
      obtain ⟨y, e1, g1⟩ := xm_O_is h
      subst e1
      obtain ⟨v, hv, g2⟩ := xm_O_is g1
      exact Or.inr ⟨_, _, _, _, g2, fun K => by simp only [xm_step, hv]⟩
    next => cases h
  case aastore =>
    simp only [xm_sp] at h
    split at h
    next =>
      obtain ⟨y, e1, g1⟩ := xm_O_is h
      subst e1
      obtain ⟨v, hv, g2⟩ := xm_O_is g1
      exact Or.inr ⟨_, _, _, _, g2, fun K => by simp only [xm_step, hv]⟩
    next => cases h
  case arraylength =>
    simp only [xm_sp] at h
    split at h
    next =>
      obtain ⟨y, e1, g1⟩ := xm_O_is h
      subst e1
      split at g1
      next lst hg => exact Or.inr ⟨_, _, _, _, g1.2, fun K => by simp only [xm_step, hg, if_pos g1.1]⟩
      next lst hg => exact Or.inr ⟨_, _, _, _, g1.2, fun K => by simp only [xm_step, hg, if_pos g1.1]⟩
      next => cases g1
    next => cases h
  case invokevirtual j =>
    simp only [xm_sp] at h
    obtain ⟨L', st', w', h1, h2⟩ := xm_inP_one h
    exact Or.inr ⟨_, _, _, _, h1, fun K => by simp only [xm_step]; exact h2 K⟩
  case invokespecial j =>
    simp only [xm_sp] at h
    split at h
    next =>
      split at h
      next z r =>
        split at h
        next => cases h
        next hr =>
          have hl := xm_sh_ok hr
          exact Or.inr ⟨_, _, _, _, h, fun K => by simp only [xm_step, if_true, if_pos hl]⟩
      next => cases h
    next ha =>
      obtain ⟨L', st', w', h1, h2⟩ := xm_inP_one h
      exact Or.inr ⟨_, _, _, _, h1, fun K => by simp only [xm_step]; rw [if_neg (fun e => ha e)]; exact h2 K⟩
  case invokestatic j =>
    simp only [xm_sp] at h
    split at h
    next =>
      split at h
      next n dp z1 sp z0 r =>
        split at h
        next => cases h
        next hr =>
          have hl := xm_sh_ok hr
          obtain ⟨k1, e1, g1⟩ := xm_O_is h
          subst e1
          obtain ⟨k0, e2, g2⟩ := xm_O_is g1
          subst e2
          obtain ⟨w', hw, g3⟩ := xm_O_is g2
          exact Or.inr ⟨_, _, _, _, g3, fun K => by simp only [xm_step, if_true, if_pos hl, hw]⟩
      next => cases h
    next =>
      split at h
      next =>
        split at h
        next => cases h
        next hr =>
          have hl := xm_sh_ok hr
          refine Or.inr ⟨_, _, _, _, h, fun K => ?_⟩
          simp only [xm_step, xm_mth]
          rw [if_neg (by decide), if_pos (by decide), if_pos (by rw [List.length_cons]; omega)]
      next => cases h
    next =>
      split at h
      next =>
        split at h
        next => cases h
        next hr =>
          have hl := xm_sh_ok hr
          refine Or.inr ⟨_, _, _, _, h, fun K => ?_⟩
          simp only [xm_step, xm_mth]
          rw [if_neg (by decide), if_pos (by decide), if_pos (by rw [List.length_cons]; omega)]
      next => cases h
    next =>
      split at h
      next =>
        split at h
        next => cases h
        next hr =>
          have hl := xm_sh_ok hr
          refine Or.inr ⟨_, _, _, _, h, fun K => ?_⟩
          simp only [xm_step, xm_mth]
          rw [if_neg (by decide), if_pos (by decide), if_pos (by rw [List.length_cons]; omega)]
      next => cases h
    next => cases h
    next => cases h
    next a' =>
      obtain ⟨L', st', w', h1, h2⟩ := xm_inP_one h
      exact Or.inr ⟨_, _, _, _, h1, fun K => by simp only [xm_step]; rw [if_neg (by omega), if_neg (by omega)]; exact h2 K⟩
  case tableswitch x y z u =>
    simp only [xm_sp] at h
    split at h
    next => exact Or.inr ⟨_, _, _, _, xm_swP_ok _ _ _ h, fun K => by simp only [xm_step]⟩
    next => cases h
  case lookupswitch x y =>
    simp only [xm_sp] at h
    split at h
    next => exact Or.inr ⟨_, _, _, _, xm_swP_ok _ _ _ h, fun K => by simp only [xm_step]⟩
    next => cases h
  case idiv =>
    simp only [xm_sp] at h
    split at h
    next => exact Or.inr ⟨_, _, _, _, h.2, fun K => by simp only [xm_step, if_neg h.1]⟩
    next => cases h
  case irem =>
    simp only [xm_sp] at h
    split at h
    next => exact Or.inr ⟨_, _, _, _, h.2, fun K => by simp only [xm_step, if_neg h.1]⟩
    next => cases h
  case newarray t =>
    simp only [xm_sp] at h
    split at h
    next => exact Or.inr ⟨_, _, _, _, h.2, fun K => by simp only [xm_step, if_pos h.1]⟩
    next => cases h
  case anewarray t =>
    simp only [xm_sp] at h
    split at h
    next => exact Or.inr ⟨_, _, _, _, h.2, fun K => by simp only [xm_step, if_pos h.1]⟩
    next => cases h
  case ifnull j =>
    simp only [xm_sp] at h
    split at h
    next z r =>
      cases z with
      | none => exact Or.inr ⟨_, _, _, _, h, fun K => by simp only [xm_step]⟩
      | some y => exact Or.inr ⟨_, _, _, _, h, fun K => by simp only [xm_step]⟩
    next => cases h
  case ifnonnull j =>
    simp only [xm_sp] at h
    split at h
    next z r =>
      cases z with
      | none => exact Or.inr ⟨_, _, _, _, h, fun K => by simp only [xm_step]⟩
      | some y => exact Or.inr ⟨_, _, _, _, h, fun K => by simp only [xm_step]⟩
    next => cases h
  case ireturn =>
    simp only [xm_sp] at h
    split at h
    next => exact Or.inl fun K => by simp only [xm_step, h]
    next => cases h
  case areturn =>
    simp only [xm_sp] at h
    split at h
    next => exact Or.inl fun K => by simp only [xm_step, h]
    next => cases h
  case return_ =>
    simp only [xm_sp] at h
    split at h
    next => exact Or.inl fun K => by simp only [xm_step, h]
    next => cases h
  all_goals (simp only [xm_sp] at h)
  all_goals first
    | (refine Or.inr ⟨_, _, _, _, h, fun K => ?_⟩; simp only [xm_step]; done)
    | (cases h; done)
    | skip
  all_goals (repeat' split at h)
  all_goals first
    | (cases h; done)
    | (refine Or.inr ⟨_, _, _, _, h, fun K => ?_⟩; simp only [xm_step]; done)
    | (refine Or.inr ⟨_, _, _, _, h, fun K => ?_⟩; simp only [xm_step, if_pos (by assumption)]; done)
    | (refine Or.inr ⟨_, _, _, _, h, fun K => ?_⟩; simp only [xm_step]; rw [if_pos (by assumption)]; done)
    | (refine Or.inr ⟨_, _, _, _, h, fun K => ?_⟩; simp only [xm_step]; rw [if_neg (by assumption)]; done)
    | (refine Or.inr ⟨_, _, _, _, h, fun K => ?_⟩; simp only [xm_step, *]; done)
    | (refine Or.inr ⟨_, _, _, _, h, fun K => ?_⟩; simp only [xm_step, *, if_true]; done)
    | (refine Or.inr ⟨_, _, _, _, h, fun K => ?_⟩; simp_all [xm_step]; done)
def xm_P (o : xm_W) (sta : List xm_V) (call : Nat → List xm_V → xm_W → xm_R) (cd : List xm_I) (cut : List Nat) (q : Option xm_V × xm_W) : Nat → xm_KP
  | 0, i, L, st, w => xm_E o sta call cd i L st w q
  | n + 1, i, L, st, w => match cd[i]? with
    | some e => xm_sp o sta call e L st w q (fun i' L' st' w' => match cut.contains i' with
      | true => xm_E o sta call cd i' L' st' w' q
      | false => xm_P o sta call cd cut q n i' L' st' w')
    | none => False
theorem xm_P_E {o : xm_W} {sta : List xm_V} {call : Nat → List xm_V → xm_W → xm_R} {cd : List xm_I} {cut : List Nat} {q : Option xm_V × xm_W} : ∀ (n : Nat) {i : Nat} {L : List (Option xm_V)} {st : List xm_V} {w : xm_W}, xm_P o sta call cd cut q n i L st w → xm_E o sta call cd i L st w q
  | 0, _, _, _, _, h => h
  | n + 1, i, L, st, w, h => by
    unfold xm_P at h
    split at h
    next e he =>
      rcases xm_sp_one h with h1 | ⟨i', L', st', w', h1, h2⟩
      · exact ⟨1, by unfold xm_run; rw [he]; exact h1 _⟩
      · have h3 : xm_E o sta call cd i' L' st' w' q := by
          split at h1
          · exact h1
          · exact xm_P_E n h1
        obtain ⟨m, hm⟩ := h3
        exact ⟨m + 1, by unfold xm_run; rw [he]; exact (h2 _).trans hm⟩
    next => cases h
end
section
def xm_len (o w : xm_W) (y : Nat) : Option Nat := match xm_get o w y with
  | some (.inl l) => if l.length < 1000000 then some l.length else none
  | some (.inr (.inr (99, l))) => if l.length < 1000000 then some l.length else none
  | _ => none
def xm_byt (o w : xm_W) (y : Nat) (i : Int) : Option Int := match xm_get o w y with
  | some (.inr (.inr (99, l))) => (match xm_at l i with
    | some (.inl x) => some x
    | _ => none)
  | _ => none
section xs_sec
variable {o : xm_W} {sta : List xm_V} {f : Nat → List xm_V → xm_W → xm_R} {cd : List xm_I} {i pc nx a b : Nat} {ps : List Nat} {sw : List (Int × Nat)} {L : List (Option xm_V)} {st r : List xm_V} {w : xm_W} {q : Option xm_V × xm_W}
theorem xm_E_sp {e : xm_I} (he : cd[i]? = some e) (h : xm_sp o sta f e L st w q (fun i' L' st' w' => xm_E o sta f cd i' L' st' w' q)) : xm_E o sta f cd i L st w q := by
  rcases xm_sp_one h with h1 | ⟨i', L', st', w', h1, h2⟩
  · exact ⟨1, by unfold xm_run; rw [he]; exact h1 _⟩
  · obtain ⟨m, hm⟩ := h1
    exact ⟨m + 1, by unfold xm_run; rw [he]; exact (h2 _).trans hm⟩
theorem xs_iconst {z : Int} (he : cd[i]? = some (.iconst z, pc, nx, a, b, ps, sw)) (h : xm_E o sta f cd nx L (.inl z :: st) w q) : xm_E o sta f cd i L (st) w q := xm_E_sp he h
theorem xs_bipush {z : Int} (he : cd[i]? = some (.bipush z, pc, nx, a, b, ps, sw)) (h : xm_E o sta f cd nx L (.inl z :: st) w q) : xm_E o sta f cd i L (st) w q := xm_E_sp he h
theorem xs_sipush {z : Int} (he : cd[i]? = some (.sipush z, pc, nx, a, b, ps, sw)) (h : xm_E o sta f cd nx L (.inl z :: st) w q) : xm_E o sta f cd i L (st) w q := xm_E_sp he h
theorem xs_ldc {j u : Nat} {z : Int} (he : cd[i]? = some (.ldc j, pc, nx, a, b, ps, [(z, u)])) (h : xm_E o sta f cd nx L (.inl z :: st) w q) : xm_E o sta f cd i L (st) w q := xm_E_sp he h
theorem xs_ldcs {j : Nat} (he : cd[i]? = some (.ldc j, pc, nx, a, b, ps, [])) (h : xm_E o sta f cd nx L (.inr (.inl (some (1000000 + a))) :: st) w q) : xm_E o sta f cd i L (st) w q := xm_E_sp he h
theorem xs_ldcw {j u : Nat} {z : Int} (he : cd[i]? = some (.ldc_w j, pc, nx, a, b, ps, [(z, u)])) (h : xm_E o sta f cd nx L (.inl z :: st) w q) : xm_E o sta f cd i L (st) w q := xm_E_sp he h
theorem xs_ldc2 {j u : Nat} {z : Int} (he : cd[i]? = some (.ldc2_w j, pc, nx, a, b, ps, [(z, u)])) (h : xm_E o sta f cd nx L (.inr (.inr (Int64.ofInt z)) :: st) w q) : xm_E o sta f cd i L (st) w q := xm_E_sp he h
theorem xs_iload {j : Nat} {x : Int} (he : cd[i]? = some (.iload j, pc, nx, a, b, ps, sw)) (hl : L[a]? = some (some (.inl x))) (h : xm_E o sta f cd nx L (.inl x :: st) w q) : xm_E o sta f cd i L (st) w q := xm_E_sp he (by simp only [xm_sp, hl]; exact h)
theorem xs_iload_n {j : Fin 4} {x : Int} (he : cd[i]? = some (.iload_n j, pc, nx, a, b, ps, sw)) (hl : L[a]? = some (some (.inl x))) (h : xm_E o sta f cd nx L (.inl x :: st) w q) : xm_E o sta f cd i L (st) w q := xm_E_sp he (by simp only [xm_sp, hl]; exact h)
theorem xs_aload {j : Nat} {x : Option Nat} (he : cd[i]? = some (.aload j, pc, nx, a, b, ps, sw)) (hl : L[a]? = some (some (.inr (.inl x)))) (h : xm_E o sta f cd nx L (.inr (.inl x) :: st) w q) : xm_E o sta f cd i L (st) w q := xm_E_sp he (by simp only [xm_sp, hl]; exact h)
theorem xs_aload_n {j : Fin 4} {x : Option Nat} (he : cd[i]? = some (.aload_n j, pc, nx, a, b, ps, sw)) (hl : L[a]? = some (some (.inr (.inl x)))) (h : xm_E o sta f cd nx L (.inr (.inl x) :: st) w q) : xm_E o sta f cd i L (st) w q := xm_E_sp he (by simp only [xm_sp, hl]; exact h)
theorem xs_lload_n {j : Fin 4} {x : Int64} (he : cd[i]? = some (.lload_n j, pc, nx, a, b, ps, sw)) (hl : L[a]? = some (some (.inr (.inr x)))) (h : xm_E o sta f cd nx L (.inr (.inr x) :: st) w q) : xm_E o sta f cd i L (st) w q := xm_E_sp he (by simp only [xm_sp, hl]; exact h)
theorem xs_istore {j : Nat} {x : Int} (he : cd[i]? = some (.istore j, pc, nx, a, b, ps, sw)) (hl : xm_nl L a = true) (h : xm_E o sta f cd nx (L.set a (some (.inl x))) (r) w q) : xm_E o sta f cd i L (.inl x :: r) w q := xm_E_sp he (by simp only [xm_sp, hl]; exact h)
theorem xs_istore_n {j : Fin 4} {x : Int} (he : cd[i]? = some (.istore_n j, pc, nx, a, b, ps, sw)) (hl : xm_nl L a = true) (h : xm_E o sta f cd nx (L.set a (some (.inl x))) (r) w q) : xm_E o sta f cd i L (.inl x :: r) w q := xm_E_sp he (by simp only [xm_sp, hl]; exact h)
theorem xs_astore {j : Nat} {x : Option Nat} (he : cd[i]? = some (.astore j, pc, nx, a, b, ps, sw)) (hl : xm_nl L a = true) (h : xm_E o sta f cd nx (L.set a (some (.inr (.inl x)))) (r) w q) : xm_E o sta f cd i L (.inr (.inl x) :: r) w q := xm_E_sp he (by simp only [xm_sp, hl]; exact h)
theorem xs_astore_n {j : Fin 4} {x : Option Nat} (he : cd[i]? = some (.astore_n j, pc, nx, a, b, ps, sw)) (hl : xm_nl L a = true) (h : xm_E o sta f cd nx (L.set a (some (.inr (.inl x)))) (r) w q) : xm_E o sta f cd i L (.inr (.inl x) :: r) w q := xm_E_sp he (by simp only [xm_sp, hl]; exact h)
theorem xs_iinc {j : Nat} {z x : Int} (he : cd[i]? = some (.iinc j z, pc, nx, a, b, ps, sw)) (hl : L[a]? = some (some (.inl x))) (hn : xm_nl L a = true) (h : xm_E o sta f cd nx (L.set a (some (.inl (xm_w (x + z))))) (st) w q) : xm_E o sta f cd i L (st) w q := xm_E_sp he (by simp only [xm_sp, hl, hn]; exact h)
theorem xs_null (he : cd[i]? = some (.aconst_null, pc, nx, a, b, ps, sw)) (h : xm_E o sta f cd nx L (.inr (.inl none) :: st) w q) : xm_E o sta f cd i L (st) w q := xm_E_sp he h
theorem xs_dup {x : Int} (he : cd[i]? = some (.dup, pc, nx, a, b, ps, sw)) (h : xm_E o sta f cd nx L (.inl x :: .inl x :: r) w q) : xm_E o sta f cd i L (.inl x :: r) w q := xm_E_sp he h
theorem xs_dupr {x : Option Nat} (he : cd[i]? = some (.dup, pc, nx, a, b, ps, sw)) (h : xm_E o sta f cd nx L (.inr (.inl x) :: .inr (.inl x) :: r) w q) : xm_E o sta f cd i L (.inr (.inl x) :: r) w q := xm_E_sp he h
theorem xs_dup_x1 {x : Int} {y : Option Nat} (he : cd[i]? = some (.dup_x1, pc, nx, a, b, ps, sw)) (h : xm_E o sta f cd nx L (.inl x :: .inr (.inl y) :: .inl x :: r) w q) : xm_E o sta f cd i L (.inl x :: .inr (.inl y) :: r) w q := xm_E_sp he h
theorem xs_dup_x1i {x y : Int} (he : cd[i]? = some (.dup_x1, pc, nx, a, b, ps, sw)) (h : xm_E o sta f cd nx L (.inl x :: .inl y :: .inl x :: r) w q) : xm_E o sta f cd i L (.inl x :: .inl y :: r) w q := xm_E_sp he h
theorem xs_dup2 {x : Int} {y : Option Nat} (he : cd[i]? = some (.dup2, pc, nx, a, b, ps, sw)) (h : xm_E o sta f cd nx L (.inl x :: .inr (.inl y) :: .inl x :: .inr (.inl y) :: r) w q) : xm_E o sta f cd i L (.inl x :: .inr (.inl y) :: r) w q := xm_E_sp he h
theorem xs_pop {x : Int} (he : cd[i]? = some (.pop, pc, nx, a, b, ps, sw)) (h : xm_E o sta f cd nx L (r) w q) : xm_E o sta f cd i L (.inl x :: r) w q := xm_E_sp he h
theorem xs_iadd {x y : Int} (he : cd[i]? = some (.iadd, pc, nx, a, b, ps, sw)) (h : xm_E o sta f cd nx L (.inl (xm_w (x + y)) :: r) w q) : xm_E o sta f cd i L (.inl y :: .inl x :: r) w q := xm_E_sp he h
theorem xs_isub {x y : Int} (he : cd[i]? = some (.isub, pc, nx, a, b, ps, sw)) (h : xm_E o sta f cd nx L (.inl (xm_w (x - y)) :: r) w q) : xm_E o sta f cd i L (.inl y :: .inl x :: r) w q := xm_E_sp he h
theorem xs_imul {x y : Int} (he : cd[i]? = some (.imul, pc, nx, a, b, ps, sw)) (h : xm_E o sta f cd nx L (.inl (xm_w (x * y)) :: r) w q) : xm_E o sta f cd i L (.inl y :: .inl x :: r) w q := xm_E_sp he h
theorem xs_iand {x y : Int} (he : cd[i]? = some (.iand, pc, nx, a, b, ps, sw)) (h : xm_E o sta f cd nx L (.inl (xm_and x y) :: r) w q) : xm_E o sta f cd i L (.inl y :: .inl x :: r) w q := xm_E_sp he h
theorem xs_ior {x y : Int} (he : cd[i]? = some (.ior, pc, nx, a, b, ps, sw)) (h : xm_E o sta f cd nx L (.inl (xm_or x y) :: r) w q) : xm_E o sta f cd i L (.inl y :: .inl x :: r) w q := xm_E_sp he h
theorem xs_ixor {x y : Int} (he : cd[i]? = some (.ixor, pc, nx, a, b, ps, sw)) (h : xm_E o sta f cd nx L (.inl (xm_xor x y) :: r) w q) : xm_E o sta f cd i L (.inl y :: .inl x :: r) w q := xm_E_sp he h
theorem xs_ishl {x y : Int} (he : cd[i]? = some (.ishl, pc, nx, a, b, ps, sw)) (h : xm_E o sta f cd nx L (.inl (xm_shl x y) :: r) w q) : xm_E o sta f cd i L (.inl y :: .inl x :: r) w q := xm_E_sp he h
theorem xs_ishr {x y : Int} (he : cd[i]? = some (.ishr, pc, nx, a, b, ps, sw)) (h : xm_E o sta f cd nx L (.inl (xm_shr x y) :: r) w q) : xm_E o sta f cd i L (.inl y :: .inl x :: r) w q := xm_E_sp he h
theorem xs_iushr {x y : Int} (he : cd[i]? = some (.iushr, pc, nx, a, b, ps, sw)) (h : xm_E o sta f cd nx L (.inl (xm_ushr x y) :: r) w q) : xm_E o sta f cd i L (.inl y :: .inl x :: r) w q := xm_E_sp he h
theorem xs_idiv {x y : Int} {P : Prop} (he : cd[i]? = some (.idiv, pc, nx, a, b, ps, sw)) (h : y ≠ 0 ∧ P) (k : P → xm_E o sta f cd nx L (.inl (xm_w (x.tdiv y)) :: r) w q) : xm_E o sta f cd i L (.inl y :: .inl x :: r) w q := xm_E_sp he ⟨h.1, k h.2⟩
theorem xs_irem {x y : Int} {P : Prop} (he : cd[i]? = some (.irem, pc, nx, a, b, ps, sw)) (h : y ≠ 0 ∧ P) (k : P → xm_E o sta f cd nx L (.inl (x.tmod y) :: r) w q) : xm_E o sta f cd i L (.inl y :: .inl x :: r) w q := xm_E_sp he ⟨h.1, k h.2⟩
theorem xs_ineg {x : Int} (he : cd[i]? = some (.ineg, pc, nx, a, b, ps, sw)) (h : xm_E o sta f cd nx L (.inl (xm_w (-x)) :: r) w q) : xm_E o sta f cd i L (.inl x :: r) w q := xm_E_sp he h
theorem xs_i2b {x : Int} (he : cd[i]? = some (.i2b, pc, nx, a, b, ps, sw)) (h : xm_E o sta f cd nx L (.inl (xm_b x) :: r) w q) : xm_E o sta f cd i L (.inl x :: r) w q := xm_E_sp he h
theorem xs_i2s {x : Int} (he : cd[i]? = some (.i2s, pc, nx, a, b, ps, sw)) (h : xm_E o sta f cd nx L (.inl (xm_s x) :: r) w q) : xm_E o sta f cd i L (.inl x :: r) w q := xm_E_sp he h
theorem xs_i2c {x : Int} (he : cd[i]? = some (.i2c, pc, nx, a, b, ps, sw)) (h : xm_E o sta f cd nx L (.inl (x % 65536) :: r) w q) : xm_E o sta f cd i L (.inl x :: r) w q := xm_E_sp he h
theorem xs_i2l {x : Int} (he : cd[i]? = some (.i2l, pc, nx, a, b, ps, sw)) (h : xm_E o sta f cd nx L (.inr (.inr (Int32.ofInt x).toInt64) :: r) w q) : xm_E o sta f cd i L (.inl x :: r) w q := xm_E_sp he h
theorem xs_l2i {x : Int64} (he : cd[i]? = some (.l2i, pc, nx, a, b, ps, sw)) (h : xm_E o sta f cd nx L (.inl x.toInt32.toInt :: r) w q) : xm_E o sta f cd i L (.inr (.inr x) :: r) w q := xm_E_sp he h
theorem xs_land {x y : Int64} (he : cd[i]? = some (.land, pc, nx, a, b, ps, sw)) (h : xm_E o sta f cd nx L (.inr (.inr (x &&& y)) :: r) w q) : xm_E o sta f cd i L (.inr (.inr y) :: .inr (.inr x) :: r) w q := xm_E_sp he h
theorem xs_lor {x y : Int64} (he : cd[i]? = some (.lor, pc, nx, a, b, ps, sw)) (h : xm_E o sta f cd nx L (.inr (.inr (x ||| y)) :: r) w q) : xm_E o sta f cd i L (.inr (.inr y) :: .inr (.inr x) :: r) w q := xm_E_sp he h
theorem xs_lshl {x : Int64} {y : Int} (he : cd[i]? = some (.lshl, pc, nx, a, b, ps, sw)) (h : xm_E o sta f cd nx L (.inr (.inr (xm_lshl x y)) :: r) w q) : xm_E o sta f cd i L (.inl y :: .inr (.inr x) :: r) w q := xm_E_sp he h
theorem xs_lshr {x : Int64} {y : Int} (he : cd[i]? = some (.lshr, pc, nx, a, b, ps, sw)) (h : xm_E o sta f cd nx L (.inr (.inr (xm_lshr x y)) :: r) w q) : xm_E o sta f cd i L (.inl y :: .inr (.inr x) :: r) w q := xm_E_sp he h
theorem xs_lushr {x : Int64} {y : Int} (he : cd[i]? = some (.lushr, pc, nx, a, b, ps, sw)) (h : xm_E o sta f cd nx L (.inr (.inr (xm_lushr x y)) :: r) w q) : xm_E o sta f cd i L (.inl y :: .inr (.inr x) :: r) w q := xm_E_sp he h
theorem xs_ite {c P R A B : Prop} {d : Decidable c} (h : if c then P else R) (hp : P → A) (hr : R → B) : if c then A else B := by
  by_cases hc : c
  · rw [if_pos hc] at h ⊢; exact hp h
  · rw [if_neg hc] at h ⊢; exact hr h
theorem xs_if_eq {off : Int} {x : Int} {P R : Prop} (he : cd[i]? = some (.ifCond .eq off, pc, nx, a, b, ps, sw)) (h : if x = 0 then P else R) (hp : P → xm_E o sta f cd a L (r) w q) (hr : R → xm_E o sta f cd nx L (r) w q) : xm_E o sta f cd i L (.inl x :: r) w q := xm_E_sp he (xs_ite h hp hr)
theorem xs_if_ne {off : Int} {x : Int} {P R : Prop} (he : cd[i]? = some (.ifCond .ne off, pc, nx, a, b, ps, sw)) (h : if x = 0 then P else R) (hp : P → xm_E o sta f cd nx L (r) w q) (hr : R → xm_E o sta f cd a L (r) w q) : xm_E o sta f cd i L (.inl x :: r) w q := xm_E_sp he (xs_ite h hp hr)
theorem xs_if_lt {off : Int} {x : Int} {P R : Prop} (he : cd[i]? = some (.ifCond .lt off, pc, nx, a, b, ps, sw)) (h : if x < 0 then P else R) (hp : P → xm_E o sta f cd a L (r) w q) (hr : R → xm_E o sta f cd nx L (r) w q) : xm_E o sta f cd i L (.inl x :: r) w q := xm_E_sp he (xs_ite h hp hr)
theorem xs_if_ge {off : Int} {x : Int} {P R : Prop} (he : cd[i]? = some (.ifCond .ge off, pc, nx, a, b, ps, sw)) (h : if x < 0 then P else R) (hp : P → xm_E o sta f cd nx L (r) w q) (hr : R → xm_E o sta f cd a L (r) w q) : xm_E o sta f cd i L (.inl x :: r) w q := xm_E_sp he (xs_ite h hp hr)
theorem xs_if_gt {off : Int} {x : Int} {P R : Prop} (he : cd[i]? = some (.ifCond .gt off, pc, nx, a, b, ps, sw)) (h : if 0 < x then P else R) (hp : P → xm_E o sta f cd a L (r) w q) (hr : R → xm_E o sta f cd nx L (r) w q) : xm_E o sta f cd i L (.inl x :: r) w q := xm_E_sp he (xs_ite h hp hr)
theorem xs_if_le {off : Int} {x : Int} {P R : Prop} (he : cd[i]? = some (.ifCond .le off, pc, nx, a, b, ps, sw)) (h : if 0 < x then P else R) (hp : P → xm_E o sta f cd nx L (r) w q) (hr : R → xm_E o sta f cd a L (r) w q) : xm_E o sta f cd i L (.inl x :: r) w q := xm_E_sp he (xs_ite h hp hr)
theorem xs_ic_eq {off : Int} {x y : Int} {P R : Prop} (he : cd[i]? = some (.if_icmp .eq off, pc, nx, a, b, ps, sw)) (h : if x = y then P else R) (hp : P → xm_E o sta f cd a L (r) w q) (hr : R → xm_E o sta f cd nx L (r) w q) : xm_E o sta f cd i L (.inl y :: .inl x :: r) w q := xm_E_sp he (xs_ite h hp hr)
theorem xs_ic_ne {off : Int} {x y : Int} {P R : Prop} (he : cd[i]? = some (.if_icmp .ne off, pc, nx, a, b, ps, sw)) (h : if x = y then P else R) (hp : P → xm_E o sta f cd nx L (r) w q) (hr : R → xm_E o sta f cd a L (r) w q) : xm_E o sta f cd i L (.inl y :: .inl x :: r) w q := xm_E_sp he (xs_ite h hp hr)
theorem xs_ic_lt {off : Int} {x y : Int} {P R : Prop} (he : cd[i]? = some (.if_icmp .lt off, pc, nx, a, b, ps, sw)) (h : if x < y then P else R) (hp : P → xm_E o sta f cd a L (r) w q) (hr : R → xm_E o sta f cd nx L (r) w q) : xm_E o sta f cd i L (.inl y :: .inl x :: r) w q := xm_E_sp he (xs_ite h hp hr)
theorem xs_ic_ge {off : Int} {x y : Int} {P R : Prop} (he : cd[i]? = some (.if_icmp .ge off, pc, nx, a, b, ps, sw)) (h : if x < y then P else R) (hp : P → xm_E o sta f cd nx L (r) w q) (hr : R → xm_E o sta f cd a L (r) w q) : xm_E o sta f cd i L (.inl y :: .inl x :: r) w q := xm_E_sp he (xs_ite h hp hr)
theorem xs_ic_gt {off : Int} {x y : Int} {P R : Prop} (he : cd[i]? = some (.if_icmp .gt off, pc, nx, a, b, ps, sw)) (h : if y < x then P else R) (hp : P → xm_E o sta f cd a L (r) w q) (hr : R → xm_E o sta f cd nx L (r) w q) : xm_E o sta f cd i L (.inl y :: .inl x :: r) w q := xm_E_sp he (xs_ite h hp hr)
theorem xs_ic_le {off : Int} {x y : Int} {P R : Prop} (he : cd[i]? = some (.if_icmp .le off, pc, nx, a, b, ps, sw)) (h : if y < x then P else R) (hp : P → xm_E o sta f cd nx L (r) w q) (hr : R → xm_E o sta f cd a L (r) w q) : xm_E o sta f cd i L (.inl y :: .inl x :: r) w q := xm_E_sp he (xs_ite h hp hr)
theorem xs_ifnull {off : Int} {z : Option Nat} {P R : Prop} (he : cd[i]? = some (.ifnull off, pc, nx, a, b, ps, sw)) (h : if z = none then P else R) (hp : P → xm_E o sta f cd a L (r) w q) (hr : R → xm_E o sta f cd nx L (r) w q) : xm_E o sta f cd i L (.inr (.inl z) :: r) w q := xm_E_sp he (xs_ite h hp hr)
theorem xs_ifnonnull {off : Int} {z : Option Nat} {P R : Prop} (he : cd[i]? = some (.ifnonnull off, pc, nx, a, b, ps, sw)) (h : if z = none then P else R) (hp : P → xm_E o sta f cd nx L (r) w q) (hr : R → xm_E o sta f cd a L (r) w q) : xm_E o sta f cd i L (.inr (.inl z) :: r) w q := xm_E_sp he (xs_ite h hp hr)
theorem xs_goto {off : Int} (he : cd[i]? = some (.goto off, pc, nx, a, b, ps, sw)) (h : xm_E o sta f cd a L (st) w q) : xm_E o sta f cd i L (st) w q := xm_E_sp he h
theorem xs_swc {F : Nat → Prop} {x v : Int} {t d : Nat} {l : List (Int × Nat)} {P R : Prop} (h : if x = v then P else R) (hp : P → F t) (hr : R → xm_swP l d x F) : xm_swP ((v, t) :: l) d x F := xs_ite h hp hr
theorem xs_tsw {u1 u2 u3 x : Int} {u4 : Array Int} (he : cd[i]? = some (.tableswitch u1 u2 u3 u4, pc, nx, a, b, ps, sw)) (h : xm_swP sw a x (fun t => xm_E o sta f cd t L (r) w q)) : xm_E o sta f cd i L (.inl x :: r) w q := xm_E_sp he h
theorem xs_lsw {u1 x : Int} {u2 : Array (Int × Int)} (he : cd[i]? = some (.lookupswitch u1 u2, pc, nx, a, b, ps, sw)) (h : xm_swP sw a x (fun t => xm_E o sta f cd t L (r) w q)) : xm_E o sta f cd i L (.inl x :: r) w q := xm_E_sp he h
theorem xm_O_some {α : Type} {y : α} {F : α → Prop} : xm_O (some y) F = F y := rfl
theorem xm_O_of {α : Type} {x : Option α} {F K : α → Prop} (h : xm_O x F) (k : ∀ v, F v → K v) : xm_O x K := by
  cases x with
  | some v => exact k v h
  | none => exact h
theorem xm_Oi_of {x : xm_R} {F K : Int → xm_W → Prop} (h : xm_Oi x F) (k : ∀ z w, F z w → K z w) : xm_Oi x K := by
  match x, h with
  | some (some (.inl z), w), h => exact k z w h
theorem xm_Ov_of {x : xm_R} {F K : xm_W → Prop} (h : xm_Ov x F) (k : ∀ w, F w → K w) : xm_Ov x K := by
  match x, h with
  | some (none, w), h => exact k w h
theorem xm_Oq_of {x : xm_R} {F K : Option Nat → xm_W → Prop} (h : xm_Oq x F) (k : ∀ z w, F z w → K z w) : xm_Oq x K := by
  match x, h with
  | some (some (.inr (.inl z)), w), h => exact k z w h
theorem xs_geti0 {j y : Nat} {F : Int → Prop} (he : cd[i]? = some (.getfield j, pc, nx, a, b, ps, sw)) (hf : xm_fk b a = 0) (h : xm_O (xm_fi o w y b a) F) (k : ∀ v, F v → xm_E o sta f cd nx L (.inl v :: r) w q) : xm_E o sta f cd i L (.inr (.inl (some y)) :: r) w q := xm_E_sp he (by simp only [xm_sp, hf, xm_O_some]; exact xm_O_of h k)
theorem xs_geti1 {j y : Nat} {F : Int → Prop} (he : cd[i]? = some (.getfield j, pc, nx, a, b, ps, sw)) (hf : xm_fk b a = 1) (h : xm_O (xm_fi o w y b a) F) (k : ∀ v, F v → xm_E o sta f cd nx L (.inl v :: r) w q) : xm_E o sta f cd i L (.inr (.inl (some y)) :: r) w q := xm_E_sp he (by simp only [xm_sp, hf, xm_O_some]; exact xm_O_of h k)
theorem xs_getr {j y : Nat} {F : Nat → Prop} (he : cd[i]? = some (.getfield j, pc, nx, a, b, ps, sw)) (hf : xm_fk b a = 2) (h : xm_O (xm_fr o w y b a) F) (k : ∀ v, F v → xm_E o sta f cd nx L (.inr (.inl (some v)) :: r) w q) : xm_E o sta f cd i L (.inr (.inl (some y)) :: r) w q := xm_E_sp he (by simp only [xm_sp, hf, xm_O_some]; exact xm_O_of h k)
theorem xs_put {j y t : Nat} {v : xm_V} {F : xm_W → Prop} (he : cd[i]? = some (.putfield j, pc, nx, a, b, ps, sw)) (hf : (xm_kd b).getD a 9 = t) (h : xm_O (xm_setf w y b a t v) F) (k : ∀ w1, F w1 → xm_E o sta f cd nx L (r) w1 q) : xm_E o sta f cd i L (v :: .inr (.inl (some y)) :: r) w q := xm_E_sp he (by simp only [xm_sp, hf, xm_O_some]; exact xm_O_of h k)
theorem xs_gets {j : Nat} {v : xm_V} (he : cd[i]? = some (.getstatic j, pc, nx, a, b, ps, sw)) (hs : sta[a]? = some v) (h : xm_E o sta f cd nx L (v :: st) w q) : xm_E o sta f cd i L (st) w q := xm_E_sp he (by simp only [xm_sp, hs]; exact h)
theorem xs_iaload {z : Int} {y : Nat} {F : List Int → Prop} {K : List Int → Int → Prop} (he : cd[i]? = some (.iaload, pc, nx, a, b, ps, sw)) (h : xm_O (xm_ints o w y) F) (k : ∀ l, F l → xm_O (xm_at l z) (K l)) (k2 : ∀ l v, K l v → xm_E o sta f cd nx L (.inl v :: r) w q) : xm_E o sta f cd i L (.inl z :: .inr (.inl (some y)) :: r) w q := xm_E_sp he (by simp only [xm_sp, xm_O_some]; exact xm_O_of h fun l hl => xm_O_of (k l hl) (k2 l))
theorem xs_aaload {z : Int} {y : Nat} {F : List (Option Nat) → Prop} {K : List (Option Nat) → Option Nat → Prop} (he : cd[i]? = some (.aaload, pc, nx, a, b, ps, sw)) (h : xm_O (xm_refs o w y) F) (k : ∀ l, F l → xm_O (xm_at l z) (K l)) (k2 : ∀ l v, K l v → xm_E o sta f cd nx L (.inr (.inl v) :: r) w q) : xm_E o sta f cd i L (.inl z :: .inr (.inl (some y)) :: r) w q := xm_E_sp he (by simp only [xm_sp, xm_O_some]; exact xm_O_of h fun l hl => xm_O_of (k l hl) (k2 l))
theorem xs_iastore {x z : Int} {y : Nat} {F : xm_W → Prop} (he : cd[i]? = some (.iastore, pc, nx, a, b, ps, sw)) (h : xm_O (xm_seti w y z x) F) (k : ∀ w1, F w1 → xm_E o sta f cd nx L (r) w1 q) : xm_E o sta f cd i L (.inl x :: .inl z :: .inr (.inl (some y)) :: r) w q := xm_E_sp he (by simp only [xm_sp, xm_O_some]; exact xm_O_of h k)
theorem xs_aastore {x : Option Nat} {z : Int} {y : Nat} {F : xm_W → Prop} (he : cd[i]? = some (.aastore, pc, nx, a, b, ps, sw)) (h : xm_O (xm_setq w y z x) F) (k : ∀ w1, F w1 → xm_E o sta f cd nx L (r) w1 q) : xm_E o sta f cd i L (.inr (.inl x) :: .inl z :: .inr (.inl (some y)) :: r) w q := xm_E_sp he (by simp only [xm_sp, xm_O_some]; exact xm_O_of h k)
theorem xs_alen {y : Nat} {F : Nat → Prop} (he : cd[i]? = some (.arraylength, pc, nx, a, b, ps, sw)) (h : xm_O (xm_len o w y) F) (k : ∀ n : Nat, F n → xm_E o sta f cd nx L (.inl (n : Int) :: r) w q) : xm_E o sta f cd i L (.inr (.inl (some y)) :: r) w q := xm_E_sp he (by
  obtain ⟨n, hn, hF⟩ := xm_O_is h
  unfold xm_len at hn
  show (match xm_get o w y with
      | some (.inl l) => l.length < 1000000 ∧ xm_E o sta f cd nx L (.inl (l.length : Int) :: r) w q
      | some (.inr (.inr (99, l))) => l.length < 1000000 ∧ xm_E o sta f cd nx L (.inl (l.length : Int) :: r) w q
      | _ => False)
  split at hn
  next l hg =>
    split at hn
    next hl => cases hn; first | exact ⟨hl, k _ hF⟩ | (simp only [hg]; exact ⟨hl, k _ hF⟩)
    next => cases hn
  next l hg =>
    split at hn
    next hl => cases hn; first | exact ⟨hl, k _ hF⟩ | (simp only [hg]; exact ⟨hl, k _ hF⟩)
    next => cases hn
  next => cases hn)
theorem xs_baload {z : Int} {y : Nat} {F : Int → Prop} (he : cd[i]? = some (.baload, pc, nx, a, b, ps, sw)) (h : xm_O (xm_byt o w y z) F) (k : ∀ v, F v → xm_E o sta f cd nx L (.inl v :: r) w q) : xm_E o sta f cd i L (.inl z :: .inr (.inl (some y)) :: r) w q := xm_E_sp he (by
  obtain ⟨n, hn, hF⟩ := xm_O_is h
  unfold xm_byt at hn
  show (match xm_get o w y with
      | some (.inr (.inr (99, l))) => (match xm_at l z with
        | some (.inl x) => xm_E o sta f cd nx L (.inl x :: r) w q
        | _ => False)
      | _ => False)
  split at hn
  next l hg =>
    split at hn
    next hl => cases hn; first | exact k _ hF | (simp only [hg, hl]; exact k _ hF)
    next => cases hn
  next => cases hn)
theorem xs_new {j : Nat} (he : cd[i]? = some (.new j, pc, nx, a, b, ps, sw)) (h : xm_E o sta f cd nx L (.inr (.inl (some w.length)) :: st) (w ++ [.inr (.inr (b, (xm_kd b).map xm_dflt))]) q) : xm_E o sta f cd i L (st) w q := xm_E_sp he h
theorem xs_newarray {j : ArrayType} {n : Int} {P : Prop} (he : cd[i]? = some (.newarray j, pc, nx, a, b, ps, sw)) (h : (0 ≤ n ∧ n ≤ 1000) ∧ P) (k : P → xm_E o sta f cd nx L (.inr (.inl (some w.length)) :: r) (w ++ [.inl (List.replicate n.toNat 0)]) q) : xm_E o sta f cd i L (.inl n :: r) w q := xm_E_sp he ⟨h.1, k h.2⟩
theorem xs_anewarray {j : Nat} {n : Int} {P : Prop} (he : cd[i]? = some (.anewarray j, pc, nx, a, b, ps, sw)) (h : (0 ≤ n ∧ n ≤ 1000) ∧ P) (k : P → xm_E o sta f cd nx L (.inr (.inl (some w.length)) :: r) (w ++ [.inr (.inl (b, List.replicate n.toNat none))]) q) : xm_E o sta f cd i L (.inl n :: r) w q := xm_E_sp he ⟨h.1, k h.2⟩
theorem xs_invv0 {j : Nat} {as : List xm_V} {F : xm_W → Prop} (he : cd[i]? = some (.invokevirtual j, pc, nx, a, b, ps, sw)) (hrk : xm_rkd a = 0) (hsh : xm_sh (st.drop b) = true) (has : (st.take b).reverse = as) (hr : st.drop b = r) (h : xm_Ov (f a as w) F) (k : ∀ w1, F w1 → xm_E o sta f cd nx L (r) w1 q) : xm_E o sta f cd i L (st) w q := xm_E_sp he (show xm_inP f nx a b L st w (fun i' L' st' w' => xm_E o sta f cd i' L' st' w' q) from (by
  subst has; subst hr
  simp only [xm_inP, hsh, hrk]
  exact xm_Ov_of h k))
theorem xs_invv1 {j : Nat} {as : List xm_V} {F : Int → xm_W → Prop} (he : cd[i]? = some (.invokevirtual j, pc, nx, a, b, ps, sw)) (hrk : xm_rkd a = 1) (hsh : xm_sh (st.drop b) = true) (has : (st.take b).reverse = as) (hr : st.drop b = r) (h : xm_Oi (f a as w) F) (k : ∀ z w1, F z w1 → xm_E o sta f cd nx L (.inl z :: r) w1 q) : xm_E o sta f cd i L (st) w q := xm_E_sp he (show xm_inP f nx a b L st w (fun i' L' st' w' => xm_E o sta f cd i' L' st' w' q) from (by
  subst has; subst hr
  simp only [xm_inP, hsh, hrk]
  exact xm_Oi_of h k))
theorem xs_invv2 {j : Nat} {as : List xm_V} {F : Int → xm_W → Prop} (he : cd[i]? = some (.invokevirtual j, pc, nx, a, b, ps, sw)) (hrk : xm_rkd a = 2) (hsh : xm_sh (st.drop b) = true) (has : (st.take b).reverse = as) (hr : st.drop b = r) (h : xm_Oi (f a as w) F) (k : ∀ z w1, F z w1 → xm_E o sta f cd nx L (.inl z :: r) w1 q) : xm_E o sta f cd i L (st) w q := xm_E_sp he (show xm_inP f nx a b L st w (fun i' L' st' w' => xm_E o sta f cd i' L' st' w' q) from (by
  subst has; subst hr
  simp only [xm_inP, hsh, hrk]
  exact xm_Oi_of h k))
theorem xs_invv4 {j : Nat} {as : List xm_V} {F : Int → xm_W → Prop} (he : cd[i]? = some (.invokevirtual j, pc, nx, a, b, ps, sw)) (hrk : xm_rkd a = 4) (hsh : xm_sh (st.drop b) = true) (has : (st.take b).reverse = as) (hr : st.drop b = r) (h : xm_Oi (f a as w) F) (k : ∀ z w1, F z w1 → xm_E o sta f cd nx L (.inl z :: r) w1 q) : xm_E o sta f cd i L (st) w q := xm_E_sp he (show xm_inP f nx a b L st w (fun i' L' st' w' => xm_E o sta f cd i' L' st' w' q) from (by
  subst has; subst hr
  simp only [xm_inP, hsh, hrk]
  exact xm_Oi_of h k))
theorem xs_invv3 {j : Nat} {as : List xm_V} {F : Option Nat → xm_W → Prop} (he : cd[i]? = some (.invokevirtual j, pc, nx, a, b, ps, sw)) (hrk : xm_rkd a = 3) (hsh : xm_sh (st.drop b) = true) (has : (st.take b).reverse = as) (hr : st.drop b = r) (h : xm_Oq (f a as w) F) (k : ∀ z w1, F z w1 → xm_E o sta f cd nx L (.inr (.inl z) :: r) w1 q) : xm_E o sta f cd i L (st) w q := xm_E_sp he (show xm_inP f nx a b L st w (fun i' L' st' w' => xm_E o sta f cd i' L' st' w' q) from (by
  subst has; subst hr
  simp only [xm_inP, hsh, hrk]
  exact xm_Oq_of h k))
theorem xs_invs0 {j a1 : Nat} {as : List xm_V} {F : xm_W → Prop} (he : cd[i]? = some (.invokestatic j, pc, nx, a1 + 6, b, ps, sw)) (hrk : xm_rkd (a1 + 6) = 0) (hsh : xm_sh (st.drop b) = true) (has : (st.take b).reverse = as) (hr : st.drop b = r) (h : xm_Ov (f (a1 + 6) as w) F) (k : ∀ w1, F w1 → xm_E o sta f cd nx L (r) w1 q) : xm_E o sta f cd i L (st) w q := xm_E_sp he (show xm_inP f nx (a1 + 6) b L st w (fun i' L' st' w' => xm_E o sta f cd i' L' st' w' q) from (by
  subst has; subst hr
  simp only [xm_inP, hsh, hrk]
  exact xm_Ov_of h k))
theorem xs_invs1 {j a1 : Nat} {as : List xm_V} {F : Int → xm_W → Prop} (he : cd[i]? = some (.invokestatic j, pc, nx, a1 + 6, b, ps, sw)) (hrk : xm_rkd (a1 + 6) = 1) (hsh : xm_sh (st.drop b) = true) (has : (st.take b).reverse = as) (hr : st.drop b = r) (h : xm_Oi (f (a1 + 6) as w) F) (k : ∀ z w1, F z w1 → xm_E o sta f cd nx L (.inl z :: r) w1 q) : xm_E o sta f cd i L (st) w q := xm_E_sp he (show xm_inP f nx (a1 + 6) b L st w (fun i' L' st' w' => xm_E o sta f cd i' L' st' w' q) from (by
  subst has; subst hr
  simp only [xm_inP, hsh, hrk]
  exact xm_Oi_of h k))
theorem xs_invs2 {j a1 : Nat} {as : List xm_V} {F : Int → xm_W → Prop} (he : cd[i]? = some (.invokestatic j, pc, nx, a1 + 6, b, ps, sw)) (hrk : xm_rkd (a1 + 6) = 2) (hsh : xm_sh (st.drop b) = true) (has : (st.take b).reverse = as) (hr : st.drop b = r) (h : xm_Oi (f (a1 + 6) as w) F) (k : ∀ z w1, F z w1 → xm_E o sta f cd nx L (.inl z :: r) w1 q) : xm_E o sta f cd i L (st) w q := xm_E_sp he (show xm_inP f nx (a1 + 6) b L st w (fun i' L' st' w' => xm_E o sta f cd i' L' st' w' q) from (by
  subst has; subst hr
  simp only [xm_inP, hsh, hrk]
  exact xm_Oi_of h k))
theorem xs_invs4 {j a1 : Nat} {as : List xm_V} {F : Int → xm_W → Prop} (he : cd[i]? = some (.invokestatic j, pc, nx, a1 + 6, b, ps, sw)) (hrk : xm_rkd (a1 + 6) = 4) (hsh : xm_sh (st.drop b) = true) (has : (st.take b).reverse = as) (hr : st.drop b = r) (h : xm_Oi (f (a1 + 6) as w) F) (k : ∀ z w1, F z w1 → xm_E o sta f cd nx L (.inl z :: r) w1 q) : xm_E o sta f cd i L (st) w q := xm_E_sp he (show xm_inP f nx (a1 + 6) b L st w (fun i' L' st' w' => xm_E o sta f cd i' L' st' w' q) from (by
  subst has; subst hr
  simp only [xm_inP, hsh, hrk]
  exact xm_Oi_of h k))
theorem xs_invs3 {j a1 : Nat} {as : List xm_V} {F : Option Nat → xm_W → Prop} (he : cd[i]? = some (.invokestatic j, pc, nx, a1 + 6, b, ps, sw)) (hrk : xm_rkd (a1 + 6) = 3) (hsh : xm_sh (st.drop b) = true) (has : (st.take b).reverse = as) (hr : st.drop b = r) (h : xm_Oq (f (a1 + 6) as w) F) (k : ∀ z w1, F z w1 → xm_E o sta f cd nx L (.inr (.inl z) :: r) w1 q) : xm_E o sta f cd i L (st) w q := xm_E_sp he (show xm_inP f nx (a1 + 6) b L st w (fun i' L' st' w' => xm_E o sta f cd i' L' st' w' q) from (by
  subst has; subst hr
  simp only [xm_inP, hsh, hrk]
  exact xm_Oq_of h k))
theorem xs_invi0 {j a1 : Nat} {as : List xm_V} {F : xm_W → Prop} (he : cd[i]? = some (.invokespecial j, pc, nx, a1 + 2, b, ps, sw)) (hrk : xm_rkd (a1 + 2) = 0) (hsh : xm_sh (st.drop b) = true) (has : (st.take b).reverse = as) (hr : st.drop b = r) (h : xm_Ov (f (a1 + 2) as w) F) (k : ∀ w1, F w1 → xm_E o sta f cd nx L (r) w1 q) : xm_E o sta f cd i L (st) w q := xm_E_sp he (show xm_inP f nx (a1 + 2) b L st w (fun i' L' st' w' => xm_E o sta f cd i' L' st' w' q) from (by
  subst has; subst hr
  simp only [xm_inP, hsh, hrk]
  exact xm_Ov_of h k))
theorem xs_invi1 {j a1 : Nat} {as : List xm_V} {F : Int → xm_W → Prop} (he : cd[i]? = some (.invokespecial j, pc, nx, a1 + 2, b, ps, sw)) (hrk : xm_rkd (a1 + 2) = 1) (hsh : xm_sh (st.drop b) = true) (has : (st.take b).reverse = as) (hr : st.drop b = r) (h : xm_Oi (f (a1 + 2) as w) F) (k : ∀ z w1, F z w1 → xm_E o sta f cd nx L (.inl z :: r) w1 q) : xm_E o sta f cd i L (st) w q := xm_E_sp he (show xm_inP f nx (a1 + 2) b L st w (fun i' L' st' w' => xm_E o sta f cd i' L' st' w' q) from (by
  subst has; subst hr
  simp only [xm_inP, hsh, hrk]
  exact xm_Oi_of h k))
theorem xs_invi2 {j a1 : Nat} {as : List xm_V} {F : Int → xm_W → Prop} (he : cd[i]? = some (.invokespecial j, pc, nx, a1 + 2, b, ps, sw)) (hrk : xm_rkd (a1 + 2) = 2) (hsh : xm_sh (st.drop b) = true) (has : (st.take b).reverse = as) (hr : st.drop b = r) (h : xm_Oi (f (a1 + 2) as w) F) (k : ∀ z w1, F z w1 → xm_E o sta f cd nx L (.inl z :: r) w1 q) : xm_E o sta f cd i L (st) w q := xm_E_sp he (show xm_inP f nx (a1 + 2) b L st w (fun i' L' st' w' => xm_E o sta f cd i' L' st' w' q) from (by
  subst has; subst hr
  simp only [xm_inP, hsh, hrk]
  exact xm_Oi_of h k))
theorem xs_invi4 {j a1 : Nat} {as : List xm_V} {F : Int → xm_W → Prop} (he : cd[i]? = some (.invokespecial j, pc, nx, a1 + 2, b, ps, sw)) (hrk : xm_rkd (a1 + 2) = 4) (hsh : xm_sh (st.drop b) = true) (has : (st.take b).reverse = as) (hr : st.drop b = r) (h : xm_Oi (f (a1 + 2) as w) F) (k : ∀ z w1, F z w1 → xm_E o sta f cd nx L (.inl z :: r) w1 q) : xm_E o sta f cd i L (st) w q := xm_E_sp he (show xm_inP f nx (a1 + 2) b L st w (fun i' L' st' w' => xm_E o sta f cd i' L' st' w' q) from (by
  subst has; subst hr
  simp only [xm_inP, hsh, hrk]
  exact xm_Oi_of h k))
theorem xs_invi3 {j a1 : Nat} {as : List xm_V} {F : Option Nat → xm_W → Prop} (he : cd[i]? = some (.invokespecial j, pc, nx, a1 + 2, b, ps, sw)) (hrk : xm_rkd (a1 + 2) = 3) (hsh : xm_sh (st.drop b) = true) (has : (st.take b).reverse = as) (hr : st.drop b = r) (h : xm_Oq (f (a1 + 2) as w) F) (k : ∀ z w1, F z w1 → xm_E o sta f cd nx L (.inr (.inl z) :: r) w1 q) : xm_E o sta f cd i L (st) w q := xm_E_sp he (show xm_inP f nx (a1 + 2) b L st w (fun i' L' st' w' => xm_E o sta f cd i' L' st' w' q) from (by
  subst has; subst hr
  simp only [xm_inP, hsh, hrk]
  exact xm_Oq_of h k))
theorem xs_obj {j y : Nat} (he : cd[i]? = some (.invokespecial j, pc, nx, 1, b, ps, sw)) (hsh : xm_sh r = true) (h : xm_E o sta f cd nx L (r) w q) : xm_E o sta f cd i L (.inr (.inl (some y)) :: r) w q := xm_E_sp he (by simp only [xm_sp, hsh]; exact h)
theorem xs_copy {j k1 k0 : Nat} {n dp sp : Int} {F : xm_W → Prop} (he : cd[i]? = some (.invokestatic j, pc, nx, 2, b, ps, sw)) (hsh : xm_sh r = true) (h : xm_O (xm_copy w k0 sp k1 dp n) F) (k : ∀ w1, F w1 → xm_E o sta f cd nx L (r) w1 q) : xm_E o sta f cd i L (.inl n :: .inl dp :: .inr (.inl (some k1)) :: .inl sp :: .inr (.inl (some k0)) :: r) w q := xm_E_sp he (by simp only [xm_sp, hsh, xm_O_some]; exact xm_O_of h k)
theorem xs_max {j : Nat} {x y : Int} (he : cd[i]? = some (.invokestatic j, pc, nx, 3, b, ps, sw)) (hsh : xm_sh r = true) (h : xm_E o sta f cd nx L (.inl (if x < y then y else x) :: r) w q) : xm_E o sta f cd i L (.inl y :: .inl x :: r) w q := xm_E_sp he (by simp only [xm_sp, hsh]; exact h)
theorem xs_min {j : Nat} {x y : Int} (he : cd[i]? = some (.invokestatic j, pc, nx, 4, b, ps, sw)) (hsh : xm_sh r = true) (h : xm_E o sta f cd nx L (.inl (if y < x then y else x) :: r) w q) : xm_E o sta f cd i L (.inl y :: .inl x :: r) w q := xm_E_sp he (by simp only [xm_sp, hsh]; exact h)
theorem xs_abs {j : Nat} {x : Int} (he : cd[i]? = some (.invokestatic j, pc, nx, 5, b, ps, sw)) (hsh : xm_sh r = true) (h : xm_E o sta f cd nx L (.inl (if 0 ≤ x then x else xm_w (0 - x)) :: r) w q) : xm_E o sta f cd i L (.inl x :: r) w q := xm_E_sp he (by simp only [xm_sp, hsh]; exact h)
theorem xs_ireturn {x : Int} (he : cd[i]? = some (.ireturn, pc, nx, a, b, ps, sw)) (h : q = (some (.inl x), w)) : xm_E o sta f cd i L ([.inl x]) w q := xm_E_sp he h
theorem xs_areturn {x : Option Nat} (he : cd[i]? = some (.areturn, pc, nx, a, b, ps, sw)) (h : q = (some (.inr (.inl x)), w)) : xm_E o sta f cd i L ([.inr (.inl x)]) w q := xm_E_sp he h
theorem xs_return (he : cd[i]? = some (.return_, pc, nx, a, b, ps, sw)) (h : q = (none, w)) : xm_E o sta f cd i L ([]) w q := xm_E_sp he h
end xs_sec
abbrev xm_gi (cd : List xm_I) (i : Nat) : Option xm_I := cd[i]?
theorem xm_dr {l t : List xm_I} {n : Nat} {e : xm_I} (h : l.drop n = e :: t) : l.drop (n + 1) = t := by
  rw [← List.drop_drop, h]; rfl
theorem xm_gt {l t : List xm_I} {n : Nat} {e : xm_I} (h : l.drop n = e :: t) : l[n]? = some e := by
  have := List.getElem?_drop (xs := l) (i := n) (j := 0)
  rw [h] at this
  simpa using this.symm
end
section
/-! the same steps, with a property of the end instead of the end -/
def xm_EQ (o : xm_W) (sta : List xm_V) (call : Nat → List xm_V → xm_W → xm_R) (cd : List xm_I) (i : Nat) (L : List (Option xm_V)) (st : List xm_V) (w : xm_W) (Q : Option xm_V × xm_W → Prop) : Prop := ∃ q, xm_E o sta call cd i L st w q ∧ Q q
def xm_nr : Instr → Bool
  | .ireturn => false
  | .areturn => false
  | .return_ => false
  | _ => true
theorem xm_nr_none {o : xm_W} {sta : List xm_V} {call : Nat → List xm_V → xm_W → xm_R} {e : xm_I} {L : List (Option xm_V)} {st : List xm_V} {w : xm_W} (h : xm_nr e.1 = true) : xm_step o sta call e L st w (fun _ _ _ _ => none) = none := by
  obtain ⟨ins, pc, nx, a, b, ps, sw⟩ := e
  cases ins
  all_goals first
    | (simp only [xm_step]; done)
    | (exact absurd (show false = true from h) (by decide))
    | (simp only [xm_step]; (repeat' split) <;> first | rfl | (simp_all; done))
theorem xm_EQ.eq {o : xm_W} {sta : List xm_V} {call : Nat → List xm_V → xm_W → xm_R} {cd : List xm_I} {i : Nat} {L : List (Option xm_V)} {st : List xm_V} {w : xm_W} {v : Option xm_V × xm_W} (h : xm_EQ o sta call cd i L st w (fun q => v = q)) : xm_E o sta call cd i L st w v := by
  obtain ⟨q, h1, h2⟩ := h
  rw [h2]; exact h1
section xq_sec
variable {o : xm_W} {sta : List xm_V} {f : Nat → List xm_V → xm_W → xm_R} {cd : List xm_I} {i pc nx a b : Nat} {ps : List Nat} {sw : List (Int × Nat)} {L : List (Option xm_V)} {st r : List xm_V} {w : xm_W} {Q : Option xm_V × xm_W → Prop}
theorem xq_sp {e : xm_I} (he : cd[i]? = some e) (hn : xm_nr e.1 = true) (h : xm_sp o sta f e L st w (none, w) (fun i' L' st' w' => xm_EQ o sta f cd i' L' st' w' Q)) : xm_EQ o sta f cd i L st w Q := by
  rcases xm_sp_one h with h1 | ⟨i', L', st', w', ⟨q, h1, h3⟩, h2⟩
  · have := h1 (fun _ _ _ _ => none)
    rw [xm_nr_none hn] at this
    cases this
  · obtain ⟨m, hm⟩ := h1
    exact ⟨q, ⟨m + 1, by unfold xm_run; rw [he]; exact (h2 _).trans hm⟩, h3⟩
theorem xq_iconst {z : Int} (he : cd[i]? = some (.iconst z, pc, nx, a, b, ps, sw)) (h : xm_EQ o sta f cd nx L (.inl z :: st) w Q) : xm_EQ o sta f cd i L (st) w Q := xq_sp he rfl h
theorem xq_bipush {z : Int} (he : cd[i]? = some (.bipush z, pc, nx, a, b, ps, sw)) (h : xm_EQ o sta f cd nx L (.inl z :: st) w Q) : xm_EQ o sta f cd i L (st) w Q := xq_sp he rfl h
theorem xq_sipush {z : Int} (he : cd[i]? = some (.sipush z, pc, nx, a, b, ps, sw)) (h : xm_EQ o sta f cd nx L (.inl z :: st) w Q) : xm_EQ o sta f cd i L (st) w Q := xq_sp he rfl h
theorem xq_ldc {j u : Nat} {z : Int} (he : cd[i]? = some (.ldc j, pc, nx, a, b, ps, [(z, u)])) (h : xm_EQ o sta f cd nx L (.inl z :: st) w Q) : xm_EQ o sta f cd i L (st) w Q := xq_sp he rfl h
theorem xq_ldcs {j : Nat} (he : cd[i]? = some (.ldc j, pc, nx, a, b, ps, [])) (h : xm_EQ o sta f cd nx L (.inr (.inl (some (1000000 + a))) :: st) w Q) : xm_EQ o sta f cd i L (st) w Q := xq_sp he rfl h
theorem xq_ldcw {j u : Nat} {z : Int} (he : cd[i]? = some (.ldc_w j, pc, nx, a, b, ps, [(z, u)])) (h : xm_EQ o sta f cd nx L (.inl z :: st) w Q) : xm_EQ o sta f cd i L (st) w Q := xq_sp he rfl h
theorem xq_ldc2 {j u : Nat} {z : Int} (he : cd[i]? = some (.ldc2_w j, pc, nx, a, b, ps, [(z, u)])) (h : xm_EQ o sta f cd nx L (.inr (.inr (Int64.ofInt z)) :: st) w Q) : xm_EQ o sta f cd i L (st) w Q := xq_sp he rfl h
theorem xq_iload {j : Nat} {x : Int} (he : cd[i]? = some (.iload j, pc, nx, a, b, ps, sw)) (hl : L[a]? = some (some (.inl x))) (h : xm_EQ o sta f cd nx L (.inl x :: st) w Q) : xm_EQ o sta f cd i L (st) w Q := xq_sp he rfl (by simp only [xm_sp, hl]; exact h)
theorem xq_iload_n {j : Fin 4} {x : Int} (he : cd[i]? = some (.iload_n j, pc, nx, a, b, ps, sw)) (hl : L[a]? = some (some (.inl x))) (h : xm_EQ o sta f cd nx L (.inl x :: st) w Q) : xm_EQ o sta f cd i L (st) w Q := xq_sp he rfl (by simp only [xm_sp, hl]; exact h)
theorem xq_aload {j : Nat} {x : Option Nat} (he : cd[i]? = some (.aload j, pc, nx, a, b, ps, sw)) (hl : L[a]? = some (some (.inr (.inl x)))) (h : xm_EQ o sta f cd nx L (.inr (.inl x) :: st) w Q) : xm_EQ o sta f cd i L (st) w Q := xq_sp he rfl (by simp only [xm_sp, hl]; exact h)
theorem xq_aload_n {j : Fin 4} {x : Option Nat} (he : cd[i]? = some (.aload_n j, pc, nx, a, b, ps, sw)) (hl : L[a]? = some (some (.inr (.inl x)))) (h : xm_EQ o sta f cd nx L (.inr (.inl x) :: st) w Q) : xm_EQ o sta f cd i L (st) w Q := xq_sp he rfl (by simp only [xm_sp, hl]; exact h)
theorem xq_lload_n {j : Fin 4} {x : Int64} (he : cd[i]? = some (.lload_n j, pc, nx, a, b, ps, sw)) (hl : L[a]? = some (some (.inr (.inr x)))) (h : xm_EQ o sta f cd nx L (.inr (.inr x) :: st) w Q) : xm_EQ o sta f cd i L (st) w Q := xq_sp he rfl (by simp only [xm_sp, hl]; exact h)
theorem xq_istore {j : Nat} {x : Int} (he : cd[i]? = some (.istore j, pc, nx, a, b, ps, sw)) (hl : xm_nl L a = true) (h : xm_EQ o sta f cd nx (L.set a (some (.inl x))) (r) w Q) : xm_EQ o sta f cd i L (.inl x :: r) w Q := xq_sp he rfl (by simp only [xm_sp, hl]; exact h)
theorem xq_istore_n {j : Fin 4} {x : Int} (he : cd[i]? = some (.istore_n j, pc, nx, a, b, ps, sw)) (hl : xm_nl L a = true) (h : xm_EQ o sta f cd nx (L.set a (some (.inl x))) (r) w Q) : xm_EQ o sta f cd i L (.inl x :: r) w Q := xq_sp he rfl (by simp only [xm_sp, hl]; exact h)
theorem xq_astore {j : Nat} {x : Option Nat} (he : cd[i]? = some (.astore j, pc, nx, a, b, ps, sw)) (hl : xm_nl L a = true) (h : xm_EQ o sta f cd nx (L.set a (some (.inr (.inl x)))) (r) w Q) : xm_EQ o sta f cd i L (.inr (.inl x) :: r) w Q := xq_sp he rfl (by simp only [xm_sp, hl]; exact h)
theorem xq_astore_n {j : Fin 4} {x : Option Nat} (he : cd[i]? = some (.astore_n j, pc, nx, a, b, ps, sw)) (hl : xm_nl L a = true) (h : xm_EQ o sta f cd nx (L.set a (some (.inr (.inl x)))) (r) w Q) : xm_EQ o sta f cd i L (.inr (.inl x) :: r) w Q := xq_sp he rfl (by simp only [xm_sp, hl]; exact h)
theorem xq_iinc {j : Nat} {z x : Int} (he : cd[i]? = some (.iinc j z, pc, nx, a, b, ps, sw)) (hl : L[a]? = some (some (.inl x))) (hn : xm_nl L a = true) (h : xm_EQ o sta f cd nx (L.set a (some (.inl (xm_w (x + z))))) (st) w Q) : xm_EQ o sta f cd i L (st) w Q := xq_sp he rfl (by simp only [xm_sp, hl, hn]; exact h)
theorem xq_null (he : cd[i]? = some (.aconst_null, pc, nx, a, b, ps, sw)) (h : xm_EQ o sta f cd nx L (.inr (.inl none) :: st) w Q) : xm_EQ o sta f cd i L (st) w Q := xq_sp he rfl h
theorem xq_dup {x : Int} (he : cd[i]? = some (.dup, pc, nx, a, b, ps, sw)) (h : xm_EQ o sta f cd nx L (.inl x :: .inl x :: r) w Q) : xm_EQ o sta f cd i L (.inl x :: r) w Q := xq_sp he rfl h
theorem xq_dupr {x : Option Nat} (he : cd[i]? = some (.dup, pc, nx, a, b, ps, sw)) (h : xm_EQ o sta f cd nx L (.inr (.inl x) :: .inr (.inl x) :: r) w Q) : xm_EQ o sta f cd i L (.inr (.inl x) :: r) w Q := xq_sp he rfl h
theorem xq_dup_x1 {x : Int} {y : Option Nat} (he : cd[i]? = some (.dup_x1, pc, nx, a, b, ps, sw)) (h : xm_EQ o sta f cd nx L (.inl x :: .inr (.inl y) :: .inl x :: r) w Q) : xm_EQ o sta f cd i L (.inl x :: .inr (.inl y) :: r) w Q := xq_sp he rfl h
theorem xq_dup_x1i {x y : Int} (he : cd[i]? = some (.dup_x1, pc, nx, a, b, ps, sw)) (h : xm_EQ o sta f cd nx L (.inl x :: .inl y :: .inl x :: r) w Q) : xm_EQ o sta f cd i L (.inl x :: .inl y :: r) w Q := xq_sp he rfl h
theorem xq_dup2 {x : Int} {y : Option Nat} (he : cd[i]? = some (.dup2, pc, nx, a, b, ps, sw)) (h : xm_EQ o sta f cd nx L (.inl x :: .inr (.inl y) :: .inl x :: .inr (.inl y) :: r) w Q) : xm_EQ o sta f cd i L (.inl x :: .inr (.inl y) :: r) w Q := xq_sp he rfl h
theorem xq_pop {x : Int} (he : cd[i]? = some (.pop, pc, nx, a, b, ps, sw)) (h : xm_EQ o sta f cd nx L (r) w Q) : xm_EQ o sta f cd i L (.inl x :: r) w Q := xq_sp he rfl h
theorem xq_iadd {x y : Int} (he : cd[i]? = some (.iadd, pc, nx, a, b, ps, sw)) (h : xm_EQ o sta f cd nx L (.inl (xm_w (x + y)) :: r) w Q) : xm_EQ o sta f cd i L (.inl y :: .inl x :: r) w Q := xq_sp he rfl h
theorem xq_isub {x y : Int} (he : cd[i]? = some (.isub, pc, nx, a, b, ps, sw)) (h : xm_EQ o sta f cd nx L (.inl (xm_w (x - y)) :: r) w Q) : xm_EQ o sta f cd i L (.inl y :: .inl x :: r) w Q := xq_sp he rfl h
theorem xq_imul {x y : Int} (he : cd[i]? = some (.imul, pc, nx, a, b, ps, sw)) (h : xm_EQ o sta f cd nx L (.inl (xm_w (x * y)) :: r) w Q) : xm_EQ o sta f cd i L (.inl y :: .inl x :: r) w Q := xq_sp he rfl h
theorem xq_iand {x y : Int} (he : cd[i]? = some (.iand, pc, nx, a, b, ps, sw)) (h : xm_EQ o sta f cd nx L (.inl (xm_and x y) :: r) w Q) : xm_EQ o sta f cd i L (.inl y :: .inl x :: r) w Q := xq_sp he rfl h
theorem xq_ior {x y : Int} (he : cd[i]? = some (.ior, pc, nx, a, b, ps, sw)) (h : xm_EQ o sta f cd nx L (.inl (xm_or x y) :: r) w Q) : xm_EQ o sta f cd i L (.inl y :: .inl x :: r) w Q := xq_sp he rfl h
theorem xq_ixor {x y : Int} (he : cd[i]? = some (.ixor, pc, nx, a, b, ps, sw)) (h : xm_EQ o sta f cd nx L (.inl (xm_xor x y) :: r) w Q) : xm_EQ o sta f cd i L (.inl y :: .inl x :: r) w Q := xq_sp he rfl h
theorem xq_ishl {x y : Int} (he : cd[i]? = some (.ishl, pc, nx, a, b, ps, sw)) (h : xm_EQ o sta f cd nx L (.inl (xm_shl x y) :: r) w Q) : xm_EQ o sta f cd i L (.inl y :: .inl x :: r) w Q := xq_sp he rfl h
theorem xq_ishr {x y : Int} (he : cd[i]? = some (.ishr, pc, nx, a, b, ps, sw)) (h : xm_EQ o sta f cd nx L (.inl (xm_shr x y) :: r) w Q) : xm_EQ o sta f cd i L (.inl y :: .inl x :: r) w Q := xq_sp he rfl h
theorem xq_iushr {x y : Int} (he : cd[i]? = some (.iushr, pc, nx, a, b, ps, sw)) (h : xm_EQ o sta f cd nx L (.inl (xm_ushr x y) :: r) w Q) : xm_EQ o sta f cd i L (.inl y :: .inl x :: r) w Q := xq_sp he rfl h
theorem xq_idiv {x y : Int} {P : Prop} (he : cd[i]? = some (.idiv, pc, nx, a, b, ps, sw)) (h : y ≠ 0 ∧ P) (k : P → xm_EQ o sta f cd nx L (.inl (xm_w (x.tdiv y)) :: r) w Q) : xm_EQ o sta f cd i L (.inl y :: .inl x :: r) w Q := xq_sp he rfl ⟨h.1, k h.2⟩
theorem xq_irem {x y : Int} {P : Prop} (he : cd[i]? = some (.irem, pc, nx, a, b, ps, sw)) (h : y ≠ 0 ∧ P) (k : P → xm_EQ o sta f cd nx L (.inl (x.tmod y) :: r) w Q) : xm_EQ o sta f cd i L (.inl y :: .inl x :: r) w Q := xq_sp he rfl ⟨h.1, k h.2⟩
theorem xq_ineg {x : Int} (he : cd[i]? = some (.ineg, pc, nx, a, b, ps, sw)) (h : xm_EQ o sta f cd nx L (.inl (xm_w (-x)) :: r) w Q) : xm_EQ o sta f cd i L (.inl x :: r) w Q := xq_sp he rfl h
theorem xq_i2b {x : Int} (he : cd[i]? = some (.i2b, pc, nx, a, b, ps, sw)) (h : xm_EQ o sta f cd nx L (.inl (xm_b x) :: r) w Q) : xm_EQ o sta f cd i L (.inl x :: r) w Q := xq_sp he rfl h
theorem xq_i2s {x : Int} (he : cd[i]? = some (.i2s, pc, nx, a, b, ps, sw)) (h : xm_EQ o sta f cd nx L (.inl (xm_s x) :: r) w Q) : xm_EQ o sta f cd i L (.inl x :: r) w Q := xq_sp he rfl h
theorem xq_i2c {x : Int} (he : cd[i]? = some (.i2c, pc, nx, a, b, ps, sw)) (h : xm_EQ o sta f cd nx L (.inl (x % 65536) :: r) w Q) : xm_EQ o sta f cd i L (.inl x :: r) w Q := xq_sp he rfl h
theorem xq_i2l {x : Int} (he : cd[i]? = some (.i2l, pc, nx, a, b, ps, sw)) (h : xm_EQ o sta f cd nx L (.inr (.inr (Int32.ofInt x).toInt64) :: r) w Q) : xm_EQ o sta f cd i L (.inl x :: r) w Q := xq_sp he rfl h
theorem xq_l2i {x : Int64} (he : cd[i]? = some (.l2i, pc, nx, a, b, ps, sw)) (h : xm_EQ o sta f cd nx L (.inl x.toInt32.toInt :: r) w Q) : xm_EQ o sta f cd i L (.inr (.inr x) :: r) w Q := xq_sp he rfl h
theorem xq_land {x y : Int64} (he : cd[i]? = some (.land, pc, nx, a, b, ps, sw)) (h : xm_EQ o sta f cd nx L (.inr (.inr (x &&& y)) :: r) w Q) : xm_EQ o sta f cd i L (.inr (.inr y) :: .inr (.inr x) :: r) w Q := xq_sp he rfl h
theorem xq_lor {x y : Int64} (he : cd[i]? = some (.lor, pc, nx, a, b, ps, sw)) (h : xm_EQ o sta f cd nx L (.inr (.inr (x ||| y)) :: r) w Q) : xm_EQ o sta f cd i L (.inr (.inr y) :: .inr (.inr x) :: r) w Q := xq_sp he rfl h
theorem xq_lshl {x : Int64} {y : Int} (he : cd[i]? = some (.lshl, pc, nx, a, b, ps, sw)) (h : xm_EQ o sta f cd nx L (.inr (.inr (xm_lshl x y)) :: r) w Q) : xm_EQ o sta f cd i L (.inl y :: .inr (.inr x) :: r) w Q := xq_sp he rfl h
theorem xq_lshr {x : Int64} {y : Int} (he : cd[i]? = some (.lshr, pc, nx, a, b, ps, sw)) (h : xm_EQ o sta f cd nx L (.inr (.inr (xm_lshr x y)) :: r) w Q) : xm_EQ o sta f cd i L (.inl y :: .inr (.inr x) :: r) w Q := xq_sp he rfl h
theorem xq_lushr {x : Int64} {y : Int} (he : cd[i]? = some (.lushr, pc, nx, a, b, ps, sw)) (h : xm_EQ o sta f cd nx L (.inr (.inr (xm_lushr x y)) :: r) w Q) : xm_EQ o sta f cd i L (.inl y :: .inr (.inr x) :: r) w Q := xq_sp he rfl h
theorem xq_if_eq {off : Int} {x : Int} {P R : Prop} (he : cd[i]? = some (.ifCond .eq off, pc, nx, a, b, ps, sw)) (h : if x = 0 then P else R) (hp : P → xm_EQ o sta f cd a L (r) w Q) (hr : R → xm_EQ o sta f cd nx L (r) w Q) : xm_EQ o sta f cd i L (.inl x :: r) w Q := xq_sp he rfl (xs_ite h hp hr)
theorem xq_if_ne {off : Int} {x : Int} {P R : Prop} (he : cd[i]? = some (.ifCond .ne off, pc, nx, a, b, ps, sw)) (h : if x = 0 then P else R) (hp : P → xm_EQ o sta f cd nx L (r) w Q) (hr : R → xm_EQ o sta f cd a L (r) w Q) : xm_EQ o sta f cd i L (.inl x :: r) w Q := xq_sp he rfl (xs_ite h hp hr)
theorem xq_if_lt {off : Int} {x : Int} {P R : Prop} (he : cd[i]? = some (.ifCond .lt off, pc, nx, a, b, ps, sw)) (h : if x < 0 then P else R) (hp : P → xm_EQ o sta f cd a L (r) w Q) (hr : R → xm_EQ o sta f cd nx L (r) w Q) : xm_EQ o sta f cd i L (.inl x :: r) w Q := xq_sp he rfl (xs_ite h hp hr)
theorem xq_if_ge {off : Int} {x : Int} {P R : Prop} (he : cd[i]? = some (.ifCond .ge off, pc, nx, a, b, ps, sw)) (h : if x < 0 then P else R) (hp : P → xm_EQ o sta f cd nx L (r) w Q) (hr : R → xm_EQ o sta f cd a L (r) w Q) : xm_EQ o sta f cd i L (.inl x :: r) w Q := xq_sp he rfl (xs_ite h hp hr)
theorem xq_if_gt {off : Int} {x : Int} {P R : Prop} (he : cd[i]? = some (.ifCond .gt off, pc, nx, a, b, ps, sw)) (h : if 0 < x then P else R) (hp : P → xm_EQ o sta f cd a L (r) w Q) (hr : R → xm_EQ o sta f cd nx L (r) w Q) : xm_EQ o sta f cd i L (.inl x :: r) w Q := xq_sp he rfl (xs_ite h hp hr)
theorem xq_if_le {off : Int} {x : Int} {P R : Prop} (he : cd[i]? = some (.ifCond .le off, pc, nx, a, b, ps, sw)) (h : if 0 < x then P else R) (hp : P → xm_EQ o sta f cd nx L (r) w Q) (hr : R → xm_EQ o sta f cd a L (r) w Q) : xm_EQ o sta f cd i L (.inl x :: r) w Q := xq_sp he rfl (xs_ite h hp hr)
theorem xq_ic_eq {off : Int} {x y : Int} {P R : Prop} (he : cd[i]? = some (.if_icmp .eq off, pc, nx, a, b, ps, sw)) (h : if x = y then P else R) (hp : P → xm_EQ o sta f cd a L (r) w Q) (hr : R → xm_EQ o sta f cd nx L (r) w Q) : xm_EQ o sta f cd i L (.inl y :: .inl x :: r) w Q := xq_sp he rfl (xs_ite h hp hr)
theorem xq_ic_ne {off : Int} {x y : Int} {P R : Prop} (he : cd[i]? = some (.if_icmp .ne off, pc, nx, a, b, ps, sw)) (h : if x = y then P else R) (hp : P → xm_EQ o sta f cd nx L (r) w Q) (hr : R → xm_EQ o sta f cd a L (r) w Q) : xm_EQ o sta f cd i L (.inl y :: .inl x :: r) w Q := xq_sp he rfl (xs_ite h hp hr)
theorem xq_ic_lt {off : Int} {x y : Int} {P R : Prop} (he : cd[i]? = some (.if_icmp .lt off, pc, nx, a, b, ps, sw)) (h : if x < y then P else R) (hp : P → xm_EQ o sta f cd a L (r) w Q) (hr : R → xm_EQ o sta f cd nx L (r) w Q) : xm_EQ o sta f cd i L (.inl y :: .inl x :: r) w Q := xq_sp he rfl (xs_ite h hp hr)
theorem xq_ic_ge {off : Int} {x y : Int} {P R : Prop} (he : cd[i]? = some (.if_icmp .ge off, pc, nx, a, b, ps, sw)) (h : if x < y then P else R) (hp : P → xm_EQ o sta f cd nx L (r) w Q) (hr : R → xm_EQ o sta f cd a L (r) w Q) : xm_EQ o sta f cd i L (.inl y :: .inl x :: r) w Q := xq_sp he rfl (xs_ite h hp hr)
theorem xq_ic_gt {off : Int} {x y : Int} {P R : Prop} (he : cd[i]? = some (.if_icmp .gt off, pc, nx, a, b, ps, sw)) (h : if y < x then P else R) (hp : P → xm_EQ o sta f cd a L (r) w Q) (hr : R → xm_EQ o sta f cd nx L (r) w Q) : xm_EQ o sta f cd i L (.inl y :: .inl x :: r) w Q := xq_sp he rfl (xs_ite h hp hr)
theorem xq_ic_le {off : Int} {x y : Int} {P R : Prop} (he : cd[i]? = some (.if_icmp .le off, pc, nx, a, b, ps, sw)) (h : if y < x then P else R) (hp : P → xm_EQ o sta f cd nx L (r) w Q) (hr : R → xm_EQ o sta f cd a L (r) w Q) : xm_EQ o sta f cd i L (.inl y :: .inl x :: r) w Q := xq_sp he rfl (xs_ite h hp hr)
theorem xq_ifnull {off : Int} {z : Option Nat} {P R : Prop} (he : cd[i]? = some (.ifnull off, pc, nx, a, b, ps, sw)) (h : if z = none then P else R) (hp : P → xm_EQ o sta f cd a L (r) w Q) (hr : R → xm_EQ o sta f cd nx L (r) w Q) : xm_EQ o sta f cd i L (.inr (.inl z) :: r) w Q := xq_sp he rfl (xs_ite h hp hr)
theorem xq_ifnonnull {off : Int} {z : Option Nat} {P R : Prop} (he : cd[i]? = some (.ifnonnull off, pc, nx, a, b, ps, sw)) (h : if z = none then P else R) (hp : P → xm_EQ o sta f cd nx L (r) w Q) (hr : R → xm_EQ o sta f cd a L (r) w Q) : xm_EQ o sta f cd i L (.inr (.inl z) :: r) w Q := xq_sp he rfl (xs_ite h hp hr)
theorem xq_goto {off : Int} (he : cd[i]? = some (.goto off, pc, nx, a, b, ps, sw)) (h : xm_EQ o sta f cd a L (st) w Q) : xm_EQ o sta f cd i L (st) w Q := xq_sp he rfl h
theorem xq_tsw {u1 u2 u3 x : Int} {u4 : Array Int} (he : cd[i]? = some (.tableswitch u1 u2 u3 u4, pc, nx, a, b, ps, sw)) (h : xm_swP sw a x (fun t => xm_EQ o sta f cd t L (r) w Q)) : xm_EQ o sta f cd i L (.inl x :: r) w Q := xq_sp he rfl h
theorem xq_lsw {u1 x : Int} {u2 : Array (Int × Int)} (he : cd[i]? = some (.lookupswitch u1 u2, pc, nx, a, b, ps, sw)) (h : xm_swP sw a x (fun t => xm_EQ o sta f cd t L (r) w Q)) : xm_EQ o sta f cd i L (.inl x :: r) w Q := xq_sp he rfl h
theorem xq_geti0 {j y : Nat} {F : Int → Prop} (he : cd[i]? = some (.getfield j, pc, nx, a, b, ps, sw)) (hf : xm_fk b a = 0) (h : xm_O (xm_fi o w y b a) F) (k : ∀ v, F v → xm_EQ o sta f cd nx L (.inl v :: r) w Q) : xm_EQ o sta f cd i L (.inr (.inl (some y)) :: r) w Q := xq_sp he rfl (by simp only [xm_sp, hf, xm_O_some]; exact xm_O_of h k)
theorem xq_geti1 {j y : Nat} {F : Int → Prop} (he : cd[i]? = some (.getfield j, pc, nx, a, b, ps, sw)) (hf : xm_fk b a = 1) (h : xm_O (xm_fi o w y b a) F) (k : ∀ v, F v → xm_EQ o sta f cd nx L (.inl v :: r) w Q) : xm_EQ o sta f cd i L (.inr (.inl (some y)) :: r) w Q := xq_sp he rfl (by simp only [xm_sp, hf, xm_O_some]; exact xm_O_of h k)
theorem xq_getr {j y : Nat} {F : Nat → Prop} (he : cd[i]? = some (.getfield j, pc, nx, a, b, ps, sw)) (hf : xm_fk b a = 2) (h : xm_O (xm_fr o w y b a) F) (k : ∀ v, F v → xm_EQ o sta f cd nx L (.inr (.inl (some v)) :: r) w Q) : xm_EQ o sta f cd i L (.inr (.inl (some y)) :: r) w Q := xq_sp he rfl (by simp only [xm_sp, hf, xm_O_some]; exact xm_O_of h k)
theorem xq_put {j y t : Nat} {v : xm_V} {F : xm_W → Prop} (he : cd[i]? = some (.putfield j, pc, nx, a, b, ps, sw)) (hf : (xm_kd b).getD a 9 = t) (h : xm_O (xm_setf w y b a t v) F) (k : ∀ w1, F w1 → xm_EQ o sta f cd nx L (r) w1 Q) : xm_EQ o sta f cd i L (v :: .inr (.inl (some y)) :: r) w Q := xq_sp he rfl (by simp only [xm_sp, hf, xm_O_some]; exact xm_O_of h k)
theorem xq_gets {j : Nat} {v : xm_V} (he : cd[i]? = some (.getstatic j, pc, nx, a, b, ps, sw)) (hs : sta[a]? = some v) (h : xm_EQ o sta f cd nx L (v :: st) w Q) : xm_EQ o sta f cd i L (st) w Q := xq_sp he rfl (by simp only [xm_sp, hs]; exact h)
theorem xq_iaload {z : Int} {y : Nat} {F : List Int → Prop} {K : List Int → Int → Prop} (he : cd[i]? = some (.iaload, pc, nx, a, b, ps, sw)) (h : xm_O (xm_ints o w y) F) (k : ∀ l, F l → xm_O (xm_at l z) (K l)) (k2 : ∀ l v, K l v → xm_EQ o sta f cd nx L (.inl v :: r) w Q) : xm_EQ o sta f cd i L (.inl z :: .inr (.inl (some y)) :: r) w Q := xq_sp he rfl (by simp only [xm_sp, xm_O_some]; exact xm_O_of h fun l hl => xm_O_of (k l hl) (k2 l))
theorem xq_aaload {z : Int} {y : Nat} {F : List (Option Nat) → Prop} {K : List (Option Nat) → Option Nat → Prop} (he : cd[i]? = some (.aaload, pc, nx, a, b, ps, sw)) (h : xm_O (xm_refs o w y) F) (k : ∀ l, F l → xm_O (xm_at l z) (K l)) (k2 : ∀ l v, K l v → xm_EQ o sta f cd nx L (.inr (.inl v) :: r) w Q) : xm_EQ o sta f cd i L (.inl z :: .inr (.inl (some y)) :: r) w Q := xq_sp he rfl (by simp only [xm_sp, xm_O_some]; exact xm_O_of h fun l hl => xm_O_of (k l hl) (k2 l))
theorem xq_iastore {x z : Int} {y : Nat} {F : xm_W → Prop} (he : cd[i]? = some (.iastore, pc, nx, a, b, ps, sw)) (h : xm_O (xm_seti w y z x) F) (k : ∀ w1, F w1 → xm_EQ o sta f cd nx L (r) w1 Q) : xm_EQ o sta f cd i L (.inl x :: .inl z :: .inr (.inl (some y)) :: r) w Q := xq_sp he rfl (by simp only [xm_sp, xm_O_some]; exact xm_O_of h k)
theorem xq_aastore {x : Option Nat} {z : Int} {y : Nat} {F : xm_W → Prop} (he : cd[i]? = some (.aastore, pc, nx, a, b, ps, sw)) (h : xm_O (xm_setq w y z x) F) (k : ∀ w1, F w1 → xm_EQ o sta f cd nx L (r) w1 Q) : xm_EQ o sta f cd i L (.inr (.inl x) :: .inl z :: .inr (.inl (some y)) :: r) w Q := xq_sp he rfl (by simp only [xm_sp, xm_O_some]; exact xm_O_of h k)
theorem xq_alen {y : Nat} {F : Nat → Prop} (he : cd[i]? = some (.arraylength, pc, nx, a, b, ps, sw)) (h : xm_O (xm_len o w y) F) (k : ∀ n : Nat, F n → xm_EQ o sta f cd nx L (.inl (n : Int) :: r) w Q) : xm_EQ o sta f cd i L (.inr (.inl (some y)) :: r) w Q := xq_sp he rfl (by
  obtain ⟨n, hn, hF⟩ := xm_O_is h
  unfold xm_len at hn
  show (match xm_get o w y with
      | some (.inl l) => l.length < 1000000 ∧ xm_EQ o sta f cd nx L (.inl (l.length : Int) :: r) w Q
      | some (.inr (.inr (99, l))) => l.length < 1000000 ∧ xm_EQ o sta f cd nx L (.inl (l.length : Int) :: r) w Q
      | _ => False)
  split at hn
  next l hg =>
    split at hn
    next hl => cases hn; first | exact ⟨hl, k _ hF⟩ | (simp only [hg]; exact ⟨hl, k _ hF⟩)
    next => cases hn
  next l hg =>
    split at hn
    next hl => cases hn; first | exact ⟨hl, k _ hF⟩ | (simp only [hg]; exact ⟨hl, k _ hF⟩)
    next => cases hn
  next => cases hn)
theorem xq_baload {z : Int} {y : Nat} {F : Int → Prop} (he : cd[i]? = some (.baload, pc, nx, a, b, ps, sw)) (h : xm_O (xm_byt o w y z) F) (k : ∀ v, F v → xm_EQ o sta f cd nx L (.inl v :: r) w Q) : xm_EQ o sta f cd i L (.inl z :: .inr (.inl (some y)) :: r) w Q := xq_sp he rfl (by
  obtain ⟨n, hn, hF⟩ := xm_O_is h
  unfold xm_byt at hn
  show (match xm_get o w y with
      | some (.inr (.inr (99, l))) => (match xm_at l z with
        | some (.inl x) => xm_EQ o sta f cd nx L (.inl x :: r) w Q
        | _ => False)
      | _ => False)
  split at hn
  next l hg =>
    split at hn
    next hl => cases hn; first | exact k _ hF | (simp only [hg, hl]; exact k _ hF)
    next => cases hn
  next => cases hn)
theorem xq_new {j : Nat} (he : cd[i]? = some (.new j, pc, nx, a, b, ps, sw)) (h : xm_EQ o sta f cd nx L (.inr (.inl (some w.length)) :: st) (w ++ [.inr (.inr (b, (xm_kd b).map xm_dflt))]) Q) : xm_EQ o sta f cd i L (st) w Q := xq_sp he rfl h
theorem xq_newarray {j : ArrayType} {n : Int} {P : Prop} (he : cd[i]? = some (.newarray j, pc, nx, a, b, ps, sw)) (h : (0 ≤ n ∧ n ≤ 1000) ∧ P) (k : P → xm_EQ o sta f cd nx L (.inr (.inl (some w.length)) :: r) (w ++ [.inl (List.replicate n.toNat 0)]) Q) : xm_EQ o sta f cd i L (.inl n :: r) w Q := xq_sp he rfl ⟨h.1, k h.2⟩
theorem xq_anewarray {j : Nat} {n : Int} {P : Prop} (he : cd[i]? = some (.anewarray j, pc, nx, a, b, ps, sw)) (h : (0 ≤ n ∧ n ≤ 1000) ∧ P) (k : P → xm_EQ o sta f cd nx L (.inr (.inl (some w.length)) :: r) (w ++ [.inr (.inl (b, List.replicate n.toNat none))]) Q) : xm_EQ o sta f cd i L (.inl n :: r) w Q := xq_sp he rfl ⟨h.1, k h.2⟩
theorem xq_invv0 {j : Nat} {as : List xm_V} {F : xm_W → Prop} (he : cd[i]? = some (.invokevirtual j, pc, nx, a, b, ps, sw)) (hrk : xm_rkd a = 0) (hsh : xm_sh (st.drop b) = true) (has : (st.take b).reverse = as) (hr : st.drop b = r) (h : xm_Ov (f a as w) F) (k : ∀ w1, F w1 → xm_EQ o sta f cd nx L (r) w1 Q) : xm_EQ o sta f cd i L (st) w Q := xq_sp he rfl (show xm_inP f nx a b L st w (fun i' L' st' w' => xm_EQ o sta f cd i' L' st' w' Q) from (by
  subst has; subst hr
  simp only [xm_inP, hsh, hrk]
  exact xm_Ov_of h k))
theorem xq_invv1 {j : Nat} {as : List xm_V} {F : Int → xm_W → Prop} (he : cd[i]? = some (.invokevirtual j, pc, nx, a, b, ps, sw)) (hrk : xm_rkd a = 1) (hsh : xm_sh (st.drop b) = true) (has : (st.take b).reverse = as) (hr : st.drop b = r) (h : xm_Oi (f a as w) F) (k : ∀ z w1, F z w1 → xm_EQ o sta f cd nx L (.inl z :: r) w1 Q) : xm_EQ o sta f cd i L (st) w Q := xq_sp he rfl (show xm_inP f nx a b L st w (fun i' L' st' w' => xm_EQ o sta f cd i' L' st' w' Q) from (by
  subst has; subst hr
  simp only [xm_inP, hsh, hrk]
  exact xm_Oi_of h k))
theorem xq_invv2 {j : Nat} {as : List xm_V} {F : Int → xm_W → Prop} (he : cd[i]? = some (.invokevirtual j, pc, nx, a, b, ps, sw)) (hrk : xm_rkd a = 2) (hsh : xm_sh (st.drop b) = true) (has : (st.take b).reverse = as) (hr : st.drop b = r) (h : xm_Oi (f a as w) F) (k : ∀ z w1, F z w1 → xm_EQ o sta f cd nx L (.inl z :: r) w1 Q) : xm_EQ o sta f cd i L (st) w Q := xq_sp he rfl (show xm_inP f nx a b L st w (fun i' L' st' w' => xm_EQ o sta f cd i' L' st' w' Q) from (by
  subst has; subst hr
  simp only [xm_inP, hsh, hrk]
  exact xm_Oi_of h k))
theorem xq_invv4 {j : Nat} {as : List xm_V} {F : Int → xm_W → Prop} (he : cd[i]? = some (.invokevirtual j, pc, nx, a, b, ps, sw)) (hrk : xm_rkd a = 4) (hsh : xm_sh (st.drop b) = true) (has : (st.take b).reverse = as) (hr : st.drop b = r) (h : xm_Oi (f a as w) F) (k : ∀ z w1, F z w1 → xm_EQ o sta f cd nx L (.inl z :: r) w1 Q) : xm_EQ o sta f cd i L (st) w Q := xq_sp he rfl (show xm_inP f nx a b L st w (fun i' L' st' w' => xm_EQ o sta f cd i' L' st' w' Q) from (by
  subst has; subst hr
  simp only [xm_inP, hsh, hrk]
  exact xm_Oi_of h k))
theorem xq_invv3 {j : Nat} {as : List xm_V} {F : Option Nat → xm_W → Prop} (he : cd[i]? = some (.invokevirtual j, pc, nx, a, b, ps, sw)) (hrk : xm_rkd a = 3) (hsh : xm_sh (st.drop b) = true) (has : (st.take b).reverse = as) (hr : st.drop b = r) (h : xm_Oq (f a as w) F) (k : ∀ z w1, F z w1 → xm_EQ o sta f cd nx L (.inr (.inl z) :: r) w1 Q) : xm_EQ o sta f cd i L (st) w Q := xq_sp he rfl (show xm_inP f nx a b L st w (fun i' L' st' w' => xm_EQ o sta f cd i' L' st' w' Q) from (by
  subst has; subst hr
  simp only [xm_inP, hsh, hrk]
  exact xm_Oq_of h k))
theorem xq_invs0 {j a1 : Nat} {as : List xm_V} {F : xm_W → Prop} (he : cd[i]? = some (.invokestatic j, pc, nx, a1 + 6, b, ps, sw)) (hrk : xm_rkd (a1 + 6) = 0) (hsh : xm_sh (st.drop b) = true) (has : (st.take b).reverse = as) (hr : st.drop b = r) (h : xm_Ov (f (a1 + 6) as w) F) (k : ∀ w1, F w1 → xm_EQ o sta f cd nx L (r) w1 Q) : xm_EQ o sta f cd i L (st) w Q := xq_sp he rfl (show xm_inP f nx (a1 + 6) b L st w (fun i' L' st' w' => xm_EQ o sta f cd i' L' st' w' Q) from (by
  subst has; subst hr
  simp only [xm_inP, hsh, hrk]
  exact xm_Ov_of h k))
theorem xq_invs1 {j a1 : Nat} {as : List xm_V} {F : Int → xm_W → Prop} (he : cd[i]? = some (.invokestatic j, pc, nx, a1 + 6, b, ps, sw)) (hrk : xm_rkd (a1 + 6) = 1) (hsh : xm_sh (st.drop b) = true) (has : (st.take b).reverse = as) (hr : st.drop b = r) (h : xm_Oi (f (a1 + 6) as w) F) (k : ∀ z w1, F z w1 → xm_EQ o sta f cd nx L (.inl z :: r) w1 Q) : xm_EQ o sta f cd i L (st) w Q := xq_sp he rfl (show xm_inP f nx (a1 + 6) b L st w (fun i' L' st' w' => xm_EQ o sta f cd i' L' st' w' Q) from (by
  subst has; subst hr
  simp only [xm_inP, hsh, hrk]
  exact xm_Oi_of h k))
theorem xq_invs2 {j a1 : Nat} {as : List xm_V} {F : Int → xm_W → Prop} (he : cd[i]? = some (.invokestatic j, pc, nx, a1 + 6, b, ps, sw)) (hrk : xm_rkd (a1 + 6) = 2) (hsh : xm_sh (st.drop b) = true) (has : (st.take b).reverse = as) (hr : st.drop b = r) (h : xm_Oi (f (a1 + 6) as w) F) (k : ∀ z w1, F z w1 → xm_EQ o sta f cd nx L (.inl z :: r) w1 Q) : xm_EQ o sta f cd i L (st) w Q := xq_sp he rfl (show xm_inP f nx (a1 + 6) b L st w (fun i' L' st' w' => xm_EQ o sta f cd i' L' st' w' Q) from (by
  subst has; subst hr
  simp only [xm_inP, hsh, hrk]
  exact xm_Oi_of h k))
theorem xq_invs4 {j a1 : Nat} {as : List xm_V} {F : Int → xm_W → Prop} (he : cd[i]? = some (.invokestatic j, pc, nx, a1 + 6, b, ps, sw)) (hrk : xm_rkd (a1 + 6) = 4) (hsh : xm_sh (st.drop b) = true) (has : (st.take b).reverse = as) (hr : st.drop b = r) (h : xm_Oi (f (a1 + 6) as w) F) (k : ∀ z w1, F z w1 → xm_EQ o sta f cd nx L (.inl z :: r) w1 Q) : xm_EQ o sta f cd i L (st) w Q := xq_sp he rfl (show xm_inP f nx (a1 + 6) b L st w (fun i' L' st' w' => xm_EQ o sta f cd i' L' st' w' Q) from (by
  subst has; subst hr
  simp only [xm_inP, hsh, hrk]
  exact xm_Oi_of h k))
theorem xq_invs3 {j a1 : Nat} {as : List xm_V} {F : Option Nat → xm_W → Prop} (he : cd[i]? = some (.invokestatic j, pc, nx, a1 + 6, b, ps, sw)) (hrk : xm_rkd (a1 + 6) = 3) (hsh : xm_sh (st.drop b) = true) (has : (st.take b).reverse = as) (hr : st.drop b = r) (h : xm_Oq (f (a1 + 6) as w) F) (k : ∀ z w1, F z w1 → xm_EQ o sta f cd nx L (.inr (.inl z) :: r) w1 Q) : xm_EQ o sta f cd i L (st) w Q := xq_sp he rfl (show xm_inP f nx (a1 + 6) b L st w (fun i' L' st' w' => xm_EQ o sta f cd i' L' st' w' Q) from (by
  subst has; subst hr
  simp only [xm_inP, hsh, hrk]
  exact xm_Oq_of h k))
theorem xq_invi0 {j a1 : Nat} {as : List xm_V} {F : xm_W → Prop} (he : cd[i]? = some (.invokespecial j, pc, nx, a1 + 2, b, ps, sw)) (hrk : xm_rkd (a1 + 2) = 0) (hsh : xm_sh (st.drop b) = true) (has : (st.take b).reverse = as) (hr : st.drop b = r) (h : xm_Ov (f (a1 + 2) as w) F) (k : ∀ w1, F w1 → xm_EQ o sta f cd nx L (r) w1 Q) : xm_EQ o sta f cd i L (st) w Q := xq_sp he rfl (show xm_inP f nx (a1 + 2) b L st w (fun i' L' st' w' => xm_EQ o sta f cd i' L' st' w' Q) from (by
  subst has; subst hr
  simp only [xm_inP, hsh, hrk]
  exact xm_Ov_of h k))
theorem xq_invi1 {j a1 : Nat} {as : List xm_V} {F : Int → xm_W → Prop} (he : cd[i]? = some (.invokespecial j, pc, nx, a1 + 2, b, ps, sw)) (hrk : xm_rkd (a1 + 2) = 1) (hsh : xm_sh (st.drop b) = true) (has : (st.take b).reverse = as) (hr : st.drop b = r) (h : xm_Oi (f (a1 + 2) as w) F) (k : ∀ z w1, F z w1 → xm_EQ o sta f cd nx L (.inl z :: r) w1 Q) : xm_EQ o sta f cd i L (st) w Q := xq_sp he rfl (show xm_inP f nx (a1 + 2) b L st w (fun i' L' st' w' => xm_EQ o sta f cd i' L' st' w' Q) from (by
  subst has; subst hr
  simp only [xm_inP, hsh, hrk]
  exact xm_Oi_of h k))
theorem xq_invi2 {j a1 : Nat} {as : List xm_V} {F : Int → xm_W → Prop} (he : cd[i]? = some (.invokespecial j, pc, nx, a1 + 2, b, ps, sw)) (hrk : xm_rkd (a1 + 2) = 2) (hsh : xm_sh (st.drop b) = true) (has : (st.take b).reverse = as) (hr : st.drop b = r) (h : xm_Oi (f (a1 + 2) as w) F) (k : ∀ z w1, F z w1 → xm_EQ o sta f cd nx L (.inl z :: r) w1 Q) : xm_EQ o sta f cd i L (st) w Q := xq_sp he rfl (show xm_inP f nx (a1 + 2) b L st w (fun i' L' st' w' => xm_EQ o sta f cd i' L' st' w' Q) from (by
  subst has; subst hr
  simp only [xm_inP, hsh, hrk]
  exact xm_Oi_of h k))
theorem xq_invi4 {j a1 : Nat} {as : List xm_V} {F : Int → xm_W → Prop} (he : cd[i]? = some (.invokespecial j, pc, nx, a1 + 2, b, ps, sw)) (hrk : xm_rkd (a1 + 2) = 4) (hsh : xm_sh (st.drop b) = true) (has : (st.take b).reverse = as) (hr : st.drop b = r) (h : xm_Oi (f (a1 + 2) as w) F) (k : ∀ z w1, F z w1 → xm_EQ o sta f cd nx L (.inl z :: r) w1 Q) : xm_EQ o sta f cd i L (st) w Q := xq_sp he rfl (show xm_inP f nx (a1 + 2) b L st w (fun i' L' st' w' => xm_EQ o sta f cd i' L' st' w' Q) from (by
  subst has; subst hr
  simp only [xm_inP, hsh, hrk]
  exact xm_Oi_of h k))
theorem xq_invi3 {j a1 : Nat} {as : List xm_V} {F : Option Nat → xm_W → Prop} (he : cd[i]? = some (.invokespecial j, pc, nx, a1 + 2, b, ps, sw)) (hrk : xm_rkd (a1 + 2) = 3) (hsh : xm_sh (st.drop b) = true) (has : (st.take b).reverse = as) (hr : st.drop b = r) (h : xm_Oq (f (a1 + 2) as w) F) (k : ∀ z w1, F z w1 → xm_EQ o sta f cd nx L (.inr (.inl z) :: r) w1 Q) : xm_EQ o sta f cd i L (st) w Q := xq_sp he rfl (show xm_inP f nx (a1 + 2) b L st w (fun i' L' st' w' => xm_EQ o sta f cd i' L' st' w' Q) from (by
  subst has; subst hr
  simp only [xm_inP, hsh, hrk]
  exact xm_Oq_of h k))
theorem xq_obj {j y : Nat} (he : cd[i]? = some (.invokespecial j, pc, nx, 1, b, ps, sw)) (hsh : xm_sh r = true) (h : xm_EQ o sta f cd nx L (r) w Q) : xm_EQ o sta f cd i L (.inr (.inl (some y)) :: r) w Q := xq_sp he rfl (by simp only [xm_sp, hsh]; exact h)
theorem xq_copy {j k1 k0 : Nat} {n dp sp : Int} {F : xm_W → Prop} (he : cd[i]? = some (.invokestatic j, pc, nx, 2, b, ps, sw)) (hsh : xm_sh r = true) (h : xm_O (xm_copy w k0 sp k1 dp n) F) (k : ∀ w1, F w1 → xm_EQ o sta f cd nx L (r) w1 Q) : xm_EQ o sta f cd i L (.inl n :: .inl dp :: .inr (.inl (some k1)) :: .inl sp :: .inr (.inl (some k0)) :: r) w Q := xq_sp he rfl (by simp only [xm_sp, hsh, xm_O_some]; exact xm_O_of h k)
theorem xq_max {j : Nat} {x y : Int} (he : cd[i]? = some (.invokestatic j, pc, nx, 3, b, ps, sw)) (hsh : xm_sh r = true) (h : xm_EQ o sta f cd nx L (.inl (if x < y then y else x) :: r) w Q) : xm_EQ o sta f cd i L (.inl y :: .inl x :: r) w Q := xq_sp he rfl (by simp only [xm_sp, hsh]; exact h)
theorem xq_min {j : Nat} {x y : Int} (he : cd[i]? = some (.invokestatic j, pc, nx, 4, b, ps, sw)) (hsh : xm_sh r = true) (h : xm_EQ o sta f cd nx L (.inl (if y < x then y else x) :: r) w Q) : xm_EQ o sta f cd i L (.inl y :: .inl x :: r) w Q := xq_sp he rfl (by simp only [xm_sp, hsh]; exact h)
theorem xq_abs {j : Nat} {x : Int} (he : cd[i]? = some (.invokestatic j, pc, nx, 5, b, ps, sw)) (hsh : xm_sh r = true) (h : xm_EQ o sta f cd nx L (.inl (if 0 ≤ x then x else xm_w (0 - x)) :: r) w Q) : xm_EQ o sta f cd i L (.inl x :: r) w Q := xq_sp he rfl (by simp only [xm_sp, hsh]; exact h)
theorem xq_ireturn {x : Int} (he : cd[i]? = some (.ireturn, pc, nx, a, b, ps, sw)) (h : Q (some (.inl x), w)) : xm_EQ o sta f cd i L ([.inl x]) w Q := ⟨_, xs_ireturn he rfl, h⟩
theorem xq_areturn {x : Option Nat} (he : cd[i]? = some (.areturn, pc, nx, a, b, ps, sw)) (h : Q (some (.inr (.inl x)), w)) : xm_EQ o sta f cd i L ([.inr (.inl x)]) w Q := ⟨_, xs_areturn he rfl, h⟩
theorem xq_return (he : cd[i]? = some (.return_, pc, nx, a, b, ps, sw)) (h : Q (none, w)) : xm_EQ o sta f cd i L ([]) w Q := ⟨_, xs_return he rfl, h⟩
end xq_sec
end
section
theorem xr_101 : xm_rkd 101 = 0 := rfl
theorem xr_102 : xm_rkd 102 = 1 := rfl
theorem xr_103 : xm_rkd 103 = 1 := rfl
theorem xr_104 : xm_rkd 104 = 1 := rfl
theorem xr_105 : xm_rkd 105 = 1 := rfl
theorem xr_106 : xm_rkd 106 = 1 := rfl
theorem xr_107 : xm_rkd 107 = 1 := rfl
theorem xr_108 : xm_rkd 108 = 1 := rfl
theorem xr_109 : xm_rkd 109 = 1 := rfl
theorem xr_110 : xm_rkd 110 = 1 := rfl
theorem xr_111 : xm_rkd 111 = 1 := rfl
theorem xr_112 : xm_rkd 112 = 1 := rfl
theorem xr_113 : xm_rkd 113 = 1 := rfl
theorem xr_114 : xm_rkd 114 = 1 := rfl
theorem xr_115 : xm_rkd 115 = 1 := rfl
theorem xr_116 : xm_rkd 116 = 1 := rfl
theorem xr_117 : xm_rkd 117 = 1 := rfl
theorem xr_118 : xm_rkd 118 = 1 := rfl
theorem xr_119 : xm_rkd 119 = 1 := rfl
theorem xr_120 : xm_rkd 120 = 1 := rfl
theorem xr_121 : xm_rkd 121 = 1 := rfl
theorem xr_122 : xm_rkd 122 = 1 := rfl
theorem xr_123 : xm_rkd 123 = 1 := rfl
theorem xr_124 : xm_rkd 124 = 1 := rfl
theorem xr_125 : xm_rkd 125 = 1 := rfl
theorem xr_126 : xm_rkd 126 = 1 := rfl
theorem xr_127 : xm_rkd 127 = 1 := rfl
theorem xr_128 : xm_rkd 128 = 1 := rfl
theorem xr_129 : xm_rkd 129 = 1 := rfl
theorem xr_130 : xm_rkd 130 = 1 := rfl
theorem xr_131 : xm_rkd 131 = 1 := rfl
theorem xr_132 : xm_rkd 132 = 1 := rfl
theorem xr_133 : xm_rkd 133 = 1 := rfl
theorem xr_134 : xm_rkd 134 = 1 := rfl
theorem xr_135 : xm_rkd 135 = 1 := rfl
theorem xr_136 : xm_rkd 136 = 1 := rfl
theorem xr_137 : xm_rkd 137 = 1 := rfl
theorem xr_138 : xm_rkd 138 = 1 := rfl
theorem xr_139 : xm_rkd 139 = 1 := rfl
theorem xr_140 : xm_rkd 140 = 0 := rfl
theorem xr_141 : xm_rkd 141 = 2 := rfl
theorem xr_142 : xm_rkd 142 = 2 := rfl
theorem xr_143 : xm_rkd 143 = 2 := rfl
theorem xr_144 : xm_rkd 144 = 2 := rfl
theorem xr_145 : xm_rkd 145 = 2 := rfl
theorem xr_146 : xm_rkd 146 = 2 := rfl
theorem xr_147 : xm_rkd 147 = 2 := rfl
theorem xr_148 : xm_rkd 148 = 2 := rfl
theorem xr_149 : xm_rkd 149 = 1 := rfl
theorem xr_150 : xm_rkd 150 = 1 := rfl
theorem xr_151 : xm_rkd 151 = 1 := rfl
theorem xr_152 : xm_rkd 152 = 1 := rfl
theorem xr_153 : xm_rkd 153 = 1 := rfl
theorem xr_201 : xm_rkd 201 = 0 := rfl
theorem xr_202 : xm_rkd 202 = 0 := rfl
theorem xr_203 : xm_rkd 203 = 1 := rfl
theorem xr_204 : xm_rkd 204 = 1 := rfl
theorem xr_301 : xm_rkd 301 = 0 := rfl
theorem xr_302 : xm_rkd 302 = 0 := rfl
theorem xr_303 : xm_rkd 303 = 1 := rfl
theorem xr_401 : xm_rkd 401 = 0 := rfl
theorem xr_402 : xm_rkd 402 = 0 := rfl
theorem xr_403 : xm_rkd 403 = 1 := rfl
theorem xr_404 : xm_rkd 404 = 0 := rfl
theorem xr_405 : xm_rkd 405 = 0 := rfl
theorem xr_406 : xm_rkd 406 = 0 := rfl
theorem xr_407 : xm_rkd 407 = 1 := rfl
theorem xr_408 : xm_rkd 408 = 0 := rfl
theorem xr_409 : xm_rkd 409 = 0 := rfl
theorem xr_410 : xm_rkd 410 = 0 := rfl
theorem xr_411 : xm_rkd 411 = 0 := rfl
theorem xr_412 : xm_rkd 412 = 1 := rfl
theorem xr_413 : xm_rkd 413 = 1 := rfl
theorem xr_414 : xm_rkd 414 = 1 := rfl
theorem xr_415 : xm_rkd 415 = 1 := rfl
theorem xr_416 : xm_rkd 416 = 1 := rfl
theorem xr_417 : xm_rkd 417 = 1 := rfl
theorem xr_418 : xm_rkd 418 = 1 := rfl
theorem xr_419 : xm_rkd 419 = 2 := rfl
theorem xr_420 : xm_rkd 420 = 1 := rfl
theorem xr_421 : xm_rkd 421 = 2 := rfl
theorem xr_501 : xm_rkd 501 = 0 := rfl
theorem xr_502 : xm_rkd 502 = 2 := rfl
theorem xr_503 : xm_rkd 503 = 3 := rfl
theorem xr_504 : xm_rkd 504 = 2 := rfl
theorem xr_505 : xm_rkd 505 = 2 := rfl
theorem xr_506 : xm_rkd 506 = 2 := rfl
theorem xr_507 : xm_rkd 507 = 2 := rfl
theorem xr_508 : xm_rkd 508 = 0 := rfl
theorem xr_509 : xm_rkd 509 = 0 := rfl
theorem xr_510 : xm_rkd 510 = 2 := rfl
theorem xr_511 : xm_rkd 511 = 1 := rfl
theorem xr_601 : xm_rkd 601 = 0 := rfl
theorem xr_602 : xm_rkd 602 = 0 := rfl
theorem xr_603 : xm_rkd 603 = 0 := rfl
theorem xr_604 : xm_rkd 604 = 2 := rfl
theorem xr_605 : xm_rkd 605 = 1 := rfl
theorem xr_606 : xm_rkd 606 = 1 := rfl
theorem xr_607 : xm_rkd 607 = 1 := rfl
theorem xr_701 : xm_rkd 701 = 0 := rfl
theorem xr_702 : xm_rkd 702 = 2 := rfl
theorem xr_703 : xm_rkd 703 = 0 := rfl
theorem xr_704 : xm_rkd 704 = 0 := rfl
theorem xr_705 : xm_rkd 705 = 2 := rfl
theorem xr_801 : xm_rkd 801 = 0 := rfl
theorem xr_802 : xm_rkd 802 = 1 := rfl
theorem xr_803 : xm_rkd 803 = 1 := rfl
theorem xr_804 : xm_rkd 804 = 1 := rfl
theorem xr_805 : xm_rkd 805 = 1 := rfl
theorem xr_806 : xm_rkd 806 = 0 := rfl
theorem xr_901 : xm_rkd 901 = 0 := rfl
theorem xr_902 : xm_rkd 902 = 1 := rfl
theorem xr_903 : xm_rkd 903 = 1 := rfl
theorem xr_1101 : xm_rkd 1101 = 0 := rfl
theorem xr_1102 : xm_rkd 1102 = 1 := rfl
theorem xr_1103 : xm_rkd 1103 = 2 := rfl
theorem xr_1104 : xm_rkd 1104 = 1 := rfl
theorem xr_1105 : xm_rkd 1105 = 0 := rfl
theorem xr_1106 : xm_rkd 1106 = 0 := rfl
theorem xr_1107 : xm_rkd 1107 = 0 := rfl
theorem xr_1108 : xm_rkd 1108 = 2 := rfl
theorem xr_1109 : xm_rkd 1109 = 2 := rfl
theorem xr_1110 : xm_rkd 1110 = 1 := rfl
theorem xr_1111 : xm_rkd 1111 = 0 := rfl
theorem xr_1112 : xm_rkd 1112 = 1 := rfl
theorem xr_1113 : xm_rkd 1113 = 1 := rfl
theorem xr_1114 : xm_rkd 1114 = 1 := rfl
theorem xr_1115 : xm_rkd 1115 = 1 := rfl
theorem xr_1116 : xm_rkd 1116 = 2 := rfl
theorem xr_1117 : xm_rkd 1117 = 0 := rfl
theorem xr_1118 : xm_rkd 1118 = 2 := rfl
theorem xr_1119 : xm_rkd 1119 = 2 := rfl
theorem xr_1120 : xm_rkd 1120 = 2 := rfl
theorem xr_1121 : xm_rkd 1121 = 2 := rfl
theorem xr_1122 : xm_rkd 1122 = 2 := rfl
theorem xr_1123 : xm_rkd 1123 = 2 := rfl
theorem xr_1124 : xm_rkd 1124 = 2 := rfl
theorem xr_1125 : xm_rkd 1125 = 2 := rfl
theorem xr_1126 : xm_rkd 1126 = 1 := rfl
theorem xr_1127 : xm_rkd 1127 = 1 := rfl
theorem xr_1128 : xm_rkd 1128 = 1 := rfl
theorem xr_1129 : xm_rkd 1129 = 1 := rfl
theorem xr_1130 : xm_rkd 1130 = 1 := rfl
theorem xr_1131 : xm_rkd 1131 = 2 := rfl
theorem xr_1132 : xm_rkd 1132 = 0 := rfl
theorem xr_1133 : xm_rkd 1133 = 1 := rfl
theorem xr_1134 : xm_rkd 1134 = 1 := rfl
theorem xr_1135 : xm_rkd 1135 = 1 := rfl
theorem xr_1136 : xm_rkd 1136 = 1 := rfl
theorem xr_1137 : xm_rkd 1137 = 1 := rfl
theorem xr_1138 : xm_rkd 1138 = 1 := rfl
theorem xr_1139 : xm_rkd 1139 = 1 := rfl
theorem xr_1140 : xm_rkd 1140 = 1 := rfl
theorem xr_1141 : xm_rkd 1141 = 1 := rfl
theorem xr_1142 : xm_rkd 1142 = 1 := rfl
theorem xr_1143 : xm_rkd 1143 = 1 := rfl
theorem xr_1144 : xm_rkd 1144 = 1 := rfl
theorem xr_1145 : xm_rkd 1145 = 1 := rfl
theorem xr_1146 : xm_rkd 1146 = 2 := rfl
theorem xr_1147 : xm_rkd 1147 = 1 := rfl
theorem xr_1148 : xm_rkd 1148 = 1 := rfl
theorem xr_1149 : xm_rkd 1149 = 1 := rfl
theorem xr_1150 : xm_rkd 1150 = 1 := rfl
theorem xr_1151 : xm_rkd 1151 = 0 := rfl
theorem xr_1152 : xm_rkd 1152 = 1 := rfl
theorem xr_1153 : xm_rkd 1153 = 1 := rfl
theorem xr_1154 : xm_rkd 1154 = 0 := rfl
theorem xr_1155 : xm_rkd 1155 = 0 := rfl
theorem xr_1156 : xm_rkd 1156 = 0 := rfl
theorem xr_1157 : xm_rkd 1157 = 0 := rfl
theorem xr_1158 : xm_rkd 1158 = 1 := rfl
theorem xr_1159 : xm_rkd 1159 = 1 := rfl
theorem xr_1160 : xm_rkd 1160 = 1 := rfl
theorem xr_1161 : xm_rkd 1161 = 1 := rfl
theorem xr_1162 : xm_rkd 1162 = 1 := rfl
theorem xr_1163 : xm_rkd 1163 = 1 := rfl
theorem xr_1164 : xm_rkd 1164 = 1 := rfl
theorem xr_1165 : xm_rkd 1165 = 1 := rfl
theorem xr_1166 : xm_rkd 1166 = 1 := rfl
theorem xr_1167 : xm_rkd 1167 = 1 := rfl
theorem xr_1168 : xm_rkd 1168 = 1 := rfl
theorem xr_1169 : xm_rkd 1169 = 1 := rfl
theorem xr_1170 : xm_rkd 1170 = 1 := rfl
theorem xr_1171 : xm_rkd 1171 = 2 := rfl
theorem xr_1172 : xm_rkd 1172 = 1 := rfl
theorem xr_1173 : xm_rkd 1173 = 1 := rfl
theorem xr_1174 : xm_rkd 1174 = 1 := rfl
theorem xr_1175 : xm_rkd 1175 = 2 := rfl
theorem xr_1176 : xm_rkd 1176 = 1 := rfl
theorem xr_1177 : xm_rkd 1177 = 1 := rfl
theorem xr_1178 : xm_rkd 1178 = 1 := rfl
theorem xr_1179 : xm_rkd 1179 = 1 := rfl
theorem xr_1180 : xm_rkd 1180 = 1 := rfl
theorem xr_1181 : xm_rkd 1181 = 1 := rfl
theorem xr_1182 : xm_rkd 1182 = 1 := rfl
theorem xr_1183 : xm_rkd 1183 = 1 := rfl
theorem xr_1184 : xm_rkd 1184 = 1 := rfl
theorem xr_1185 : xm_rkd 1185 = 1 := rfl
theorem xr_1186 : xm_rkd 1186 = 0 := rfl
theorem xr_1187 : xm_rkd 1187 = 1 := rfl
theorem xr_1188 : xm_rkd 1188 = 1 := rfl
theorem xr_1189 : xm_rkd 1189 = 1 := rfl
theorem xr_1190 : xm_rkd 1190 = 1 := rfl
theorem xr_1191 : xm_rkd 1191 = 1 := rfl
theorem xr_1192 : xm_rkd 1192 = 1 := rfl
theorem xr_1193 : xm_rkd 1193 = 1 := rfl
theorem xr_1194 : xm_rkd 1194 = 1 := rfl
theorem xr_1195 : xm_rkd 1195 = 1 := rfl
theorem xr_1196 : xm_rkd 1196 = 2 := rfl
theorem xr_1197 : xm_rkd 1197 = 1 := rfl
theorem xr_1198 : xm_rkd 1198 = 1 := rfl
theorem xr_1199 : xm_rkd 1199 = 1 := rfl
theorem xr_1200 : xm_rkd 1200 = 1 := rfl
theorem xr_1201 : xm_rkd 1201 = 1 := rfl
theorem xr_1202 : xm_rkd 1202 = 1 := rfl
theorem xr_1203 : xm_rkd 1203 = 1 := rfl
theorem xr_1204 : xm_rkd 1204 = 1 := rfl
theorem xr_1205 : xm_rkd 1205 = 1 := rfl
theorem xr_1206 : xm_rkd 1206 = 1 := rfl
theorem xr_1207 : xm_rkd 1207 = 1 := rfl
theorem xr_1208 : xm_rkd 1208 = 1 := rfl
theorem xr_1454 : xm_rkd 1454 = 1 := rfl
theorem xr_1479 : xm_rkd 1479 = 1 := rfl
theorem xr_1480 : xm_rkd 1480 = 1 := rfl
theorem xr_1504 : xm_rkd 1504 = 2 := rfl
theorem xr_1522 : xm_rkd 1522 = 1 := rfl
theorem xr_1523 : xm_rkd 1523 = 1 := rfl
theorem xr_1552 : xm_rkd 1552 = 4 := rfl
theorem xr_1554 : xm_rkd 1554 = 2 := rfl
end
