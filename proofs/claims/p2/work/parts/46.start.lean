/-- the start: what the Statement gives, in the words of the small machine -/
theorem xm_okd {l : List Int} (h : ∀ z ∈ l, -2147483648 ≤ z ∧ z < 2147483648) : ∀ z ∈ l, xm_ok (.inl z) := h
theorem xm_hin (i : Nat) (w : Cond) (h : lw_tbl[i]? = some w) : w ∈ lw_tbl := List.mem_of_getElem? h
theorem xm_start {s : State} {m : MethodId} {b L : Nat} {xs : Nat → Int32} (hts : ∀ w ∈ lw_tbl, w.before #[Value.ref b] s = true) (hX : va_X b L xs s s.heap) (hbl : b < s.heap.size) (hgv : (Jvm.Cond.and given_1 narrow_1).before #[Value.ref b] s = true) : ∃ G : xm_G, G.2.2.1 = s.heap.size ∧ G.2.2.2 8 = b ∧ xm_Kn G (xm_old ((List.range L).map fun j => (xs j).toInt)) xm_sta xm_sts xm_str s s.heap := by
  have hg := flat_of_before _ hgv
  obtain ⟨c0, iS0, hK0⟩ := u_known (C := xm_R0) (T := xm_F0) (N := 5) (n := 5) hts (fun u hu => (xm_i0 u hu).1) (hts (.instantiable "ShodBackwards$Bargain" 5) (xm_hin 272 _ (by decide +kernel)))
  obtain ⟨c1, iS1, hK1⟩ := u_known (C := xm_R1) (T := xm_F1) (N := 5) (n := 5) hts (fun u hu => (xm_i1 u hu).1) (hts (.instantiable "ShodBackwards$Desk" 5) (xm_hin 193 _ (by decide +kernel)))
  obtain ⟨c2, iS2, hK2⟩ := u_known (C := xm_R2) (T := xm_F2) (N := 10) (n := 10) hts (fun u hu => (xm_i2 u hu).1) (hts (.instantiable "ShodBackwards$Moor" 10) (xm_hin 101 _ (by decide +kernel)))
  obtain ⟨c3, iS3, hK3⟩ := u_known (C := xm_R3) (T := xm_F3) (N := 6) (n := 6) hts (fun u hu => (xm_i3 u hu).1) (hts (.instantiable "ShodBackwards$Reader" 6) (xm_hin 220 _ (by decide +kernel)))
  obtain ⟨c4, iS4, hK4⟩ := u_known (C := xm_R4) (T := xm_F4) (N := 7) (n := 7) hts (fun u hu => (xm_i4 u hu).1) (hts (.instantiable "ShodBackwards$Rider" 7) (xm_hin 110 _ (by decide +kernel)))
  obtain ⟨c5, iS5, hK5⟩ := u_known (C := xm_R5) (T := xm_F5) (N := 3) (n := 3) hts (fun u hu => (xm_i5 u hu).1) (hts (.instantiable "ShodBackwards$Sheet" 3) (xm_hin 296 _ (by decide +kernel)))
  obtain ⟨c6, iS6, hK6⟩ := u_known (C := xm_R6) (T := xm_F6) (N := 5) (n := 5) hts (fun u hu => (xm_i6 u hu).1) (hts (.instantiable "ShodBackwards$Speaker" 5) (xm_hin 248 _ (by decide +kernel)))
  obtain ⟨c7, iS7, hK7⟩ := u_known (C := xm_R7) (T := xm_F7) (N := 1) (n := 1) hts (fun u hu => (xm_i7 u hu).1) (hts (.instantiable "ShodBackwards$Text" 1) (xm_hin 590 _ (by decide +kernel)))
  obtain ⟨c8, iS8, hK8⟩ := u_known (C := xm_R8) (T := xm_F8) (N := 11) (n := 11) hts (fun u hu => (xm_i8 u hu).1) (hts (.instantiable "ShodBackwards" 11) (xm_hin 93 _ (by decide +kernel)))
  obtain ⟨c9, iS9, hK9⟩ := u_known (C := xm_R9) (T := xm_F9) (N := 22) (n := 22) hts (fun u hu => (xm_i9 u hu).1) (hts (.instantiable "ShodBackwardsModel" 22) (xm_hin 875 _ (by decide +kernel)))
  obtain ⟨cI, kI, coI, hI1, hI2, hI3⟩ := Cond.arrayClass_spec (type := .int) (hts (.arrayClass .int) (xm_hin 152 _ (by decide +kernel)))
  have hao4 := hts (.arrayOver (.object "ShodBackwards$Rider")) (xm_hin 107 _ (by decide +kernel))
  obtain ⟨cp4, ca4, ka4, ha41, ha42, ha43, ha44, ha45⟩ := Cond.arrayOver_spec hao4
  have hao5 := hts (.arrayOver (.object "ShodBackwards$Sheet")) (xm_hin 295 _ (by decide +kernel))
  obtain ⟨cp5, ca5, ka5, ha51, ha52, ha53, ha54, ha55⟩ := Cond.arrayOver_spec hao5
  have hao7 := hts (.arrayOver (.object "ShodBackwards$Text")) (xm_hin 109 _ (by decide +kernel))
  obtain ⟨cp7, ca7, ka7, ha71, ha72, ha73, ha74, ha75⟩ := Cond.arrayOver_spec hao7
  have hA : ∀ a : Nat, a < s.heap.size → ¬ (fun q : Nat => s.heap.size ≤ q) a := fun a h1 h2 => Nat.lt_irrefl _ (Nat.lt_of_lt_of_le h1 h2)
  obtain ⟨t0, et0, hT0⟩ := va_Tof (tm := .static "ShodBackwards" "ABOVE" "[I") (ty := .int) (N := 7) (f := fun j => .int (Int32.ofInt ((xm_st0).getD j 0))) (A := fun q : Nat => s.heap.size ≤ q) (by decide) (hg _ (by decide +kernel)) (va_eqt (hg _ (by decide +kernel))) (fun j hj => va_eqt (z := Int32.ofInt ((xm_st0).getD j 0)) (hg _ (by
    have : ∀ j, j < 7 → (Cond.eq (.elem (.static "ShodBackwards" "ABOVE" "[I") (.int (Int32.ofNat j))) (.int (Int32.ofInt ((xm_st0).getD j 0)))) ∈ flatC (Jvm.Cond.and given_1 narrow_1) := by decide +kernel
    exact this j hj))) hA
  have hZ0 := va_Zof (A := fun q : Nat => s.heap.size ≤ q) (hts (.laysStatic "ShodBackwards" "ABOVE" "[I") (xm_hin 425 _ (by decide +kernel))) (hts (.initialized "ShodBackwards") (xm_hin 75 _ (by decide +kernel))) et0 hA
  obtain ⟨t1, et1, hT1⟩ := va_Tof (tm := .static "ShodBackwards" "BODIES" "[I") (ty := .int) (N := 28) (f := fun j => .int (Int32.ofInt ((xm_st1).getD j 0))) (A := fun q : Nat => s.heap.size ≤ q) (by decide) (hg _ (by decide +kernel)) (va_eqt (hg _ (by decide +kernel))) (fun j hj => va_eqt (z := Int32.ofInt ((xm_st1).getD j 0)) (hg _ (by
    have : ∀ j, j < 28 → (Cond.eq (.elem (.static "ShodBackwards" "BODIES" "[I") (.int (Int32.ofNat j))) (.int (Int32.ofInt ((xm_st1).getD j 0)))) ∈ flatC (Jvm.Cond.and given_1 narrow_1) := by decide +kernel
    exact this j hj))) hA
  have hZ1 := va_Zof (A := fun q : Nat => s.heap.size ≤ q) (hts (.laysStatic "ShodBackwards" "BODIES" "[I") (xm_hin 798 _ (by decide +kernel))) (hts (.initialized "ShodBackwards") (xm_hin 75 _ (by decide +kernel))) et1 hA
  have hZ2 := va_Zof (A := fun q : Nat => s.heap.size ≤ q) (hts (.laysStatic "java/lang/String" "COMPACT_STRINGS" "Z") (xm_hin 500 _ (by decide +kernel))) (hts (.initialized "java/lang/String") (xm_hin 85 _ (by decide +kernel))) (va_eqi (z := 1) (hg _ (by decide +kernel))) hA
  obtain ⟨adK, adV, hS, hSe⟩ := vk_Sof (s := s) (args := #[Value.ref b]) (N := 3) (tm := fun i => match i with | 0 => .string "ShodBackwards$Reader" 15 | 1 => .string "ShodBackwards" 143 | _ => .string "ShodBackwards" 145) (len := [0, 4, 3]) (byt := [[], [119, 115, 109, 103], [110, 100, 97]]) (A := fun q : Nat => s.heap.size ≤ q)
    (by decide)
    (fun i hi => hg _ (by
      have : ∀ i : Nat, i < 3 → (Cond.exactly ((match i with | 0 => Term.string "ShodBackwards$Reader" 15 | 1 => Term.string "ShodBackwards" 143 | _ => Term.string "ShodBackwards" 145 : Term)) "java/lang/String") ∈ flatC (Jvm.Cond.and given_1 narrow_1) := by decide +kernel
      exact this i hi))
    (fun i hi => hg _ (by
      have : ∀ i : Nat, i < 3 → (Cond.eq (.field ((match i with | 0 => Term.string "ShodBackwards$Reader" 15 | 1 => Term.string "ShodBackwards" 143 | _ => Term.string "ShodBackwards" 145 : Term)) "java/lang/String" "coder" "B") (.int 0)) ∈ flatC (Jvm.Cond.and given_1 narrow_1) := by decide +kernel
      exact this i hi))
    (fun i hi => hg _ (by
      have : ∀ i : Nat, i < 3 → (Cond.arrayOf (.field ((match i with | 0 => Term.string "ShodBackwards$Reader" 15 | 1 => Term.string "ShodBackwards" 143 | _ => Term.string "ShodBackwards" 145 : Term)) "java/lang/String" "value" "[B") .byte) ∈ flatC (Jvm.Cond.and given_1 narrow_1) := by decide +kernel
      exact this i hi))
    (fun i hi => hg _ (by
      have : ∀ i : Nat, i < 3 → (Cond.eq (.length (.field ((match i with | 0 => Term.string "ShodBackwards$Reader" 15 | 1 => Term.string "ShodBackwards" 143 | _ => Term.string "ShodBackwards" 145 : Term)) "java/lang/String" "value" "[B")) (.int (Int32.ofNat (([0, 4, 3] : List Nat).getD i 0)))) ∈ flatC (Jvm.Cond.and given_1 narrow_1) := by decide +kernel
      exact this i hi))
    (fun i hi j hj => hg _ (by
      have : ∀ i : Nat, i < 3 → ∀ j : Nat, j < ([0, 4, 3] : List Nat).getD i 0 → (Cond.eq (.elem (.field (match i with | 0 => Term.string "ShodBackwards$Reader" 15 | 1 => Term.string "ShodBackwards" 143 | _ => Term.string "ShodBackwards" 145 : Term) "java/lang/String" "value" "[B") (.int (Int32.ofNat j))) (.int ((([[], [119, 115, 109, 103], [110, 100, 97]] : List (List Int32)).getD i []).getD j 0))) ∈ flatC (Jvm.Cond.and given_1 narrow_1) := by decide +kernel
      exact this i hi j hj))
    (fun i j hi hj hij => by
      have : ∀ i : Nat, i < 3 → ∀ j : Nat, j < 3 → i ≠ j → (Cond.not (Cond.eq (match i with | 0 => Term.string "ShodBackwards$Reader" 15 | 1 => Term.string "ShodBackwards" 143 | _ => Term.string "ShodBackwards" 145 : Term) (match j with | 0 => Term.string "ShodBackwards$Reader" 15 | 1 => Term.string "ShodBackwards" 143 | _ => Term.string "ShodBackwards" 145 : Term))) ∈ flatC (Jvm.Cond.and given_1 narrow_1) ∨ (Cond.not (Cond.eq (match j with | 0 => Term.string "ShodBackwards$Reader" 15 | 1 => Term.string "ShodBackwards" 143 | _ => Term.string "ShodBackwards" 145 : Term) (match i with | 0 => Term.string "ShodBackwards$Reader" 15 | 1 => Term.string "ShodBackwards" 143 | _ => Term.string "ShodBackwards" 145 : Term))) ∈ flatC (Jvm.Cond.and given_1 narrow_1) := by decide +kernel
      rcases this i hi j hj hij with h | h
      · exact Or.inl (hg _ h)
      · exact Or.inr (hg _ h)) hA
  refine ⟨((fun k => match k with | 0 => c0 | 1 => c1 | 2 => c2 | 3 => c3 | 4 => c4 | 5 => c5 | 6 => c6 | 7 => c7 | 8 => c8 | _ => c9, fun k => match k with | 0 => iS0 | 1 => iS1 | 2 => iS2 | 3 => iS3 | 4 => iS4 | 5 => iS5 | 6 => iS6 | 7 => iS7 | 8 => iS8 | _ => iS9), (fun t => match t with | 4 => ca4 | 5 => ca5 | 7 => ca7 | _ => cI), s.heap.size, (fun k => match k with | 0 => t0 | 1 => t1 | 2 => adK 0 | 3 => adK 1 | 4 => adK 2 | 5 => adV 0 | 6 => adV 1 | 7 => adV 2 | _ => b)), rfl, rfl, ?_⟩
  refine ⟨fun w hw hn => ?_, ⟨fun c q hq => ?_, fun k q hq => ?_⟩, ⟨hao4, hao5, hao7⟩, fun i q hq => ?_, fun i q hq => ?_, fun k x hx => ?_⟩
  · have h1 := hts w hw
    match w, hn, h1 with
    | .fieldLinkNest .., _, h1 => exact va_Nw.of rfl h1
    | .methodLinkNest .., _, h1 => exact va_Nw.of rfl h1
  · match c, hq with
    | 0, hq => cases hq; exact hK0
    | 1, hq => cases hq; exact hK1
    | 2, hq => cases hq; exact hK2
    | 3, hq => cases hq; exact hK3
    | 4, hq => cases hq; exact hK4
    | 5, hq => cases hq; exact hK5
    | 6, hq => cases hq; exact hK6
    | 7, hq => cases hq; exact hK7
    | 8, hq => cases hq; exact hK8
    | 9, hq => cases hq; exact hK9
    | c + 10, hq => simp [xm_cl] at hq
  · match k, hq with
    | 0, hq => cases hq; exact ⟨fun n z => ⟨fun k h => (by cases h), kI, hI2, coI, hI3⟩, hI1⟩
    | 1, hq => cases hq; exact ⟨fun n z => ⟨fun k h => (by cases h), ka4, ha43, cp4, ha44⟩, ka4, cp4, ha43, ha44, ha41, ha45⟩
    | 2, hq => cases hq; exact ⟨fun n z => ⟨fun k h => (by cases h), ka5, ha53, cp5, ha54⟩, ka5, cp5, ha53, ha54, ha51, ha55⟩
    | 3, hq => cases hq; exact ⟨fun n z => ⟨fun k h => (by cases h), ka7, ha73, cp7, ha74⟩, ka7, cp7, ha73, ha74, ha71, ha75⟩
    | k + 4, hq => simp [xm_tys] at hq
  · match i, hq with
    | 0, hq => cases hq; exact ⟨_, rfl, trivial, hZ0⟩
    | 1, hq => cases hq; exact ⟨_, rfl, trivial, hZ1⟩
    | 2, hq => cases hq; exact ⟨_, rfl, ⟨by decide, by decide⟩, hZ2⟩
    | i + 3, hq => simp [xm_sts] at hq
  · match i, hq with
    | 0, hq => cases hq; exact vk_R.of (hts (.stringRef "ShodBackwards$Reader" 15 "") (xm_hin 225 _ (by decide +kernel))) (hSe 0 (by decide))
    | 1, hq => cases hq; exact vk_R.of (hts (.stringRef "ShodBackwards" 143 "wsmg") (xm_hin 462 _ (by decide +kernel))) (hSe 1 (by decide))
    | 2, hq => cases hq; exact vk_R.of (hts (.stringRef "ShodBackwards" 145 "nda") (xm_hin 463 _ (by decide +kernel))) (hSe 2 (by decide))
    | i + 3, hq => simp [xm_str] at hq
  · have hA2 := hA
    match k, hx with
    | 0, hx =>
      cases hx
      obtain ⟨cell, h1, h2, h3, h4, h5, h6, -⟩ := hT0
      exact ⟨(Array.getElem?_eq_some_iff.mp h1).1, hA _ (Array.getElem?_eq_some_iff.mp h1).1, ⟨cell, h1, h2, h3, h4, h5, fun j z hz => by
        have hl := (List.getElem?_eq_some_iff.mp hz).1
        rw [h6 j hl]
        simp only [List.getD_eq_getElem?_getD, hz, Option.getD_some]⟩, xm_okd (by decide)⟩
    | 1, hx =>
      cases hx
      obtain ⟨cell, h1, h2, h3, h4, h5, h6, -⟩ := hT1
      exact ⟨(Array.getElem?_eq_some_iff.mp h1).1, hA _ (Array.getElem?_eq_some_iff.mp h1).1, ⟨cell, h1, h2, h3, h4, h5, fun j z hz => by
        have hl := (List.getElem?_eq_some_iff.mp hz).1
        rw [h6 j hl]
        simp only [List.getD_eq_getElem?_getD, hz, Option.getD_some]⟩, xm_okd (by decide)⟩
    | 2, hx =>
      cases hx
      obtain ⟨⟨cell, h1, h2, h3, h4⟩, h5, h6, -⟩ := hS.1 0 (by decide)
      exact ⟨(Array.getElem?_eq_some_iff.mp h1).1, h4, h6, h5, trivial, ⟨by decide, by decide⟩, cell, h1, h2, h3⟩
    | 3, hx =>
      cases hx
      obtain ⟨⟨cell, h1, h2, h3, h4⟩, h5, h6, -⟩ := hS.1 1 (by decide)
      exact ⟨(Array.getElem?_eq_some_iff.mp h1).1, h4, h6, h5, trivial, ⟨by decide, by decide⟩, cell, h1, h2, h3⟩
    | 4, hx =>
      cases hx
      obtain ⟨⟨cell, h1, h2, h3, h4⟩, h5, h6, -⟩ := hS.1 2 (by decide)
      exact ⟨(Array.getElem?_eq_some_iff.mp h1).1, h4, h6, h5, trivial, ⟨by decide, by decide⟩, cell, h1, h2, h3⟩
    | 5, hx =>
      cases hx
      obtain ⟨-, -, -, ⟨cell, h1, h2, h3, h4, h5, h6, h7⟩⟩ := hS.1 0 (by decide)
      exact ⟨(Array.getElem?_eq_some_iff.mp h1).1, h7, [], rfl, ⟨cell, h1, h2, h3, h4, h5, fun j z hz => by
        have hl := (List.getElem?_eq_some_iff.mp hz).1
        rw [h6 j hl]
        have : ∀ j : Nat, j < 0 → Value.int (((([[], [119, 115, 109, 103], [110, 100, 97]] : List (List Int32)).getD 0 []).getD j 0)) = .int (Int32.ofInt (([] : List Int).getD j 0)) := by decide
        refine congrArg some ((this j hl).trans ?_)
        rw [List.getD_eq_getElem?_getD, hz]
        rfl⟩, xm_okd (by decide)⟩
    | 6, hx =>
      cases hx
      obtain ⟨-, -, -, ⟨cell, h1, h2, h3, h4, h5, h6, h7⟩⟩ := hS.1 1 (by decide)
      exact ⟨(Array.getElem?_eq_some_iff.mp h1).1, h7, [119, 115, 109, 103], rfl, ⟨cell, h1, h2, h3, h4, h5, fun j z hz => by
        have hl := (List.getElem?_eq_some_iff.mp hz).1
        rw [h6 j hl]
        have : ∀ j : Nat, j < 4 → Value.int (((([[], [119, 115, 109, 103], [110, 100, 97]] : List (List Int32)).getD 1 []).getD j 0)) = .int (Int32.ofInt (([119, 115, 109, 103] : List Int).getD j 0)) := by decide
        refine congrArg some ((this j hl).trans ?_)
        rw [List.getD_eq_getElem?_getD, hz]
        rfl⟩, xm_okd (by decide)⟩
    | 7, hx =>
      cases hx
      obtain ⟨-, -, -, ⟨cell, h1, h2, h3, h4, h5, h6, h7⟩⟩ := hS.1 2 (by decide)
      exact ⟨(Array.getElem?_eq_some_iff.mp h1).1, h7, [110, 100, 97], rfl, ⟨cell, h1, h2, h3, h4, h5, fun j z hz => by
        have hl := (List.getElem?_eq_some_iff.mp hz).1
        rw [h6 j hl]
        have : ∀ j : Nat, j < 3 → Value.int (((([[], [119, 115, 109, 103], [110, 100, 97]] : List (List Int32)).getD 2 []).getD j 0)) = .int (Int32.ofInt (([110, 100, 97] : List Int).getD j 0)) := by decide
        refine congrArg some ((this j hl).trans ?_)
        rw [List.getD_eq_getElem?_getD, hz]
        rfl⟩, xm_okd (by decide)⟩
    | 8, hx =>
      cases hx
      obtain ⟨cell, h1, h2, h3, h4, h5⟩ := hX
      refine ⟨hbl, hA _ hbl, ⟨cell, h1, h2, h3, by simp [h4], by simp [h4], fun j z hz => ?_⟩, fun z hz => ?_⟩
      · have hl : j < L := by have := (List.getElem?_eq_some_iff.mp hz).1; simpa using this
        rw [h5 j hl]
        have e : z = (xs j).toInt := by
          simp [hl] at hz
          exact hz.symm
        rw [e, Int32.ofInt_toInt]
      · obtain ⟨j, -, rfl⟩ := List.mem_map.mp hz
        exact xm_okt _
    | k + 9, hx => simp [xm_old] at hx
/-- THE LAW, from its entry, out of its run on the small machine -/
theorem xm_whole {p : Program} {e : Env} {s : State} {m : MethodId} {below : List Frame} {meth : Method} {c : Code} (l : Launch) {b L : Nat} {xs : Nat → Int32} (C0 : lw_At p s m meth c b L xs) (hmk : ∀ y M, xm_mt y = some M → xm_Mok xm_mt M) (hlk : xm_cl0.all (xm_chk "ShodBackwardsLaw" false code xm_cl0 4 2 xm_mt) = true) {d : Nat} (hd : d ≤ 1000) {wf : xm_W} (hlen : wf.length ≤ 600000) (hsz : xm_sz wf ≤ 7302250)
    (hE : xm_E (xm_old ((List.range L).map fun j => (xs j).toInt)) xm_sta (xm_X (xm_old ((List.range L).map fun j => (xs j).toInt)) xm_mt d) xm_cl0 0 (xm_loc 4 [.inr (.inl (some 1000008))]) [] [] (some (.inl 1), wf)) : W p l e room_1 s m #[Value.ref b] below meth c s.heap [] 0 0 (lw_Z below #[Value.ref b] s) (entryFrame m ([Value.ref b] : List Value).toArray 4) := by
  obtain ⟨hx, hb, hr, hml, hown, hts, hX, hbl, hlocks, hgv⟩ := id C0
  obtain ⟨G, hG1, hG2, hKn⟩ := xm_start (m := m) hts hX hbl hgv
  obtain ⟨n, hn⟩ := hE
  have F : xm_Fr p s m #[Value.ref b] meth c code 4 "ShodBackwardsLaw" false G (xm_old ((List.range L).map fun j => (xs j).toInt)) := ⟨hx, hb, hml, hown, fun w hw _ => hts w hw, hKn, fun h => (by cases h), Nat.le_of_eq hG1⟩
  have hret : xm_Ret p l e room_1 s m #[Value.ref b] below meth c (lw_Z below #[Value.ref b] s) G code wf.length (xm_sz wf) 2 (some (.inl 1), wf) := by
    intro pc ls H locs hrep hS
    refine ⟨fun z hz _ _ hdg => ?_, fun x hx => (by cases hx), fun hx => (by cases hx)⟩
    cases hz
    refine va_forget (fun q hq => ?_) ?_
    · have := hS.2.2 q hq
      rw [← hG1]
      exact this
    · refine W.widen hlen hsz ?_
      exact lw_ret hx hb hr hlocks hdg
  have E := xm_entry (G := G) (nL := 4) (as := [.inr (.inl (some 1000008))]) (by decide) (fun v hv => by
    rcases List.mem_singleton.mp hv with rfl
    trivial)
  have hb2 : ([.inr (.inl (some 1000008))] : List xm_V).map (xm_v G) = [Value.ref b] := by
    show [Value.ref (xm_ad G 1000008)] = _
    rw [xm_ad_hi (by decide)]
    show [Value.ref (G.2.2.2 8)] = _
    rw [hG2]
  rw [hb2] at E
  rw [lg_entry_eq]
  have hroom : wf.length ≤ room_1.cells ∧ xm_sz wf ≤ room_1.slots := ⟨hlen, hsz⟩
  have K := xm_run_ok (p := p) (e := e) (below := below) (Q := lw_Z below #[Value.ref b] s) (rk := 2) (mc := wf.length) (ms := xm_sz wf) (d := d) (R := room_1) F hret (xm_X_cal hmk d) (show wf.length < 1000000 by omega) hroom ⟨by show d + 1 ≤ 2048; omega, by show 60 * d + 60 ≤ 84000; omega⟩ (List.all_eq_true.mp hlk) n _ _ _ _ hn
  refine K.2 0 rfl _ s.heap [] 0 0 ⟨E, (fun v hv => by cases hv), ⟨by rw [hG1]; rfl, by decide, fun k x hk => by simp at hk⟩, va_S.rf, by show 0 + wf.length = wf.length + 0; omega, by show 0 + xm_sz wf = xm_sz wf + xm_sz []; simp [xm_sz]⟩
