abbrev xm_G : Type := va_G × (Nat → ClassId) × Nat × (Nat → Nat)
def xm_ad (G : xm_G) (k : Nat) : Nat := if k < 1000000 then G.2.2.1 + k else G.2.2.2 (k - 1000000)
def xm_v (G : xm_G) (v : xm_V) : Value := match v with
  | .inl z => .int (Int32.ofInt z)
  | .inr (.inl none) => .null
  | .inr (.inl (some k)) => .ref (xm_ad G k)
  | .inr (.inr x) => .long x
def xm_e (G : xm_G) (x : xm_C) : va_E := match x with
  | .inl l => .inl (G.2.1 0, l.length, .inl (fun j => Int32.ofInt (l.getD j 0)))
  | .inr (.inl (t, l)) => .inl (G.2.1 t, l.length, .inr (.inr (.inr (.inr (fun j => (l.getD j none).map (xm_ad G))))))
  | .inr (.inr (c, fs)) => .inr (c, fs.map (xm_v G))
def xm_A (G : xm_G) : Nat → Prop := fun q => G.2.2.1 ≤ q
def xm_okC (x : xm_C) : Prop := match x with
  | .inl l => ∀ z ∈ l, xm_ok (.inl z)
  | .inr (.inl (t, l)) => (t = 4 ∨ t = 5 ∨ t = 7) ∧ ∀ v, some v ∈ l → v < 1000000
  | .inr (.inr (c, fs)) => fs.length = (xm_kd c).length ∧ c < 10 ∧ ∀ v ∈ fs, xm_ok v
def xm_Rep (G : xm_G) (w : xm_W) (H : Heap) : Prop := H.size = G.2.2.1 + w.length ∧ w.length < 1000000 ∧ ∀ (k : Nat) (x : xm_C), w[k]? = some x → va_at G.1 xm_cl (G.2.2.1 + k, xm_e G x) H ∧ xm_okC x
def xm_szC (x : xm_C) : Nat := match x with
  | .inl l => l.length
  | .inr (.inl (_, l)) => l.length
  | .inr (.inr (_, fs)) => fs.length
def xm_sz (w : xm_W) : Nat := (w.map xm_szC).sum
def xm_gr (w w' : xm_W) : Prop := w.length ≤ w'.length ∧ xm_sz w ≤ xm_sz w'
theorem xm_gr_rf (w : xm_W) : xm_gr w w := ⟨Nat.le_refl _, Nat.le_refl _⟩
theorem xm_gr_tr {a b c : xm_W} (h : xm_gr a b) (h2 : xm_gr b c) : xm_gr a c := ⟨Nat.le_trans h.1 h2.1, Nat.le_trans h.2 h2.2⟩
def xm_lv (G : xm_G) (L : List (Option xm_V)) : List (Nat × Value) := (List.range L.length).filterMap (fun i => match L[i]? with
  | some (some v) => some (i, xm_v G v)
  | _ => none)
theorem xm_lv_in {G : xm_G} {L : List (Option xm_V)} {i : Nat} {x : Value} : (i, x) ∈ xm_lv G L ↔ ∃ v, L[i]? = some (some v) ∧ x = xm_v G v := by
  unfold xm_lv
  rw [List.mem_filterMap]
  constructor
  · rintro ⟨j, hj, h⟩
    split at h
    next v hv =>
      cases h
      exact ⟨v, hv, rfl⟩
    next => cases h
  · rintro ⟨v, hv, rfl⟩
    exact ⟨i, List.mem_range.mpr (List.getElem?_eq_some_iff.mp hv).1, by rw [hv]⟩
theorem lv_mono {ls : Array Slot} {n : Nat} {l l' : List (Nat × Value)} (h : lv_has ls n l) (hs : ∀ q ∈ l', q ∈ l) : lv_has ls n l' := ⟨h.1, h.2.1, fun q hq => h.2.2 q (hs q hq)⟩
theorem xm_lv_set {G : xm_G} {ls : Array Slot} {n a : Nat} {L : List (Option xm_V)} {v : xm_V} (h : lv_has ls n ((a, xm_v G v) :: (xm_lv G L).filter (fun q => !(q.1 == a) && !(q.1 + 1 == a && q.2.category == 2)))) (hnl : xm_nl L a = true) : lv_has ls n (xm_lv G (L.set a (some v))) := by
  refine lv_mono h fun q hq => ?_
  obtain ⟨j, x⟩ := q
  obtain ⟨u, hu, rfl⟩ := xm_lv_in.mp hq
  rw [List.getElem?_set] at hu
  by_cases hj : a = j
  · subst hj
    rw [if_pos rfl] at hu
    split at hu
    next => cases hu; exact List.mem_cons_self
    next => cases hu
  · rw [if_neg hj] at hu
    refine List.mem_cons_of_mem _ (List.mem_filter.mpr ⟨xm_lv_in.mpr ⟨u, hu, rfl⟩, ?_⟩)
    have h1 : (j == a) = false := by simpa using fun e => hj e.symm
    rw [h1]
    by_cases h2 : j + 1 = a
    · have h3 : a - 1 = j := by omega
      unfold xm_nl at hnl
      rw [h3, hu] at hnl
      match u, hnl with
      | .inl _, _ => simp [xm_v, Value.category]
      | .inr (.inl none), _ => simp [xm_v, Value.category]
      | .inr (.inl (some _)), _ => simp [xm_v, Value.category]
    · have h3 : (j + 1 == a) = false := by simpa using h2
      rw [h3]; rfl
def xm_nest (w : Cond) : Bool := match w with
  | .fieldLinkNest .. => true
  | .methodLinkNest .. => true
  | _ => false
abbrev xm_tys (G : xm_G) : List (ClassId × FieldType) := [(G.2.1 0, .int), (G.2.1 4, .object "ShodBackwards$Rider"), (G.2.1 5, .object "ShodBackwards$Sheet"), (G.2.1 7, .object "ShodBackwards$Text")]
def xm_ints1 (U : State) (H : Heap) (a : Nat) (ty : FieldType) (l : List Int) : Prop := ∃ cell : Cell, H[a]? = some cell ∧ U.isArrayOf cell ty ∧ cell.vm ≠ .unknown ∧ l.length ≤ cell.slots.size ∧ cell.slots.size.toInt32 = Int32.ofNat l.length ∧ ∀ (j : Nat) (z : Int), l[j]? = some z → cell.slots[j]? = some (.int (Int32.ofInt z))
/-- cells that were there before, and that nobody writes -/
def xm_o1 (G : xm_G) (U : State) (H : Heap) (a : Nat) (x : xm_C) : Prop := a < H.size ∧ ¬ xm_A G a ∧ match x with
  | .inl l => xm_ints1 U H a .int l ∧ ∀ z ∈ l, xm_ok (.inl z)
  | .inr (.inr (99, l)) => ∃ l', l = l'.map Sum.inl ∧ xm_ints1 U H a .byte l' ∧ ∀ z ∈ l', xm_ok (.inl z)
  | .inr (.inr (98, [v, u])) => va_OF "java/lang/String" "value" "[B" (xm_v G v) a (xm_A G) U H ∧ va_OF "java/lang/String" "coder" "B" (xm_v G u) a (xm_A G) U H ∧ xm_ok v ∧ xm_ok u ∧ ∃ cell : Cell, H[a]? = some cell ∧ cell.vm.isStatics = false ∧ U.vm.findClass "java/lang/String" = some cell.cls
  | _ => False
/-- what is known of a state's tables, statics and old cells -/
def xm_Kn (G : xm_G) (o : xm_W) (sta : List xm_V) (sts : List (String × String × String)) (str : List (String × Nat × String)) (U : State) (H : Heap) : Prop :=
  (∀ w ∈ lw_tbl, xm_nest w = true → va_Nw w U) ∧ va_K G.1 xm_cl (xm_tys G) U ∧ (va_AO "ShodBackwards$Rider" U ∧ va_AO "ShodBackwards$Sheet" U ∧ va_AO "ShodBackwards$Text" U) ∧
  (∀ (i : Nat) (q : String × String × String), sts[i]? = some q → ∃ v, sta[i]? = some v ∧ xm_ok v ∧ va_Z q.1 q.2.1 q.2.2 (xm_v G v) (xm_A G) U H) ∧
  (∀ (i : Nat) (q : String × Nat × String), str[i]? = some q → vk_R q.1 q.2.1 q.2.2 (G.2.2.2 (i + 2)) U) ∧
  ∀ (k : Nat) (x : xm_C), o[k]? = some x → xm_o1 G U H (G.2.2.2 k) x
