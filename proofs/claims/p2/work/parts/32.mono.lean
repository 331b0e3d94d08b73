theorem xm_step_mono {o : xm_W} {sta : List xm_V} {call : Nat → List xm_V → xm_W → xm_R} {en : xm_I} {L : List (Option xm_V)} {st : List xm_V} {w : xm_W} {k k' : xm_Kt} {q : Option xm_V × xm_W} (hk : ∀ i L st w q, k i L st w = some q → k' i L st w = some q) (h : xm_step o sta call en L st w k = some q) : xm_step o sta call en L st w k' = some q := by
  obtain ⟨ins, pc, nx, a, b, ps, sw⟩ := en
  cases ins
  case iadd => 
    simp only [xm_step] at h ⊢
    split at h
    · exact hk _ _ _ _ _ h
    · cases h
  case invokestatic j =>
    simp only [xm_step] at h ⊢
    by_cases ha : a = 2
    · rw [if_pos ha] at h ⊢
      split at h
      next =>
        split at h
        next hr =>
          split at h
          next hw => 
            simp only [if_pos hr, hw]
            exact hk _ _ _ _ _ h
          next => cases h
        next => cases h
      next => cases h
    · rw [if_neg ha] at h ⊢
      by_cases ha6 : a < 6
      · rw [if_pos ha6] at h ⊢
        split at h
        next r hr =>
          split at h
          next hr5 =>
            simp only [hr, if_pos hr5]
            exact hk _ _ _ _ _ h
          next => cases h
        next => cases h
      rw [if_neg ha6] at h ⊢
      split at h
      next hr =>
        rw [if_pos hr]
        split at h
        next hw => exact hk _ _ _ _ _ h
        next hw => exact hk _ _ _ _ _ h
        next => cases h
      next => cases h
  case invokespecial j =>
    simp only [xm_step] at h ⊢
    by_cases ha : a = 1
    · rw [if_pos ha] at h ⊢
      split at h
      next =>
        split at h
        next hr =>
          simp only [if_pos hr]
          exact hk _ _ _ _ _ h
        next => cases h
      next => cases h
    · rw [if_neg ha] at h ⊢
      split at h
      next hr =>
        rw [if_pos hr]
        split at h
        next hw => exact hk _ _ _ _ _ h
        next hw => exact hk _ _ _ _ _ h
        next => cases h
      next => cases h
  all_goals (simp only [xm_step] at h ⊢)
  all_goals first
    | exact hk _ _ _ _ _ h
    | exact h
    | (cases h; done)
    | skip
  all_goals (repeat' split at h)
  all_goals first
    | exact hk _ _ _ _ _ h
    | exact h
    | (cases h; done)
    | (rw [if_pos (by assumption)]; exact hk _ _ _ _ _ h)
    | (rw [if_neg (by assumption)]; exact hk _ _ _ _ _ h)
    | (rw [if_neg (by assumption), if_pos (by assumption)]; exact hk _ _ _ _ _ h)
    | (simp_all only [if_true, if_false, if_pos, if_neg, not_false_eq_true]; done)
    | (simp_all; done)
    | skip
theorem xm_run_mono {o : xm_W} {sta : List xm_V} {call : Nat → List xm_V → xm_W → xm_R} {cd : List xm_I} {q : Option xm_V × xm_W} : ∀ (n n' : Nat), n ≤ n' → ∀ i L st w, xm_run o sta call cd n i L st w = some q → xm_run o sta call cd n' i L st w = some q
  | 0, _, _, _, _, _, _, h => by cases h
  | n + 1, 0, hn, _, _, _, _, _ => by omega
  | n + 1, n' + 1, hn, i, L, st, w, h => by
    unfold xm_run at h ⊢
    split at h
    next en hen =>
      exact xm_step_mono (fun i L st w q hq => by
        have : ∀ q, xm_run o sta call cd n i L st w = some q → xm_run o sta call cd n' i L st w = some q := fun q hq => xm_run_mono (q := q) n n' (by omega) i L st w hq
        exact this q hq) h
    next => cases h
/-- the run comes to an end with q -/
def xm_E (o : xm_W) (sta : List xm_V) (call : Nat → List xm_V → xm_W → xm_R) (cd : List xm_I) (i : Nat) (L : List (Option xm_V)) (st : List xm_V) (w : xm_W) (q : Option xm_V × xm_W) : Prop := ∃ n, xm_run o sta call cd n i L st w = some q
theorem xm_E_fun {o : xm_W} {sta : List xm_V} {call : Nat → List xm_V → xm_W → xm_R} {cd : List xm_I} {i : Nat} {L : List (Option xm_V)} {st : List xm_V} {w : xm_W} {q q' : Option xm_V × xm_W} (h : xm_E o sta call cd i L st w q) (h' : xm_E o sta call cd i L st w q') : q = q' := by
  obtain ⟨n, h⟩ := h
  obtain ⟨n', h'⟩ := h'
  have a := xm_run_mono n (n + n') (by omega) i L st w h
  have b := xm_run_mono n' (n + n') (by omega) i L st w h'
  exact Option.some.inj (a.symm.trans b)
def xm_lc : List xm_V → List (Option xm_V)
  | [] => []
  | .inr (.inr x) :: r => some (.inr (.inr x)) :: none :: xm_lc r
  | .inl x :: r => some (.inl x) :: xm_lc r
  | .inr (.inl x) :: r => some (.inr (.inl x)) :: xm_lc r
def xm_loc (nL : Nat) (as : List xm_V) : List (Option xm_V) := xm_lc as ++ List.replicate (nL - (xm_lc as).length) none
def xm_rok (rk : Nat) (r : Option xm_V) : Bool := match rk, r with
  | 0, none => true
  | 1, some (.inl _) => true
  | 2, some (.inl z) => z == 0 || z == 1
  | 4, some (.inl z) => z == 0 || z == 1
  | 3, some (.inr (.inl _)) => true
  | _, _ => false
def xm_hd (o w : xm_W) (r : Nat) (as : List xm_V) : Prop := r ≠ 0 → ∃ z, as.head? = some (.inr (.inl (some z))) ∧ (r ≠ 100 → ∃ fs, xm_get o w z = some (.inr (.inr (r - 1, fs))))
def xm_YP (o : xm_W) (M : xm_M) (call : Nat → List xm_V → xm_W → xm_R) (as : List xm_V) (w : xm_W) (q : Option xm_V × xm_W) : Prop :=
  xm_E o xm_sta call M.2.2.2.2.2.2.2 0 (xm_loc M.2.2.1 as) [] w q ∧ xm_rok M.2.2.2.2.1 q.1 = true ∧ as.length = M.2.2.2.2.2.1 ∧ (xm_lc as).length ≤ M.2.2.1 ∧ xm_hd o w M.2.2.2.2.2.2.1 as
noncomputable def xm_Y (o : xm_W) (M : xm_M) (call : Nat → List xm_V → xm_W → xm_R) (as : List xm_V) (w : xm_W) : xm_R :=
  @dite xm_R (∃ q, xm_YP o M call as w q) (Classical.propDecidable _) (fun h => some (Classical.choose h)) (fun _ => none)
noncomputable def xm_X (o : xm_W) (mt : Nat → Option xm_M) : Nat → Nat → List xm_V → xm_W → xm_R
  | 0 => fun _ _ _ => none
  | d + 1 => fun y as w => match mt y with
    | none => none
    | some M => xm_Y o M (xm_X o mt d) as w
theorem xm_Y_of {o : xm_W} {M : xm_M} {call : Nat → List xm_V → xm_W → xm_R} {as : List xm_V} {w : xm_W} {q : Option xm_V × xm_W} (h : xm_YP o M call as w q) : xm_Y o M call as w = some q := by
  have hh : ∃ q, xm_YP o M call as w q := ⟨q, h⟩
  unfold xm_Y
  rw [dif_pos hh]
  exact congrArg some (xm_E_fun (Classical.choose_spec hh).1 h.1)
theorem xm_Y_is {o : xm_W} {M : xm_M} {call : Nat → List xm_V → xm_W → xm_R} {as : List xm_V} {w : xm_W} {q : Option xm_V × xm_W} (h : xm_Y o M call as w = some q) : xm_YP o M call as w q := by
  unfold xm_Y at h
  by_cases hh : ∃ q, xm_YP o M call as w q
  · rw [dif_pos hh] at h
    have := Classical.choose_spec hh
    rw [Option.some.inj h] at this
    exact this
  · rw [dif_neg hh] at h
    cases h
theorem xm_X_of {o : xm_W} {mt : Nat → Option xm_M} {d y : Nat} {M : xm_M} {as : List xm_V} {w : xm_W} {q : Option xm_V × xm_W} (hM : mt y = some M) (h : xm_YP o M (xm_X o mt d) as w q) : xm_X o mt (d + 1) y as w = some q := by
  show (match mt y with
    | none => none
    | some M => xm_Y o M (xm_X o mt d) as w) = some q
  rw [hM]
  exact xm_Y_of h
