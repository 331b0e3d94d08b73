theorem xm_step_mono {o : xm_W} {sta : List xm_V} {call : Nat → List xm_V → xm_W → xm_R} {en : xm_I} {L : List (Option xm_V)} {st : List xm_V} {w : xm_W} {k k' : xm_Kt} {q : Option xm_V × xm_W} (hk : ∀ i L st w q, k i L st w = some q → k' i L st w = some q) (h : xm_step o sta call en L st w k = some q) : xm_step o sta call en L st w k' = some q := by
  obtain ⟨ins, pc, nx, a, b, ps, sw⟩ := en
  cases ins
  case iadd => 
    simp only [xm_step] at h ⊢
    split at h
    · exact hk _ _ _ _ _ h
    · cases h
  all_goals (simp only [xm_step] at h ⊢)
  all_goals first
    | exact hk _ _ _ _ _ h
    | exact h
    | (cases h; done)
    | skip
  all_goals (repeat' split at h)
  all_goals first
    | exact hk _ _ _ _ _ h
    | exact h
    | (cases h; done)
    | (simp_all only [if_true, if_false, if_pos, if_neg, not_false_eq_true]; done)
    | (simp_all; done)
    | skip
