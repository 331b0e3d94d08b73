theorem xm_step_gr {o : xm_W} {sta : List xm_V} {call : Nat → List xm_V → xm_W → xm_R} {en : xm_I} {L : List (Option xm_V)} {st : List xm_V} {w : xm_W} {k : xm_Kt} {q : Option xm_V × xm_W} (hk : ∀ i L st w q, k i L st w = some q → xm_gr w q.2) (hcall : ∀ y as w q, call y as w = some q → xm_gr w q.2) (h : xm_step o sta call en L st w k = some q) : xm_gr w q.2 := by
  obtain ⟨ins, pc, nx, a, b, ps, sw⟩ := en
  have hc : ∀ {y : Nat} {as : List xm_V} {i : Nat} {L : List (Option xm_V)} {st : List xm_V}, (match call y as w with
    | some (none, w') => k i L st w'
    | some (some v, w') => k i L (v :: st) w'
    | none => none) = some q → xm_gr w q.2 := by
    intro y as i L st h
    split at h
    next w' hw => exact xm_gr_tr (hcall _ _ _ _ hw) (hk _ _ _ _ _ h)
    next v w' hw => exact xm_gr_tr (hcall _ _ _ _ hw) (hk _ _ _ _ _ h)
    next => cases h
  cases ins
  case invokestatic j =>
    simp only [xm_step] at h
    by_cases ha : a = 2
    · rw [if_pos ha] at h
      split at h
      next n dp k1 sp k0 r =>
        split at h
        next hr =>
          split at h
          next hw =>
            obtain ⟨f, g, -, hg, h1, h2, h3, h4, h5, rfl⟩ := xm_copy_ok hw
            exact xm_gr_tr (xm_gr_set hg (show xm_szC (.inl (xm_cpy f g sp.toNat dp.toNat n.toNat)) = xm_szC (.inl g) from xm_cpy_len f g _ _ _ (by omega) (by omega))) (hk _ _ _ _ _ h)
          next => cases h
        next => cases h
      next => cases h
    · rw [if_neg ha] at h
      by_cases ha6 : a < 6
      · rw [if_pos ha6] at h
        split at h
        next r hr =>
          split at h
          next hr5 => exact hk _ _ _ _ _ h
          next => cases h
        next => cases h
      rw [if_neg ha6] at h
      split at h
      next hr => exact hc h
      next => cases h
  case invokevirtual j =>
    simp only [xm_step] at h
    split at h
    next hr => exact hc h
    next => cases h
  case invokespecial j =>
    simp only [xm_step] at h
    by_cases ha : a = 1
    · rw [if_pos ha] at h
      split at h
      next =>
        split at h
        next hr => exact hk _ _ _ _ _ h
        next => cases h
      next => cases h
    · rw [if_neg ha] at h
      split at h
      next hr => exact hc h
      next => cases h
  case putfield j =>
    simp only [xm_step] at h
    split at h
    next =>
      split at h
      next hw =>
        obtain ⟨fs, hg, -, -, rfl⟩ := xm_setf_ok hw
        exact xm_gr_tr (xm_gr_set hg (by simp [xm_szC])) (hk _ _ _ _ _ h)
      next => cases h
    next => cases h
  case iastore =>
    simp only [xm_step] at h
    split at h
    next =>
      split at h
      next hw =>
        obtain ⟨fs, hg, -, -, rfl⟩ := xm_seti_ok hw
        exact xm_gr_tr (xm_gr_set hg (by simp [xm_szC])) (hk _ _ _ _ _ h)
      next => cases h
    next => cases h
  case aastore =>
    simp only [xm_step] at h
    split at h
    next =>
      split at h
      next hw =>
        obtain ⟨t, fs, hg, -, -, -, rfl⟩ := xm_setq_ok hw
        exact xm_gr_tr (xm_gr_set hg (by simp [xm_szC])) (hk _ _ _ _ _ h)
      next => cases h
    next => cases h
  case new j =>
    simp only [xm_step] at h
    exact xm_gr_tr (xm_gr_push w _) (hk _ _ _ _ _ h)
  case newarray j =>
    simp only [xm_step] at h
    split at h
    next =>
      split at h
      next => exact xm_gr_tr (xm_gr_push w _) (hk _ _ _ _ _ h)
      next => cases h
    next => cases h
  case anewarray j =>
    simp only [xm_step] at h
    split at h
    next =>
      split at h
      next => exact xm_gr_tr (xm_gr_push w _) (hk _ _ _ _ _ h)
      next => cases h
    next => cases h
  all_goals (simp only [xm_step] at h)
  all_goals first
    | exact hk _ _ _ _ _ h
    | (cases h; done)
    | skip
  all_goals (repeat' split at h)
  all_goals first
    | exact hk _ _ _ _ _ h
    | (cases h; done)
    | (cases h; exact xm_gr_rf _)
theorem xm_run_gr {o : xm_W} {sta : List xm_V} {call : Nat → List xm_V → xm_W → xm_R} {cd : List xm_I} (hcall : ∀ y as w q, call y as w = some q → xm_gr w q.2) : ∀ (n : Nat) i L st w q, xm_run o sta call cd n i L st w = some q → xm_gr w q.2
  | 0, _, _, _, _, _, h => by cases h
  | n + 1, i, L, st, w, q, h => by
    unfold xm_run at h
    split at h
    next en hen => exact xm_step_gr (xm_run_gr hcall n) hcall h
    next => cases h
theorem xm_X_gr {o : xm_W} {mt : Nat → Option xm_M} : ∀ (d : Nat) y as w q, xm_X o mt d y as w = some q → xm_gr w q.2
  | 0, _, _, _, _, h => by cases h
  | d + 1, y, as, w, q, h => by
    have h : (match mt y with
      | none => none
      | some M => xm_Y o M (xm_X o mt d) as w) = some q := h
    split at h
    next => cases h
    next M hM =>
      obtain ⟨⟨n, hn⟩, -⟩ := xm_Y_is h
      exact xm_run_gr (xm_X_gr d) n _ _ _ _ _ hn
theorem xm_X_cal {l : Launch} {G : xm_G} {o : xm_W} {mt : Nat → Option xm_M} (hmt : ∀ y M, mt y = some M → xm_Mok mt M) : ∀ d, xm_Cal l G o mt d (xm_X o mt d)
  | 0 => fun y as w q h => by cases h
  | d + 1 => fun y as w q h => by
    have hgr := xm_X_gr (d + 1) y as w q h
    have h : (match mt y with
      | none => none
      | some M => xm_Y o M (xm_X o mt d) as w) = some q := h
    split at h
    next => cases h
    next M hM =>
      have hY := xm_Y_is h
      exact ⟨M, hM, hgr, fun hwf hok => ⟨hY.2.2.1, hY.2.2.2.2, xm_Met (hmt y M hM) (xm_X_cal hmt d) hY hwf hok⟩⟩
