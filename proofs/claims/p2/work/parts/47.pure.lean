/-! THE RUN AS A FORMULA: what must hold for the run to end with q, read off the code by computing -/
def xm_O {α : Type} (x : Option α) (k : α → Prop) : Prop := match x with
  | some v => k v
  | none => False
def xm_Oi (x : xm_R) (k : Int → xm_W → Prop) : Prop := match x with
  | some (some (.inl z), w) => k z w
  | _ => False
def xm_Ov (x : xm_R) (k : xm_W → Prop) : Prop := match x with
  | some (none, w) => k w
  | _ => False
def xm_Oq (x : xm_R) (k : Option Nat → xm_W → Prop) : Prop := match x with
  | some (some (.inr (.inl r)), w) => k r w
  | _ => False
def xm_fi (o w : xm_W) (k c a : Nat) : Option Int := match xm_fld o w k c a with
  | some (.inl z) => some z
  | _ => none
def xm_fr (o w : xm_W) (k c a : Nat) : Option Nat := match xm_fld o w k c a with
  | some (.inr (.inl (some j))) => some j
  | _ => none
def xm_rkd (y : Nat) : Nat := match xm_mt y with
  | some M => M.2.2.2.2.1
  | none => 9
def xm_fk (c a : Nat) : Nat := if c = 98 then (if a = 0 then 2 else 0) else (xm_kd c).getD a 9
def xm_swP : List (Int × Nat) → Nat → Int → (Nat → Prop) → Prop
  | [], d, _, f => f d
  | (v, t) :: l, d, x, f => if x = v then f t else xm_swP l d x f
theorem xm_swP_ok {f : Nat → Prop} : ∀ (l : List (Int × Nat)) (d : Nat) (x : Int), xm_swP l d x f → f (xm_sw l d x)
  | [], _, _, h => h
  | (v, t) :: l, d, x, h => by
    by_cases hx : x = v
    · have h : (if x = v then f t else xm_swP l d x f) := h
      rw [if_pos hx] at h
      show f (if x = v then t else xm_sw l d x)
      rw [if_pos hx]; exact h
    · have h : (if x = v then f t else xm_swP l d x f) := h
      rw [if_neg hx] at h
      show f (if x = v then t else xm_sw l d x)
      rw [if_neg hx]; exact xm_swP_ok l d x h
abbrev xm_KP : Type := Nat → List (Option xm_V) → List xm_V → xm_W → Prop
def xm_sh (r : List xm_V) : Bool := match r with
  | _ :: _ :: _ :: _ :: _ :: _ => false
  | _ => true
theorem xm_sh_ok : ∀ {r : List xm_V}, xm_sh r = true → r.length ≤ 4
  | [], _ => Nat.zero_le _
  | [_], _ => Nat.le_of_ble_eq_true rfl
  | [_, _], _ => Nat.le_of_ble_eq_true rfl
  | [_, _, _], _ => Nat.le_of_ble_eq_true rfl
  | [_, _, _, _], _ => Nat.le_of_ble_eq_true rfl
  | _ :: _ :: _ :: _ :: _ :: _, h => by cases h
def xm_inP (call : Nat → List xm_V → xm_W → xm_R) (nx a b : Nat) (L : List (Option xm_V)) (st : List xm_V) (w : xm_W) (k : xm_KP) : Prop :=
  match xm_sh (st.drop b) with
  | false => False
  | true => (match xm_rkd a with
    | 0 => xm_Ov (call a (st.take b).reverse w) (fun w' => k nx L (st.drop b) w')
    | 1 => xm_Oi (call a (st.take b).reverse w) (fun z w' => k nx L (.inl z :: st.drop b) w')
    | 2 => xm_Oi (call a (st.take b).reverse w) (fun z w' => k nx L (.inl z :: st.drop b) w')
    | 4 => xm_Oi (call a (st.take b).reverse w) (fun z w' => k nx L (.inl z :: st.drop b) w')
    | 3 => xm_Oq (call a (st.take b).reverse w) (fun z w' => k nx L (.inr (.inl z) :: st.drop b) w')
    | _ => False)
def xm_sp (o : xm_W) (sta : List xm_V) (call : Nat → List xm_V → xm_W → xm_R) (e : xm_I) (L : List (Option xm_V)) (st : List xm_V) (w : xm_W) (q : Option xm_V × xm_W) (k : xm_KP) : Prop :=
  match e with
  | (ins, _, nx, a, b, _, sw) =>
  match ins with
  | .iconst z => k nx L (.inl z :: st) w
  | .bipush z => k nx L (.inl z :: st) w
  | .sipush z => k nx L (.inl z :: st) w
  | .ldc _ => (match sw with
    | [(z, _)] => k nx L (.inl z :: st) w
    | _ => k nx L (.inr (.inl (some (1000000 + a))) :: st) w)
  | .ldc_w _ => (match sw with
    | [(z, _)] => k nx L (.inl z :: st) w
    | _ => False)
  | .ldc2_w _ => (match sw with
    | [(z, _)] => k nx L (.inr (.inr (Int64.ofInt z)) :: st) w
    | _ => False)
  | .iload _ => (match L[a]? with
    | some (some (.inl x)) => k nx L (.inl x :: st) w
    | _ => False)
  | .iload_n _ => (match L[a]? with
    | some (some (.inl x)) => k nx L (.inl x :: st) w
    | _ => False)
  | .aload _ => (match L[a]? with
    | some (some (.inr (.inl x))) => k nx L (.inr (.inl x) :: st) w
    | _ => False)
  | .aload_n _ => (match L[a]? with
    | some (some (.inr (.inl x))) => k nx L (.inr (.inl x) :: st) w
    | _ => False)
  | .lload_n _ => (match L[a]? with
    | some (some (.inr (.inr x))) => k nx L (.inr (.inr x) :: st) w
    | _ => False)
  | .istore _ => (match st with
    | .inl x :: r => (match xm_nl L a with
      | true => k nx (L.set a (some (.inl x))) r w
      | false => False)
    | _ => False)
  | .istore_n _ => (match st with
    | .inl x :: r => (match xm_nl L a with
      | true => k nx (L.set a (some (.inl x))) r w
      | false => False)
    | _ => False)
  | .astore _ => (match st with
    | .inr (.inl x) :: r => (match xm_nl L a with
      | true => k nx (L.set a (some (.inr (.inl x)))) r w
      | false => False)
    | _ => False)
  | .astore_n _ => (match st with
    | .inr (.inl x) :: r => (match xm_nl L a with
      | true => k nx (L.set a (some (.inr (.inl x)))) r w
      | false => False)
    | _ => False)
  | .iinc _ z => (match L[a]? with
    | some (some (.inl x)) => (match xm_nl L a with
      | true => k nx (L.set a (some (.inl (xm_w (x + z))))) st w
      | false => False)
    | _ => False)
  | .aconst_null => k nx L (.inr (.inl none) :: st) w
  | .dup => (match st with
    | .inl x :: r => k nx L (.inl x :: .inl x :: r) w
    | .inr (.inl x) :: r => k nx L (.inr (.inl x) :: .inr (.inl x) :: r) w
    | _ => False)
  | .dup_x1 => (match st with
    | .inl x :: .inr (.inl y) :: r => k nx L (.inl x :: .inr (.inl y) :: .inl x :: r) w
    | .inl x :: .inl y :: r => k nx L (.inl x :: .inl y :: .inl x :: r) w
    | _ => False)
  | .dup2 => (match st with
    | .inl x :: .inr (.inl y) :: r => k nx L (.inl x :: .inr (.inl y) :: .inl x :: .inr (.inl y) :: r) w
    | _ => False)
  | .pop => (match st with
    | .inl _ :: r => k nx L r w
    | _ => False)
  | .iadd => (match st with
    | .inl y :: .inl x :: r => k nx L (.inl (xm_w (x + y)) :: r) w
    | _ => False)
  | .isub => (match st with
    | .inl y :: .inl x :: r => k nx L (.inl (xm_w (x - y)) :: r) w
    | _ => False)
  | .imul => (match st with
    | .inl y :: .inl x :: r => k nx L (.inl (xm_w (x * y)) :: r) w
    | _ => False)
  | .idiv => (match st with
    | .inl y :: .inl x :: r => y ≠ 0 ∧ k nx L (.inl (xm_w (x.tdiv y)) :: r) w
    | _ => False)
  | .irem => (match st with
    | .inl y :: .inl x :: r => y ≠ 0 ∧ k nx L (.inl (x.tmod y) :: r) w
    | _ => False)
  | .ineg => (match st with
    | .inl x :: r => k nx L (.inl (xm_w (-x)) :: r) w
    | _ => False)
  | .iand => (match st with
    | .inl y :: .inl x :: r => k nx L (.inl (xm_and x y) :: r) w
    | _ => False)
  | .ior => (match st with
    | .inl y :: .inl x :: r => k nx L (.inl (xm_or x y) :: r) w
    | _ => False)
  | .ixor => (match st with
    | .inl y :: .inl x :: r => k nx L (.inl (xm_xor x y) :: r) w
    | _ => False)
  | .ishl => (match st with
    | .inl y :: .inl x :: r => k nx L (.inl (xm_shl x y) :: r) w
    | _ => False)
  | .ishr => (match st with
    | .inl y :: .inl x :: r => k nx L (.inl (xm_shr x y) :: r) w
    | _ => False)
  | .iushr => (match st with
    | .inl y :: .inl x :: r => k nx L (.inl (xm_ushr x y) :: r) w
    | _ => False)
  | .i2b => (match st with
    | .inl x :: r => k nx L (.inl (xm_b x) :: r) w
    | _ => False)
  | .i2s => (match st with
    | .inl x :: r => k nx L (.inl (xm_s x) :: r) w
    | _ => False)
  | .i2c => (match st with
    | .inl x :: r => k nx L (.inl (x % 65536) :: r) w
    | _ => False)
  | .i2l => (match st with
    | .inl x :: r => k nx L (.inr (.inr (Int32.ofInt x).toInt64) :: r) w
    | _ => False)
  | .l2i => (match st with
    | .inr (.inr x) :: r => k nx L (.inl x.toInt32.toInt :: r) w
    | _ => False)
  | .land => (match st with
    | .inr (.inr y) :: .inr (.inr x) :: r => k nx L (.inr (.inr (x &&& y)) :: r) w
    | _ => False)
  | .lor => (match st with
    | .inr (.inr y) :: .inr (.inr x) :: r => k nx L (.inr (.inr (x ||| y)) :: r) w
    | _ => False)
  | .lshl => (match st with
    | .inl y :: .inr (.inr x) :: r => k nx L (.inr (.inr (xm_lshl x y)) :: r) w
    | _ => False)
  | .lshr => (match st with
    | .inl y :: .inr (.inr x) :: r => k nx L (.inr (.inr (xm_lshr x y)) :: r) w
    | _ => False)
  | .lushr => (match st with
    | .inl y :: .inr (.inr x) :: r => k nx L (.inr (.inr (xm_lushr x y)) :: r) w
    | _ => False)
  | .ifCond c _ => (match st with
    | .inl x :: r => (match c with
      | .eq => if x = 0 then k a L r w else k nx L r w
      | .ne => if x = 0 then k nx L r w else k a L r w
      | .lt => if x < 0 then k a L r w else k nx L r w
      | .ge => if x < 0 then k nx L r w else k a L r w
      | .gt => if 0 < x then k a L r w else k nx L r w
      | .le => if 0 < x then k nx L r w else k a L r w)
    | _ => False)
  | .if_icmp c _ => (match st with
    | .inl y :: .inl x :: r => (match c with
      | .eq => if x = y then k a L r w else k nx L r w
      | .ne => if x = y then k nx L r w else k a L r w
      | .lt => if x < y then k a L r w else k nx L r w
      | .ge => if x < y then k nx L r w else k a L r w
      | .gt => if y < x then k a L r w else k nx L r w
      | .le => if y < x then k nx L r w else k a L r w)
    | _ => False)
  | .ifnull _ => (match st with
    | .inr (.inl z) :: r => if z = none then k a L r w else k nx L r w
    | _ => False)
  | .ifnonnull _ => (match st with
    | .inr (.inl z) :: r => if z = none then k nx L r w else k a L r w
    | _ => False)
  | .goto _ => k a L st w
  | .tableswitch _ _ _ _ => (match st with
    | .inl x :: r => xm_swP sw a x (fun t => k t L r w)
    | _ => False)
  | .lookupswitch _ _ => (match st with
    | .inl x :: r => xm_swP sw a x (fun t => k t L r w)
    | _ => False)
  | .getfield _ => (match st with
    | .inr (.inl z) :: r => (match xm_fk b a with
      | 2 => xm_O z (fun y => xm_O (xm_fr o w y b a) (fun v => k nx L (.inr (.inl (some v)) :: r) w))
      | _ => xm_O z (fun y => xm_O (xm_fi o w y b a) (fun v => k nx L (.inl v :: r) w)))
    | _ => False)
  | .putfield _ => (match st with
    | v :: .inr (.inl z) :: r => xm_O z (fun y => xm_O (xm_setf w y b a ((xm_kd b).getD a 9) v) (fun w' => k nx L r w'))
    | _ => False)
  | .getstatic _ => (match sta[a]? with
    | some v => k nx L (v :: st) w
    | none => False)
  | .iaload => (match st with
    | .inl i :: .inr (.inl z) :: r => xm_O z (fun y => xm_O (xm_ints o w y) (fun l => xm_O (xm_at l i) (fun x => k nx L (.inl x :: r) w)))
    | _ => False)
  | .baload => (match st with
    | .inl i :: .inr (.inl z) :: r => xm_O z (fun y => (match xm_get o w y with
      | some (.inr (.inr (99, l))) => (match xm_at l i with
        | some (.inl x) => k nx L (.inl x :: r) w
        | _ => False)
      | _ => False))
    | _ => False)
  | .iastore => (match st with
    | .inl x :: .inl i :: .inr (.inl z) :: r => xm_O z (fun y => xm_O (xm_seti w y i x) (fun w' => k nx L r w'))
    | _ => False)
  | .aaload => (match st with
    | .inl i :: .inr (.inl z) :: r => xm_O z (fun y => xm_O (xm_refs o w y) (fun l => xm_O (xm_at l i) (fun x => k nx L (.inr (.inl x) :: r) w)))
    | _ => False)
  | .aastore => (match st with
    | .inr (.inl v) :: .inl i :: .inr (.inl z) :: r => xm_O z (fun y => xm_O (xm_setq w y i v) (fun w' => k nx L r w'))
    | _ => False)
  | .arraylength => (match st with
    | .inr (.inl z) :: r => xm_O z (fun y => (match xm_get o w y with
      | some (.inl l) => l.length < 1000000 ∧ k nx L (.inl (l.length : Int) :: r) w
      | some (.inr (.inr (99, l))) => l.length < 1000000 ∧ k nx L (.inl (l.length : Int) :: r) w
      | _ => False))
    | _ => False)
  | .new _ => k nx L (.inr (.inl (some w.length)) :: st) (w ++ [.inr (.inr (b, (xm_kd b).map xm_dflt))])
  | .newarray _ => (match st with
    | .inl n :: r => (0 ≤ n ∧ n ≤ 1000) ∧ k nx L (.inr (.inl (some w.length)) :: r) (w ++ [.inl (List.replicate n.toNat 0)])
    | _ => False)
  | .anewarray _ => (match st with
    | .inl n :: r => (0 ≤ n ∧ n ≤ 1000) ∧ k nx L (.inr (.inl (some w.length)) :: r) (w ++ [.inr (.inl (b, List.replicate n.toNat none))])
    | _ => False)
  | .invokevirtual _ => xm_inP call nx a b L st w k
  | .invokespecial _ => (match a with
    | 1 => (match st with
      | .inr (.inl (some _)) :: r => (match xm_sh r with
        | false => False
        | true => k nx L r w)
      | _ => False)
    | _ => xm_inP call nx a b L st w k)
  | .invokestatic _ => (match a with
    | 2 => (match st with
      | .inl n :: .inl dp :: .inr (.inl z1) :: .inl sp :: .inr (.inl z0) :: r => (match xm_sh r with
        | false => False
        | true => xm_O z1 (fun k1 => xm_O z0 (fun k0 => xm_O (xm_copy w k0 sp k1 dp n) (fun w' => k nx L r w'))))
      | _ => False)
    | 3 => (match st with
      | .inl y :: .inl x :: r => (match xm_sh r with
        | false => False
        | true => k nx L (.inl (if x < y then y else x) :: r) w)
      | _ => False)
    | 4 => (match st with
      | .inl y :: .inl x :: r => (match xm_sh r with
        | false => False
        | true => k nx L (.inl (if y < x then y else x) :: r) w)
      | _ => False)
    | 5 => (match st with
      | .inl x :: r => (match xm_sh r with
        | false => False
        | true => k nx L (.inl (if 0 ≤ x then x else xm_w (0 - x)) :: r) w)
      | _ => False)
    | 0 => False
    | 1 => False
    | a + 6 => xm_inP call nx (a + 6) b L st w k)
  | .ireturn => (match st with
    | [.inl x] => q = (some (.inl x), w)
    | _ => False)
  | .areturn => (match st with
    | [.inr (.inl x)] => q = (some (.inr (.inl x)), w)
    | _ => False)
  | .return_ => (match st with
    | [] => q = (none, w)
    | _ => False)
  | _ => False
def xm_One (o : xm_W) (sta : List xm_V) (call : Nat → List xm_V → xm_W → xm_R) (e : xm_I) (L : List (Option xm_V)) (st : List xm_V) (w : xm_W) (q : Option xm_V × xm_W) (k : xm_KP) : Prop :=
  (∀ K, xm_step o sta call e L st w K = some q) ∨ ∃ i' L' st' w', k i' L' st' w' ∧ ∀ K, xm_step o sta call e L st w K = K i' L' st' w'
theorem xm_inP_one {call : Nat → List xm_V → xm_W → xm_R} {nx a b : Nat} {L : List (Option xm_V)} {st : List xm_V} {w : xm_W} {k : xm_KP} (h : xm_inP call nx a b L st w k) : ∃ L' st' w', k nx L' st' w' ∧ ∀ K : xm_Kt, (if (st.drop b).length ≤ 4 then (match call a (st.take b).reverse w with
    | some (none, w') => K nx L (st.drop b) w'
    | some (some v, w') => K nx L (v :: st.drop b) w'
    | none => none) else none) = K nx L' st' w' := by
  unfold xm_inP at h
  split at h
  next => cases h
  next hr =>
    have hl : (st.drop b).length ≤ 4 := xm_sh_ok hr
    have key : ∀ (P : Prop), (xm_Oi (call a (st.take b).reverse w) (fun z w' => k nx L (.inl z :: st.drop b) w')) → ∃ L' st' w', k nx L' st' w' ∧ ∀ K : xm_Kt, (if (st.drop b).length ≤ 4 then (match call a (st.take b).reverse w with
        | some (none, w') => K nx L (st.drop b) w'
        | some (some v, w') => K nx L (v :: st.drop b) w'
        | none => none) else none) = K nx L' st' w' := by
      intro _ h
      unfold xm_Oi at h
      split at h
      next z w' hc => exact ⟨_, _, _, h, fun K => by rw [if_pos hl, hc]⟩
      next => cases h
    split at h
    · unfold xm_Ov at h
      split at h
      next w' hc => exact ⟨_, _, _, h, fun K => by rw [if_pos hl, hc]⟩
      next => cases h
    · exact key True h
    · exact key True h
    · exact key True h
    · unfold xm_Oq at h
      split at h
      next z w' hc => exact ⟨_, _, _, h, fun K => by rw [if_pos hl, hc]⟩
      next => cases h
    · cases h
theorem xm_O_is {α : Type} {x : Option α} {k : α → Prop} (h : xm_O x k) : ∃ v, x = some v ∧ k v := by
  cases x with
  | some v => exact ⟨v, rfl, h⟩
  | none => cases h
theorem xm_fi_is {o w : xm_W} {y c a : Nat} {z : Int} (h : xm_fi o w y c a = some z) : xm_fld o w y c a = some (.inl z) := by
  unfold xm_fi at h
  split at h
  next z' hz => cases h; exact hz
  next => cases h
theorem xm_fr_is {o w : xm_W} {y c a z : Nat} (h : xm_fr o w y c a = some z) : xm_fld o w y c a = some (.inr (.inl (some z))) := by
  unfold xm_fr at h
  split at h
  next z' hz => cases h; exact hz
  next => cases h
theorem xm_sp_one {o : xm_W} {sta : List xm_V} {call : Nat → List xm_V → xm_W → xm_R} {e : xm_I} {L : List (Option xm_V)} {st : List xm_V} {w : xm_W} {q : Option xm_V × xm_W} {k : xm_KP} (h : xm_sp o sta call e L st w q k) : xm_One o sta call e L st w q k := by
  obtain ⟨ins, pc, nx, a, b, ps, sw⟩ := e
  cases ins
  case getfield j =>
    simp only [xm_sp] at h
    split at h
    next z r =>
      split at h
      · obtain ⟨y, e1, g1⟩ := xm_O_is h
        subst e1
        obtain ⟨v, hv, g2⟩ := xm_O_is g1
        exact Or.inr ⟨_, _, _, _, g2, fun K => by simp only [xm_step, xm_fr_is hv]⟩
      · obtain ⟨y, e1, g1⟩ := xm_O_is h
        subst e1
        obtain ⟨v, hv, g2⟩ := xm_O_is g1
        exact Or.inr ⟨_, _, _, _, g2, fun K => by simp only [xm_step, xm_fi_is hv]⟩
    next => cases h
  case putfield j =>
    simp only [xm_sp] at h
    split at h
    next v z r =>
      obtain ⟨y, e1, g1⟩ := xm_O_is h
      subst e1
      obtain ⟨v, hv, g2⟩ := xm_O_is g1
      exact Or.inr ⟨_, _, _, _, g2, fun K => by simp only [xm_step, hv]⟩
    next => cases h
  case iaload =>
    simp only [xm_sp] at h
    split at h
    next =>
      obtain ⟨y, e1, g1⟩ := xm_O_is h
      subst e1
      obtain ⟨v, hv, g2⟩ := xm_O_is g1
      obtain ⟨x, hx, g3⟩ := xm_O_is g2
      exact Or.inr ⟨_, _, _, _, g3, fun K => by simp only [xm_step, hv, hx]⟩
    next => cases h
  case aaload =>
    simp only [xm_sp] at h
    split at h
    next =>
      obtain ⟨y, e1, g1⟩ := xm_O_is h
      subst e1
      obtain ⟨v, hv, g2⟩ := xm_O_is g1
      obtain ⟨x, hx, g3⟩ := xm_O_is g2
      exact Or.inr ⟨_, _, _, _, g3, fun K => by simp only [xm_step, hv, hx]⟩
    next => cases h
  case baload =>
    simp only [xm_sp] at h
    split at h
    next =>
      obtain ⟨y, e1, g1⟩ := xm_O_is h
      subst e1
      split at g1
      next lst hg =>
        split at g1
        next x hx => exact Or.inr ⟨_, _, _, _, g1, fun K => by simp only [xm_step, hg, hx]⟩
        next => cases g1
      next => cases g1
    next => cases h
  case iastore =>
    simp only [xm_sp] at h
    split at h
    next =>
      obtain ⟨y, e1, g1⟩ := xm_O_is h
      subst e1
      obtain ⟨v, hv, g2⟩ := xm_O_is g1
      exact Or.inr ⟨_, _, _, _, g2, fun K => by simp only [xm_step, hv]⟩
    next => cases h
  case aastore =>
    simp only [xm_sp] at h
    split at h
    next =>
      obtain ⟨y, e1, g1⟩ := xm_O_is h
      subst e1
      obtain ⟨v, hv, g2⟩ := xm_O_is g1
      exact Or.inr ⟨_, _, _, _, g2, fun K => by simp only [xm_step, hv]⟩
    next => cases h
  case arraylength =>
    simp only [xm_sp] at h
    split at h
    next =>
      obtain ⟨y, e1, g1⟩ := xm_O_is h
      subst e1
      split at g1
      next lst hg => exact Or.inr ⟨_, _, _, _, g1.2, fun K => by simp only [xm_step, hg, if_pos g1.1]⟩
      next lst hg => exact Or.inr ⟨_, _, _, _, g1.2, fun K => by simp only [xm_step, hg, if_pos g1.1]⟩
      next => cases g1
    next => cases h
  case invokevirtual j =>
    simp only [xm_sp] at h
    obtain ⟨L', st', w', h1, h2⟩ := xm_inP_one h
    exact Or.inr ⟨_, _, _, _, h1, fun K => by simp only [xm_step]; exact h2 K⟩
  case invokespecial j =>
    simp only [xm_sp] at h
    split at h
    next =>
      split at h
      next z r =>
        split at h
        next => cases h
        next hr =>
          have hl := xm_sh_ok hr
          exact Or.inr ⟨_, _, _, _, h, fun K => by simp only [xm_step, if_true, if_pos hl]⟩
      next => cases h
    next ha =>
      obtain ⟨L', st', w', h1, h2⟩ := xm_inP_one h
      exact Or.inr ⟨_, _, _, _, h1, fun K => by simp only [xm_step]; rw [if_neg (fun e => ha e)]; exact h2 K⟩
  case invokestatic j =>
    simp only [xm_sp] at h
    split at h
    next =>
      split at h
      next n dp z1 sp z0 r =>
        split at h
        next => cases h
        next hr =>
          have hl := xm_sh_ok hr
          obtain ⟨k1, e1, g1⟩ := xm_O_is h
          subst e1
          obtain ⟨k0, e2, g2⟩ := xm_O_is g1
          subst e2
          obtain ⟨w', hw, g3⟩ := xm_O_is g2
          exact Or.inr ⟨_, _, _, _, g3, fun K => by simp only [xm_step, if_true, if_pos hl, hw]⟩
      next => cases h
    next =>
      split at h
      next =>
        split at h
        next => cases h
        next hr =>
          have hl := xm_sh_ok hr
          refine Or.inr ⟨_, _, _, _, h, fun K => ?_⟩
          simp only [xm_step, xm_mth]
          rw [if_neg (by decide), if_pos (by decide), if_pos (by rw [List.length_cons]; omega)]
      next => cases h
    next =>
      split at h
      next =>
        split at h
        next => cases h
        next hr =>
          have hl := xm_sh_ok hr
          refine Or.inr ⟨_, _, _, _, h, fun K => ?_⟩
          simp only [xm_step, xm_mth]
          rw [if_neg (by decide), if_pos (by decide), if_pos (by rw [List.length_cons]; omega)]
      next => cases h
    next =>
      split at h
      next =>
        split at h
        next => cases h
        next hr =>
          have hl := xm_sh_ok hr
          refine Or.inr ⟨_, _, _, _, h, fun K => ?_⟩
          simp only [xm_step, xm_mth]
          rw [if_neg (by decide), if_pos (by decide), if_pos (by rw [List.length_cons]; omega)]
      next => cases h
    next => cases h
    next => cases h
    next a' =>
      obtain ⟨L', st', w', h1, h2⟩ := xm_inP_one h
      exact Or.inr ⟨_, _, _, _, h1, fun K => by simp only [xm_step]; rw [if_neg (by omega), if_neg (by omega)]; exact h2 K⟩
  case tableswitch x y z u =>
    simp only [xm_sp] at h
    split at h
    next => exact Or.inr ⟨_, _, _, _, xm_swP_ok _ _ _ h, fun K => by simp only [xm_step]⟩
    next => cases h
  case lookupswitch x y =>
    simp only [xm_sp] at h
    split at h
    next => exact Or.inr ⟨_, _, _, _, xm_swP_ok _ _ _ h, fun K => by simp only [xm_step]⟩
    next => cases h
  case idiv =>
    simp only [xm_sp] at h
    split at h
    next => exact Or.inr ⟨_, _, _, _, h.2, fun K => by simp only [xm_step, if_neg h.1]⟩
    next => cases h
  case irem =>
    simp only [xm_sp] at h
    split at h
    next => exact Or.inr ⟨_, _, _, _, h.2, fun K => by simp only [xm_step, if_neg h.1]⟩
    next => cases h
  case newarray t =>
    simp only [xm_sp] at h
    split at h
    next => exact Or.inr ⟨_, _, _, _, h.2, fun K => by simp only [xm_step, if_pos h.1]⟩
    next => cases h
  case anewarray t =>
    simp only [xm_sp] at h
    split at h
    next => exact Or.inr ⟨_, _, _, _, h.2, fun K => by simp only [xm_step, if_pos h.1]⟩
    next => cases h
  case ifnull j =>
    simp only [xm_sp] at h
    split at h
    next z r =>
      cases z with
      | none => exact Or.inr ⟨_, _, _, _, h, fun K => by simp only [xm_step]⟩
      | some y => exact Or.inr ⟨_, _, _, _, h, fun K => by simp only [xm_step]⟩
    next => cases h
  case ifnonnull j =>
    simp only [xm_sp] at h
    split at h
    next z r =>
      cases z with
      | none => exact Or.inr ⟨_, _, _, _, h, fun K => by simp only [xm_step]⟩
      | some y => exact Or.inr ⟨_, _, _, _, h, fun K => by simp only [xm_step]⟩
    next => cases h
  case ireturn =>
    simp only [xm_sp] at h
    split at h
    next => exact Or.inl fun K => by simp only [xm_step, h]
    next => cases h
  case areturn =>
    simp only [xm_sp] at h
    split at h
    next => exact Or.inl fun K => by simp only [xm_step, h]
    next => cases h
  case return_ =>
    simp only [xm_sp] at h
    split at h
    next => exact Or.inl fun K => by simp only [xm_step, h]
    next => cases h
  all_goals (simp only [xm_sp] at h)
  all_goals first
    | (refine Or.inr ⟨_, _, _, _, h, fun K => ?_⟩; simp only [xm_step]; done)
    | (cases h; done)
    | skip
  all_goals (repeat' split at h)
  all_goals first
    | (cases h; done)
    | (refine Or.inr ⟨_, _, _, _, h, fun K => ?_⟩; simp only [xm_step]; done)
    | (refine Or.inr ⟨_, _, _, _, h, fun K => ?_⟩; simp only [xm_step, if_pos (by assumption)]; done)
    | (refine Or.inr ⟨_, _, _, _, h, fun K => ?_⟩; simp only [xm_step]; rw [if_pos (by assumption)]; done)
    | (refine Or.inr ⟨_, _, _, _, h, fun K => ?_⟩; simp only [xm_step]; rw [if_neg (by assumption)]; done)
    | (refine Or.inr ⟨_, _, _, _, h, fun K => ?_⟩; simp only [xm_step, *]; done)
    | (refine Or.inr ⟨_, _, _, _, h, fun K => ?_⟩; simp only [xm_step, *, if_true]; done)
    | (refine Or.inr ⟨_, _, _, _, h, fun K => ?_⟩; simp_all [xm_step]; done)
def xm_P (o : xm_W) (sta : List xm_V) (call : Nat → List xm_V → xm_W → xm_R) (cd : List xm_I) (cut : List Nat) (q : Option xm_V × xm_W) : Nat → xm_KP
  | 0, i, L, st, w => xm_E o sta call cd i L st w q
  | n + 1, i, L, st, w => match cd[i]? with
    | some e => xm_sp o sta call e L st w q (fun i' L' st' w' => match cut.contains i' with
      | true => xm_E o sta call cd i' L' st' w' q
      | false => xm_P o sta call cd cut q n i' L' st' w')
    | none => False
theorem xm_P_E {o : xm_W} {sta : List xm_V} {call : Nat → List xm_V → xm_W → xm_R} {cd : List xm_I} {cut : List Nat} {q : Option xm_V × xm_W} : ∀ (n : Nat) {i : Nat} {L : List (Option xm_V)} {st : List xm_V} {w : xm_W}, xm_P o sta call cd cut q n i L st w → xm_E o sta call cd i L st w q
  | 0, _, _, _, _, h => h
  | n + 1, i, L, st, w, h => by
    unfold xm_P at h
    split at h
    next e he =>
      rcases xm_sp_one h with h1 | ⟨i', L', st', w', h1, h2⟩
      · exact ⟨1, by unfold xm_run; rw [he]; exact h1 _⟩
      · have h3 : xm_E o sta call cd i' L' st' w' q := by
          split at h1
          · exact h1
          · exact xm_P_E n h1
        obtain ⟨m, hm⟩ := h3
        exact ⟨m + 1, by unfold xm_run; rw [he]; exact (h2 _).trans hm⟩
    next => cases h
