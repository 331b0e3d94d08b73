section
/-! THE SMALL MACHINE: the class's and the reference's code as a function over a list of cells; numbers are whole numbers within an int's bounds -/
abbrev xm_V : Type := Int ⊕ (Option Nat) ⊕ Int64
abbrev xm_C : Type := (List Int) ⊕ (Nat × List (Option Nat)) ⊕ (Nat × List xm_V)
abbrev xm_W : Type := List xm_C
/-- an instruction, its place in the bytes, the number of the next one, two numbers of its own, places of words, a switch -/
abbrev xm_I : Type := Instr × Nat × Nat × Nat × Nat × List Nat × List (Int × Nat)
abbrev xm_R : Type := Option (Option xm_V × xm_W)
def xm_w (z : Int) : Int := (z + 2147483648) % 4294967296 - 2147483648
def xm_b (z : Int) : Int := (z + 128) % 256 - 128
def xm_s (z : Int) : Int := (z + 32768) % 65536 - 32768
def xm_and (x y : Int) : Int := (Int32.ofInt x &&& Int32.ofInt y).toInt
def xm_or (x y : Int) : Int := (Int32.ofInt x ||| Int32.ofInt y).toInt
def xm_xor (x y : Int) : Int := (Int32.ofInt x ^^^ Int32.ofInt y).toInt
def xm_shl (x y : Int) : Int := (Int32.ofInt x <<< (Int32.ofInt y &&& 31)).toInt
def xm_shr (x y : Int) : Int := (Int32.ofInt x >>> (Int32.ofInt y &&& 31)).toInt
def xm_ushr (x y : Int) : Int := ((Int32.ofInt x).toUInt32 >>> ((Int32.ofInt y).toUInt32 &&& Int32.toUInt32 31)).toInt32.toInt
def xm_lshl (x : Int64) (y : Int) : Int64 := x <<< ((Int32.ofInt y).toInt64 &&& 63)
def xm_lshr (x : Int64) (y : Int) : Int64 := x >>> ((Int32.ofInt y).toInt64 &&& 63)
def xm_lushr (x : Int64) (y : Int) : Int64 := (x.toUInt64 >>> ((Int32.ofInt y).toInt64.toUInt64 &&& Int64.toUInt64 63)).toInt64
def xm_get (o : xm_W) (w : xm_W) (k : Nat) : Option xm_C := match w[k]? with
  | some x => some x
  | none => if k < 1000000 then none else o[k - 1000000]?
def xm_fld (o w : xm_W) (k c a : Nat) : Option xm_V := match xm_get o w k with
  | some (.inr (.inr (c', fs))) => if c' = c then fs[a]? else none
  | _ => none
def xm_ints (o w : xm_W) (k : Nat) : Option (List Int) := match xm_get o w k with
  | some (.inl l) => some l
  | _ => none
def xm_refs (o w : xm_W) (k : Nat) : Option (List (Option Nat)) := match xm_get o w k with
  | some (.inr (.inl (_, l))) => some l
  | _ => none
def xm_at {α : Type} (l : List α) (i : Int) : Option α := if 0 ≤ i then l[i.toNat]? else none
/-- a value that a field of this kind keeps: 0 an int, 1 a truth, 2 a reference -/
def xm_fit (t : Nat) (v : xm_V) : Bool := match v with
  | .inl z => t == 0 || (t == 1 && (z == 0 || z == 1))
  | .inr (.inl _) => t == 2
  | _ => false
def xm_setf (w : xm_W) (k c a t : Nat) (v : xm_V) : Option xm_W := match w[k]? with
  | some (.inr (.inr (c', fs))) => if c' = c ∧ a < fs.length ∧ xm_fit t v = true then some (w.set k (.inr (.inr (c, fs.set a v)))) else none
  | _ => none
def xm_seti (w : xm_W) (k : Nat) (i x : Int) : Option xm_W := match w[k]? with
  | some (.inl l) => if 0 ≤ i ∧ i < l.length then some (w.set k (.inl (l.set i.toNat x))) else none
  | _ => none
def xm_cls (w : xm_W) (v c : Nat) : Bool := match w[v]? with
  | some (.inr (.inr (c', _))) => c' == c
  | _ => false
def xm_qok (w : xm_W) (t : Nat) (v : Option Nat) : Bool := match v with
  | none => true
  | some v => xm_cls w v t
/-- rows of references of class t hold objects of class t or nothing -/
def xm_setq (w : xm_W) (k : Nat) (i : Int) (v : Option Nat) : Option xm_W := match w[k]? with
  | some (.inr (.inl (t, l))) => if 0 ≤ i ∧ i < l.length ∧ xm_qok w t v = true then some (w.set k (.inr (.inl (t, l.set i.toNat v)))) else none
  | _ => none
def xm_cpy (f g : List Int) (sp dp n : Nat) : List Int := g.take dp ++ ((f.drop sp).take n ++ g.drop (dp + n))
def xm_copy (w : xm_W) (k0 : Nat) (sp : Int) (k1 : Nat) (dp n : Int) : Option xm_W := match w[k0]?, w[k1]? with
  | some (.inl f), some (.inl g) => if 0 ≤ sp ∧ 0 ≤ dp ∧ 0 ≤ n ∧ sp + n ≤ f.length ∧ dp + n ≤ g.length then some (w.set k1 (.inl (xm_cpy f g sp.toNat dp.toNat n.toNat))) else none
  | _, _ => none
/-- Math's max, min, abs by the numbers 3, 4, 5 -/
def xm_mth (a : Nat) (st : List xm_V) : Option (List xm_V) := match a, st with
  | 3, .inl y :: .inl x :: r => some (.inl (if x < y then y else x) :: r)
  | 4, .inl y :: .inl x :: r => some (.inl (if y < x then y else x) :: r)
  | 5, .inl x :: r => some (.inl (if 0 ≤ x then x else xm_w (0 - x)) :: r)
  | _, _ => none
def xm_sw : List (Int × Nat) → Nat → Int → Nat
  | [], d, _ => d
  | (v, t) :: l, d, x => if x = v then t else xm_sw l d x
def xm_dflt (t : Nat) : xm_V := if t = 2 then .inr (.inl none) else .inl 0
abbrev xm_Kt : Type := Nat → List (Option xm_V) → List xm_V → xm_W → xm_R
def xm_nl (L : List (Option xm_V)) (a : Nat) : Bool := match L[a - 1]? with
  | some (some (.inr (.inr _))) => false
  | _ => true
def xm_step (o : xm_W) (sta : List xm_V) (call : Nat → List xm_V → xm_W → xm_R) (e : xm_I) (L : List (Option xm_V)) (st : List xm_V) (w : xm_W) (k : xm_Kt) : xm_R :=
  match e with
  | (ins, _, nx, a, b, _, sw) =>
  match ins with
  | .iconst z => k nx L (.inl z :: st) w
  | .bipush z => k nx L (.inl z :: st) w
  | .sipush z => k nx L (.inl z :: st) w
  | .ldc _ => (match sw with
    | [(z, _)] => k nx L (.inl z :: st) w
    | _ => k nx L (.inr (.inl (some (1000000 + a))) :: st) w)
  | .ldc_w _ => (match sw with
    | [(z, _)] => k nx L (.inl z :: st) w
    | _ => none)
  | .ldc2_w _ => (match sw with
    | [(z, _)] => k nx L (.inr (.inr (Int64.ofInt z)) :: st) w
    | _ => none)
  | .iload _ => (match L[a]? with
    | some (some (.inl x)) => k nx L (.inl x :: st) w
    | _ => none)
  | .iload_n _ => (match L[a]? with
    | some (some (.inl x)) => k nx L (.inl x :: st) w
    | _ => none)
  | .aload _ => (match L[a]? with
    | some (some (.inr (.inl x))) => k nx L (.inr (.inl x) :: st) w
    | _ => none)
  | .aload_n _ => (match L[a]? with
    | some (some (.inr (.inl x))) => k nx L (.inr (.inl x) :: st) w
    | _ => none)
  | .lload_n _ => (match L[a]? with
    | some (some (.inr (.inr x))) => k nx L (.inr (.inr x) :: st) w
    | _ => none)
  | .istore _ => (match st with
    | .inl x :: r => if xm_nl L a = true then k nx (L.set a (some (.inl x))) r w else none
    | _ => none)
  | .istore_n _ => (match st with
    | .inl x :: r => if xm_nl L a = true then k nx (L.set a (some (.inl x))) r w else none
    | _ => none)
  | .astore _ => (match st with
    | .inr (.inl x) :: r => if xm_nl L a = true then k nx (L.set a (some (.inr (.inl x)))) r w else none
    | _ => none)
  | .astore_n _ => (match st with
    | .inr (.inl x) :: r => if xm_nl L a = true then k nx (L.set a (some (.inr (.inl x)))) r w else none
    | _ => none)
  | .iinc _ z => (match L[a]? with
    | some (some (.inl x)) => if xm_nl L a = true then k nx (L.set a (some (.inl (xm_w (x + z))))) st w else none
    | _ => none)
  | .aconst_null => k nx L (.inr (.inl none) :: st) w
  | .dup => (match st with
    | .inl x :: r => k nx L (.inl x :: .inl x :: r) w
    | .inr (.inl x) :: r => k nx L (.inr (.inl x) :: .inr (.inl x) :: r) w
    | _ => none)
  | .dup_x1 => (match st with
    | .inl x :: .inr (.inl y) :: r => k nx L (.inl x :: .inr (.inl y) :: .inl x :: r) w
    | .inl x :: .inl y :: r => k nx L (.inl x :: .inl y :: .inl x :: r) w
    | _ => none)
  | .dup2 => (match st with
    | .inl x :: .inr (.inl y) :: r => k nx L (.inl x :: .inr (.inl y) :: .inl x :: .inr (.inl y) :: r) w
    | _ => none)
  | .pop => (match st with
    | .inl _ :: r => k nx L r w
    | _ => none)
  | .iadd => (match st with
    | .inl y :: .inl x :: r => k nx L (.inl (xm_w (x + y)) :: r) w
    | _ => none)
  | .isub => (match st with
    | .inl y :: .inl x :: r => k nx L (.inl (xm_w (x - y)) :: r) w
    | _ => none)
  | .imul => (match st with
    | .inl y :: .inl x :: r => k nx L (.inl (xm_w (x * y)) :: r) w
    | _ => none)
  | .idiv => (match st with
    | .inl y :: .inl x :: r => if y = 0 then none else k nx L (.inl (xm_w (x.tdiv y)) :: r) w
    | _ => none)
  | .irem => (match st with
    | .inl y :: .inl x :: r => if y = 0 then none else k nx L (.inl (x.tmod y) :: r) w
    | _ => none)
  | .ineg => (match st with
    | .inl x :: r => k nx L (.inl (xm_w (-x)) :: r) w
    | _ => none)
  | .iand => (match st with
    | .inl y :: .inl x :: r => k nx L (.inl (xm_and x y) :: r) w
    | _ => none)
  | .ior => (match st with
    | .inl y :: .inl x :: r => k nx L (.inl (xm_or x y) :: r) w
    | _ => none)
  | .ixor => (match st with
    | .inl y :: .inl x :: r => k nx L (.inl (xm_xor x y) :: r) w
    | _ => none)
  | .ishl => (match st with
    | .inl y :: .inl x :: r => k nx L (.inl (xm_shl x y) :: r) w
    | _ => none)
  | .ishr => (match st with
    | .inl y :: .inl x :: r => k nx L (.inl (xm_shr x y) :: r) w
    | _ => none)
  | .iushr => (match st with
    | .inl y :: .inl x :: r => k nx L (.inl (xm_ushr x y) :: r) w
    | _ => none)
  | .i2b => (match st with
    | .inl x :: r => k nx L (.inl (xm_b x) :: r) w
    | _ => none)
  | .i2s => (match st with
    | .inl x :: r => k nx L (.inl (xm_s x) :: r) w
    | _ => none)
  | .i2c => (match st with
    | .inl x :: r => k nx L (.inl (x % 65536) :: r) w
    | _ => none)
  | .i2l => (match st with
    | .inl x :: r => k nx L (.inr (.inr (Int32.ofInt x).toInt64) :: r) w
    | _ => none)
  | .l2i => (match st with
    | .inr (.inr x) :: r => k nx L (.inl x.toInt32.toInt :: r) w
    | _ => none)
  | .land => (match st with
    | .inr (.inr y) :: .inr (.inr x) :: r => k nx L (.inr (.inr (x &&& y)) :: r) w
    | _ => none)
  | .lor => (match st with
    | .inr (.inr y) :: .inr (.inr x) :: r => k nx L (.inr (.inr (x ||| y)) :: r) w
    | _ => none)
  | .lshl => (match st with
    | .inl y :: .inr (.inr x) :: r => k nx L (.inr (.inr (xm_lshl x y)) :: r) w
    | _ => none)
  | .lshr => (match st with
    | .inl y :: .inr (.inr x) :: r => k nx L (.inr (.inr (xm_lshr x y)) :: r) w
    | _ => none)
  | .lushr => (match st with
    | .inl y :: .inr (.inr x) :: r => k nx L (.inr (.inr (xm_lushr x y)) :: r) w
    | _ => none)
  | .ifCond c _ => (match st with
    | .inl x :: r => (match c with
      | .eq => if x = 0 then k a L r w else k nx L r w
      | .ne => if x = 0 then k nx L r w else k a L r w
      | .lt => if x < 0 then k a L r w else k nx L r w
      | .ge => if x < 0 then k nx L r w else k a L r w
      | .gt => if 0 < x then k a L r w else k nx L r w
      | .le => if 0 < x then k nx L r w else k a L r w)
    | _ => none)
  | .if_icmp c _ => (match st with
    | .inl y :: .inl x :: r => (match c with
      | .eq => if x = y then k a L r w else k nx L r w
      | .ne => if x = y then k nx L r w else k a L r w
      | .lt => if x < y then k a L r w else k nx L r w
      | .ge => if x < y then k nx L r w else k a L r w
      | .gt => if y < x then k a L r w else k nx L r w
      | .le => if y < x then k nx L r w else k a L r w)
    | _ => none)
  | .ifnull _ => (match st with
    | .inr (.inl none) :: r => k a L r w
    | .inr (.inl (some _)) :: r => k nx L r w
    | _ => none)
  | .ifnonnull _ => (match st with
    | .inr (.inl none) :: r => k nx L r w
    | .inr (.inl (some _)) :: r => k a L r w
    | _ => none)
  | .goto _ => k a L st w
  | .tableswitch _ _ _ _ => (match st with
    | .inl x :: r => k (xm_sw sw a x) L r w
    | _ => none)
  | .lookupswitch _ _ => (match st with
    | .inl x :: r => k (xm_sw sw a x) L r w
    | _ => none)
  | .getfield _ => (match st with
    | .inr (.inl (some q)) :: r => (match xm_fld o w q b a with
      | some v => k nx L (v :: r) w
      | none => none)
    | _ => none)
  | .putfield _ => (match st with
    | v :: .inr (.inl (some q)) :: r => (match xm_setf w q b a ((xm_kd b).getD a 9) v with
      | some w' => k nx L r w'
      | none => none)
    | _ => none)
  | .getstatic _ => (match sta[a]? with
    | some v => k nx L (v :: st) w
    | none => none)
  | .iaload => (match st with
    | .inl i :: .inr (.inl (some q)) :: r => (match xm_ints o w q with
      | some l => (match xm_at l i with
        | some x => k nx L (.inl x :: r) w
        | none => none)
      | none => none)
    | _ => none)
  | .baload => (match st with
    | .inl i :: .inr (.inl (some q)) :: r => (match xm_get o w q with
      | some (.inr (.inr (99, l))) => (match xm_at l i with
        | some (.inl x) => k nx L (.inl x :: r) w
        | _ => none)
      | _ => none)
    | _ => none)
  | .iastore => (match st with
    | .inl x :: .inl i :: .inr (.inl (some q)) :: r => (match xm_seti w q i x with
      | some w' => k nx L r w'
      | none => none)
    | _ => none)
  | .aaload => (match st with
    | .inl i :: .inr (.inl (some q)) :: r => (match xm_refs o w q with
      | some l => (match xm_at l i with
        | some x => k nx L (.inr (.inl x) :: r) w
        | none => none)
      | none => none)
    | _ => none)
  | .aastore => (match st with
    | .inr (.inl v) :: .inl i :: .inr (.inl (some q)) :: r => (match xm_setq w q i v with
      | some w' => k nx L r w'
      | none => none)
    | _ => none)
  | .arraylength => (match st with
    | .inr (.inl (some q)) :: r => (match xm_get o w q with
      | some (.inl l) => if l.length < 1000000 then k nx L (.inl (l.length : Int) :: r) w else none
      | some (.inr (.inr (99, l))) => if l.length < 1000000 then k nx L (.inl (l.length : Int) :: r) w else none
      | _ => none)
    | _ => none)
  | .new _ => k nx L (.inr (.inl (some w.length)) :: st) (w ++ [.inr (.inr (b, (xm_kd b).map xm_dflt))])
  | .newarray _ => (match st with
    | .inl n :: r => if 0 ≤ n ∧ n ≤ 1000 then k nx L (.inr (.inl (some w.length)) :: r) (w ++ [.inl (List.replicate n.toNat 0)]) else none
    | _ => none)
  | .anewarray _ => (match st with
    | .inl n :: r => if 0 ≤ n ∧ n ≤ 1000 then k nx L (.inr (.inl (some w.length)) :: r) (w ++ [.inr (.inl (b, List.replicate n.toNat none))]) else none
    | _ => none)
  | .invokevirtual _ => if (st.drop b).length ≤ 4 then (match call a (st.take b).reverse w with
    | some (none, w') => k nx L (st.drop b) w'
    | some (some v, w') => k nx L (v :: st.drop b) w'
    | none => none) else none
  | .invokespecial _ => if a = 1 then (match st with
      | .inr (.inl (some _)) :: r => if r.length ≤ 4 then k nx L r w else none
      | _ => none)
    else if (st.drop b).length ≤ 4 then (match call a (st.take b).reverse w with
    | some (none, w') => k nx L (st.drop b) w'
    | some (some v, w') => k nx L (v :: st.drop b) w'
    | none => none) else none
  | .invokestatic _ => if a = 2 then (match st with
      | .inl n :: .inl dp :: .inr (.inl (some k1)) :: .inl sp :: .inr (.inl (some k0)) :: r => if r.length ≤ 4 then (match xm_copy w k0 sp k1 dp n with
        | some w' => k nx L r w'
        | none => none) else none
      | _ => none)
    else if a < 6 then (match xm_mth a st with
      | some r => if r.length ≤ 5 then k nx L r w else none
      | none => none)
    else if (st.drop b).length ≤ 4 then (match call a (st.take b).reverse w with
    | some (none, w') => k nx L (st.drop b) w'
    | some (some v, w') => k nx L (v :: st.drop b) w'
    | none => none) else none
  | .ireturn => (match st with
    | [.inl x] => some (some (.inl x), w)
    | _ => none)
  | .areturn => (match st with
    | [.inr (.inl x)] => some (some (.inr (.inl x)), w)
    | _ => none)
  | .return_ => (match st with
    | [] => some (none, w)
    | _ => none)
  | _ => none
def xm_run (o : xm_W) (sta : List xm_V) (call : Nat → List xm_V → xm_W → xm_R) (cd : List xm_I) : Nat → xm_Kt
  | 0, _, _, _, _ => none
  | n + 1, i, L, st, w => match cd[i]? with
    | some e => xm_step o sta call e L st w (xm_run o sta call cd n)
    | none => none
end
section
theorem xm_w_bmod (z : Int) : z.bmod 4294967296 = xm_w z := by
  unfold xm_w Int.bmod
  simp only []
  have h : ((4294967296 : Nat) : Int) = 4294967296 := rfl
  rw [h]
  by_cases q : z % 4294967296 < (4294967296 + 1) / 2
  · rw [if_pos q]; omega
  · rw [if_neg q]; omega
theorem xm_w_id {z : Int} (h1 : -2147483648 ≤ z) (h2 : z < 2147483648) : xm_w z = z := by unfold xm_w; omega
theorem xm_w_lo (z : Int) : -2147483648 ≤ xm_w z := by unfold xm_w; omega
theorem xm_w_hi (z : Int) : xm_w z < 2147483648 := by unfold xm_w; omega
def xm_ok (v : xm_V) : Prop := match v with
  | .inl z => -2147483648 ≤ z ∧ z < 2147483648
  | _ => True
theorem xm_ti (z : Int) : (Int32.ofInt z).toInt = xm_w z := by
  rw [← xm_w_bmod]; exact Int32.toInt_ofInt
theorem xm_tic {z : Int} (h : xm_ok (.inl z)) : (Int32.ofInt z).toInt = z := by
  rw [xm_ti]; exact xm_w_id h.1 h.2
theorem xm_of {x : Int32} {z : Int} (h : x.toInt = z) : x = Int32.ofInt z := by
  rw [← h]; exact (Int32.ofInt_toInt x).symm
theorem xm_ofw {x : Int32} {z : Int} (h : x.toInt = xm_w z) : x = Int32.ofInt (xm_w z) := xm_of h
theorem xm_ow (z : Int) : Int32.ofInt (xm_w z) = Int32.ofInt z := (xm_ofw (xm_ti z)).symm
theorem xm_okw (z : Int) : xm_ok (.inl (xm_w z)) := ⟨xm_w_lo z, xm_w_hi z⟩
theorem xm_okt (x : Int32) : xm_ok (.inl x.toInt) := ⟨by have := Int32.le_toInt x; simpa using this, by have := Int32.toInt_lt x; simpa using this⟩
theorem xm_ww (z : Int) : xm_w (xm_w z) = xm_w z := xm_w_id (xm_w_lo z) (xm_w_hi z)
theorem xm_add {x y : Int} (hx : xm_ok (.inl x)) (hy : xm_ok (.inl y)) : Int32.ofInt x + Int32.ofInt y = Int32.ofInt (xm_w (x + y)) := by
  apply xm_of
  rw [Int32.toInt_add, xm_tic hx, xm_tic hy]
  exact xm_w_bmod _
theorem xm_sub {x y : Int} (hx : xm_ok (.inl x)) (hy : xm_ok (.inl y)) : Int32.ofInt x - Int32.ofInt y = Int32.ofInt (xm_w (x - y)) := by
  apply xm_of
  rw [Int32.toInt_sub, xm_tic hx, xm_tic hy]
  exact xm_w_bmod _
theorem xm_mul {x y : Int} (hx : xm_ok (.inl x)) (hy : xm_ok (.inl y)) : Int32.ofInt x * Int32.ofInt y = Int32.ofInt (xm_w (x * y)) := by
  apply xm_of
  rw [Int32.toInt_mul, xm_tic hx, xm_tic hy]
  exact xm_w_bmod _
theorem xm_neg {x : Int} (hx : xm_ok (.inl x)) : - Int32.ofInt x = Int32.ofInt (xm_w (-x)) := by
  apply xm_of
  rw [Int32.toInt_neg, xm_tic hx]
  exact xm_w_bmod _
theorem xm_div {x y : Int} (hx : xm_ok (.inl x)) (hy : xm_ok (.inl y)) : Int32.ofInt x / Int32.ofInt y = Int32.ofInt (xm_w (x.tdiv y)) := by
  apply xm_of
  rw [Int32.toInt_div, xm_tic hx, xm_tic hy]
  exact xm_w_bmod _
theorem xm_mod {x y : Int} (hx : xm_ok (.inl x)) (hy : xm_ok (.inl y)) : Int32.ofInt x - Int32.ofInt x / Int32.ofInt y * Int32.ofInt y = Int32.ofInt (x.tmod y) := by
  rw [xm_div hx hy, xm_ow]
  rw [← Int32.ofInt_mul, ← Int32.ofInt_sub]
  congr 1
  have := Int.tmod_add_tdiv_mul x y
  have h2 := Int.mul_comm y (x.tdiv y)
  omega
theorem xm_eq0 {x : Int} (hx : xm_ok (.inl x)) : Int32.ofInt x = 0 ↔ x = 0 := by
  rw [← Int32.toInt_inj, xm_tic hx]; simp
theorem xm_lt0 {x : Int} (hx : xm_ok (.inl x)) : Int32.ofInt x < 0 ↔ x < 0 := by
  rw [Int32.lt_iff_toInt_lt, xm_tic hx]; simp
theorem xm_0lt {x : Int} (hx : xm_ok (.inl x)) : 0 < Int32.ofInt x ↔ 0 < x := by
  rw [Int32.lt_iff_toInt_lt, xm_tic hx]; simp
theorem xm_0le {x : Int} (hx : xm_ok (.inl x)) : 0 ≤ Int32.ofInt x ↔ 0 ≤ x := by
  rw [Int32.le_iff_toInt_le, xm_tic hx]; simp
theorem xm_le0 {x : Int} (hx : xm_ok (.inl x)) : Int32.ofInt x ≤ 0 ↔ x ≤ 0 := by
  rw [Int32.le_iff_toInt_le, xm_tic hx]; simp
theorem xm_eq {x y : Int} (hx : xm_ok (.inl x)) (hy : xm_ok (.inl y)) : Int32.ofInt x = Int32.ofInt y ↔ x = y := by
  rw [← Int32.toInt_inj, xm_tic hx, xm_tic hy]
theorem xm_lt {x y : Int} (hx : xm_ok (.inl x)) (hy : xm_ok (.inl y)) : Int32.ofInt x < Int32.ofInt y ↔ x < y := by
  rw [Int32.lt_iff_toInt_lt, xm_tic hx, xm_tic hy]
theorem xm_le {x y : Int} (hx : xm_ok (.inl x)) (hy : xm_ok (.inl y)) : Int32.ofInt x ≤ Int32.ofInt y ↔ x ≤ y := by
  rw [Int32.le_iff_toInt_le, xm_tic hx, xm_tic hy]
theorem xm_clamp {x : Int} (hx : xm_ok (.inl x)) : (Int32.ofInt x).toNatClampNeg = x.toNat := by
  show (Int32.ofInt x).toInt.toNat = _
  rw [xm_tic hx]
theorem xm_i2b {x : Int} : (Int32.ofInt x).toInt8.toInt32 = Int32.ofInt (xm_b x) := by
  apply xm_of
  rw [Int8.toInt_toInt32, Int32.toInt_toInt8, xm_ti]
  unfold xm_w xm_b Int.bmod
  simp only [Nat.reducePow]
  have h : ((256 : Nat) : Int) = 256 := rfl
  rw [h]
  generalize hy : (x + 2147483648) % 4294967296 - 2147483648 = y
  by_cases q : y % 256 < (256 + 1) / 2
  · rw [if_pos q]; omega
  · rw [if_neg q]; omega
theorem xm_i2s {x : Int} : (Int32.ofInt x).toInt16.toInt32 = Int32.ofInt (xm_s x) := by
  apply xm_of
  rw [Int16.toInt_toInt32, Int32.toInt_toInt16, xm_ti]
  unfold xm_w xm_s Int.bmod
  simp only [Nat.reducePow]
  have h : ((65536 : Nat) : Int) = 65536 := rfl
  rw [h]
  generalize hy : (x + 2147483648) % 4294967296 - 2147483648 = y
  by_cases q : y % 65536 < (65536 + 1) / 2
  · rw [if_pos q]; omega
  · rw [if_neg q]; omega
theorem xm_okb (x : Int) : xm_ok (.inl (xm_b x)) := by unfold xm_ok xm_b; exact ⟨by omega, by omega⟩
theorem xm_oks (x : Int) : xm_ok (.inl (xm_s x)) := by unfold xm_ok xm_s; exact ⟨by omega, by omega⟩
theorem xm_i2c {x : Int} (hx : xm_ok (.inl x)) : ((Int32.ofInt x).toUInt32 % 65536).toInt32 = Int32.ofInt (x % 65536) := by
  apply xm_of
  rw [pk_char, nI_toInt (by have := Nat.mod_lt (Int32.ofInt x).toBitVec.toNat (show 0 < 65536 by decide); simp only [Nat.reducePow]; omega)]
  have h := xm_tic hx
  have h2 : (Int32.ofInt x).toInt = (Int32.ofInt x).toBitVec.toInt := rfl
  rw [h2, BitVec.toInt_eq_toNat_cond] at h
  simp only [Nat.reducePow] at h ⊢
  have h3 := (Int32.ofInt x).toBitVec.isLt
  split at h <;> omega
end
section
abbrev xm_G : Type := va_G × (Nat → ClassId) × Nat × (Nat → Nat)
def xm_ad (G : xm_G) (k : Nat) : Nat := if k < 1000000 then G.2.2.1 + k else G.2.2.2 (k - 1000000)
def xm_v (G : xm_G) (v : xm_V) : Value := match v with
  | .inl z => .int (Int32.ofInt z)
  | .inr (.inl none) => .null
  | .inr (.inl (some k)) => .ref (xm_ad G k)
  | .inr (.inr x) => .long x
def xm_e (G : xm_G) (x : xm_C) : va_E := match x with
  | .inl l => .inl (G.2.1 0, l.length, .inl (fun j => Int32.ofInt (l.getD j 0)))
  | .inr (.inl (t, l)) => .inl (G.2.1 t, l.length, .inr (.inr (.inr (.inr (fun j => (l.getD j none).map (xm_ad G))))))
  | .inr (.inr (c, fs)) => .inr (c, fs.map (xm_v G))
def xm_A (G : xm_G) : Nat → Prop := fun q => G.2.2.1 ≤ q
def xm_okC (x : xm_C) : Prop := match x with
  | .inl l => ∀ z ∈ l, xm_ok (.inl z)
  | .inr (.inl (t, l)) => (t = 4 ∨ t = 5 ∨ t = 7) ∧ ∀ v, some v ∈ l → v < 1000000
  | .inr (.inr (c, fs)) => fs.length = (xm_kd c).length ∧ c < 10 ∧ ∀ v ∈ fs, xm_ok v
def xm_Rep (G : xm_G) (w : xm_W) (H : Heap) : Prop := H.size = G.2.2.1 + w.length ∧ w.length < 1000000 ∧ ∀ (k : Nat) (x : xm_C), w[k]? = some x → va_at G.1 xm_cl (G.2.2.1 + k, xm_e G x) H ∧ xm_okC x
def xm_szC (x : xm_C) : Nat := match x with
  | .inl l => l.length
  | .inr (.inl (_, l)) => l.length
  | .inr (.inr (_, fs)) => fs.length
def xm_sz (w : xm_W) : Nat := (w.map xm_szC).sum
def xm_gr (w w' : xm_W) : Prop := w.length ≤ w'.length ∧ xm_sz w ≤ xm_sz w'
theorem xm_gr_rf (w : xm_W) : xm_gr w w := ⟨Nat.le_refl _, Nat.le_refl _⟩
theorem xm_gr_tr {a b c : xm_W} (h : xm_gr a b) (h2 : xm_gr b c) : xm_gr a c := ⟨Nat.le_trans h.1 h2.1, Nat.le_trans h.2 h2.2⟩
def xm_lv (G : xm_G) (L : List (Option xm_V)) : List (Nat × Value) := (List.range L.length).filterMap (fun i => match L[i]? with
  | some (some v) => some (i, xm_v G v)
  | _ => none)
theorem xm_lv_in {G : xm_G} {L : List (Option xm_V)} {i : Nat} {x : Value} : (i, x) ∈ xm_lv G L ↔ ∃ v, L[i]? = some (some v) ∧ x = xm_v G v := by
  unfold xm_lv
  rw [List.mem_filterMap]
  constructor
  · rintro ⟨j, hj, h⟩
    split at h
    next v hv =>
      cases h
      exact ⟨v, hv, rfl⟩
    next => cases h
  · rintro ⟨v, hv, rfl⟩
    exact ⟨i, List.mem_range.mpr (List.getElem?_eq_some_iff.mp hv).1, by rw [hv]⟩
theorem lv_mono {ls : Array Slot} {n : Nat} {l l' : List (Nat × Value)} (h : lv_has ls n l) (hs : ∀ q ∈ l', q ∈ l) : lv_has ls n l' := ⟨h.1, h.2.1, fun q hq => h.2.2 q (hs q hq)⟩
theorem xm_lv_set {G : xm_G} {ls : Array Slot} {n a : Nat} {L : List (Option xm_V)} {v : xm_V} (h : lv_has ls n ((a, xm_v G v) :: (xm_lv G L).filter (fun q => !(q.1 == a) && !(q.1 + 1 == a && q.2.category == 2)))) (hnl : xm_nl L a = true) : lv_has ls n (xm_lv G (L.set a (some v))) := by
  refine lv_mono h fun q hq => ?_
  obtain ⟨j, x⟩ := q
  obtain ⟨u, hu, rfl⟩ := xm_lv_in.mp hq
  rw [List.getElem?_set] at hu
  by_cases hj : a = j
  · subst hj
    rw [if_pos rfl] at hu
    split at hu
    next => cases hu; exact List.mem_cons_self
    next => cases hu
  · rw [if_neg hj] at hu
    refine List.mem_cons_of_mem _ (List.mem_filter.mpr ⟨xm_lv_in.mpr ⟨u, hu, rfl⟩, ?_⟩)
    have h1 : (j == a) = false := by simpa using fun e => hj e.symm
    rw [h1]
    by_cases h2 : j + 1 = a
    · have h3 : a - 1 = j := by omega
      unfold xm_nl at hnl
      rw [h3, hu] at hnl
      match u, hnl with
      | .inl _, _ => simp [xm_v, Value.category]
      | .inr (.inl none), _ => simp [xm_v, Value.category]
      | .inr (.inl (some _)), _ => simp [xm_v, Value.category]
    · have h3 : (j + 1 == a) = false := by simpa using h2
      rw [h3]; rfl
def xm_nest (w : Cond) : Bool := match w with
  | .fieldLinkNest .. => true
  | .methodLinkNest .. => true
  | _ => false
abbrev xm_tys (G : xm_G) : List (ClassId × FieldType) := [(G.2.1 0, .int), (G.2.1 4, .object "ShodBackwards$Rider"), (G.2.1 5, .object "ShodBackwards$Sheet"), (G.2.1 7, .object "ShodBackwards$Text")]
def xm_ints1 (U : State) (H : Heap) (a : Nat) (ty : FieldType) (l : List Int) : Prop := ∃ cell : Cell, H[a]? = some cell ∧ U.isArrayOf cell ty ∧ cell.vm ≠ .unknown ∧ l.length ≤ cell.slots.size ∧ cell.slots.size.toInt32 = Int32.ofNat l.length ∧ ∀ (j : Nat) (z : Int), l[j]? = some z → cell.slots[j]? = some (.int (Int32.ofInt z))
/-- cells that were there before, and that nobody writes -/
def xm_o1 (G : xm_G) (U : State) (H : Heap) (a : Nat) (x : xm_C) : Prop := a < H.size ∧ ¬ xm_A G a ∧ match x with
  | .inl l => xm_ints1 U H a .int l ∧ ∀ z ∈ l, xm_ok (.inl z)
  | .inr (.inr (99, l)) => ∃ l', l = l'.map Sum.inl ∧ xm_ints1 U H a .byte l' ∧ ∀ z ∈ l', xm_ok (.inl z)
  | .inr (.inr (98, [v, u])) => va_OF "java/lang/String" "value" "[B" (xm_v G v) a (xm_A G) U H ∧ va_OF "java/lang/String" "coder" "B" (xm_v G u) a (xm_A G) U H ∧ xm_ok v ∧ xm_ok u ∧ ∃ cell : Cell, H[a]? = some cell ∧ cell.vm.isStatics = false ∧ U.vm.findClass "java/lang/String" = some cell.cls
  | _ => False
/-- what is known of a state's tables, statics and old cells -/
def xm_Kn (G : xm_G) (o : xm_W) (sta : List xm_V) (sts : List (String × String × String)) (str : List (String × Nat × String)) (U : State) (H : Heap) : Prop :=
  (∀ w ∈ lw_tbl, xm_nest w = true → va_Nw w U) ∧ va_K G.1 xm_cl (xm_tys G) U ∧ (va_AO "ShodBackwards$Rider" U ∧ va_AO "ShodBackwards$Sheet" U ∧ va_AO "ShodBackwards$Text" U) ∧
  (∀ (i : Nat) (q : String × String × String), sts[i]? = some q → ∃ v, sta[i]? = some v ∧ xm_ok v ∧ va_Z q.1 q.2.1 q.2.2 (xm_v G v) (xm_A G) U H) ∧
  (∀ (i : Nat) (q : String × Nat × String), str[i]? = some q → vk_R q.1 q.2.1 q.2.2 (G.2.2.2 (i + 2)) U) ∧
  ∀ (k : Nat) (x : xm_C), o[k]? = some x → xm_o1 G U H (G.2.2.2 k) x
end
section
/-- a method: its name, bytes, locals, return type, kind of answer (0 none, 1 an int, 2 a truth, 3 a reference), how many values it takes, 1 and its receiver's class (0: none), its instructions -/
abbrev xm_M : Type := MethodName × ByteArray × Nat × Option FieldType × Nat × Nat × Nat × List xm_I
def xm_pc (cd : List xm_I) (i : Nat) : Option Nat := (cd[i]?).map (fun e => e.2.1)
/-- instructions in pieces of 64 -/
def xm_s0 (cd : List xm_I) : List xm_I := cd
def xm_s1 (cd : List xm_I) : List xm_I := (xm_s0 cd).drop 64
def xm_s2 (cd : List xm_I) : List xm_I := (xm_s1 cd).drop 64
def xm_s3 (cd : List xm_I) : List xm_I := (xm_s2 cd).drop 64
def xm_s4 (cd : List xm_I) : List xm_I := (xm_s3 cd).drop 64
def xm_s5 (cd : List xm_I) : List xm_I := (xm_s4 cd).drop 64
def xm_s6 (cd : List xm_I) : List xm_I := (xm_s5 cd).drop 64
def xm_s7 (cd : List xm_I) : List xm_I := (xm_s6 cd).drop 64
def xm_s8 (cd : List xm_I) : List xm_I := (xm_s7 cd).drop 64
def xm_s9 (cd : List xm_I) : List xm_I := (xm_s8 cd).drop 64
def xm_s10 (cd : List xm_I) : List xm_I := (xm_s9 cd).drop 64
def xm_s11 (cd : List xm_I) : List xm_I := (xm_s10 cd).drop 64
def xm_s12 (cd : List xm_I) : List xm_I := (xm_s11 cd).drop 64
def xm_s13 (cd : List xm_I) : List xm_I := (xm_s12 cd).drop 64
def xm_s14 (cd : List xm_I) : List xm_I := (xm_s13 cd).drop 64
def xm_s15 (cd : List xm_I) : List xm_I := (xm_s14 cd).drop 64
def xm_s16 (cd : List xm_I) : List xm_I := (xm_s15 cd).drop 64
def xm_s17 (cd : List xm_I) : List xm_I := (xm_s16 cd).drop 64
def xm_s18 (cd : List xm_I) : List xm_I := (xm_s17 cd).drop 64
def xm_s19 (cd : List xm_I) : List xm_I := (xm_s18 cd).drop 64
def xm_s20 (cd : List xm_I) : List xm_I := (xm_s19 cd).drop 64
def xm_s21 (cd : List xm_I) : List xm_I := (xm_s20 cd).drop 64
def xm_s22 (cd : List xm_I) : List xm_I := (xm_s21 cd).drop 64
def xm_s23 (cd : List xm_I) : List xm_I := (xm_s22 cd).drop 64
def xm_sq (cd : List xm_I) (q : Nat) : List xm_I := (bif Nat.ble 12 q then (bif Nat.ble 18 q then (bif Nat.ble 21 q then (bif Nat.ble 22 q then (bif Nat.ble 23 q then xm_s23 cd else xm_s22 cd) else xm_s21 cd) else (bif Nat.ble 19 q then (bif Nat.ble 20 q then xm_s20 cd else xm_s19 cd) else xm_s18 cd)) else (bif Nat.ble 15 q then (bif Nat.ble 16 q then (bif Nat.ble 17 q then xm_s17 cd else xm_s16 cd) else xm_s15 cd) else (bif Nat.ble 13 q then (bif Nat.ble 14 q then xm_s14 cd else xm_s13 cd) else xm_s12 cd))) else (bif Nat.ble 6 q then (bif Nat.ble 9 q then (bif Nat.ble 10 q then (bif Nat.ble 11 q then xm_s11 cd else xm_s10 cd) else xm_s9 cd) else (bif Nat.ble 7 q then (bif Nat.ble 8 q then xm_s8 cd else xm_s7 cd) else xm_s6 cd)) else (bif Nat.ble 3 q then (bif Nat.ble 4 q then (bif Nat.ble 5 q then xm_s5 cd else xm_s4 cd) else xm_s3 cd) else (bif Nat.ble 1 q then (bif Nat.ble 2 q then xm_s2 cd else xm_s1 cd) else xm_s0 cd))))
theorem xm_se0 {cd : List xm_I} : xm_s0 cd = cd.drop (64 * 0) := rfl
theorem xm_se1 {cd : List xm_I} : xm_s1 cd = cd.drop (64 * 1) := by
  unfold xm_s1; rw [xm_se0, List.drop_drop]
theorem xm_se2 {cd : List xm_I} : xm_s2 cd = cd.drop (64 * 2) := by
  unfold xm_s2; rw [xm_se1, List.drop_drop]
theorem xm_se3 {cd : List xm_I} : xm_s3 cd = cd.drop (64 * 3) := by
  unfold xm_s3; rw [xm_se2, List.drop_drop]
theorem xm_se4 {cd : List xm_I} : xm_s4 cd = cd.drop (64 * 4) := by
  unfold xm_s4; rw [xm_se3, List.drop_drop]
theorem xm_se5 {cd : List xm_I} : xm_s5 cd = cd.drop (64 * 5) := by
  unfold xm_s5; rw [xm_se4, List.drop_drop]
theorem xm_se6 {cd : List xm_I} : xm_s6 cd = cd.drop (64 * 6) := by
  unfold xm_s6; rw [xm_se5, List.drop_drop]
theorem xm_se7 {cd : List xm_I} : xm_s7 cd = cd.drop (64 * 7) := by
  unfold xm_s7; rw [xm_se6, List.drop_drop]
theorem xm_se8 {cd : List xm_I} : xm_s8 cd = cd.drop (64 * 8) := by
  unfold xm_s8; rw [xm_se7, List.drop_drop]
theorem xm_se9 {cd : List xm_I} : xm_s9 cd = cd.drop (64 * 9) := by
  unfold xm_s9; rw [xm_se8, List.drop_drop]
theorem xm_se10 {cd : List xm_I} : xm_s10 cd = cd.drop (64 * 10) := by
  unfold xm_s10; rw [xm_se9, List.drop_drop]
theorem xm_se11 {cd : List xm_I} : xm_s11 cd = cd.drop (64 * 11) := by
  unfold xm_s11; rw [xm_se10, List.drop_drop]
theorem xm_se12 {cd : List xm_I} : xm_s12 cd = cd.drop (64 * 12) := by
  unfold xm_s12; rw [xm_se11, List.drop_drop]
theorem xm_se13 {cd : List xm_I} : xm_s13 cd = cd.drop (64 * 13) := by
  unfold xm_s13; rw [xm_se12, List.drop_drop]
theorem xm_se14 {cd : List xm_I} : xm_s14 cd = cd.drop (64 * 14) := by
  unfold xm_s14; rw [xm_se13, List.drop_drop]
theorem xm_se15 {cd : List xm_I} : xm_s15 cd = cd.drop (64 * 15) := by
  unfold xm_s15; rw [xm_se14, List.drop_drop]
theorem xm_se16 {cd : List xm_I} : xm_s16 cd = cd.drop (64 * 16) := by
  unfold xm_s16; rw [xm_se15, List.drop_drop]
theorem xm_se17 {cd : List xm_I} : xm_s17 cd = cd.drop (64 * 17) := by
  unfold xm_s17; rw [xm_se16, List.drop_drop]
theorem xm_se18 {cd : List xm_I} : xm_s18 cd = cd.drop (64 * 18) := by
  unfold xm_s18; rw [xm_se17, List.drop_drop]
theorem xm_se19 {cd : List xm_I} : xm_s19 cd = cd.drop (64 * 19) := by
  unfold xm_s19; rw [xm_se18, List.drop_drop]
theorem xm_se20 {cd : List xm_I} : xm_s20 cd = cd.drop (64 * 20) := by
  unfold xm_s20; rw [xm_se19, List.drop_drop]
theorem xm_se21 {cd : List xm_I} : xm_s21 cd = cd.drop (64 * 21) := by
  unfold xm_s21; rw [xm_se20, List.drop_drop]
theorem xm_se22 {cd : List xm_I} : xm_s22 cd = cd.drop (64 * 22) := by
  unfold xm_s22; rw [xm_se21, List.drop_drop]
theorem xm_se23 {cd : List xm_I} : xm_s23 cd = cd.drop (64 * 23) := by
  unfold xm_s23; rw [xm_se22, List.drop_drop]
theorem xm_bq {b : Bool} {x y z : List xm_I} (hx : b = true → x = z) (hy : b = false → y = z) : (bif b then x else y) = z := by
  cases b
  · exact hy rfl
  · exact hx rfl
theorem xm_bl {a q : Nat} (h : Nat.ble a q = false) : q < a := by
  rcases Nat.lt_or_ge q a with g | g
  · exact g
  · rw [Nat.ble_eq_true_of_le g] at h; cases h
theorem xm_bk {cd x : List xm_I} {q k : Nat} (h1 : k ≤ q) (h2 : q < k + 1) (e : x = cd.drop (64 * k)) : x = cd.drop (64 * q) := by
  rw [show q = k by omega]; exact e
theorem xm_sq_eq {cd : List xm_I} (q : Nat) (h : q < 24) : xm_sq cd q = cd.drop (64 * q) := (xm_bq (fun h12 => (xm_bq (fun h18 => (xm_bq (fun h21 => (xm_bq (fun h22 => (xm_bq (fun h23 => (xm_bk (Nat.le_of_ble_eq_true h23) h xm_se23)) (fun g23 => (xm_bk (Nat.le_of_ble_eq_true h22) (xm_bl g23) xm_se22)))) (fun g22 => (xm_bk (Nat.le_of_ble_eq_true h21) (xm_bl g22) xm_se21)))) (fun g21 => (xm_bq (fun h19 => (xm_bq (fun h20 => (xm_bk (Nat.le_of_ble_eq_true h20) (xm_bl g21) xm_se20)) (fun g20 => (xm_bk (Nat.le_of_ble_eq_true h19) (xm_bl g20) xm_se19)))) (fun g19 => (xm_bk (Nat.le_of_ble_eq_true h18) (xm_bl g19) xm_se18)))))) (fun g18 => (xm_bq (fun h15 => (xm_bq (fun h16 => (xm_bq (fun h17 => (xm_bk (Nat.le_of_ble_eq_true h17) (xm_bl g18) xm_se17)) (fun g17 => (xm_bk (Nat.le_of_ble_eq_true h16) (xm_bl g17) xm_se16)))) (fun g16 => (xm_bk (Nat.le_of_ble_eq_true h15) (xm_bl g16) xm_se15)))) (fun g15 => (xm_bq (fun h13 => (xm_bq (fun h14 => (xm_bk (Nat.le_of_ble_eq_true h14) (xm_bl g15) xm_se14)) (fun g14 => (xm_bk (Nat.le_of_ble_eq_true h13) (xm_bl g14) xm_se13)))) (fun g13 => (xm_bk (Nat.le_of_ble_eq_true h12) (xm_bl g13) xm_se12)))))))) (fun g12 => (xm_bq (fun h6 => (xm_bq (fun h9 => (xm_bq (fun h10 => (xm_bq (fun h11 => (xm_bk (Nat.le_of_ble_eq_true h11) (xm_bl g12) xm_se11)) (fun g11 => (xm_bk (Nat.le_of_ble_eq_true h10) (xm_bl g11) xm_se10)))) (fun g10 => (xm_bk (Nat.le_of_ble_eq_true h9) (xm_bl g10) xm_se9)))) (fun g9 => (xm_bq (fun h7 => (xm_bq (fun h8 => (xm_bk (Nat.le_of_ble_eq_true h8) (xm_bl g9) xm_se8)) (fun g8 => (xm_bk (Nat.le_of_ble_eq_true h7) (xm_bl g8) xm_se7)))) (fun g7 => (xm_bk (Nat.le_of_ble_eq_true h6) (xm_bl g7) xm_se6)))))) (fun g6 => (xm_bq (fun h3 => (xm_bq (fun h4 => (xm_bq (fun h5 => (xm_bk (Nat.le_of_ble_eq_true h5) (xm_bl g6) xm_se5)) (fun g5 => (xm_bk (Nat.le_of_ble_eq_true h4) (xm_bl g5) xm_se4)))) (fun g4 => (xm_bk (Nat.le_of_ble_eq_true h3) (xm_bl g4) xm_se3)))) (fun g3 => (xm_bq (fun h1 => (xm_bq (fun h2 => (xm_bk (Nat.le_of_ble_eq_true h2) (xm_bl g3) xm_se2)) (fun g2 => (xm_bk (Nat.le_of_ble_eq_true h1) (xm_bl g2) xm_se1)))) (fun g1 => (xm_bk (Nat.zero_le q) (xm_bl g1) xm_se0)))))))))
def xm_pf (cd : List xm_I) (i : Nat) : Option Nat := bif Nat.ble 1536 i then xm_pc cd i else ((xm_sq cd (Nat.div i 64))[Nat.mod i 64]?).map (fun e => e.2.1)
theorem xm_pf_eq {cd : List xm_I} {i : Nat} : xm_pf cd i = xm_pc cd i := by
  unfold xm_pf
  cases h : Nat.ble 1536 i
  · have h2 : i < 1536 := by
      rcases Nat.lt_or_ge i 1536 with g | g
      · exact g
      · rw [Nat.ble_eq_true_of_le g] at h; cases h
    show ((xm_sq cd (i / 64))[i % 64]?).map (fun e => e.2.1) = _
    rw [xm_sq_eq _ (by omega), List.getElem?_drop, show 64 * (i / 64) + i % 64 = i by omega]
    rfl
  · rfl
/-- the table in pieces of 32 -/
def xm_d0 : List Cond := lw_tbl
def xm_d1 : List Cond := xm_d0.drop 32
def xm_d2 : List Cond := xm_d1.drop 32
def xm_d3 : List Cond := xm_d2.drop 32
def xm_d4 : List Cond := xm_d3.drop 32
def xm_d5 : List Cond := xm_d4.drop 32
def xm_d6 : List Cond := xm_d5.drop 32
def xm_d7 : List Cond := xm_d6.drop 32
def xm_d8 : List Cond := xm_d7.drop 32
def xm_d9 : List Cond := xm_d8.drop 32
def xm_d10 : List Cond := xm_d9.drop 32
def xm_d11 : List Cond := xm_d10.drop 32
def xm_d12 : List Cond := xm_d11.drop 32
def xm_d13 : List Cond := xm_d12.drop 32
def xm_d14 : List Cond := xm_d13.drop 32
def xm_d15 : List Cond := xm_d14.drop 32
def xm_d16 : List Cond := xm_d15.drop 32
def xm_d17 : List Cond := xm_d16.drop 32
def xm_d18 : List Cond := xm_d17.drop 32
def xm_d19 : List Cond := xm_d18.drop 32
def xm_d20 : List Cond := xm_d19.drop 32
def xm_d21 : List Cond := xm_d20.drop 32
def xm_d22 : List Cond := xm_d21.drop 32
def xm_d23 : List Cond := xm_d22.drop 32
def xm_d24 : List Cond := xm_d23.drop 32
def xm_d25 : List Cond := xm_d24.drop 32
def xm_d26 : List Cond := xm_d25.drop 32
def xm_d27 : List Cond := xm_d26.drop 32
def xm_d28 : List Cond := xm_d27.drop 32
def xm_d29 : List Cond := xm_d28.drop 32
def xm_d30 : List Cond := xm_d29.drop 32
def xm_d31 : List Cond := xm_d30.drop 32
def xm_d32 : List Cond := xm_d31.drop 32
def xm_d33 : List Cond := xm_d32.drop 32
def xm_d34 : List Cond := xm_d33.drop 32
def xm_d35 : List Cond := xm_d34.drop 32
def xm_d36 : List Cond := xm_d35.drop 32
def xm_d37 : List Cond := xm_d36.drop 32
def xm_d38 : List Cond := xm_d37.drop 32
def xm_d39 : List Cond := xm_d38.drop 32
def xm_d40 : List Cond := xm_d39.drop 32
def xm_d41 : List Cond := xm_d40.drop 32
def xm_d42 : List Cond := xm_d41.drop 32
def xm_d43 : List Cond := xm_d42.drop 32
def xm_d44 : List Cond := xm_d43.drop 32
def xm_d45 : List Cond := xm_d44.drop 32
def xm_d46 : List Cond := xm_d45.drop 32
def xm_d47 : List Cond := xm_d46.drop 32
def xm_d48 : List Cond := xm_d47.drop 32
def xm_d49 : List Cond := xm_d48.drop 32
def xm_d50 : List Cond := xm_d49.drop 32
def xm_d51 : List Cond := xm_d50.drop 32
def xm_d52 : List Cond := xm_d51.drop 32
def xm_d53 : List Cond := xm_d52.drop 32
def xm_d54 : List Cond := xm_d53.drop 32
def xm_d55 : List Cond := xm_d54.drop 32
def xm_d56 : List Cond := xm_d55.drop 32
def xm_d57 : List Cond := xm_d56.drop 32
def xm_d58 : List Cond := xm_d57.drop 32
def xm_d59 : List Cond := xm_d58.drop 32
def xm_d60 : List Cond := xm_d59.drop 32
def xm_d61 : List Cond := xm_d60.drop 32
def xm_d62 : List Cond := xm_d61.drop 32
def xm_d63 : List Cond := xm_d62.drop 32
def xm_dq (q : Nat) : List Cond := (bif Nat.ble 32 q then (bif Nat.ble 48 q then (bif Nat.ble 56 q then (bif Nat.ble 60 q then (bif Nat.ble 62 q then (bif Nat.ble 63 q then xm_d63 else xm_d62) else (bif Nat.ble 61 q then xm_d61 else xm_d60)) else (bif Nat.ble 58 q then (bif Nat.ble 59 q then xm_d59 else xm_d58) else (bif Nat.ble 57 q then xm_d57 else xm_d56))) else (bif Nat.ble 52 q then (bif Nat.ble 54 q then (bif Nat.ble 55 q then xm_d55 else xm_d54) else (bif Nat.ble 53 q then xm_d53 else xm_d52)) else (bif Nat.ble 50 q then (bif Nat.ble 51 q then xm_d51 else xm_d50) else (bif Nat.ble 49 q then xm_d49 else xm_d48)))) else (bif Nat.ble 40 q then (bif Nat.ble 44 q then (bif Nat.ble 46 q then (bif Nat.ble 47 q then xm_d47 else xm_d46) else (bif Nat.ble 45 q then xm_d45 else xm_d44)) else (bif Nat.ble 42 q then (bif Nat.ble 43 q then xm_d43 else xm_d42) else (bif Nat.ble 41 q then xm_d41 else xm_d40))) else (bif Nat.ble 36 q then (bif Nat.ble 38 q then (bif Nat.ble 39 q then xm_d39 else xm_d38) else (bif Nat.ble 37 q then xm_d37 else xm_d36)) else (bif Nat.ble 34 q then (bif Nat.ble 35 q then xm_d35 else xm_d34) else (bif Nat.ble 33 q then xm_d33 else xm_d32))))) else (bif Nat.ble 16 q then (bif Nat.ble 24 q then (bif Nat.ble 28 q then (bif Nat.ble 30 q then (bif Nat.ble 31 q then xm_d31 else xm_d30) else (bif Nat.ble 29 q then xm_d29 else xm_d28)) else (bif Nat.ble 26 q then (bif Nat.ble 27 q then xm_d27 else xm_d26) else (bif Nat.ble 25 q then xm_d25 else xm_d24))) else (bif Nat.ble 20 q then (bif Nat.ble 22 q then (bif Nat.ble 23 q then xm_d23 else xm_d22) else (bif Nat.ble 21 q then xm_d21 else xm_d20)) else (bif Nat.ble 18 q then (bif Nat.ble 19 q then xm_d19 else xm_d18) else (bif Nat.ble 17 q then xm_d17 else xm_d16)))) else (bif Nat.ble 8 q then (bif Nat.ble 12 q then (bif Nat.ble 14 q then (bif Nat.ble 15 q then xm_d15 else xm_d14) else (bif Nat.ble 13 q then xm_d13 else xm_d12)) else (bif Nat.ble 10 q then (bif Nat.ble 11 q then xm_d11 else xm_d10) else (bif Nat.ble 9 q then xm_d9 else xm_d8))) else (bif Nat.ble 4 q then (bif Nat.ble 6 q then (bif Nat.ble 7 q then xm_d7 else xm_d6) else (bif Nat.ble 5 q then xm_d5 else xm_d4)) else (bif Nat.ble 2 q then (bif Nat.ble 3 q then xm_d3 else xm_d2) else (bif Nat.ble 1 q then xm_d1 else xm_d0))))))
def xm_look (i : Nat) : Option Cond := (xm_dq (Nat.div i 32))[Nat.mod i 32]?
theorem xm_in0 : ∀ w ∈ xm_d0, w ∈ lw_tbl := fun _ h => h
theorem xm_in1 : ∀ w ∈ xm_d1, w ∈ lw_tbl := fun w h => xm_in0 w (List.mem_of_mem_drop h)
theorem xm_in2 : ∀ w ∈ xm_d2, w ∈ lw_tbl := fun w h => xm_in1 w (List.mem_of_mem_drop h)
theorem xm_in3 : ∀ w ∈ xm_d3, w ∈ lw_tbl := fun w h => xm_in2 w (List.mem_of_mem_drop h)
theorem xm_in4 : ∀ w ∈ xm_d4, w ∈ lw_tbl := fun w h => xm_in3 w (List.mem_of_mem_drop h)
theorem xm_in5 : ∀ w ∈ xm_d5, w ∈ lw_tbl := fun w h => xm_in4 w (List.mem_of_mem_drop h)
theorem xm_in6 : ∀ w ∈ xm_d6, w ∈ lw_tbl := fun w h => xm_in5 w (List.mem_of_mem_drop h)
theorem xm_in7 : ∀ w ∈ xm_d7, w ∈ lw_tbl := fun w h => xm_in6 w (List.mem_of_mem_drop h)
theorem xm_in8 : ∀ w ∈ xm_d8, w ∈ lw_tbl := fun w h => xm_in7 w (List.mem_of_mem_drop h)
theorem xm_in9 : ∀ w ∈ xm_d9, w ∈ lw_tbl := fun w h => xm_in8 w (List.mem_of_mem_drop h)
theorem xm_in10 : ∀ w ∈ xm_d10, w ∈ lw_tbl := fun w h => xm_in9 w (List.mem_of_mem_drop h)
theorem xm_in11 : ∀ w ∈ xm_d11, w ∈ lw_tbl := fun w h => xm_in10 w (List.mem_of_mem_drop h)
theorem xm_in12 : ∀ w ∈ xm_d12, w ∈ lw_tbl := fun w h => xm_in11 w (List.mem_of_mem_drop h)
theorem xm_in13 : ∀ w ∈ xm_d13, w ∈ lw_tbl := fun w h => xm_in12 w (List.mem_of_mem_drop h)
theorem xm_in14 : ∀ w ∈ xm_d14, w ∈ lw_tbl := fun w h => xm_in13 w (List.mem_of_mem_drop h)
theorem xm_in15 : ∀ w ∈ xm_d15, w ∈ lw_tbl := fun w h => xm_in14 w (List.mem_of_mem_drop h)
theorem xm_in16 : ∀ w ∈ xm_d16, w ∈ lw_tbl := fun w h => xm_in15 w (List.mem_of_mem_drop h)
theorem xm_in17 : ∀ w ∈ xm_d17, w ∈ lw_tbl := fun w h => xm_in16 w (List.mem_of_mem_drop h)
theorem xm_in18 : ∀ w ∈ xm_d18, w ∈ lw_tbl := fun w h => xm_in17 w (List.mem_of_mem_drop h)
theorem xm_in19 : ∀ w ∈ xm_d19, w ∈ lw_tbl := fun w h => xm_in18 w (List.mem_of_mem_drop h)
theorem xm_in20 : ∀ w ∈ xm_d20, w ∈ lw_tbl := fun w h => xm_in19 w (List.mem_of_mem_drop h)
theorem xm_in21 : ∀ w ∈ xm_d21, w ∈ lw_tbl := fun w h => xm_in20 w (List.mem_of_mem_drop h)
theorem xm_in22 : ∀ w ∈ xm_d22, w ∈ lw_tbl := fun w h => xm_in21 w (List.mem_of_mem_drop h)
theorem xm_in23 : ∀ w ∈ xm_d23, w ∈ lw_tbl := fun w h => xm_in22 w (List.mem_of_mem_drop h)
theorem xm_in24 : ∀ w ∈ xm_d24, w ∈ lw_tbl := fun w h => xm_in23 w (List.mem_of_mem_drop h)
theorem xm_in25 : ∀ w ∈ xm_d25, w ∈ lw_tbl := fun w h => xm_in24 w (List.mem_of_mem_drop h)
theorem xm_in26 : ∀ w ∈ xm_d26, w ∈ lw_tbl := fun w h => xm_in25 w (List.mem_of_mem_drop h)
theorem xm_in27 : ∀ w ∈ xm_d27, w ∈ lw_tbl := fun w h => xm_in26 w (List.mem_of_mem_drop h)
theorem xm_in28 : ∀ w ∈ xm_d28, w ∈ lw_tbl := fun w h => xm_in27 w (List.mem_of_mem_drop h)
theorem xm_in29 : ∀ w ∈ xm_d29, w ∈ lw_tbl := fun w h => xm_in28 w (List.mem_of_mem_drop h)
theorem xm_in30 : ∀ w ∈ xm_d30, w ∈ lw_tbl := fun w h => xm_in29 w (List.mem_of_mem_drop h)
theorem xm_in31 : ∀ w ∈ xm_d31, w ∈ lw_tbl := fun w h => xm_in30 w (List.mem_of_mem_drop h)
theorem xm_in32 : ∀ w ∈ xm_d32, w ∈ lw_tbl := fun w h => xm_in31 w (List.mem_of_mem_drop h)
theorem xm_in33 : ∀ w ∈ xm_d33, w ∈ lw_tbl := fun w h => xm_in32 w (List.mem_of_mem_drop h)
theorem xm_in34 : ∀ w ∈ xm_d34, w ∈ lw_tbl := fun w h => xm_in33 w (List.mem_of_mem_drop h)
theorem xm_in35 : ∀ w ∈ xm_d35, w ∈ lw_tbl := fun w h => xm_in34 w (List.mem_of_mem_drop h)
theorem xm_in36 : ∀ w ∈ xm_d36, w ∈ lw_tbl := fun w h => xm_in35 w (List.mem_of_mem_drop h)
theorem xm_in37 : ∀ w ∈ xm_d37, w ∈ lw_tbl := fun w h => xm_in36 w (List.mem_of_mem_drop h)
theorem xm_in38 : ∀ w ∈ xm_d38, w ∈ lw_tbl := fun w h => xm_in37 w (List.mem_of_mem_drop h)
theorem xm_in39 : ∀ w ∈ xm_d39, w ∈ lw_tbl := fun w h => xm_in38 w (List.mem_of_mem_drop h)
theorem xm_in40 : ∀ w ∈ xm_d40, w ∈ lw_tbl := fun w h => xm_in39 w (List.mem_of_mem_drop h)
theorem xm_in41 : ∀ w ∈ xm_d41, w ∈ lw_tbl := fun w h => xm_in40 w (List.mem_of_mem_drop h)
theorem xm_in42 : ∀ w ∈ xm_d42, w ∈ lw_tbl := fun w h => xm_in41 w (List.mem_of_mem_drop h)
theorem xm_in43 : ∀ w ∈ xm_d43, w ∈ lw_tbl := fun w h => xm_in42 w (List.mem_of_mem_drop h)
theorem xm_in44 : ∀ w ∈ xm_d44, w ∈ lw_tbl := fun w h => xm_in43 w (List.mem_of_mem_drop h)
theorem xm_in45 : ∀ w ∈ xm_d45, w ∈ lw_tbl := fun w h => xm_in44 w (List.mem_of_mem_drop h)
theorem xm_in46 : ∀ w ∈ xm_d46, w ∈ lw_tbl := fun w h => xm_in45 w (List.mem_of_mem_drop h)
theorem xm_in47 : ∀ w ∈ xm_d47, w ∈ lw_tbl := fun w h => xm_in46 w (List.mem_of_mem_drop h)
theorem xm_in48 : ∀ w ∈ xm_d48, w ∈ lw_tbl := fun w h => xm_in47 w (List.mem_of_mem_drop h)
theorem xm_in49 : ∀ w ∈ xm_d49, w ∈ lw_tbl := fun w h => xm_in48 w (List.mem_of_mem_drop h)
theorem xm_in50 : ∀ w ∈ xm_d50, w ∈ lw_tbl := fun w h => xm_in49 w (List.mem_of_mem_drop h)
theorem xm_in51 : ∀ w ∈ xm_d51, w ∈ lw_tbl := fun w h => xm_in50 w (List.mem_of_mem_drop h)
theorem xm_in52 : ∀ w ∈ xm_d52, w ∈ lw_tbl := fun w h => xm_in51 w (List.mem_of_mem_drop h)
theorem xm_in53 : ∀ w ∈ xm_d53, w ∈ lw_tbl := fun w h => xm_in52 w (List.mem_of_mem_drop h)
theorem xm_in54 : ∀ w ∈ xm_d54, w ∈ lw_tbl := fun w h => xm_in53 w (List.mem_of_mem_drop h)
theorem xm_in55 : ∀ w ∈ xm_d55, w ∈ lw_tbl := fun w h => xm_in54 w (List.mem_of_mem_drop h)
theorem xm_in56 : ∀ w ∈ xm_d56, w ∈ lw_tbl := fun w h => xm_in55 w (List.mem_of_mem_drop h)
theorem xm_in57 : ∀ w ∈ xm_d57, w ∈ lw_tbl := fun w h => xm_in56 w (List.mem_of_mem_drop h)
theorem xm_in58 : ∀ w ∈ xm_d58, w ∈ lw_tbl := fun w h => xm_in57 w (List.mem_of_mem_drop h)
theorem xm_in59 : ∀ w ∈ xm_d59, w ∈ lw_tbl := fun w h => xm_in58 w (List.mem_of_mem_drop h)
theorem xm_in60 : ∀ w ∈ xm_d60, w ∈ lw_tbl := fun w h => xm_in59 w (List.mem_of_mem_drop h)
theorem xm_in61 : ∀ w ∈ xm_d61, w ∈ lw_tbl := fun w h => xm_in60 w (List.mem_of_mem_drop h)
theorem xm_in62 : ∀ w ∈ xm_d62, w ∈ lw_tbl := fun w h => xm_in61 w (List.mem_of_mem_drop h)
theorem xm_in63 : ∀ w ∈ xm_d63, w ∈ lw_tbl := fun w h => xm_in62 w (List.mem_of_mem_drop h)
theorem xm_bif {b : Bool} {x y : List Cond} (hx : ∀ w ∈ x, w ∈ lw_tbl) (hy : ∀ w ∈ y, w ∈ lw_tbl) : ∀ w ∈ (bif b then x else y), w ∈ lw_tbl := by
  cases b
  · exact hy
  · exact hx
theorem xm_dq_in (q : Nat) : ∀ w ∈ xm_dq q, w ∈ lw_tbl := (xm_bif (xm_bif (xm_bif (xm_bif (xm_bif (xm_bif xm_in63 xm_in62) (xm_bif xm_in61 xm_in60)) (xm_bif (xm_bif xm_in59 xm_in58) (xm_bif xm_in57 xm_in56))) (xm_bif (xm_bif (xm_bif xm_in55 xm_in54) (xm_bif xm_in53 xm_in52)) (xm_bif (xm_bif xm_in51 xm_in50) (xm_bif xm_in49 xm_in48)))) (xm_bif (xm_bif (xm_bif (xm_bif xm_in47 xm_in46) (xm_bif xm_in45 xm_in44)) (xm_bif (xm_bif xm_in43 xm_in42) (xm_bif xm_in41 xm_in40))) (xm_bif (xm_bif (xm_bif xm_in39 xm_in38) (xm_bif xm_in37 xm_in36)) (xm_bif (xm_bif xm_in35 xm_in34) (xm_bif xm_in33 xm_in32))))) (xm_bif (xm_bif (xm_bif (xm_bif (xm_bif xm_in31 xm_in30) (xm_bif xm_in29 xm_in28)) (xm_bif (xm_bif xm_in27 xm_in26) (xm_bif xm_in25 xm_in24))) (xm_bif (xm_bif (xm_bif xm_in23 xm_in22) (xm_bif xm_in21 xm_in20)) (xm_bif (xm_bif xm_in19 xm_in18) (xm_bif xm_in17 xm_in16)))) (xm_bif (xm_bif (xm_bif (xm_bif xm_in15 xm_in14) (xm_bif xm_in13 xm_in12)) (xm_bif (xm_bif xm_in11 xm_in10) (xm_bif xm_in9 xm_in8))) (xm_bif (xm_bif (xm_bif xm_in7 xm_in6) (xm_bif xm_in5 xm_in4)) (xm_bif (xm_bif xm_in3 xm_in2) (xm_bif xm_in1 xm_in0))))))
theorem xm_look_in {i : Nat} {w : Cond} (h : xm_look i = some w) : w ∈ lw_tbl := xm_dq_in _ w (List.mem_of_getElem? h)
def xm_wd (i : Nat) (w : Cond) : Bool := decide (xm_look i = some w)
def xm_gd (i : Nat) (w : Cond) : Bool := xm_wd i w && goodWord w
def xm_dec (cc : ByteArray) (pc : Nat) (ins : Instr) (len : Nat) : Bool := match decode cc pc with
  | .ok (i, n) => decide (i = ins) && n == len
  | _ => false
theorem xm_dec_ok {cc : ByteArray} {pc : Nat} {ins : Instr} {len : Nat} (h : xm_dec cc pc ins len = true) : decode cc pc = .ok (ins, len) := by
  unfold xm_dec at h
  split at h
  next i n hd =>
    simp only [Bool.and_eq_true, decide_eq_true_eq, beq_iff_eq] at h
    rw [hd, h.1, h.2]
  next => cases h
def xm_tg (cd : List xm_I) (pc a : Nat) (off : Int) : Bool := match xm_pf cd a with
  | some t => decide ((pc : Int) + off = (t : Int))
  | none => false
theorem xm_tg_ok {cd : List xm_I} {pc a : Nat} {off : Int} (h : xm_tg cd pc a off = true) : ∃ t, xm_pc cd a = some t ∧ (pc : Int) + off = (t : Int) := by
  unfold xm_tg at h
  split at h
  next t ht => exact ⟨t, by rw [← xm_pf_eq]; exact ht, by simpa using h⟩
  next => cases h
def xm_nx (cd : List xm_I) (pc nx len : Nat) : Bool := decide (xm_pf cd nx = some (pc + len))
def xm_okb0 (z : Int) : Bool := decide (-2147483648 ≤ z ∧ z < 2147483648)
/-- a switch's pairs against its offsets -/
def xm_tb (cd : List xm_I) (pc : Nat) : Int → List Int → List (Int × Nat) → Bool
  | _, [], [] => true
  | z, o :: os, (v, t) :: l => v == z && xm_tg cd pc t o && xm_tb cd pc (z + 1) os l
  | _, _, _ => false
def xm_lu (cd : List xm_I) (pc : Nat) : List (Int × Int) → List (Int × Nat) → Bool
  | [], [] => true
  | (z, o) :: os, (v, t) :: l => v == z && xm_tg cd pc t o && xm_lu cd pc os l
  | _, _ => false
theorem xm_tb_ok {cd : List xm_I} {pc d : Nat} : ∀ (os : List Int) (l : List (Int × Nat)) (z x : Int), xm_tb cd pc z os l = true →
    ((x < z ∨ z + os.length ≤ x) ∧ xm_sw l d x = d) ∨ ∃ o t, z ≤ x ∧ os[(x - z).toNat]? = some o ∧ xm_pc cd (xm_sw l d x) = some t ∧ (pc : Int) + o = (t : Int)
  | [], [], z, x, _ => by
    left
    exact ⟨by simp only [List.length_nil]; omega, rfl⟩
  | o :: os, (v, t) :: l, z, x, h => by
    simp only [xm_tb, Bool.and_eq_true, beq_iff_eq] at h
    obtain ⟨⟨rfl, h2⟩, h3⟩ := h
    obtain ⟨tt, h4, h5⟩ := xm_tg_ok h2
    by_cases hx : x = v
    · right
      refine ⟨o, tt, by omega, ?_, ?_, h5⟩
      · rw [show (x - v).toNat = 0 by omega]; rfl
      · simp only [xm_sw, hx, if_true]; exact h4
    · rcases xm_tb_ok os l (v + 1) x h3 with ⟨h6, h7⟩ | ⟨o2, t2, h6, h7, h8, h9⟩
      · left
        refine ⟨by simp only [List.length_cons]; omega, ?_⟩
        simp only [xm_sw, if_neg hx]; exact h7
      · right
        refine ⟨o2, t2, by omega, ?_, ?_, h9⟩
        · rw [show (x - v).toNat = (x - (v + 1)).toNat + 1 by omega, List.getElem?_cons_succ]; exact h7
        · simp only [xm_sw, if_neg hx]; exact h8
  | [], _ :: _, _, _, h => by cases h
  | _ :: _, [], _, _, h => by cases h
theorem xm_lu_ok {cd : List xm_I} {pc d : Nat} {dflt : Int} {td : Nat} (hd : xm_pc cd d = some td) (hd2 : (pc : Int) + dflt = (td : Int)) : ∀ (os : List (Int × Int)) (l : List (Int × Nat)) (x : Int), xm_lu cd pc os l = true →
    ∃ t, xm_pc cd (xm_sw l d x) = some t ∧ (pc : Int) + Op.lookupswitch.offset os dflt x = (t : Int)
  | [], [], x, _ => ⟨td, hd, hd2⟩
  | (z, o) :: os, (v, t) :: l, x, h => by
    simp only [xm_lu, Bool.and_eq_true, beq_iff_eq] at h
    obtain ⟨⟨rfl, h2⟩, h3⟩ := h
    obtain ⟨tt, h4, h5⟩ := xm_tg_ok h2
    by_cases hx : x = v
    · subst hx
      exact ⟨tt, by simp only [xm_sw, if_true]; exact h4, by rw [Op.lookupswitch.offset_cons, if_pos rfl]; exact h5⟩
    · obtain ⟨t2, h6, h7⟩ := xm_lu_ok hd hd2 os l x h3
      exact ⟨t2, by simp only [xm_sw, if_neg hx]; exact h6, by rw [Op.lookupswitch.offset_cons, if_neg (fun e => hx e.symm)]; exact h7⟩
  | [], _ :: _, _, h => by cases h
  | _ :: _, [], _, h => by cases h
abbrev xm_sts : List (String × String × String) := [("ShodBackwards", "ABOVE", "[I"), ("ShodBackwards", "BODIES", "[I"), ("java/lang/String", "COMPACT_STRINGS", "Z")]
abbrev xm_str : List (String × Nat × String) := [("ShodBackwards$Reader", 15, ""), ("ShodBackwards", 143, "wsmg"), ("ShodBackwards", 145, "nda")]
abbrev xm_sta : List xm_V := [.inr (.inl (some 1000000)), .inr (.inl (some 1000001)), .inl 1]
def xm_rc (r : Nat) (C : String) : Bool := r != 0 && (if r = 99 then C == "java/lang/String" else match xm_cl[r - 1]? with
  | some q => q.1 == C
  | none => false)
def xm_beqd (a b : ByteArray) : Bool := a.data.toList.map UInt8.toNat == b.data.toList.map UInt8.toNat
theorem xm_beqd_ok {a b : ByteArray} (h : xm_beqd a b = true) : a = b := by
  unfold xm_beqd at h
  have h2 := (List.map_inj_right (f := UInt8.toNat) (fun x y e => UInt8.toNat_inj.mp e)).mp (eq_of_beq h)
  cases a; cases b
  exact congrArg _ (Array.toList_inj.mp h2)
def xm_gc (p : Nat) (M : xm_M) : Bool := match xm_look p with
  | some (.code y cc l r) => decide (y = M.1) && xm_beqd cc M.2.1 && decide (l = M.2.2.1) && decide (r = M.2.2.2.1) && goodWord (.code y cc l r)
  | _ => false
theorem xm_gc_ok {p : Nat} {M : xm_M} (h : xm_gc p M = true) : xm_gd p (.code M.1 M.2.1 M.2.2.1 M.2.2.2.1) = true := by
  unfold xm_gc at h
  split at h
  next y cc l r e =>
    simp only [Bool.and_eq_true, decide_eq_true_eq] at h
    obtain ⟨⟨⟨⟨h1, h2⟩, h3⟩, h4⟩, h5⟩ := h
    have h2 := xm_beqd_ok h2
    subst h1 h2 h3 h4
    simp only [xm_gd, xm_wd, Bool.and_eq_true, decide_eq_true_eq]
    exact ⟨e, h5⟩
  next => cases h
/-- a call's words: 0 the link, 1 the method's kind, 2 what is selected, 3 the class, 4 the code -/
def xm_cw (own : String) (index : Nat) (k : Nat) (mt : Nat → Option xm_M) (a b : Nat) (ps : List Nat) : Bool := match mt a, ps with
  | some M, [p0, p1, p2, p3, p4] =>
    let y := M.1
    decide (M.2.2.2.2.2.1 = b) && decide (M.2.2.1 ≤ 40) &&
    (xm_gd p0 (.methodLink own index y) || xm_wd p0 (.methodLinkNest own index y "ShodBackwards")) && xm_gd p3 (.initialized y.cls) && xm_gc p4 M &&
    decide (y.cls ≠ "java/lang/invoke/MethodHandle") && decide (y.cls ≠ "java/lang/invoke/VarHandle") &&
    (match k with
    | 0 => xm_gd p1 (.instanceMethod y) && xm_gd p2 (.selects y.cls y y) && decide ((parseMethodDescriptor y.desc).map (fun d => d.parameters.length + 1) = some b) && xm_rc M.2.2.2.2.2.2.1 y.cls
    | 1 => xm_gd p1 (.instanceMethod y) && decide (y.name = "<init>") && decide ((parseMethodDescriptor y.desc).map (fun d => d.parameters.length + 1) = some b) && decide (M.2.2.2.1 = none ∧ M.2.2.2.2.2.2.1 ≠ 0)
    | _ => xm_gd p1 (.static y) && decide ((parseMethodDescriptor y.desc).map (fun d => d.parameters.length) = some b))
  | _, _ => false
def xm_fd (own : String) (ini : Bool) (put : Bool) (index a b p0 : Nat) : Bool := match xm_cl[b]? with
  | some (C, T, N) => decide (a < N) && xm_gd p0 (.fieldLink own index (T a).1 (T a).2.1 (T a).2.2.1) && (!put || !(T a).2.2.2 || ((T a).1 == own && ini))
  | none => put == false && (if b = 98 then (match a with
    | 0 => xm_gd p0 (.fieldLink own index "java/lang/String" "value" "[B")
    | 1 => xm_gd p0 (.fieldLink own index "java/lang/String" "coder" "B")
    | _ => false) else false)
def xm_cm (own : String) (k a : Nat) (ps : List Nat) : Bool := match a, ps with
  | 3, [q0, q1, q2, q3] => xm_gd q0 (.methodLink own k Lib.Math.max.name) && xm_gd q1 (.static Lib.Math.max.name) && xm_gd q2 (.initialized "java/lang/Math") && xm_gd q3 (.code Lib.Math.max.name Lib.Math.max.code 2 (some .int))
  | 4, [q0, q1, q2, q3] => xm_gd q0 (.methodLink own k Lib.Math.min.name) && xm_gd q1 (.static Lib.Math.min.name) && xm_gd q2 (.initialized "java/lang/Math") && xm_gd q3 (.code Lib.Math.min.name Lib.Math.min.code 2 (some .int))
  | 5, [q0, q1, q2, q3] => xm_gd q0 (.methodLink own k Lib.Math.abs.name) && xm_gd q1 (.static Lib.Math.abs.name) && xm_gd q2 (.initialized "java/lang/Math") && xm_gd q3 (.code Lib.Math.abs.name Lib.Math.abs.code 1 (some .int))
  | _, _ => false
def xm_chk (own : String) (ini : Bool) (cc : ByteArray) (cd : List xm_I) (nL rk : Nat) (mt : Nat → Option xm_M) (e : xm_I) : Bool :=
  match e with
  | (ins, pc, nx, a, b, ps, sw) =>
  let p0 := ps.getD 0 0
  match ins with
  | .iconst z => xm_dec cc pc ins 1 && xm_nx cd pc nx 1 && xm_okb0 z
  | .bipush z => xm_dec cc pc ins 2 && xm_nx cd pc nx 2 && xm_okb0 z && decide ((Int8.ofInt z).toInt32 = Int32.ofInt z)
  | .sipush z => xm_dec cc pc ins 3 && xm_nx cd pc nx 3 && xm_okb0 z && decide ((Int16.ofInt z).toInt32 = Int32.ofInt z)
  | .ldc k => xm_dec cc pc ins 2 && xm_nx cd pc nx 2 && (match sw with
    | [(z, _)] => xm_gd p0 (.constant own k (Int32.ofInt z)) && xm_okb0 z
    | _ => (match xm_str[a - 2]? with
      | some (ow, kk, _) => decide (ow = own) && decide (kk = k) && decide (2 ≤ a)
      | none => false))
  | .ldc_w k => xm_dec cc pc ins 3 && xm_nx cd pc nx 3 && (match sw with
    | [(z, _)] => xm_gd p0 (.constant own k (Int32.ofInt z)) && xm_okb0 z
    | _ => false)
  | .ldc2_w k => xm_dec cc pc ins 3 && xm_nx cd pc nx 3 && (match sw with
    | [(z, _)] => xm_gd p0 (.constantLong own k (Int64.ofInt z))
    | _ => false)
  | .iload k => xm_dec cc pc ins 2 && xm_nx cd pc nx 2 && k == a
  | .aload k => xm_dec cc pc ins 2 && xm_nx cd pc nx 2 && k == a
  | .iload_n k => xm_dec cc pc ins 1 && xm_nx cd pc nx 1 && k.val == a
  | .aload_n k => xm_dec cc pc ins 1 && xm_nx cd pc nx 1 && k.val == a
  | .lload_n k => xm_dec cc pc ins 1 && xm_nx cd pc nx 1 && k.val == a
  | .istore k => xm_dec cc pc ins 2 && xm_nx cd pc nx 2 && k == a && decide (a < nL)
  | .astore k => xm_dec cc pc ins 2 && xm_nx cd pc nx 2 && k == a && decide (a < nL)
  | .istore_n k => xm_dec cc pc ins 1 && xm_nx cd pc nx 1 && k.val == a && decide (a < nL)
  | .astore_n k => xm_dec cc pc ins 1 && xm_nx cd pc nx 1 && k.val == a && decide (a < nL)
  | .iinc k _ => xm_dec cc pc ins 3 && xm_nx cd pc nx 3 && k == a && decide (a < nL)
  | .ifCond _ off => xm_dec cc pc ins 3 && xm_nx cd pc nx 3 && xm_tg cd pc a off
  | .if_icmp _ off => xm_dec cc pc ins 3 && xm_nx cd pc nx 3 && xm_tg cd pc a off
  | .ifnull off => xm_dec cc pc ins 3 && xm_nx cd pc nx 3 && xm_tg cd pc a off
  | .ifnonnull off => xm_dec cc pc ins 3 && xm_nx cd pc nx 3 && xm_tg cd pc a off
  | .goto off => xm_dec cc pc ins 3 && xm_tg cd pc a off
  | .tableswitch d lo hi os => (match decode cc pc with
    | .ok (i, _) => decide (i = ins)
    | _ => false) && xm_tg cd pc a d && xm_tb cd pc lo os.toList sw && decide (hi + 1 = lo + os.toList.length)
  | .lookupswitch d os => (match decode cc pc with
    | .ok (i, _) => decide (i = ins)
    | _ => false) && xm_tg cd pc a d && xm_lu cd pc os.toList sw && (os.toList.zip (os.toList.drop 1)).all (fun (a, next) => a.1 < next.1)
  | .getfield k => xm_dec cc pc ins 3 && xm_nx cd pc nx 3 && xm_fd own ini false k a b p0
  | .putfield k => xm_dec cc pc ins 3 && xm_nx cd pc nx 3 && xm_fd own ini true k a b p0
  | .getstatic k => xm_dec cc pc ins 3 && xm_nx cd pc nx 3 && (match xm_sts[a]? with
    | some (C, n, d) => xm_gd p0 (.fieldLink own k C n d) || xm_wd p0 (.fieldLinkNest own k C n d "ShodBackwards")
    | none => false)
  | .new k => xm_dec cc pc ins 3 && xm_nx cd pc nx 3 && (match xm_cl[b]?, ps with
    | some (C, _, N), [q0, q1, q2] => xm_gd q0 (.classLink own k C) && xm_gd q1 (.instantiable C N) && xm_gd q2 (.initialized C)
    | _, _ => false)
  | .newarray t => xm_dec cc pc ins 2 && xm_nx cd pc nx 2 && decide (t = .int) && xm_gd p0 (.arrayClass .int)
  | .anewarray k => xm_dec cc pc ins 3 && xm_nx cd pc nx 3 && (match b with
    | 4 => xm_gd p0 (.classLink own k "ShodBackwards$Rider")
    | 5 => xm_gd p0 (.classLink own k "ShodBackwards$Sheet")
    | 7 => xm_gd p0 (.classLink own k "ShodBackwards$Text")
    | _ => false)
  | .invokevirtual k => xm_dec cc pc ins 3 && xm_nx cd pc nx 3 && xm_cw own k 0 mt a b ps
  | .invokespecial k => xm_dec cc pc ins 3 && xm_nx cd pc nx 3 && (if a = 1 then (match ps with
      | [q0, q1, q2] => xm_gd q0 (.methodLink own k objectInit) && xm_gd q1 (.instanceMethod objectInit) && xm_gd q2 (.code objectInit ⟨#[0xb1]⟩ 1 none)
      | _ => false) else xm_cw own k 1 mt a b ps)
  | .invokestatic k => xm_dec cc pc ins 3 && xm_nx cd pc nx 3 && (if a = 2 then (match ps with
      | [q0, q1, q2, q3] => xm_gd q0 (.methodLink own k arraycopyName) && xm_gd q1 (.native arraycopyName) && xm_gd q2 (.static arraycopyName) && xm_gd q3 (.initialized "java/lang/System")
      | _ => false) else if a < 6 then xm_cm own k a ps else xm_cw own k 2 mt a b ps)
  | .ireturn => xm_dec cc pc ins 1 && decide (rk = 1 ∨ rk = 2 ∨ rk = 4)
  | .areturn => xm_dec cc pc ins 1 && decide (rk = 3)
  | .return_ => xm_dec cc pc ins 1 && decide (rk = 0)
  | .athrow => true
  | _ => xm_dec cc pc ins 1 && xm_nx cd pc nx 1
end
