/-! THE SMALL MACHINE: the class's and the reference's code as a function over a list of cells; numbers are whole numbers within an int's bounds -/
abbrev xm_V : Type := Int ⊕ (Option Nat) ⊕ Int64
abbrev xm_C : Type := (List Int) ⊕ (Nat × List (Option Nat)) ⊕ (Nat × List xm_V)
abbrev xm_W : Type := List xm_C
/-- an instruction, its place in the bytes, the number of the next one, two numbers of its own, places of words, a switch -/
abbrev xm_I : Type := Instr × Nat × Nat × Nat × Nat × List Nat × List (Int × Nat)
abbrev xm_R : Type := Option (Option xm_V × xm_W)
def xm_w (z : Int) : Int := (z + 2147483648) % 4294967296 - 2147483648
def xm_b (z : Int) : Int := (z + 128) % 256 - 128
def xm_s (z : Int) : Int := (z + 32768) % 65536 - 32768
def xm_and (x y : Int) : Int := (Int32.ofInt x &&& Int32.ofInt y).toInt
def xm_or (x y : Int) : Int := (Int32.ofInt x ||| Int32.ofInt y).toInt
def xm_xor (x y : Int) : Int := (Int32.ofInt x ^^^ Int32.ofInt y).toInt
def xm_shl (x y : Int) : Int := (Int32.ofInt x <<< (Int32.ofInt y &&& 31)).toInt
def xm_shr (x y : Int) : Int := (Int32.ofInt x >>> (Int32.ofInt y &&& 31)).toInt
def xm_ushr (x y : Int) : Int := ((Int32.ofInt x).toUInt32 >>> ((Int32.ofInt y).toUInt32 &&& Int32.toUInt32 31)).toInt32.toInt
def xm_lshl (x : Int64) (y : Int) : Int64 := x <<< ((Int32.ofInt y).toInt64 &&& 63)
def xm_lshr (x : Int64) (y : Int) : Int64 := x >>> ((Int32.ofInt y).toInt64 &&& 63)
def xm_lushr (x : Int64) (y : Int) : Int64 := (x.toUInt64 >>> ((Int32.ofInt y).toInt64.toUInt64 &&& Int64.toUInt64 63)).toInt64
def xm_get (o : xm_W) (w : xm_W) (k : Nat) : Option xm_C := match w[k]? with
  | some x => some x
  | none => if k < 1000000 then none else o[k - 1000000]?
def xm_fld (o w : xm_W) (k c a : Nat) : Option xm_V := match xm_get o w k with
  | some (.inr (.inr (c', fs))) => if c' = c then fs[a]? else none
  | _ => none
def xm_ints (o w : xm_W) (k : Nat) : Option (List Int) := match xm_get o w k with
  | some (.inl l) => some l
  | _ => none
def xm_refs (o w : xm_W) (k : Nat) : Option (List (Option Nat)) := match xm_get o w k with
  | some (.inr (.inl (_, l))) => some l
  | _ => none
def xm_at {α : Type} (l : List α) (i : Int) : Option α := if 0 ≤ i then l[i.toNat]? else none
/-- a value that a field of this kind keeps: 0 an int, 1 a truth, 2 a reference -/
def xm_fit (t : Nat) (v : xm_V) : Bool := match v with
  | .inl z => t == 0 || (t == 1 && (z == 0 || z == 1))
  | .inr (.inl _) => t == 2
  | _ => false
def xm_setf (w : xm_W) (k c a t : Nat) (v : xm_V) : Option xm_W := match w[k]? with
  | some (.inr (.inr (c', fs))) => if c' = c ∧ a < fs.length ∧ xm_fit t v = true then some (w.set k (.inr (.inr (c, fs.set a v)))) else none
  | _ => none
def xm_seti (w : xm_W) (k : Nat) (i x : Int) : Option xm_W := match w[k]? with
  | some (.inl l) => if 0 ≤ i ∧ i < l.length then some (w.set k (.inl (l.set i.toNat x))) else none
  | _ => none
def xm_cls (w : xm_W) (v c : Nat) : Bool := match w[v]? with
  | some (.inr (.inr (c', _))) => c' == c
  | _ => false
def xm_qok (w : xm_W) (t : Nat) (v : Option Nat) : Bool := match v with
  | none => true
  | some v => xm_cls w v t
/-- rows of references of class t hold objects of class t or nothing -/
def xm_setq (w : xm_W) (k : Nat) (i : Int) (v : Option Nat) : Option xm_W := match w[k]? with
  | some (.inr (.inl (t, l))) => if 0 ≤ i ∧ i < l.length ∧ xm_qok w t v = true then some (w.set k (.inr (.inl (t, l.set i.toNat v)))) else none
  | _ => none
def xm_cpy (f g : List Int) (sp dp n : Nat) : List Int := g.take dp ++ ((f.drop sp).take n ++ g.drop (dp + n))
def xm_copy (w : xm_W) (k0 : Nat) (sp : Int) (k1 : Nat) (dp n : Int) : Option xm_W := match w[k0]?, w[k1]? with
  | some (.inl f), some (.inl g) => if 0 ≤ sp ∧ 0 ≤ dp ∧ 0 ≤ n ∧ sp + n ≤ f.length ∧ dp + n ≤ g.length then some (w.set k1 (.inl (xm_cpy f g sp.toNat dp.toNat n.toNat))) else none
  | _, _ => none
/-- Math's max, min, abs by the numbers 3, 4, 5 -/
def xm_mth (a : Nat) (st : List xm_V) : Option (List xm_V) := match a, st with
  | 3, .inl y :: .inl x :: r => some (.inl (if x < y then y else x) :: r)
  | 4, .inl y :: .inl x :: r => some (.inl (if y < x then y else x) :: r)
  | 5, .inl x :: r => some (.inl (if 0 ≤ x then x else xm_w (0 - x)) :: r)
  | _, _ => none
def xm_sw : List (Int × Nat) → Nat → Int → Nat
  | [], d, _ => d
  | (v, t) :: l, d, x => if x = v then t else xm_sw l d x
def xm_dflt (t : Nat) : xm_V := if t = 2 then .inr (.inl none) else .inl 0
abbrev xm_Kt : Type := Nat → List (Option xm_V) → List xm_V → xm_W → xm_R
def xm_nl (L : List (Option xm_V)) (a : Nat) : Bool := match L[a - 1]? with
  | some (some (.inr (.inr _))) => false
  | _ => true
def xm_step (o : xm_W) (sta : List xm_V) (call : Nat → List xm_V → xm_W → xm_R) (e : xm_I) (L : List (Option xm_V)) (st : List xm_V) (w : xm_W) (k : xm_Kt) : xm_R :=
  match e with
  | (ins, _, nx, a, b, _, sw) =>
  match ins with
  | .iconst z => k nx L (.inl z :: st) w
  | .bipush z => k nx L (.inl z :: st) w
  | .sipush z => k nx L (.inl z :: st) w
  | .ldc _ => (match sw with
    | [(z, _)] => k nx L (.inl z :: st) w
    | _ => k nx L (.inr (.inl (some (1000000 + a))) :: st) w)
  | .ldc_w _ => (match sw with
    | [(z, _)] => k nx L (.inl z :: st) w
    | _ => none)
  | .ldc2_w _ => (match sw with
    | [(z, _)] => k nx L (.inr (.inr (Int64.ofInt z)) :: st) w
    | _ => none)
  | .iload _ => (match L[a]? with
    | some (some (.inl x)) => k nx L (.inl x :: st) w
    | _ => none)
  | .iload_n _ => (match L[a]? with
    | some (some (.inl x)) => k nx L (.inl x :: st) w
    | _ => none)
  | .aload _ => (match L[a]? with
    | some (some (.inr (.inl x))) => k nx L (.inr (.inl x) :: st) w
    | _ => none)
  | .aload_n _ => (match L[a]? with
    | some (some (.inr (.inl x))) => k nx L (.inr (.inl x) :: st) w
    | _ => none)
  | .lload_n _ => (match L[a]? with
    | some (some (.inr (.inr x))) => k nx L (.inr (.inr x) :: st) w
    | _ => none)
  | .istore _ => (match st with
    | .inl x :: r => if xm_nl L a = true then k nx (L.set a (some (.inl x))) r w else none
    | _ => none)
  | .istore_n _ => (match st with
    | .inl x :: r => if xm_nl L a = true then k nx (L.set a (some (.inl x))) r w else none
    | _ => none)
  | .astore _ => (match st with
    | .inr (.inl x) :: r => if xm_nl L a = true then k nx (L.set a (some (.inr (.inl x)))) r w else none
    | _ => none)
  | .astore_n _ => (match st with
    | .inr (.inl x) :: r => if xm_nl L a = true then k nx (L.set a (some (.inr (.inl x)))) r w else none
    | _ => none)
  | .iinc _ z => (match L[a]? with
    | some (some (.inl x)) => if xm_nl L a = true then k nx (L.set a (some (.inl (xm_w (x + z))))) st w else none
    | _ => none)
  | .aconst_null => k nx L (.inr (.inl none) :: st) w
  | .dup => (match st with
    | .inl x :: r => k nx L (.inl x :: .inl x :: r) w
    | .inr (.inl x) :: r => k nx L (.inr (.inl x) :: .inr (.inl x) :: r) w
    | _ => none)
  | .dup_x1 => (match st with
    | .inl x :: .inr (.inl y) :: r => k nx L (.inl x :: .inr (.inl y) :: .inl x :: r) w
    | .inl x :: .inl y :: r => k nx L (.inl x :: .inl y :: .inl x :: r) w
    | _ => none)
  | .dup2 => (match st with
    | .inl x :: .inr (.inl y) :: r => k nx L (.inl x :: .inr (.inl y) :: .inl x :: .inr (.inl y) :: r) w
    | _ => none)
  | .pop => (match st with
    | .inl _ :: r => k nx L r w
    | _ => none)
  | .iadd => (match st with
    | .inl y :: .inl x :: r => k nx L (.inl (xm_w (x + y)) :: r) w
    | _ => none)
  | .isub => (match st with
    | .inl y :: .inl x :: r => k nx L (.inl (xm_w (x - y)) :: r) w
    | _ => none)
  | .imul => (match st with
    | .inl y :: .inl x :: r => k nx L (.inl (xm_w (x * y)) :: r) w
    | _ => none)
  | .idiv => (match st with
    | .inl y :: .inl x :: r => if y = 0 then none else k nx L (.inl (xm_w (x.tdiv y)) :: r) w
    | _ => none)
  | .irem => (match st with
    | .inl y :: .inl x :: r => if y = 0 then none else k nx L (.inl (x.tmod y) :: r) w
    | _ => none)
  | .ineg => (match st with
    | .inl x :: r => k nx L (.inl (xm_w (-x)) :: r) w
    | _ => none)
  | .iand => (match st with
    | .inl y :: .inl x :: r => k nx L (.inl (xm_and x y) :: r) w
    | _ => none)
  | .ior => (match st with
    | .inl y :: .inl x :: r => k nx L (.inl (xm_or x y) :: r) w
    | _ => none)
  | .ixor => (match st with
    | .inl y :: .inl x :: r => k nx L (.inl (xm_xor x y) :: r) w
    | _ => none)
  | .ishl => (match st with
    | .inl y :: .inl x :: r => k nx L (.inl (xm_shl x y) :: r) w
    | _ => none)
  | .ishr => (match st with
    | .inl y :: .inl x :: r => k nx L (.inl (xm_shr x y) :: r) w
    | _ => none)
  | .iushr => (match st with
    | .inl y :: .inl x :: r => k nx L (.inl (xm_ushr x y) :: r) w
    | _ => none)
  | .i2b => (match st with
    | .inl x :: r => k nx L (.inl (xm_b x) :: r) w
    | _ => none)
  | .i2s => (match st with
    | .inl x :: r => k nx L (.inl (xm_s x) :: r) w
    | _ => none)
  | .i2c => (match st with
    | .inl x :: r => k nx L (.inl (x % 65536) :: r) w
    | _ => none)
  | .i2l => (match st with
    | .inl x :: r => k nx L (.inr (.inr (Int32.ofInt x).toInt64) :: r) w
    | _ => none)
  | .l2i => (match st with
    | .inr (.inr x) :: r => k nx L (.inl x.toInt32.toInt :: r) w
    | _ => none)
  | .land => (match st with
    | .inr (.inr y) :: .inr (.inr x) :: r => k nx L (.inr (.inr (x &&& y)) :: r) w
    | _ => none)
  | .lor => (match st with
    | .inr (.inr y) :: .inr (.inr x) :: r => k nx L (.inr (.inr (x ||| y)) :: r) w
    | _ => none)
  | .lshl => (match st with
    | .inl y :: .inr (.inr x) :: r => k nx L (.inr (.inr (xm_lshl x y)) :: r) w
    | _ => none)
  | .lshr => (match st with
    | .inl y :: .inr (.inr x) :: r => k nx L (.inr (.inr (xm_lshr x y)) :: r) w
    | _ => none)
  | .lushr => (match st with
    | .inl y :: .inr (.inr x) :: r => k nx L (.inr (.inr (xm_lushr x y)) :: r) w
    | _ => none)
  | .ifCond c _ => (match st with
    | .inl x :: r => (match c with
      | .eq => if x = 0 then k a L r w else k nx L r w
      | .ne => if x = 0 then k nx L r w else k a L r w
      | .lt => if x < 0 then k a L r w else k nx L r w
      | .ge => if x < 0 then k nx L r w else k a L r w
      | .gt => if 0 < x then k a L r w else k nx L r w
      | .le => if 0 < x then k nx L r w else k a L r w)
    | _ => none)
  | .if_icmp c _ => (match st with
    | .inl y :: .inl x :: r => (match c with
      | .eq => if x = y then k a L r w else k nx L r w
      | .ne => if x = y then k nx L r w else k a L r w
      | .lt => if x < y then k a L r w else k nx L r w
      | .ge => if x < y then k nx L r w else k a L r w
      | .gt => if y < x then k a L r w else k nx L r w
      | .le => if y < x then k nx L r w else k a L r w)
    | _ => none)
  | .ifnull _ => (match st with
    | .inr (.inl none) :: r => k a L r w
    | .inr (.inl (some _)) :: r => k nx L r w
    | _ => none)
  | .ifnonnull _ => (match st with
    | .inr (.inl none) :: r => k nx L r w
    | .inr (.inl (some _)) :: r => k a L r w
    | _ => none)
  | .goto _ => k a L st w
  | .tableswitch _ _ _ _ => (match st with
    | .inl x :: r => k (xm_sw sw a x) L r w
    | _ => none)
  | .lookupswitch _ _ => (match st with
    | .inl x :: r => k (xm_sw sw a x) L r w
    | _ => none)
  | .getfield _ => (match st with
    | .inr (.inl (some q)) :: r => (match xm_fld o w q b a with
      | some v => k nx L (v :: r) w
      | none => none)
    | _ => none)
  | .putfield _ => (match st with
    | v :: .inr (.inl (some q)) :: r => (match xm_setf w q b a ((xm_kd b).getD a 9) v with
      | some w' => k nx L r w'
      | none => none)
    | _ => none)
  | .getstatic _ => (match sta[a]? with
    | some v => k nx L (v :: st) w
    | none => none)
  | .iaload => (match st with
    | .inl i :: .inr (.inl (some q)) :: r => (match xm_ints o w q with
      | some l => (match xm_at l i with
        | some x => k nx L (.inl x :: r) w
        | none => none)
      | none => none)
    | _ => none)
  | .baload => (match st with
    | .inl i :: .inr (.inl (some q)) :: r => (match xm_get o w q with
      | some (.inr (.inr (99, l))) => (match xm_at l i with
        | some (.inl x) => k nx L (.inl x :: r) w
        | _ => none)
      | _ => none)
    | _ => none)
  | .iastore => (match st with
    | .inl x :: .inl i :: .inr (.inl (some q)) :: r => (match xm_seti w q i x with
      | some w' => k nx L r w'
      | none => none)
    | _ => none)
  | .aaload => (match st with
    | .inl i :: .inr (.inl (some q)) :: r => (match xm_refs o w q with
      | some l => (match xm_at l i with
        | some x => k nx L (.inr (.inl x) :: r) w
        | none => none)
      | none => none)
    | _ => none)
  | .aastore => (match st with
    | .inr (.inl v) :: .inl i :: .inr (.inl (some q)) :: r => (match xm_setq w q i v with
      | some w' => k nx L r w'
      | none => none)
    | _ => none)
  | .arraylength => (match st with
    | .inr (.inl (some q)) :: r => (match xm_get o w q with
      | some (.inl l) => if l.length < 1000000 then k nx L (.inl (l.length : Int) :: r) w else none
      | some (.inr (.inr (99, l))) => if l.length < 1000000 then k nx L (.inl (l.length : Int) :: r) w else none
      | _ => none)
    | _ => none)
  | .new _ => k nx L (.inr (.inl (some w.length)) :: st) (w ++ [.inr (.inr (b, (xm_kd b).map xm_dflt))])
  | .newarray _ => (match st with
    | .inl n :: r => if 0 ≤ n ∧ n ≤ 1000 then k nx L (.inr (.inl (some w.length)) :: r) (w ++ [.inl (List.replicate n.toNat 0)]) else none
    | _ => none)
  | .anewarray _ => (match st with
    | .inl n :: r => if 0 ≤ n ∧ n ≤ 1000 then k nx L (.inr (.inl (some w.length)) :: r) (w ++ [.inr (.inl (b, List.replicate n.toNat none))]) else none
    | _ => none)
  | .invokevirtual _ => if (st.drop b).length ≤ 4 then (match call a (st.take b).reverse w with
    | some (none, w') => k nx L (st.drop b) w'
    | some (some v, w') => k nx L (v :: st.drop b) w'
    | none => none) else none
  | .invokespecial _ => if a = 1 then (match st with
      | .inr (.inl (some _)) :: r => if r.length ≤ 4 then k nx L r w else none
      | _ => none)
    else if (st.drop b).length ≤ 4 then (match call a (st.take b).reverse w with
    | some (none, w') => k nx L (st.drop b) w'
    | some (some v, w') => k nx L (v :: st.drop b) w'
    | none => none) else none
  | .invokestatic _ => if a = 2 then (match st with
      | .inl n :: .inl dp :: .inr (.inl (some k1)) :: .inl sp :: .inr (.inl (some k0)) :: r => if r.length ≤ 4 then (match xm_copy w k0 sp k1 dp n with
        | some w' => k nx L r w'
        | none => none) else none
      | _ => none)
    else if a < 6 then (match xm_mth a st with
      | some r => if r.length ≤ 5 then k nx L r w else none
      | none => none)
    else if (st.drop b).length ≤ 4 then (match call a (st.take b).reverse w with
    | some (none, w') => k nx L (st.drop b) w'
    | some (some v, w') => k nx L (v :: st.drop b) w'
    | none => none) else none
  | .ireturn => (match st with
    | [.inl x] => some (some (.inl x), w)
    | _ => none)
  | .areturn => (match st with
    | [.inr (.inl x)] => some (some (.inr (.inl x)), w)
    | _ => none)
  | .return_ => (match st with
    | [] => some (none, w)
    | _ => none)
  | _ => none
def xm_run (o : xm_W) (sta : List xm_V) (call : Nat → List xm_V → xm_W → xm_R) (cd : List xm_I) : Nat → xm_Kt
  | 0, _, _, _, _ => none
  | n + 1, i, L, st, w => match cd[i]? with
    | some e => xm_step o sta call e L st w (xm_run o sta call cd n)
    | none => none
