def xm_len (o w : xm_W) (y : Nat) : Option Nat := match xm_get o w y with
  | some (.inl l) => if l.length < 1000000 then some l.length else none
  | some (.inr (.inr (99, l))) => if l.length < 1000000 then some l.length else none
  | _ => none
def xm_byt (o w : xm_W) (y : Nat) (i : Int) : Option Int := match xm_get o w y with
  | some (.inr (.inr (99, l))) => (match xm_at l i with
    | some (.inl x) => some x
    | _ => none)
  | _ => none
section xs_sec
variable {o : xm_W} {sta : List xm_V} {f : Nat → List xm_V → xm_W → xm_R} {cd : List xm_I} {i pc nx a b : Nat} {ps : List Nat} {sw : List (Int × Nat)} {L : List (Option xm_V)} {st r : List xm_V} {w : xm_W} {q : Option xm_V × xm_W}
theorem xm_E_sp {e : xm_I} (he : cd[i]? = some e) (h : xm_sp o sta f e L st w q (fun i' L' st' w' => xm_E o sta f cd i' L' st' w' q)) : xm_E o sta f cd i L st w q := by
  rcases xm_sp_one h with h1 | ⟨i', L', st', w', h1, h2⟩
  · exact ⟨1, by unfold xm_run; rw [he]; exact h1 _⟩
  · obtain ⟨m, hm⟩ := h1
    exact ⟨m + 1, by unfold xm_run; rw [he]; exact (h2 _).trans hm⟩
theorem xs_iconst {z : Int} (he : cd[i]? = some (.iconst z, pc, nx, a, b, ps, sw)) (h : xm_E o sta f cd nx L (.inl z :: st) w q) : xm_E o sta f cd i L (st) w q := xm_E_sp he h
theorem xs_bipush {z : Int} (he : cd[i]? = some (.bipush z, pc, nx, a, b, ps, sw)) (h : xm_E o sta f cd nx L (.inl z :: st) w q) : xm_E o sta f cd i L (st) w q := xm_E_sp he h
theorem xs_sipush {z : Int} (he : cd[i]? = some (.sipush z, pc, nx, a, b, ps, sw)) (h : xm_E o sta f cd nx L (.inl z :: st) w q) : xm_E o sta f cd i L (st) w q := xm_E_sp he h
theorem xs_ldc {j u : Nat} {z : Int} (he : cd[i]? = some (.ldc j, pc, nx, a, b, ps, [(z, u)])) (h : xm_E o sta f cd nx L (.inl z :: st) w q) : xm_E o sta f cd i L (st) w q := xm_E_sp he h
theorem xs_ldcs {j : Nat} (he : cd[i]? = some (.ldc j, pc, nx, a, b, ps, [])) (h : xm_E o sta f cd nx L (.inr (.inl (some (1000000 + a))) :: st) w q) : xm_E o sta f cd i L (st) w q := xm_E_sp he h
theorem xs_ldcw {j u : Nat} {z : Int} (he : cd[i]? = some (.ldc_w j, pc, nx, a, b, ps, [(z, u)])) (h : xm_E o sta f cd nx L (.inl z :: st) w q) : xm_E o sta f cd i L (st) w q := xm_E_sp he h
theorem xs_ldc2 {j u : Nat} {z : Int} (he : cd[i]? = some (.ldc2_w j, pc, nx, a, b, ps, [(z, u)])) (h : xm_E o sta f cd nx L (.inr (.inr (Int64.ofInt z)) :: st) w q) : xm_E o sta f cd i L (st) w q := xm_E_sp he h
theorem xs_iload {j : Nat} {x : Int} (he : cd[i]? = some (.iload j, pc, nx, a, b, ps, sw)) (hl : L[a]? = some (some (.inl x))) (h : xm_E o sta f cd nx L (.inl x :: st) w q) : xm_E o sta f cd i L (st) w q := xm_E_sp he (by simp only [xm_sp, hl]; exact h)
theorem xs_iload_n {j : Fin 4} {x : Int} (he : cd[i]? = some (.iload_n j, pc, nx, a, b, ps, sw)) (hl : L[a]? = some (some (.inl x))) (h : xm_E o sta f cd nx L (.inl x :: st) w q) : xm_E o sta f cd i L (st) w q := xm_E_sp he (by simp only [xm_sp, hl]; exact h)
theorem xs_aload {j : Nat} {x : Option Nat} (he : cd[i]? = some (.aload j, pc, nx, a, b, ps, sw)) (hl : L[a]? = some (some (.inr (.inl x)))) (h : xm_E o sta f cd nx L (.inr (.inl x) :: st) w q) : xm_E o sta f cd i L (st) w q := xm_E_sp he (by simp only [xm_sp, hl]; exact h)
theorem xs_aload_n {j : Fin 4} {x : Option Nat} (he : cd[i]? = some (.aload_n j, pc, nx, a, b, ps, sw)) (hl : L[a]? = some (some (.inr (.inl x)))) (h : xm_E o sta f cd nx L (.inr (.inl x) :: st) w q) : xm_E o sta f cd i L (st) w q := xm_E_sp he (by simp only [xm_sp, hl]; exact h)
theorem xs_lload_n {j : Fin 4} {x : Int64} (he : cd[i]? = some (.lload_n j, pc, nx, a, b, ps, sw)) (hl : L[a]? = some (some (.inr (.inr x)))) (h : xm_E o sta f cd nx L (.inr (.inr x) :: st) w q) : xm_E o sta f cd i L (st) w q := xm_E_sp he (by simp only [xm_sp, hl]; exact h)
theorem xs_istore {j : Nat} {x : Int} (he : cd[i]? = some (.istore j, pc, nx, a, b, ps, sw)) (hl : xm_nl L a = true) (h : xm_E o sta f cd nx (L.set a (some (.inl x))) (r) w q) : xm_E o sta f cd i L (.inl x :: r) w q := xm_E_sp he (by simp only [xm_sp, hl]; exact h)
theorem xs_istore_n {j : Fin 4} {x : Int} (he : cd[i]? = some (.istore_n j, pc, nx, a, b, ps, sw)) (hl : xm_nl L a = true) (h : xm_E o sta f cd nx (L.set a (some (.inl x))) (r) w q) : xm_E o sta f cd i L (.inl x :: r) w q := xm_E_sp he (by simp only [xm_sp, hl]; exact h)
theorem xs_astore {j : Nat} {x : Option Nat} (he : cd[i]? = some (.astore j, pc, nx, a, b, ps, sw)) (hl : xm_nl L a = true) (h : xm_E o sta f cd nx (L.set a (some (.inr (.inl x)))) (r) w q) : xm_E o sta f cd i L (.inr (.inl x) :: r) w q := xm_E_sp he (by simp only [xm_sp, hl]; exact h)
theorem xs_astore_n {j : Fin 4} {x : Option Nat} (he : cd[i]? = some (.astore_n j, pc, nx, a, b, ps, sw)) (hl : xm_nl L a = true) (h : xm_E o sta f cd nx (L.set a (some (.inr (.inl x)))) (r) w q) : xm_E o sta f cd i L (.inr (.inl x) :: r) w q := xm_E_sp he (by simp only [xm_sp, hl]; exact h)
theorem xs_iinc {j : Nat} {z x : Int} (he : cd[i]? = some (.iinc j z, pc, nx, a, b, ps, sw)) (hl : L[a]? = some (some (.inl x))) (hn : xm_nl L a = true) (h : xm_E o sta f cd nx (L.set a (some (.inl (xm_w (x + z))))) (st) w q) : xm_E o sta f cd i L (st) w q := xm_E_sp he (by simp only [xm_sp, hl, hn]; exact h)
theorem xs_null (he : cd[i]? = some (.aconst_null, pc, nx, a, b, ps, sw)) (h : xm_E o sta f cd nx L (.inr (.inl none) :: st) w q) : xm_E o sta f cd i L (st) w q := xm_E_sp he h
theorem xs_dup {x : Int} (he : cd[i]? = some (.dup, pc, nx, a, b, ps, sw)) (h : xm_E o sta f cd nx L (.inl x :: .inl x :: r) w q) : xm_E o sta f cd i L (.inl x :: r) w q := xm_E_sp he h
theorem xs_dupr {x : Option Nat} (he : cd[i]? = some (.dup, pc, nx, a, b, ps, sw)) (h : xm_E o sta f cd nx L (.inr (.inl x) :: .inr (.inl x) :: r) w q) : xm_E o sta f cd i L (.inr (.inl x) :: r) w q := xm_E_sp he h
theorem xs_dup_x1 {x : Int} {y : Option Nat} (he : cd[i]? = some (.dup_x1, pc, nx, a, b, ps, sw)) (h : xm_E o sta f cd nx L (.inl x :: .inr (.inl y) :: .inl x :: r) w q) : xm_E o sta f cd i L (.inl x :: .inr (.inl y) :: r) w q := xm_E_sp he h
theorem xs_dup_x1i {x y : Int} (he : cd[i]? = some (.dup_x1, pc, nx, a, b, ps, sw)) (h : xm_E o sta f cd nx L (.inl x :: .inl y :: .inl x :: r) w q) : xm_E o sta f cd i L (.inl x :: .inl y :: r) w q := xm_E_sp he h
theorem xs_dup2 {x : Int} {y : Option Nat} (he : cd[i]? = some (.dup2, pc, nx, a, b, ps, sw)) (h : xm_E o sta f cd nx L (.inl x :: .inr (.inl y) :: .inl x :: .inr (.inl y) :: r) w q) : xm_E o sta f cd i L (.inl x :: .inr (.inl y) :: r) w q := xm_E_sp he h
theorem xs_pop {x : Int} (he : cd[i]? = some (.pop, pc, nx, a, b, ps, sw)) (h : xm_E o sta f cd nx L (r) w q) : xm_E o sta f cd i L (.inl x :: r) w q := xm_E_sp he h
theorem xs_iadd {x y : Int} (he : cd[i]? = some (.iadd, pc, nx, a, b, ps, sw)) (h : xm_E o sta f cd nx L (.inl (xm_w (x + y)) :: r) w q) : xm_E o sta f cd i L (.inl y :: .inl x :: r) w q := xm_E_sp he h
theorem xs_isub {x y : Int} (he : cd[i]? = some (.isub, pc, nx, a, b, ps, sw)) (h : xm_E o sta f cd nx L (.inl (xm_w (x - y)) :: r) w q) : xm_E o sta f cd i L (.inl y :: .inl x :: r) w q := xm_E_sp he h
theorem xs_imul {x y : Int} (he : cd[i]? = some (.imul, pc, nx, a, b, ps, sw)) (h : xm_E o sta f cd nx L (.inl (xm_w (x * y)) :: r) w q) : xm_E o sta f cd i L (.inl y :: .inl x :: r) w q := xm_E_sp he h
theorem xs_iand {x y : Int} (he : cd[i]? = some (.iand, pc, nx, a, b, ps, sw)) (h : xm_E o sta f cd nx L (.inl (xm_and x y) :: r) w q) : xm_E o sta f cd i L (.inl y :: .inl x :: r) w q := xm_E_sp he h
theorem xs_ior {x y : Int} (he : cd[i]? = some (.ior, pc, nx, a, b, ps, sw)) (h : xm_E o sta f cd nx L (.inl (xm_or x y) :: r) w q) : xm_E o sta f cd i L (.inl y :: .inl x :: r) w q := xm_E_sp he h
theorem xs_ixor {x y : Int} (he : cd[i]? = some (.ixor, pc, nx, a, b, ps, sw)) (h : xm_E o sta f cd nx L (.inl (xm_xor x y) :: r) w q) : xm_E o sta f cd i L (.inl y :: .inl x :: r) w q := xm_E_sp he h
theorem xs_ishl {x y : Int} (he : cd[i]? = some (.ishl, pc, nx, a, b, ps, sw)) (h : xm_E o sta f cd nx L (.inl (xm_shl x y) :: r) w q) : xm_E o sta f cd i L (.inl y :: .inl x :: r) w q := xm_E_sp he h
theorem xs_ishr {x y : Int} (he : cd[i]? = some (.ishr, pc, nx, a, b, ps, sw)) (h : xm_E o sta f cd nx L (.inl (xm_shr x y) :: r) w q) : xm_E o sta f cd i L (.inl y :: .inl x :: r) w q := xm_E_sp he h
theorem xs_iushr {x y : Int} (he : cd[i]? = some (.iushr, pc, nx, a, b, ps, sw)) (h : xm_E o sta f cd nx L (.inl (xm_ushr x y) :: r) w q) : xm_E o sta f cd i L (.inl y :: .inl x :: r) w q := xm_E_sp he h
theorem xs_idiv {x y : Int} {P : Prop} (he : cd[i]? = some (.idiv, pc, nx, a, b, ps, sw)) (h : y ≠ 0 ∧ P) (k : P → xm_E o sta f cd nx L (.inl (xm_w (x.tdiv y)) :: r) w q) : xm_E o sta f cd i L (.inl y :: .inl x :: r) w q := xm_E_sp he ⟨h.1, k h.2⟩
theorem xs_irem {x y : Int} {P : Prop} (he : cd[i]? = some (.irem, pc, nx, a, b, ps, sw)) (h : y ≠ 0 ∧ P) (k : P → xm_E o sta f cd nx L (.inl (x.tmod y) :: r) w q) : xm_E o sta f cd i L (.inl y :: .inl x :: r) w q := xm_E_sp he ⟨h.1, k h.2⟩
theorem xs_ineg {x : Int} (he : cd[i]? = some (.ineg, pc, nx, a, b, ps, sw)) (h : xm_E o sta f cd nx L (.inl (xm_w (-x)) :: r) w q) : xm_E o sta f cd i L (.inl x :: r) w q := xm_E_sp he h
theorem xs_i2b {x : Int} (he : cd[i]? = some (.i2b, pc, nx, a, b, ps, sw)) (h : xm_E o sta f cd nx L (.inl (xm_b x) :: r) w q) : xm_E o sta f cd i L (.inl x :: r) w q := xm_E_sp he h
theorem xs_i2s {x : Int} (he : cd[i]? = some (.i2s, pc, nx, a, b, ps, sw)) (h : xm_E o sta f cd nx L (.inl (xm_s x) :: r) w q) : xm_E o sta f cd i L (.inl x :: r) w q := xm_E_sp he h
theorem xs_i2c {x : Int} (he : cd[i]? = some (.i2c, pc, nx, a, b, ps, sw)) (h : xm_E o sta f cd nx L (.inl (x % 65536) :: r) w q) : xm_E o sta f cd i L (.inl x :: r) w q := xm_E_sp he h
theorem xs_i2l {x : Int} (he : cd[i]? = some (.i2l, pc, nx, a, b, ps, sw)) (h : xm_E o sta f cd nx L (.inr (.inr (Int32.ofInt x).toInt64) :: r) w q) : xm_E o sta f cd i L (.inl x :: r) w q := xm_E_sp he h
theorem xs_l2i {x : Int64} (he : cd[i]? = some (.l2i, pc, nx, a, b, ps, sw)) (h : xm_E o sta f cd nx L (.inl x.toInt32.toInt :: r) w q) : xm_E o sta f cd i L (.inr (.inr x) :: r) w q := xm_E_sp he h
theorem xs_land {x y : Int64} (he : cd[i]? = some (.land, pc, nx, a, b, ps, sw)) (h : xm_E o sta f cd nx L (.inr (.inr (x &&& y)) :: r) w q) : xm_E o sta f cd i L (.inr (.inr y) :: .inr (.inr x) :: r) w q := xm_E_sp he h
theorem xs_lor {x y : Int64} (he : cd[i]? = some (.lor, pc, nx, a, b, ps, sw)) (h : xm_E o sta f cd nx L (.inr (.inr (x ||| y)) :: r) w q) : xm_E o sta f cd i L (.inr (.inr y) :: .inr (.inr x) :: r) w q := xm_E_sp he h
theorem xs_lshl {x : Int64} {y : Int} (he : cd[i]? = some (.lshl, pc, nx, a, b, ps, sw)) (h : xm_E o sta f cd nx L (.inr (.inr (xm_lshl x y)) :: r) w q) : xm_E o sta f cd i L (.inl y :: .inr (.inr x) :: r) w q := xm_E_sp he h
theorem xs_lshr {x : Int64} {y : Int} (he : cd[i]? = some (.lshr, pc, nx, a, b, ps, sw)) (h : xm_E o sta f cd nx L (.inr (.inr (xm_lshr x y)) :: r) w q) : xm_E o sta f cd i L (.inl y :: .inr (.inr x) :: r) w q := xm_E_sp he h
theorem xs_lushr {x : Int64} {y : Int} (he : cd[i]? = some (.lushr, pc, nx, a, b, ps, sw)) (h : xm_E o sta f cd nx L (.inr (.inr (xm_lushr x y)) :: r) w q) : xm_E o sta f cd i L (.inl y :: .inr (.inr x) :: r) w q := xm_E_sp he h
theorem xs_ite {c P R A B : Prop} {d : Decidable c} (h : if c then P else R) (hp : P → A) (hr : R → B) : if c then A else B := by
  by_cases hc : c
  · rw [if_pos hc] at h ⊢; exact hp h
  · rw [if_neg hc] at h ⊢; exact hr h
theorem xs_if_eq {off : Int} {x : Int} {P R : Prop} (he : cd[i]? = some (.ifCond .eq off, pc, nx, a, b, ps, sw)) (h : if x = 0 then P else R) (hp : P → xm_E o sta f cd a L (r) w q) (hr : R → xm_E o sta f cd nx L (r) w q) : xm_E o sta f cd i L (.inl x :: r) w q := xm_E_sp he (xs_ite h hp hr)
theorem xs_if_ne {off : Int} {x : Int} {P R : Prop} (he : cd[i]? = some (.ifCond .ne off, pc, nx, a, b, ps, sw)) (h : if x = 0 then P else R) (hp : P → xm_E o sta f cd nx L (r) w q) (hr : R → xm_E o sta f cd a L (r) w q) : xm_E o sta f cd i L (.inl x :: r) w q := xm_E_sp he (xs_ite h hp hr)
theorem xs_if_lt {off : Int} {x : Int} {P R : Prop} (he : cd[i]? = some (.ifCond .lt off, pc, nx, a, b, ps, sw)) (h : if x < 0 then P else R) (hp : P → xm_E o sta f cd a L (r) w q) (hr : R → xm_E o sta f cd nx L (r) w q) : xm_E o sta f cd i L (.inl x :: r) w q := xm_E_sp he (xs_ite h hp hr)
theorem xs_if_ge {off : Int} {x : Int} {P R : Prop} (he : cd[i]? = some (.ifCond .ge off, pc, nx, a, b, ps, sw)) (h : if x < 0 then P else R) (hp : P → xm_E o sta f cd nx L (r) w q) (hr : R → xm_E o sta f cd a L (r) w q) : xm_E o sta f cd i L (.inl x :: r) w q := xm_E_sp he (xs_ite h hp hr)
theorem xs_if_gt {off : Int} {x : Int} {P R : Prop} (he : cd[i]? = some (.ifCond .gt off, pc, nx, a, b, ps, sw)) (h : if 0 < x then P else R) (hp : P → xm_E o sta f cd a L (r) w q) (hr : R → xm_E o sta f cd nx L (r) w q) : xm_E o sta f cd i L (.inl x :: r) w q := xm_E_sp he (xs_ite h hp hr)
theorem xs_if_le {off : Int} {x : Int} {P R : Prop} (he : cd[i]? = some (.ifCond .le off, pc, nx, a, b, ps, sw)) (h : if 0 < x then P else R) (hp : P → xm_E o sta f cd nx L (r) w q) (hr : R → xm_E o sta f cd a L (r) w q) : xm_E o sta f cd i L (.inl x :: r) w q := xm_E_sp he (xs_ite h hp hr)
theorem xs_ic_eq {off : Int} {x y : Int} {P R : Prop} (he : cd[i]? = some (.if_icmp .eq off, pc, nx, a, b, ps, sw)) (h : if x = y then P else R) (hp : P → xm_E o sta f cd a L (r) w q) (hr : R → xm_E o sta f cd nx L (r) w q) : xm_E o sta f cd i L (.inl y :: .inl x :: r) w q := xm_E_sp he (xs_ite h hp hr)
theorem xs_ic_ne {off : Int} {x y : Int} {P R : Prop} (he : cd[i]? = some (.if_icmp .ne off, pc, nx, a, b, ps, sw)) (h : if x = y then P else R) (hp : P → xm_E o sta f cd nx L (r) w q) (hr : R → xm_E o sta f cd a L (r) w q) : xm_E o sta f cd i L (.inl y :: .inl x :: r) w q := xm_E_sp he (xs_ite h hp hr)
theorem xs_ic_lt {off : Int} {x y : Int} {P R : Prop} (he : cd[i]? = some (.if_icmp .lt off, pc, nx, a, b, ps, sw)) (h : if x < y then P else R) (hp : P → xm_E o sta f cd a L (r) w q) (hr : R → xm_E o sta f cd nx L (r) w q) : xm_E o sta f cd i L (.inl y :: .inl x :: r) w q := xm_E_sp he (xs_ite h hp hr)
theorem xs_ic_ge {off : Int} {x y : Int} {P R : Prop} (he : cd[i]? = some (.if_icmp .ge off, pc, nx, a, b, ps, sw)) (h : if x < y then P else R) (hp : P → xm_E o sta f cd nx L (r) w q) (hr : R → xm_E o sta f cd a L (r) w q) : xm_E o sta f cd i L (.inl y :: .inl x :: r) w q := xm_E_sp he (xs_ite h hp hr)
theorem xs_ic_gt {off : Int} {x y : Int} {P R : Prop} (he : cd[i]? = some (.if_icmp .gt off, pc, nx, a, b, ps, sw)) (h : if y < x then P else R) (hp : P → xm_E o sta f cd a L (r) w q) (hr : R → xm_E o sta f cd nx L (r) w q) : xm_E o sta f cd i L (.inl y :: .inl x :: r) w q := xm_E_sp he (xs_ite h hp hr)
theorem xs_ic_le {off : Int} {x y : Int} {P R : Prop} (he : cd[i]? = some (.if_icmp .le off, pc, nx, a, b, ps, sw)) (h : if y < x then P else R) (hp : P → xm_E o sta f cd nx L (r) w q) (hr : R → xm_E o sta f cd a L (r) w q) : xm_E o sta f cd i L (.inl y :: .inl x :: r) w q := xm_E_sp he (xs_ite h hp hr)
theorem xs_ifnull {off : Int} {z : Option Nat} {P R : Prop} (he : cd[i]? = some (.ifnull off, pc, nx, a, b, ps, sw)) (h : if z = none then P else R) (hp : P → xm_E o sta f cd a L (r) w q) (hr : R → xm_E o sta f cd nx L (r) w q) : xm_E o sta f cd i L (.inr (.inl z) :: r) w q := xm_E_sp he (xs_ite h hp hr)
theorem xs_ifnonnull {off : Int} {z : Option Nat} {P R : Prop} (he : cd[i]? = some (.ifnonnull off, pc, nx, a, b, ps, sw)) (h : if z = none then P else R) (hp : P → xm_E o sta f cd nx L (r) w q) (hr : R → xm_E o sta f cd a L (r) w q) : xm_E o sta f cd i L (.inr (.inl z) :: r) w q := xm_E_sp he (xs_ite h hp hr)
theorem xs_goto {off : Int} (he : cd[i]? = some (.goto off, pc, nx, a, b, ps, sw)) (h : xm_E o sta f cd a L (st) w q) : xm_E o sta f cd i L (st) w q := xm_E_sp he h
theorem xs_swc {F : Nat → Prop} {x v : Int} {t d : Nat} {l : List (Int × Nat)} {P R : Prop} (h : if x = v then P else R) (hp : P → F t) (hr : R → xm_swP l d x F) : xm_swP ((v, t) :: l) d x F := xs_ite h hp hr
theorem xs_tsw {u1 u2 u3 x : Int} {u4 : Array Int} (he : cd[i]? = some (.tableswitch u1 u2 u3 u4, pc, nx, a, b, ps, sw)) (h : xm_swP sw a x (fun t => xm_E o sta f cd t L (r) w q)) : xm_E o sta f cd i L (.inl x :: r) w q := xm_E_sp he h
theorem xs_lsw {u1 x : Int} {u2 : Array (Int × Int)} (he : cd[i]? = some (.lookupswitch u1 u2, pc, nx, a, b, ps, sw)) (h : xm_swP sw a x (fun t => xm_E o sta f cd t L (r) w q)) : xm_E o sta f cd i L (.inl x :: r) w q := xm_E_sp he h
theorem xm_O_some {α : Type} {y : α} {F : α → Prop} : xm_O (some y) F = F y := rfl
theorem xm_O_of {α : Type} {x : Option α} {F K : α → Prop} (h : xm_O x F) (k : ∀ v, F v → K v) : xm_O x K := by
  cases x with
  | some v => exact k v h
  | none => exact h
theorem xm_Oi_of {x : xm_R} {F K : Int → xm_W → Prop} (h : xm_Oi x F) (k : ∀ z w, F z w → K z w) : xm_Oi x K := by
  match x, h with
  | some (some (.inl z), w), h => exact k z w h
theorem xm_Ov_of {x : xm_R} {F K : xm_W → Prop} (h : xm_Ov x F) (k : ∀ w, F w → K w) : xm_Ov x K := by
  match x, h with
  | some (none, w), h => exact k w h
theorem xm_Oq_of {x : xm_R} {F K : Option Nat → xm_W → Prop} (h : xm_Oq x F) (k : ∀ z w, F z w → K z w) : xm_Oq x K := by
  match x, h with
  | some (some (.inr (.inl z)), w), h => exact k z w h
theorem xs_geti0 {j y : Nat} {F : Int → Prop} (he : cd[i]? = some (.getfield j, pc, nx, a, b, ps, sw)) (hf : xm_fk b a = 0) (h : xm_O (xm_fi o w y b a) F) (k : ∀ v, F v → xm_E o sta f cd nx L (.inl v :: r) w q) : xm_E o sta f cd i L (.inr (.inl (some y)) :: r) w q := xm_E_sp he (by simp only [xm_sp, hf, xm_O_some]; exact xm_O_of h k)
theorem xs_geti1 {j y : Nat} {F : Int → Prop} (he : cd[i]? = some (.getfield j, pc, nx, a, b, ps, sw)) (hf : xm_fk b a = 1) (h : xm_O (xm_fi o w y b a) F) (k : ∀ v, F v → xm_E o sta f cd nx L (.inl v :: r) w q) : xm_E o sta f cd i L (.inr (.inl (some y)) :: r) w q := xm_E_sp he (by simp only [xm_sp, hf, xm_O_some]; exact xm_O_of h k)
theorem xs_getr {j y : Nat} {F : Nat → Prop} (he : cd[i]? = some (.getfield j, pc, nx, a, b, ps, sw)) (hf : xm_fk b a = 2) (h : xm_O (xm_fr o w y b a) F) (k : ∀ v, F v → xm_E o sta f cd nx L (.inr (.inl (some v)) :: r) w q) : xm_E o sta f cd i L (.inr (.inl (some y)) :: r) w q := xm_E_sp he (by simp only [xm_sp, hf, xm_O_some]; exact xm_O_of h k)
theorem xs_put {j y t : Nat} {v : xm_V} {F : xm_W → Prop} (he : cd[i]? = some (.putfield j, pc, nx, a, b, ps, sw)) (hf : (xm_kd b).getD a 9 = t) (h : xm_O (xm_setf w y b a t v) F) (k : ∀ w1, F w1 → xm_E o sta f cd nx L (r) w1 q) : xm_E o sta f cd i L (v :: .inr (.inl (some y)) :: r) w q := xm_E_sp he (by simp only [xm_sp, hf, xm_O_some]; exact xm_O_of h k)
theorem xs_gets {j : Nat} {v : xm_V} (he : cd[i]? = some (.getstatic j, pc, nx, a, b, ps, sw)) (hs : sta[a]? = some v) (h : xm_E o sta f cd nx L (v :: st) w q) : xm_E o sta f cd i L (st) w q := xm_E_sp he (by simp only [xm_sp, hs]; exact h)
theorem xs_iaload {z : Int} {y : Nat} {F : List Int → Prop} {K : List Int → Int → Prop} (he : cd[i]? = some (.iaload, pc, nx, a, b, ps, sw)) (h : xm_O (xm_ints o w y) F) (k : ∀ l, F l → xm_O (xm_at l z) (K l)) (k2 : ∀ l v, K l v → xm_E o sta f cd nx L (.inl v :: r) w q) : xm_E o sta f cd i L (.inl z :: .inr (.inl (some y)) :: r) w q := xm_E_sp he (by simp only [xm_sp, xm_O_some]; exact xm_O_of h fun l hl => xm_O_of (k l hl) (k2 l))
theorem xs_aaload {z : Int} {y : Nat} {F : List (Option Nat) → Prop} {K : List (Option Nat) → Option Nat → Prop} (he : cd[i]? = some (.aaload, pc, nx, a, b, ps, sw)) (h : xm_O (xm_refs o w y) F) (k : ∀ l, F l → xm_O (xm_at l z) (K l)) (k2 : ∀ l v, K l v → xm_E o sta f cd nx L (.inr (.inl v) :: r) w q) : xm_E o sta f cd i L (.inl z :: .inr (.inl (some y)) :: r) w q := xm_E_sp he (by simp only [xm_sp, xm_O_some]; exact xm_O_of h fun l hl => xm_O_of (k l hl) (k2 l))
theorem xs_iastore {x z : Int} {y : Nat} {F : xm_W → Prop} (he : cd[i]? = some (.iastore, pc, nx, a, b, ps, sw)) (h : xm_O (xm_seti w y z x) F) (k : ∀ w1, F w1 → xm_E o sta f cd nx L (r) w1 q) : xm_E o sta f cd i L (.inl x :: .inl z :: .inr (.inl (some y)) :: r) w q := xm_E_sp he (by simp only [xm_sp, xm_O_some]; exact xm_O_of h k)
theorem xs_aastore {x : Option Nat} {z : Int} {y : Nat} {F : xm_W → Prop} (he : cd[i]? = some (.aastore, pc, nx, a, b, ps, sw)) (h : xm_O (xm_setq w y z x) F) (k : ∀ w1, F w1 → xm_E o sta f cd nx L (r) w1 q) : xm_E o sta f cd i L (.inr (.inl x) :: .inl z :: .inr (.inl (some y)) :: r) w q := xm_E_sp he (by simp only [xm_sp, xm_O_some]; exact xm_O_of h k)
theorem xs_alen {y : Nat} {F : Nat → Prop} (he : cd[i]? = some (.arraylength, pc, nx, a, b, ps, sw)) (h : xm_O (xm_len o w y) F) (k : ∀ n : Nat, F n → xm_E o sta f cd nx L (.inl (n : Int) :: r) w q) : xm_E o sta f cd i L (.inr (.inl (some y)) :: r) w q := xm_E_sp he (by
  obtain ⟨n, hn, hF⟩ := xm_O_is h
  unfold xm_len at hn
  show (match xm_get o w y with
      | some (.inl l) => l.length < 1000000 ∧ xm_E o sta f cd nx L (.inl (l.length : Int) :: r) w q
      | some (.inr (.inr (99, l))) => l.length < 1000000 ∧ xm_E o sta f cd nx L (.inl (l.length : Int) :: r) w q
      | _ => False)
  split at hn
  next l hg =>
    split at hn
    next hl => cases hn; first | exact ⟨hl, k _ hF⟩ | (simp only [hg]; exact ⟨hl, k _ hF⟩)
    next => cases hn
  next l hg =>
    split at hn
    next hl => cases hn; first | exact ⟨hl, k _ hF⟩ | (simp only [hg]; exact ⟨hl, k _ hF⟩)
    next => cases hn
  next => cases hn)
theorem xs_baload {z : Int} {y : Nat} {F : Int → Prop} (he : cd[i]? = some (.baload, pc, nx, a, b, ps, sw)) (h : xm_O (xm_byt o w y z) F) (k : ∀ v, F v → xm_E o sta f cd nx L (.inl v :: r) w q) : xm_E o sta f cd i L (.inl z :: .inr (.inl (some y)) :: r) w q := xm_E_sp he (by
  obtain ⟨n, hn, hF⟩ := xm_O_is h
  unfold xm_byt at hn
  show (match xm_get o w y with
      | some (.inr (.inr (99, l))) => (match xm_at l z with
        | some (.inl x) => xm_E o sta f cd nx L (.inl x :: r) w q
        | _ => False)
      | _ => False)
  split at hn
  next l hg =>
    split at hn
    next hl => cases hn; first | exact k _ hF | (simp only [hg, hl]; exact k _ hF)
    next => cases hn
  next => cases hn)
theorem xs_new {j : Nat} (he : cd[i]? = some (.new j, pc, nx, a, b, ps, sw)) (h : xm_E o sta f cd nx L (.inr (.inl (some w.length)) :: st) (w ++ [.inr (.inr (b, (xm_kd b).map xm_dflt))]) q) : xm_E o sta f cd i L (st) w q := xm_E_sp he h
theorem xs_newarray {j : ArrayType} {n : Int} {P : Prop} (he : cd[i]? = some (.newarray j, pc, nx, a, b, ps, sw)) (h : (0 ≤ n ∧ n ≤ 1000) ∧ P) (k : P → xm_E o sta f cd nx L (.inr (.inl (some w.length)) :: r) (w ++ [.inl (List.replicate n.toNat 0)]) q) : xm_E o sta f cd i L (.inl n :: r) w q := xm_E_sp he ⟨h.1, k h.2⟩
theorem xs_anewarray {j : Nat} {n : Int} {P : Prop} (he : cd[i]? = some (.anewarray j, pc, nx, a, b, ps, sw)) (h : (0 ≤ n ∧ n ≤ 1000) ∧ P) (k : P → xm_E o sta f cd nx L (.inr (.inl (some w.length)) :: r) (w ++ [.inr (.inl (b, List.replicate n.toNat none))]) q) : xm_E o sta f cd i L (.inl n :: r) w q := xm_E_sp he ⟨h.1, k h.2⟩
theorem xs_invv0 {j : Nat} {as : List xm_V} {F : xm_W → Prop} (he : cd[i]? = some (.invokevirtual j, pc, nx, a, b, ps, sw)) (hrk : xm_rkd a = 0) (hsh : xm_sh (st.drop b) = true) (has : (st.take b).reverse = as) (hr : st.drop b = r) (h : xm_Ov (f a as w) F) (k : ∀ w1, F w1 → xm_E o sta f cd nx L (r) w1 q) : xm_E o sta f cd i L (st) w q := xm_E_sp he (show xm_inP f nx a b L st w (fun i' L' st' w' => xm_E o sta f cd i' L' st' w' q) from (by
  subst has; subst hr
  simp only [xm_inP, hsh, hrk]
  exact xm_Ov_of h k))
theorem xs_invv1 {j : Nat} {as : List xm_V} {F : Int → xm_W → Prop} (he : cd[i]? = some (.invokevirtual j, pc, nx, a, b, ps, sw)) (hrk : xm_rkd a = 1) (hsh : xm_sh (st.drop b) = true) (has : (st.take b).reverse = as) (hr : st.drop b = r) (h : xm_Oi (f a as w) F) (k : ∀ z w1, F z w1 → xm_E o sta f cd nx L (.inl z :: r) w1 q) : xm_E o sta f cd i L (st) w q := xm_E_sp he (show xm_inP f nx a b L st w (fun i' L' st' w' => xm_E o sta f cd i' L' st' w' q) from (by
  subst has; subst hr
  simp only [xm_inP, hsh, hrk]
  exact xm_Oi_of h k))
theorem xs_invv2 {j : Nat} {as : List xm_V} {F : Int → xm_W → Prop} (he : cd[i]? = some (.invokevirtual j, pc, nx, a, b, ps, sw)) (hrk : xm_rkd a = 2) (hsh : xm_sh (st.drop b) = true) (has : (st.take b).reverse = as) (hr : st.drop b = r) (h : xm_Oi (f a as w) F) (k : ∀ z w1, F z w1 → xm_E o sta f cd nx L (.inl z :: r) w1 q) : xm_E o sta f cd i L (st) w q := xm_E_sp he (show xm_inP f nx a b L st w (fun i' L' st' w' => xm_E o sta f cd i' L' st' w' q) from (by
  subst has; subst hr
  simp only [xm_inP, hsh, hrk]
  exact xm_Oi_of h k))
theorem xs_invv4 {j : Nat} {as : List xm_V} {F : Int → xm_W → Prop} (he : cd[i]? = some (.invokevirtual j, pc, nx, a, b, ps, sw)) (hrk : xm_rkd a = 4) (hsh : xm_sh (st.drop b) = true) (has : (st.take b).reverse = as) (hr : st.drop b = r) (h : xm_Oi (f a as w) F) (k : ∀ z w1, F z w1 → xm_E o sta f cd nx L (.inl z :: r) w1 q) : xm_E o sta f cd i L (st) w q := xm_E_sp he (show xm_inP f nx a b L st w (fun i' L' st' w' => xm_E o sta f cd i' L' st' w' q) from (by
  subst has; subst hr
  simp only [xm_inP, hsh, hrk]
  exact xm_Oi_of h k))
theorem xs_invv3 {j : Nat} {as : List xm_V} {F : Option Nat → xm_W → Prop} (he : cd[i]? = some (.invokevirtual j, pc, nx, a, b, ps, sw)) (hrk : xm_rkd a = 3) (hsh : xm_sh (st.drop b) = true) (has : (st.take b).reverse = as) (hr : st.drop b = r) (h : xm_Oq (f a as w) F) (k : ∀ z w1, F z w1 → xm_E o sta f cd nx L (.inr (.inl z) :: r) w1 q) : xm_E o sta f cd i L (st) w q := xm_E_sp he (show xm_inP f nx a b L st w (fun i' L' st' w' => xm_E o sta f cd i' L' st' w' q) from (by
  subst has; subst hr
  simp only [xm_inP, hsh, hrk]
  exact xm_Oq_of h k))
theorem xs_invs0 {j a1 : Nat} {as : List xm_V} {F : xm_W → Prop} (he : cd[i]? = some (.invokestatic j, pc, nx, a1 + 6, b, ps, sw)) (hrk : xm_rkd (a1 + 6) = 0) (hsh : xm_sh (st.drop b) = true) (has : (st.take b).reverse = as) (hr : st.drop b = r) (h : xm_Ov (f (a1 + 6) as w) F) (k : ∀ w1, F w1 → xm_E o sta f cd nx L (r) w1 q) : xm_E o sta f cd i L (st) w q := xm_E_sp he (show xm_inP f nx (a1 + 6) b L st w (fun i' L' st' w' => xm_E o sta f cd i' L' st' w' q) from (by
  subst has; subst hr
  simp only [xm_inP, hsh, hrk]
  exact xm_Ov_of h k))
theorem xs_invs1 {j a1 : Nat} {as : List xm_V} {F : Int → xm_W → Prop} (he : cd[i]? = some (.invokestatic j, pc, nx, a1 + 6, b, ps, sw)) (hrk : xm_rkd (a1 + 6) = 1) (hsh : xm_sh (st.drop b) = true) (has : (st.take b).reverse = as) (hr : st.drop b = r) (h : xm_Oi (f (a1 + 6) as w) F) (k : ∀ z w1, F z w1 → xm_E o sta f cd nx L (.inl z :: r) w1 q) : xm_E o sta f cd i L (st) w q := xm_E_sp he (show xm_inP f nx (a1 + 6) b L st w (fun i' L' st' w' => xm_E o sta f cd i' L' st' w' q) from (by
  subst has; subst hr
  simp only [xm_inP, hsh, hrk]
  exact xm_Oi_of h k))
theorem xs_invs2 {j a1 : Nat} {as : List xm_V} {F : Int → xm_W → Prop} (he : cd[i]? = some (.invokestatic j, pc, nx, a1 + 6, b, ps, sw)) (hrk : xm_rkd (a1 + 6) = 2) (hsh : xm_sh (st.drop b) = true) (has : (st.take b).reverse = as) (hr : st.drop b = r) (h : xm_Oi (f (a1 + 6) as w) F) (k : ∀ z w1, F z w1 → xm_E o sta f cd nx L (.inl z :: r) w1 q) : xm_E o sta f cd i L (st) w q := xm_E_sp he (show xm_inP f nx (a1 + 6) b L st w (fun i' L' st' w' => xm_E o sta f cd i' L' st' w' q) from (by
  subst has; subst hr
  simp only [xm_inP, hsh, hrk]
  exact xm_Oi_of h k))
theorem xs_invs4 {j a1 : Nat} {as : List xm_V} {F : Int → xm_W → Prop} (he : cd[i]? = some (.invokestatic j, pc, nx, a1 + 6, b, ps, sw)) (hrk : xm_rkd (a1 + 6) = 4) (hsh : xm_sh (st.drop b) = true) (has : (st.take b).reverse = as) (hr : st.drop b = r) (h : xm_Oi (f (a1 + 6) as w) F) (k : ∀ z w1, F z w1 → xm_E o sta f cd nx L (.inl z :: r) w1 q) : xm_E o sta f cd i L (st) w q := xm_E_sp he (show xm_inP f nx (a1 + 6) b L st w (fun i' L' st' w' => xm_E o sta f cd i' L' st' w' q) from (by
  subst has; subst hr
  simp only [xm_inP, hsh, hrk]
  exact xm_Oi_of h k))
theorem xs_invs3 {j a1 : Nat} {as : List xm_V} {F : Option Nat → xm_W → Prop} (he : cd[i]? = some (.invokestatic j, pc, nx, a1 + 6, b, ps, sw)) (hrk : xm_rkd (a1 + 6) = 3) (hsh : xm_sh (st.drop b) = true) (has : (st.take b).reverse = as) (hr : st.drop b = r) (h : xm_Oq (f (a1 + 6) as w) F) (k : ∀ z w1, F z w1 → xm_E o sta f cd nx L (.inr (.inl z) :: r) w1 q) : xm_E o sta f cd i L (st) w q := xm_E_sp he (show xm_inP f nx (a1 + 6) b L st w (fun i' L' st' w' => xm_E o sta f cd i' L' st' w' q) from (by
  subst has; subst hr
  simp only [xm_inP, hsh, hrk]
  exact xm_Oq_of h k))
theorem xs_invi0 {j a1 : Nat} {as : List xm_V} {F : xm_W → Prop} (he : cd[i]? = some (.invokespecial j, pc, nx, a1 + 2, b, ps, sw)) (hrk : xm_rkd (a1 + 2) = 0) (hsh : xm_sh (st.drop b) = true) (has : (st.take b).reverse = as) (hr : st.drop b = r) (h : xm_Ov (f (a1 + 2) as w) F) (k : ∀ w1, F w1 → xm_E o sta f cd nx L (r) w1 q) : xm_E o sta f cd i L (st) w q := xm_E_sp he (show xm_inP f nx (a1 + 2) b L st w (fun i' L' st' w' => xm_E o sta f cd i' L' st' w' q) from (by
  subst has; subst hr
  simp only [xm_inP, hsh, hrk]
  exact xm_Ov_of h k))
theorem xs_invi1 {j a1 : Nat} {as : List xm_V} {F : Int → xm_W → Prop} (he : cd[i]? = some (.invokespecial j, pc, nx, a1 + 2, b, ps, sw)) (hrk : xm_rkd (a1 + 2) = 1) (hsh : xm_sh (st.drop b) = true) (has : (st.take b).reverse = as) (hr : st.drop b = r) (h : xm_Oi (f (a1 + 2) as w) F) (k : ∀ z w1, F z w1 → xm_E o sta f cd nx L (.inl z :: r) w1 q) : xm_E o sta f cd i L (st) w q := xm_E_sp he (show xm_inP f nx (a1 + 2) b L st w (fun i' L' st' w' => xm_E o sta f cd i' L' st' w' q) from (by
  subst has; subst hr
  simp only [xm_inP, hsh, hrk]
  exact xm_Oi_of h k))
theorem xs_invi2 {j a1 : Nat} {as : List xm_V} {F : Int → xm_W → Prop} (he : cd[i]? = some (.invokespecial j, pc, nx, a1 + 2, b, ps, sw)) (hrk : xm_rkd (a1 + 2) = 2) (hsh : xm_sh (st.drop b) = true) (has : (st.take b).reverse = as) (hr : st.drop b = r) (h : xm_Oi (f (a1 + 2) as w) F) (k : ∀ z w1, F z w1 → xm_E o sta f cd nx L (.inl z :: r) w1 q) : xm_E o sta f cd i L (st) w q := xm_E_sp he (show xm_inP f nx (a1 + 2) b L st w (fun i' L' st' w' => xm_E o sta f cd i' L' st' w' q) from (by
  subst has; subst hr
  simp only [xm_inP, hsh, hrk]
  exact xm_Oi_of h k))
theorem xs_invi4 {j a1 : Nat} {as : List xm_V} {F : Int → xm_W → Prop} (he : cd[i]? = some (.invokespecial j, pc, nx, a1 + 2, b, ps, sw)) (hrk : xm_rkd (a1 + 2) = 4) (hsh : xm_sh (st.drop b) = true) (has : (st.take b).reverse = as) (hr : st.drop b = r) (h : xm_Oi (f (a1 + 2) as w) F) (k : ∀ z w1, F z w1 → xm_E o sta f cd nx L (.inl z :: r) w1 q) : xm_E o sta f cd i L (st) w q := xm_E_sp he (show xm_inP f nx (a1 + 2) b L st w (fun i' L' st' w' => xm_E o sta f cd i' L' st' w' q) from (by
  subst has; subst hr
  simp only [xm_inP, hsh, hrk]
  exact xm_Oi_of h k))
theorem xs_invi3 {j a1 : Nat} {as : List xm_V} {F : Option Nat → xm_W → Prop} (he : cd[i]? = some (.invokespecial j, pc, nx, a1 + 2, b, ps, sw)) (hrk : xm_rkd (a1 + 2) = 3) (hsh : xm_sh (st.drop b) = true) (has : (st.take b).reverse = as) (hr : st.drop b = r) (h : xm_Oq (f (a1 + 2) as w) F) (k : ∀ z w1, F z w1 → xm_E o sta f cd nx L (.inr (.inl z) :: r) w1 q) : xm_E o sta f cd i L (st) w q := xm_E_sp he (show xm_inP f nx (a1 + 2) b L st w (fun i' L' st' w' => xm_E o sta f cd i' L' st' w' q) from (by
  subst has; subst hr
  simp only [xm_inP, hsh, hrk]
  exact xm_Oq_of h k))
theorem xs_obj {j y : Nat} (he : cd[i]? = some (.invokespecial j, pc, nx, 1, b, ps, sw)) (hsh : xm_sh r = true) (h : xm_E o sta f cd nx L (r) w q) : xm_E o sta f cd i L (.inr (.inl (some y)) :: r) w q := xm_E_sp he (by simp only [xm_sp, hsh]; exact h)
theorem xs_copy {j k1 k0 : Nat} {n dp sp : Int} {F : xm_W → Prop} (he : cd[i]? = some (.invokestatic j, pc, nx, 2, b, ps, sw)) (hsh : xm_sh r = true) (h : xm_O (xm_copy w k0 sp k1 dp n) F) (k : ∀ w1, F w1 → xm_E o sta f cd nx L (r) w1 q) : xm_E o sta f cd i L (.inl n :: .inl dp :: .inr (.inl (some k1)) :: .inl sp :: .inr (.inl (some k0)) :: r) w q := xm_E_sp he (by simp only [xm_sp, hsh, xm_O_some]; exact xm_O_of h k)
theorem xs_max {j : Nat} {x y : Int} (he : cd[i]? = some (.invokestatic j, pc, nx, 3, b, ps, sw)) (hsh : xm_sh r = true) (h : xm_E o sta f cd nx L (.inl (if x < y then y else x) :: r) w q) : xm_E o sta f cd i L (.inl y :: .inl x :: r) w q := xm_E_sp he (by simp only [xm_sp, hsh]; exact h)
theorem xs_min {j : Nat} {x y : Int} (he : cd[i]? = some (.invokestatic j, pc, nx, 4, b, ps, sw)) (hsh : xm_sh r = true) (h : xm_E o sta f cd nx L (.inl (if y < x then y else x) :: r) w q) : xm_E o sta f cd i L (.inl y :: .inl x :: r) w q := xm_E_sp he (by simp only [xm_sp, hsh]; exact h)
theorem xs_abs {j : Nat} {x : Int} (he : cd[i]? = some (.invokestatic j, pc, nx, 5, b, ps, sw)) (hsh : xm_sh r = true) (h : xm_E o sta f cd nx L (.inl (if 0 ≤ x then x else xm_w (0 - x)) :: r) w q) : xm_E o sta f cd i L (.inl x :: r) w q := xm_E_sp he (by simp only [xm_sp, hsh]; exact h)
theorem xs_ireturn {x : Int} (he : cd[i]? = some (.ireturn, pc, nx, a, b, ps, sw)) (h : q = (some (.inl x), w)) : xm_E o sta f cd i L ([.inl x]) w q := xm_E_sp he h
theorem xs_areturn {x : Option Nat} (he : cd[i]? = some (.areturn, pc, nx, a, b, ps, sw)) (h : q = (some (.inr (.inl x)), w)) : xm_E o sta f cd i L ([.inr (.inl x)]) w q := xm_E_sp he h
theorem xs_return (he : cd[i]? = some (.return_, pc, nx, a, b, ps, sw)) (h : q = (none, w)) : xm_E o sta f cd i L ([]) w q := xm_E_sp he h
end xs_sec
abbrev xm_gi (cd : List xm_I) (i : Nat) : Option xm_I := cd[i]?
theorem xm_dr {l t : List xm_I} {n : Nat} {e : xm_I} (h : l.drop n = e :: t) : l.drop (n + 1) = t := by
  rw [← List.drop_drop, h]; rfl
theorem xm_gt {l t : List xm_I} {n : Nat} {e : xm_I} (h : l.drop n = e :: t) : l[n]? = some e := by
  have := List.getElem?_drop (xs := l) (i := n) (j := 0)
  rw [h] at this
  simpa using this.symm
