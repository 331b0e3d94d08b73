/-! the same steps, with a property of the end instead of the end -/
def xm_EQ (o : xm_W) (sta : List xm_V) (call : Nat → List xm_V → xm_W → xm_R) (cd : List xm_I) (i : Nat) (L : List (Option xm_V)) (st : List xm_V) (w : xm_W) (Q : Option xm_V × xm_W → Prop) : Prop := ∃ q, xm_E o sta call cd i L st w q ∧ Q q
def xm_nr : Instr → Bool
  | .ireturn => false
  | .areturn => false
  | .return_ => false
  | _ => true
theorem xm_nr_none {o : xm_W} {sta : List xm_V} {call : Nat → List xm_V → xm_W → xm_R} {e : xm_I} {L : List (Option xm_V)} {st : List xm_V} {w : xm_W} (h : xm_nr e.1 = true) : xm_step o sta call e L st w (fun _ _ _ _ => none) = none := by
  obtain ⟨ins, pc, nx, a, b, ps, sw⟩ := e
  cases ins
  all_goals first
    | (simp only [xm_step]; done)
    | (exact absurd (show false = true from h) (by decide))
    | (simp only [xm_step]; (repeat' split) <;> first | rfl | (simp_all; done))
theorem xm_EQ.eq {o : xm_W} {sta : List xm_V} {call : Nat → List xm_V → xm_W → xm_R} {cd : List xm_I} {i : Nat} {L : List (Option xm_V)} {st : List xm_V} {w : xm_W} {v : Option xm_V × xm_W} (h : xm_EQ o sta call cd i L st w (fun q => v = q)) : xm_E o sta call cd i L st w v := by
  obtain ⟨q, h1, h2⟩ := h
  rw [h2]; exact h1
section xq_sec
variable {o : xm_W} {sta : List xm_V} {f : Nat → List xm_V → xm_W → xm_R} {cd : List xm_I} {i pc nx a b : Nat} {ps : List Nat} {sw : List (Int × Nat)} {L : List (Option xm_V)} {st r : List xm_V} {w : xm_W} {Q : Option xm_V × xm_W → Prop}
theorem xq_sp {e : xm_I} (he : cd[i]? = some e) (hn : xm_nr e.1 = true) (h : xm_sp o sta f e L st w (none, w) (fun i' L' st' w' => xm_EQ o sta f cd i' L' st' w' Q)) : xm_EQ o sta f cd i L st w Q := by
  rcases xm_sp_one h with h1 | ⟨i', L', st', w', ⟨q, h1, h3⟩, h2⟩
  · have := h1 (fun _ _ _ _ => none)
    rw [xm_nr_none hn] at this
    cases this
  · obtain ⟨m, hm⟩ := h1
    exact ⟨q, ⟨m + 1, by unfold xm_run; rw [he]; exact (h2 _).trans hm⟩, h3⟩
theorem xq_iconst {z : Int} (he : cd[i]? = some (.iconst z, pc, nx, a, b, ps, sw)) (h : xm_EQ o sta f cd nx L (.inl z :: st) w Q) : xm_EQ o sta f cd i L (st) w Q := xq_sp he rfl h
theorem xq_bipush {z : Int} (he : cd[i]? = some (.bipush z, pc, nx, a, b, ps, sw)) (h : xm_EQ o sta f cd nx L (.inl z :: st) w Q) : xm_EQ o sta f cd i L (st) w Q := xq_sp he rfl h
theorem xq_sipush {z : Int} (he : cd[i]? = some (.sipush z, pc, nx, a, b, ps, sw)) (h : xm_EQ o sta f cd nx L (.inl z :: st) w Q) : xm_EQ o sta f cd i L (st) w Q := xq_sp he rfl h
theorem xq_ldc {j u : Nat} {z : Int} (he : cd[i]? = some (.ldc j, pc, nx, a, b, ps, [(z, u)])) (h : xm_EQ o sta f cd nx L (.inl z :: st) w Q) : xm_EQ o sta f cd i L (st) w Q := xq_sp he rfl h
theorem xq_ldcs {j : Nat} (he : cd[i]? = some (.ldc j, pc, nx, a, b, ps, [])) (h : xm_EQ o sta f cd nx L (.inr (.inl (some (1000000 + a))) :: st) w Q) : xm_EQ o sta f cd i L (st) w Q := xq_sp he rfl h
theorem xq_ldcw {j u : Nat} {z : Int} (he : cd[i]? = some (.ldc_w j, pc, nx, a, b, ps, [(z, u)])) (h : xm_EQ o sta f cd nx L (.inl z :: st) w Q) : xm_EQ o sta f cd i L (st) w Q := xq_sp he rfl h
theorem xq_ldc2 {j u : Nat} {z : Int} (he : cd[i]? = some (.ldc2_w j, pc, nx, a, b, ps, [(z, u)])) (h : xm_EQ o sta f cd nx L (.inr (.inr (Int64.ofInt z)) :: st) w Q) : xm_EQ o sta f cd i L (st) w Q := xq_sp he rfl h
theorem xq_iload {j : Nat} {x : Int} (he : cd[i]? = some (.iload j, pc, nx, a, b, ps, sw)) (hl : L[a]? = some (some (.inl x))) (h : xm_EQ o sta f cd nx L (.inl x :: st) w Q) : xm_EQ o sta f cd i L (st) w Q := xq_sp he rfl (by simp only [xm_sp, hl]; exact h)
theorem xq_iload_n {j : Fin 4} {x : Int} (he : cd[i]? = some (.iload_n j, pc, nx, a, b, ps, sw)) (hl : L[a]? = some (some (.inl x))) (h : xm_EQ o sta f cd nx L (.inl x :: st) w Q) : xm_EQ o sta f cd i L (st) w Q := xq_sp he rfl (by simp only [xm_sp, hl]; exact h)
theorem xq_aload {j : Nat} {x : Option Nat} (he : cd[i]? = some (.aload j, pc, nx, a, b, ps, sw)) (hl : L[a]? = some (some (.inr (.inl x)))) (h : xm_EQ o sta f cd nx L (.inr (.inl x) :: st) w Q) : xm_EQ o sta f cd i L (st) w Q := xq_sp he rfl (by simp only [xm_sp, hl]; exact h)
theorem xq_aload_n {j : Fin 4} {x : Option Nat} (he : cd[i]? = some (.aload_n j, pc, nx, a, b, ps, sw)) (hl : L[a]? = some (some (.inr (.inl x)))) (h : xm_EQ o sta f cd nx L (.inr (.inl x) :: st) w Q) : xm_EQ o sta f cd i L (st) w Q := xq_sp he rfl (by simp only [xm_sp, hl]; exact h)
theorem xq_lload_n {j : Fin 4} {x : Int64} (he : cd[i]? = some (.lload_n j, pc, nx, a, b, ps, sw)) (hl : L[a]? = some (some (.inr (.inr x)))) (h : xm_EQ o sta f cd nx L (.inr (.inr x) :: st) w Q) : xm_EQ o sta f cd i L (st) w Q := xq_sp he rfl (by simp only [xm_sp, hl]; exact h)
theorem xq_istore {j : Nat} {x : Int} (he : cd[i]? = some (.istore j, pc, nx, a, b, ps, sw)) (hl : xm_nl L a = true) (h : xm_EQ o sta f cd nx (L.set a (some (.inl x))) (r) w Q) : xm_EQ o sta f cd i L (.inl x :: r) w Q := xq_sp he rfl (by simp only [xm_sp, hl]; exact h)
theorem xq_istore_n {j : Fin 4} {x : Int} (he : cd[i]? = some (.istore_n j, pc, nx, a, b, ps, sw)) (hl : xm_nl L a = true) (h : xm_EQ o sta f cd nx (L.set a (some (.inl x))) (r) w Q) : xm_EQ o sta f cd i L (.inl x :: r) w Q := xq_sp he rfl (by simp only [xm_sp, hl]; exact h)
theorem xq_astore {j : Nat} {x : Option Nat} (he : cd[i]? = some (.astore j, pc, nx, a, b, ps, sw)) (hl : xm_nl L a = true) (h : xm_EQ o sta f cd nx (L.set a (some (.inr (.inl x)))) (r) w Q) : xm_EQ o sta f cd i L (.inr (.inl x) :: r) w Q := xq_sp he rfl (by simp only [xm_sp, hl]; exact h)
theorem xq_astore_n {j : Fin 4} {x : Option Nat} (he : cd[i]? = some (.astore_n j, pc, nx, a, b, ps, sw)) (hl : xm_nl L a = true) (h : xm_EQ o sta f cd nx (L.set a (some (.inr (.inl x)))) (r) w Q) : xm_EQ o sta f cd i L (.inr (.inl x) :: r) w Q := xq_sp he rfl (by simp only [xm_sp, hl]; exact h)
theorem xq_iinc {j : Nat} {z x : Int} (he : cd[i]? = some (.iinc j z, pc, nx, a, b, ps, sw)) (hl : L[a]? = some (some (.inl x))) (hn : xm_nl L a = true) (h : xm_EQ o sta f cd nx (L.set a (some (.inl (xm_w (x + z))))) (st) w Q) : xm_EQ o sta f cd i L (st) w Q := xq_sp he rfl (by simp only [xm_sp, hl, hn]; exact h)
theorem xq_null (he : cd[i]? = some (.aconst_null, pc, nx, a, b, ps, sw)) (h : xm_EQ o sta f cd nx L (.inr (.inl none) :: st) w Q) : xm_EQ o sta f cd i L (st) w Q := xq_sp he rfl h
theorem xq_dup {x : Int} (he : cd[i]? = some (.dup, pc, nx, a, b, ps, sw)) (h : xm_EQ o sta f cd nx L (.inl x :: .inl x :: r) w Q) : xm_EQ o sta f cd i L (.inl x :: r) w Q := xq_sp he rfl h
theorem xq_dupr {x : Option Nat} (he : cd[i]? = some (.dup, pc, nx, a, b, ps, sw)) (h : xm_EQ o sta f cd nx L (.inr (.inl x) :: .inr (.inl x) :: r) w Q) : xm_EQ o sta f cd i L (.inr (.inl x) :: r) w Q := xq_sp he rfl h
theorem xq_dup_x1 {x : Int} {y : Option Nat} (he : cd[i]? = some (.dup_x1, pc, nx, a, b, ps, sw)) (h : xm_EQ o sta f cd nx L (.inl x :: .inr (.inl y) :: .inl x :: r) w Q) : xm_EQ o sta f cd i L (.inl x :: .inr (.inl y) :: r) w Q := xq_sp he rfl h
theorem xq_dup_x1i {x y : Int} (he : cd[i]? = some (.dup_x1, pc, nx, a, b, ps, sw)) (h : xm_EQ o sta f cd nx L (.inl x :: .inl y :: .inl x :: r) w Q) : xm_EQ o sta f cd i L (.inl x :: .inl y :: r) w Q := xq_sp he rfl h
theorem xq_dup2 {x : Int} {y : Option Nat} (he : cd[i]? = some (.dup2, pc, nx, a, b, ps, sw)) (h : xm_EQ o sta f cd nx L (.inl x :: .inr (.inl y) :: .inl x :: .inr (.inl y) :: r) w Q) : xm_EQ o sta f cd i L (.inl x :: .inr (.inl y) :: r) w Q := xq_sp he rfl h
theorem xq_pop {x : Int} (he : cd[i]? = some (.pop, pc, nx, a, b, ps, sw)) (h : xm_EQ o sta f cd nx L (r) w Q) : xm_EQ o sta f cd i L (.inl x :: r) w Q := xq_sp he rfl h
theorem xq_iadd {x y : Int} (he : cd[i]? = some (.iadd, pc, nx, a, b, ps, sw)) (h : xm_EQ o sta f cd nx L (.inl (xm_w (x + y)) :: r) w Q) : xm_EQ o sta f cd i L (.inl y :: .inl x :: r) w Q := xq_sp he rfl h
theorem xq_isub {x y : Int} (he : cd[i]? = some (.isub, pc, nx, a, b, ps, sw)) (h : xm_EQ o sta f cd nx L (.inl (xm_w (x - y)) :: r) w Q) : xm_EQ o sta f cd i L (.inl y :: .inl x :: r) w Q := xq_sp he rfl h
theorem xq_imul {x y : Int} (he : cd[i]? = some (.imul, pc, nx, a, b, ps, sw)) (h : xm_EQ o sta f cd nx L (.inl (xm_w (x * y)) :: r) w Q) : xm_EQ o sta f cd i L (.inl y :: .inl x :: r) w Q := xq_sp he rfl h
theorem xq_iand {x y : Int} (he : cd[i]? = some (.iand, pc, nx, a, b, ps, sw)) (h : xm_EQ o sta f cd nx L (.inl (xm_and x y) :: r) w Q) : xm_EQ o sta f cd i L (.inl y :: .inl x :: r) w Q := xq_sp he rfl h
theorem xq_ior {x y : Int} (he : cd[i]? = some (.ior, pc, nx, a, b, ps, sw)) (h : xm_EQ o sta f cd nx L (.inl (xm_or x y) :: r) w Q) : xm_EQ o sta f cd i L (.inl y :: .inl x :: r) w Q := xq_sp he rfl h
theorem xq_ixor {x y : Int} (he : cd[i]? = some (.ixor, pc, nx, a, b, ps, sw)) (h : xm_EQ o sta f cd nx L (.inl (xm_xor x y) :: r) w Q) : xm_EQ o sta f cd i L (.inl y :: .inl x :: r) w Q := xq_sp he rfl h
theorem xq_ishl {x y : Int} (he : cd[i]? = some (.ishl, pc, nx, a, b, ps, sw)) (h : xm_EQ o sta f cd nx L (.inl (xm_shl x y) :: r) w Q) : xm_EQ o sta f cd i L (.inl y :: .inl x :: r) w Q := xq_sp he rfl h
theorem xq_ishr {x y : Int} (he : cd[i]? = some (.ishr, pc, nx, a, b, ps, sw)) (h : xm_EQ o sta f cd nx L (.inl (xm_shr x y) :: r) w Q) : xm_EQ o sta f cd i L (.inl y :: .inl x :: r) w Q := xq_sp he rfl h
theorem xq_iushr {x y : Int} (he : cd[i]? = some (.iushr, pc, nx, a, b, ps, sw)) (h : xm_EQ o sta f cd nx L (.inl (xm_ushr x y) :: r) w Q) : xm_EQ o sta f cd i L (.inl y :: .inl x :: r) w Q := xq_sp he rfl h
theorem xq_idiv {x y : Int} {P : Prop} (he : cd[i]? = some (.idiv, pc, nx, a, b, ps, sw)) (h : y ≠ 0 ∧ P) (k : P → xm_EQ o sta f cd nx L (.inl (xm_w (x.tdiv y)) :: r) w Q) : xm_EQ o sta f cd i L (.inl y :: .inl x :: r) w Q := xq_sp he rfl ⟨h.1, k h.2⟩
theorem xq_irem {x y : Int} {P : Prop} (he : cd[i]? = some (.irem, pc, nx, a, b, ps, sw)) (h : y ≠ 0 ∧ P) (k : P → xm_EQ o sta f cd nx L (.inl (x.tmod y) :: r) w Q) : xm_EQ o sta f cd i L (.inl y :: .inl x :: r) w Q := xq_sp he rfl ⟨h.1, k h.2⟩
theorem xq_ineg {x : Int} (he : cd[i]? = some (.ineg, pc, nx, a, b, ps, sw)) (h : xm_EQ o sta f cd nx L (.inl (xm_w (-x)) :: r) w Q) : xm_EQ o sta f cd i L (.inl x :: r) w Q := xq_sp he rfl h
theorem xq_i2b {x : Int} (he : cd[i]? = some (.i2b, pc, nx, a, b, ps, sw)) (h : xm_EQ o sta f cd nx L (.inl (xm_b x) :: r) w Q) : xm_EQ o sta f cd i L (.inl x :: r) w Q := xq_sp he rfl h
theorem xq_i2s {x : Int} (he : cd[i]? = some (.i2s, pc, nx, a, b, ps, sw)) (h : xm_EQ o sta f cd nx L (.inl (xm_s x) :: r) w Q) : xm_EQ o sta f cd i L (.inl x :: r) w Q := xq_sp he rfl h
theorem xq_i2c {x : Int} (he : cd[i]? = some (.i2c, pc, nx, a, b, ps, sw)) (h : xm_EQ o sta f cd nx L (.inl (x % 65536) :: r) w Q) : xm_EQ o sta f cd i L (.inl x :: r) w Q := xq_sp he rfl h
theorem xq_i2l {x : Int} (he : cd[i]? = some (.i2l, pc, nx, a, b, ps, sw)) (h : xm_EQ o sta f cd nx L (.inr (.inr (Int32.ofInt x).toInt64) :: r) w Q) : xm_EQ o sta f cd i L (.inl x :: r) w Q := xq_sp he rfl h
theorem xq_l2i {x : Int64} (he : cd[i]? = some (.l2i, pc, nx, a, b, ps, sw)) (h : xm_EQ o sta f cd nx L (.inl x.toInt32.toInt :: r) w Q) : xm_EQ o sta f cd i L (.inr (.inr x) :: r) w Q := xq_sp he rfl h
theorem xq_land {x y : Int64} (he : cd[i]? = some (.land, pc, nx, a, b, ps, sw)) (h : xm_EQ o sta f cd nx L (.inr (.inr (x &&& y)) :: r) w Q) : xm_EQ o sta f cd i L (.inr (.inr y) :: .inr (.inr x) :: r) w Q := xq_sp he rfl h
theorem xq_lor {x y : Int64} (he : cd[i]? = some (.lor, pc, nx, a, b, ps, sw)) (h : xm_EQ o sta f cd nx L (.inr (.inr (x ||| y)) :: r) w Q) : xm_EQ o sta f cd i L (.inr (.inr y) :: .inr (.inr x) :: r) w Q := xq_sp he rfl h
theorem xq_lshl {x : Int64} {y : Int} (he : cd[i]? = some (.lshl, pc, nx, a, b, ps, sw)) (h : xm_EQ o sta f cd nx L (.inr (.inr (xm_lshl x y)) :: r) w Q) : xm_EQ o sta f cd i L (.inl y :: .inr (.inr x) :: r) w Q := xq_sp he rfl h
theorem xq_lshr {x : Int64} {y : Int} (he : cd[i]? = some (.lshr, pc, nx, a, b, ps, sw)) (h : xm_EQ o sta f cd nx L (.inr (.inr (xm_lshr x y)) :: r) w Q) : xm_EQ o sta f cd i L (.inl y :: .inr (.inr x) :: r) w Q := xq_sp he rfl h
theorem xq_lushr {x : Int64} {y : Int} (he : cd[i]? = some (.lushr, pc, nx, a, b, ps, sw)) (h : xm_EQ o sta f cd nx L (.inr (.inr (xm_lushr x y)) :: r) w Q) : xm_EQ o sta f cd i L (.inl y :: .inr (.inr x) :: r) w Q := xq_sp he rfl h
theorem xq_if_eq {off : Int} {x : Int} {P R : Prop} (he : cd[i]? = some (.ifCond .eq off, pc, nx, a, b, ps, sw)) (h : if x = 0 then P else R) (hp : P → xm_EQ o sta f cd a L (r) w Q) (hr : R → xm_EQ o sta f cd nx L (r) w Q) : xm_EQ o sta f cd i L (.inl x :: r) w Q := xq_sp he rfl (xs_ite h hp hr)
theorem xq_if_ne {off : Int} {x : Int} {P R : Prop} (he : cd[i]? = some (.ifCond .ne off, pc, nx, a, b, ps, sw)) (h : if x = 0 then P else R) (hp : P → xm_EQ o sta f cd nx L (r) w Q) (hr : R → xm_EQ o sta f cd a L (r) w Q) : xm_EQ o sta f cd i L (.inl x :: r) w Q := xq_sp he rfl (xs_ite h hp hr)
theorem xq_if_lt {off : Int} {x : Int} {P R : Prop} (he : cd[i]? = some (.ifCond .lt off, pc, nx, a, b, ps, sw)) (h : if x < 0 then P else R) (hp : P → xm_EQ o sta f cd a L (r) w Q) (hr : R → xm_EQ o sta f cd nx L (r) w Q) : xm_EQ o sta f cd i L (.inl x :: r) w Q := xq_sp he rfl (xs_ite h hp hr)
theorem xq_if_ge {off : Int} {x : Int} {P R : Prop} (he : cd[i]? = some (.ifCond .ge off, pc, nx, a, b, ps, sw)) (h : if x < 0 then P else R) (hp : P → xm_EQ o sta f cd nx L (r) w Q) (hr : R → xm_EQ o sta f cd a L (r) w Q) : xm_EQ o sta f cd i L (.inl x :: r) w Q := xq_sp he rfl (xs_ite h hp hr)
theorem xq_if_gt {off : Int} {x : Int} {P R : Prop} (he : cd[i]? = some (.ifCond .gt off, pc, nx, a, b, ps, sw)) (h : if 0 < x then P else R) (hp : P → xm_EQ o sta f cd a L (r) w Q) (hr : R → xm_EQ o sta f cd nx L (r) w Q) : xm_EQ o sta f cd i L (.inl x :: r) w Q := xq_sp he rfl (xs_ite h hp hr)
theorem xq_if_le {off : Int} {x : Int} {P R : Prop} (he : cd[i]? = some (.ifCond .le off, pc, nx, a, b, ps, sw)) (h : if 0 < x then P else R) (hp : P → xm_EQ o sta f cd nx L (r) w Q) (hr : R → xm_EQ o sta f cd a L (r) w Q) : xm_EQ o sta f cd i L (.inl x :: r) w Q := xq_sp he rfl (xs_ite h hp hr)
theorem xq_ic_eq {off : Int} {x y : Int} {P R : Prop} (he : cd[i]? = some (.if_icmp .eq off, pc, nx, a, b, ps, sw)) (h : if x = y then P else R) (hp : P → xm_EQ o sta f cd a L (r) w Q) (hr : R → xm_EQ o sta f cd nx L (r) w Q) : xm_EQ o sta f cd i L (.inl y :: .inl x :: r) w Q := xq_sp he rfl (xs_ite h hp hr)
theorem xq_ic_ne {off : Int} {x y : Int} {P R : Prop} (he : cd[i]? = some (.if_icmp .ne off, pc, nx, a, b, ps, sw)) (h : if x = y then P else R) (hp : P → xm_EQ o sta f cd nx L (r) w Q) (hr : R → xm_EQ o sta f cd a L (r) w Q) : xm_EQ o sta f cd i L (.inl y :: .inl x :: r) w Q := xq_sp he rfl (xs_ite h hp hr)
theorem xq_ic_lt {off : Int} {x y : Int} {P R : Prop} (he : cd[i]? = some (.if_icmp .lt off, pc, nx, a, b, ps, sw)) (h : if x < y then P else R) (hp : P → xm_EQ o sta f cd a L (r) w Q) (hr : R → xm_EQ o sta f cd nx L (r) w Q) : xm_EQ o sta f cd i L (.inl y :: .inl x :: r) w Q := xq_sp he rfl (xs_ite h hp hr)
theorem xq_ic_ge {off : Int} {x y : Int} {P R : Prop} (he : cd[i]? = some (.if_icmp .ge off, pc, nx, a, b, ps, sw)) (h : if x < y then P else R) (hp : P → xm_EQ o sta f cd nx L (r) w Q) (hr : R → xm_EQ o sta f cd a L (r) w Q) : xm_EQ o sta f cd i L (.inl y :: .inl x :: r) w Q := xq_sp he rfl (xs_ite h hp hr)
theorem xq_ic_gt {off : Int} {x y : Int} {P R : Prop} (he : cd[i]? = some (.if_icmp .gt off, pc, nx, a, b, ps, sw)) (h : if y < x then P else R) (hp : P → xm_EQ o sta f cd a L (r) w Q) (hr : R → xm_EQ o sta f cd nx L (r) w Q) : xm_EQ o sta f cd i L (.inl y :: .inl x :: r) w Q := xq_sp he rfl (xs_ite h hp hr)
theorem xq_ic_le {off : Int} {x y : Int} {P R : Prop} (he : cd[i]? = some (.if_icmp .le off, pc, nx, a, b, ps, sw)) (h : if y < x then P else R) (hp : P → xm_EQ o sta f cd nx L (r) w Q) (hr : R → xm_EQ o sta f cd a L (r) w Q) : xm_EQ o sta f cd i L (.inl y :: .inl x :: r) w Q := xq_sp he rfl (xs_ite h hp hr)
theorem xq_ifnull {off : Int} {z : Option Nat} {P R : Prop} (he : cd[i]? = some (.ifnull off, pc, nx, a, b, ps, sw)) (h : if z = none then P else R) (hp : P → xm_EQ o sta f cd a L (r) w Q) (hr : R → xm_EQ o sta f cd nx L (r) w Q) : xm_EQ o sta f cd i L (.inr (.inl z) :: r) w Q := xq_sp he rfl (xs_ite h hp hr)
theorem xq_ifnonnull {off : Int} {z : Option Nat} {P R : Prop} (he : cd[i]? = some (.ifnonnull off, pc, nx, a, b, ps, sw)) (h : if z = none then P else R) (hp : P → xm_EQ o sta f cd nx L (r) w Q) (hr : R → xm_EQ o sta f cd a L (r) w Q) : xm_EQ o sta f cd i L (.inr (.inl z) :: r) w Q := xq_sp he rfl (xs_ite h hp hr)
theorem xq_goto {off : Int} (he : cd[i]? = some (.goto off, pc, nx, a, b, ps, sw)) (h : xm_EQ o sta f cd a L (st) w Q) : xm_EQ o sta f cd i L (st) w Q := xq_sp he rfl h
theorem xq_tsw {u1 u2 u3 x : Int} {u4 : Array Int} (he : cd[i]? = some (.tableswitch u1 u2 u3 u4, pc, nx, a, b, ps, sw)) (h : xm_swP sw a x (fun t => xm_EQ o sta f cd t L (r) w Q)) : xm_EQ o sta f cd i L (.inl x :: r) w Q := xq_sp he rfl h
theorem xq_lsw {u1 x : Int} {u2 : Array (Int × Int)} (he : cd[i]? = some (.lookupswitch u1 u2, pc, nx, a, b, ps, sw)) (h : xm_swP sw a x (fun t => xm_EQ o sta f cd t L (r) w Q)) : xm_EQ o sta f cd i L (.inl x :: r) w Q := xq_sp he rfl h
theorem xq_geti0 {j y : Nat} {F : Int → Prop} (he : cd[i]? = some (.getfield j, pc, nx, a, b, ps, sw)) (hf : xm_fk b a = 0) (h : xm_O (xm_fi o w y b a) F) (k : ∀ v, F v → xm_EQ o sta f cd nx L (.inl v :: r) w Q) : xm_EQ o sta f cd i L (.inr (.inl (some y)) :: r) w Q := xq_sp he rfl (by simp only [xm_sp, hf, xm_O_some]; exact xm_O_of h k)
theorem xq_geti1 {j y : Nat} {F : Int → Prop} (he : cd[i]? = some (.getfield j, pc, nx, a, b, ps, sw)) (hf : xm_fk b a = 1) (h : xm_O (xm_fi o w y b a) F) (k : ∀ v, F v → xm_EQ o sta f cd nx L (.inl v :: r) w Q) : xm_EQ o sta f cd i L (.inr (.inl (some y)) :: r) w Q := xq_sp he rfl (by simp only [xm_sp, hf, xm_O_some]; exact xm_O_of h k)
theorem xq_getr {j y : Nat} {F : Nat → Prop} (he : cd[i]? = some (.getfield j, pc, nx, a, b, ps, sw)) (hf : xm_fk b a = 2) (h : xm_O (xm_fr o w y b a) F) (k : ∀ v, F v → xm_EQ o sta f cd nx L (.inr (.inl (some v)) :: r) w Q) : xm_EQ o sta f cd i L (.inr (.inl (some y)) :: r) w Q := xq_sp he rfl (by simp only [xm_sp, hf, xm_O_some]; exact xm_O_of h k)
theorem xq_put {j y t : Nat} {v : xm_V} {F : xm_W → Prop} (he : cd[i]? = some (.putfield j, pc, nx, a, b, ps, sw)) (hf : (xm_kd b).getD a 9 = t) (h : xm_O (xm_setf w y b a t v) F) (k : ∀ w1, F w1 → xm_EQ o sta f cd nx L (r) w1 Q) : xm_EQ o sta f cd i L (v :: .inr (.inl (some y)) :: r) w Q := xq_sp he rfl (by simp only [xm_sp, hf, xm_O_some]; exact xm_O_of h k)
theorem xq_gets {j : Nat} {v : xm_V} (he : cd[i]? = some (.getstatic j, pc, nx, a, b, ps, sw)) (hs : sta[a]? = some v) (h : xm_EQ o sta f cd nx L (v :: st) w Q) : xm_EQ o sta f cd i L (st) w Q := xq_sp he rfl (by simp only [xm_sp, hs]; exact h)
theorem xq_iaload {z : Int} {y : Nat} {F : List Int → Prop} {K : List Int → Int → Prop} (he : cd[i]? = some (.iaload, pc, nx, a, b, ps, sw)) (h : xm_O (xm_ints o w y) F) (k : ∀ l, F l → xm_O (xm_at l z) (K l)) (k2 : ∀ l v, K l v → xm_EQ o sta f cd nx L (.inl v :: r) w Q) : xm_EQ o sta f cd i L (.inl z :: .inr (.inl (some y)) :: r) w Q := xq_sp he rfl (by simp only [xm_sp, xm_O_some]; exact xm_O_of h fun l hl => xm_O_of (k l hl) (k2 l))
theorem xq_aaload {z : Int} {y : Nat} {F : List (Option Nat) → Prop} {K : List (Option Nat) → Option Nat → Prop} (he : cd[i]? = some (.aaload, pc, nx, a, b, ps, sw)) (h : xm_O (xm_refs o w y) F) (k : ∀ l, F l → xm_O (xm_at l z) (K l)) (k2 : ∀ l v, K l v → xm_EQ o sta f cd nx L (.inr (.inl v) :: r) w Q) : xm_EQ o sta f cd i L (.inl z :: .inr (.inl (some y)) :: r) w Q := xq_sp he rfl (by simp only [xm_sp, xm_O_some]; exact xm_O_of h fun l hl => xm_O_of (k l hl) (k2 l))
theorem xq_iastore {x z : Int} {y : Nat} {F : xm_W → Prop} (he : cd[i]? = some (.iastore, pc, nx, a, b, ps, sw)) (h : xm_O (xm_seti w y z x) F) (k : ∀ w1, F w1 → xm_EQ o sta f cd nx L (r) w1 Q) : xm_EQ o sta f cd i L (.inl x :: .inl z :: .inr (.inl (some y)) :: r) w Q := xq_sp he rfl (by simp only [xm_sp, xm_O_some]; exact xm_O_of h k)
theorem xq_aastore {x : Option Nat} {z : Int} {y : Nat} {F : xm_W → Prop} (he : cd[i]? = some (.aastore, pc, nx, a, b, ps, sw)) (h : xm_O (xm_setq w y z x) F) (k : ∀ w1, F w1 → xm_EQ o sta f cd nx L (r) w1 Q) : xm_EQ o sta f cd i L (.inr (.inl x) :: .inl z :: .inr (.inl (some y)) :: r) w Q := xq_sp he rfl (by simp only [xm_sp, xm_O_some]; exact xm_O_of h k)
theorem xq_alen {y : Nat} {F : Nat → Prop} (he : cd[i]? = some (.arraylength, pc, nx, a, b, ps, sw)) (h : xm_O (xm_len o w y) F) (k : ∀ n : Nat, F n → xm_EQ o sta f cd nx L (.inl (n : Int) :: r) w Q) : xm_EQ o sta f cd i L (.inr (.inl (some y)) :: r) w Q := xq_sp he rfl (by
  obtain ⟨n, hn, hF⟩ := xm_O_is h
  unfold xm_len at hn
  show (match xm_get o w y with
      | some (.inl l) => l.length < 1000000 ∧ xm_EQ o sta f cd nx L (.inl (l.length : Int) :: r) w Q
      | some (.inr (.inr (99, l))) => l.length < 1000000 ∧ xm_EQ o sta f cd nx L (.inl (l.length : Int) :: r) w Q
      | _ => False)
  split at hn
  next l hg =>
    split at hn
    next hl => cases hn; first | exact ⟨hl, k _ hF⟩ | (simp only [hg]; exact ⟨hl, k _ hF⟩)
    next => cases hn
  next l hg =>
    split at hn
    next hl => cases hn; first | exact ⟨hl, k _ hF⟩ | (simp only [hg]; exact ⟨hl, k _ hF⟩)
    next => cases hn
  next => cases hn)
theorem xq_baload {z : Int} {y : Nat} {F : Int → Prop} (he : cd[i]? = some (.baload, pc, nx, a, b, ps, sw)) (h : xm_O (xm_byt o w y z) F) (k : ∀ v, F v → xm_EQ o sta f cd nx L (.inl v :: r) w Q) : xm_EQ o sta f cd i L (.inl z :: .inr (.inl (some y)) :: r) w Q := xq_sp he rfl (by
  obtain ⟨n, hn, hF⟩ := xm_O_is h
  unfold xm_byt at hn
  show (match xm_get o w y with
      | some (.inr (.inr (99, l))) => (match xm_at l z with
        | some (.inl x) => xm_EQ o sta f cd nx L (.inl x :: r) w Q
        | _ => False)
      | _ => False)
  split at hn
  next l hg =>
    split at hn
    next hl => cases hn; first | exact k _ hF | (simp only [hg, hl]; exact k _ hF)
    next => cases hn
  next => cases hn)
theorem xq_new {j : Nat} (he : cd[i]? = some (.new j, pc, nx, a, b, ps, sw)) (h : xm_EQ o sta f cd nx L (.inr (.inl (some w.length)) :: st) (w ++ [.inr (.inr (b, (xm_kd b).map xm_dflt))]) Q) : xm_EQ o sta f cd i L (st) w Q := xq_sp he rfl h
theorem xq_newarray {j : ArrayType} {n : Int} {P : Prop} (he : cd[i]? = some (.newarray j, pc, nx, a, b, ps, sw)) (h : (0 ≤ n ∧ n ≤ 1000) ∧ P) (k : P → xm_EQ o sta f cd nx L (.inr (.inl (some w.length)) :: r) (w ++ [.inl (List.replicate n.toNat 0)]) Q) : xm_EQ o sta f cd i L (.inl n :: r) w Q := xq_sp he rfl ⟨h.1, k h.2⟩
theorem xq_anewarray {j : Nat} {n : Int} {P : Prop} (he : cd[i]? = some (.anewarray j, pc, nx, a, b, ps, sw)) (h : (0 ≤ n ∧ n ≤ 1000) ∧ P) (k : P → xm_EQ o sta f cd nx L (.inr (.inl (some w.length)) :: r) (w ++ [.inr (.inl (b, List.replicate n.toNat none))]) Q) : xm_EQ o sta f cd i L (.inl n :: r) w Q := xq_sp he rfl ⟨h.1, k h.2⟩
theorem xq_invv0 {j : Nat} {as : List xm_V} {F : xm_W → Prop} (he : cd[i]? = some (.invokevirtual j, pc, nx, a, b, ps, sw)) (hrk : xm_rkd a = 0) (hsh : xm_sh (st.drop b) = true) (has : (st.take b).reverse = as) (hr : st.drop b = r) (h : xm_Ov (f a as w) F) (k : ∀ w1, F w1 → xm_EQ o sta f cd nx L (r) w1 Q) : xm_EQ o sta f cd i L (st) w Q := xq_sp he rfl (show xm_inP f nx a b L st w (fun i' L' st' w' => xm_EQ o sta f cd i' L' st' w' Q) from (by
  subst has; subst hr
  simp only [xm_inP, hsh, hrk]
  exact xm_Ov_of h k))
theorem xq_invv1 {j : Nat} {as : List xm_V} {F : Int → xm_W → Prop} (he : cd[i]? = some (.invokevirtual j, pc, nx, a, b, ps, sw)) (hrk : xm_rkd a = 1) (hsh : xm_sh (st.drop b) = true) (has : (st.take b).reverse = as) (hr : st.drop b = r) (h : xm_Oi (f a as w) F) (k : ∀ z w1, F z w1 → xm_EQ o sta f cd nx L (.inl z :: r) w1 Q) : xm_EQ o sta f cd i L (st) w Q := xq_sp he rfl (show xm_inP f nx a b L st w (fun i' L' st' w' => xm_EQ o sta f cd i' L' st' w' Q) from (by
  subst has; subst hr
  simp only [xm_inP, hsh, hrk]
  exact xm_Oi_of h k))
theorem xq_invv2 {j : Nat} {as : List xm_V} {F : Int → xm_W → Prop} (he : cd[i]? = some (.invokevirtual j, pc, nx, a, b, ps, sw)) (hrk : xm_rkd a = 2) (hsh : xm_sh (st.drop b) = true) (has : (st.take b).reverse = as) (hr : st.drop b = r) (h : xm_Oi (f a as w) F) (k : ∀ z w1, F z w1 → xm_EQ o sta f cd nx L (.inl z :: r) w1 Q) : xm_EQ o sta f cd i L (st) w Q := xq_sp he rfl (show xm_inP f nx a b L st w (fun i' L' st' w' => xm_EQ o sta f cd i' L' st' w' Q) from (by
  subst has; subst hr
  simp only [xm_inP, hsh, hrk]
  exact xm_Oi_of h k))
theorem xq_invv4 {j : Nat} {as : List xm_V} {F : Int → xm_W → Prop} (he : cd[i]? = some (.invokevirtual j, pc, nx, a, b, ps, sw)) (hrk : xm_rkd a = 4) (hsh : xm_sh (st.drop b) = true) (has : (st.take b).reverse = as) (hr : st.drop b = r) (h : xm_Oi (f a as w) F) (k : ∀ z w1, F z w1 → xm_EQ o sta f cd nx L (.inl z :: r) w1 Q) : xm_EQ o sta f cd i L (st) w Q := xq_sp he rfl (show xm_inP f nx a b L st w (fun i' L' st' w' => xm_EQ o sta f cd i' L' st' w' Q) from (by
  subst has; subst hr
  simp only [xm_inP, hsh, hrk]
  exact xm_Oi_of h k))
theorem xq_invv3 {j : Nat} {as : List xm_V} {F : Option Nat → xm_W → Prop} (he : cd[i]? = some (.invokevirtual j, pc, nx, a, b, ps, sw)) (hrk : xm_rkd a = 3) (hsh : xm_sh (st.drop b) = true) (has : (st.take b).reverse = as) (hr : st.drop b = r) (h : xm_Oq (f a as w) F) (k : ∀ z w1, F z w1 → xm_EQ o sta f cd nx L (.inr (.inl z) :: r) w1 Q) : xm_EQ o sta f cd i L (st) w Q := xq_sp he rfl (show xm_inP f nx a b L st w (fun i' L' st' w' => xm_EQ o sta f cd i' L' st' w' Q) from (by
  subst has; subst hr
  simp only [xm_inP, hsh, hrk]
  exact xm_Oq_of h k))
theorem xq_invs0 {j a1 : Nat} {as : List xm_V} {F : xm_W → Prop} (he : cd[i]? = some (.invokestatic j, pc, nx, a1 + 6, b, ps, sw)) (hrk : xm_rkd (a1 + 6) = 0) (hsh : xm_sh (st.drop b) = true) (has : (st.take b).reverse = as) (hr : st.drop b = r) (h : xm_Ov (f (a1 + 6) as w) F) (k : ∀ w1, F w1 → xm_EQ o sta f cd nx L (r) w1 Q) : xm_EQ o sta f cd i L (st) w Q := xq_sp he rfl (show xm_inP f nx (a1 + 6) b L st w (fun i' L' st' w' => xm_EQ o sta f cd i' L' st' w' Q) from (by
  subst has; subst hr
  simp only [xm_inP, hsh, hrk]
  exact xm_Ov_of h k))
theorem xq_invs1 {j a1 : Nat} {as : List xm_V} {F : Int → xm_W → Prop} (he : cd[i]? = some (.invokestatic j, pc, nx, a1 + 6, b, ps, sw)) (hrk : xm_rkd (a1 + 6) = 1) (hsh : xm_sh (st.drop b) = true) (has : (st.take b).reverse = as) (hr : st.drop b = r) (h : xm_Oi (f (a1 + 6) as w) F) (k : ∀ z w1, F z w1 → xm_EQ o sta f cd nx L (.inl z :: r) w1 Q) : xm_EQ o sta f cd i L (st) w Q := xq_sp he rfl (show xm_inP f nx (a1 + 6) b L st w (fun i' L' st' w' => xm_EQ o sta f cd i' L' st' w' Q) from (by
  subst has; subst hr
  simp only [xm_inP, hsh, hrk]
  exact xm_Oi_of h k))
theorem xq_invs2 {j a1 : Nat} {as : List xm_V} {F : Int → xm_W → Prop} (he : cd[i]? = some (.invokestatic j, pc, nx, a1 + 6, b, ps, sw)) (hrk : xm_rkd (a1 + 6) = 2) (hsh : xm_sh (st.drop b) = true) (has : (st.take b).reverse = as) (hr : st.drop b = r) (h : xm_Oi (f (a1 + 6) as w) F) (k : ∀ z w1, F z w1 → xm_EQ o sta f cd nx L (.inl z :: r) w1 Q) : xm_EQ o sta f cd i L (st) w Q := xq_sp he rfl (show xm_inP f nx (a1 + 6) b L st w (fun i' L' st' w' => xm_EQ o sta f cd i' L' st' w' Q) from (by
  subst has; subst hr
  simp only [xm_inP, hsh, hrk]
  exact xm_Oi_of h k))
theorem xq_invs4 {j a1 : Nat} {as : List xm_V} {F : Int → xm_W → Prop} (he : cd[i]? = some (.invokestatic j, pc, nx, a1 + 6, b, ps, sw)) (hrk : xm_rkd (a1 + 6) = 4) (hsh : xm_sh (st.drop b) = true) (has : (st.take b).reverse = as) (hr : st.drop b = r) (h : xm_Oi (f (a1 + 6) as w) F) (k : ∀ z w1, F z w1 → xm_EQ o sta f cd nx L (.inl z :: r) w1 Q) : xm_EQ o sta f cd i L (st) w Q := xq_sp he rfl (show xm_inP f nx (a1 + 6) b L st w (fun i' L' st' w' => xm_EQ o sta f cd i' L' st' w' Q) from (by
  subst has; subst hr
  simp only [xm_inP, hsh, hrk]
  exact xm_Oi_of h k))
theorem xq_invs3 {j a1 : Nat} {as : List xm_V} {F : Option Nat → xm_W → Prop} (he : cd[i]? = some (.invokestatic j, pc, nx, a1 + 6, b, ps, sw)) (hrk : xm_rkd (a1 + 6) = 3) (hsh : xm_sh (st.drop b) = true) (has : (st.take b).reverse = as) (hr : st.drop b = r) (h : xm_Oq (f (a1 + 6) as w) F) (k : ∀ z w1, F z w1 → xm_EQ o sta f cd nx L (.inr (.inl z) :: r) w1 Q) : xm_EQ o sta f cd i L (st) w Q := xq_sp he rfl (show xm_inP f nx (a1 + 6) b L st w (fun i' L' st' w' => xm_EQ o sta f cd i' L' st' w' Q) from (by
  subst has; subst hr
  simp only [xm_inP, hsh, hrk]
  exact xm_Oq_of h k))
theorem xq_invi0 {j a1 : Nat} {as : List xm_V} {F : xm_W → Prop} (he : cd[i]? = some (.invokespecial j, pc, nx, a1 + 2, b, ps, sw)) (hrk : xm_rkd (a1 + 2) = 0) (hsh : xm_sh (st.drop b) = true) (has : (st.take b).reverse = as) (hr : st.drop b = r) (h : xm_Ov (f (a1 + 2) as w) F) (k : ∀ w1, F w1 → xm_EQ o sta f cd nx L (r) w1 Q) : xm_EQ o sta f cd i L (st) w Q := xq_sp he rfl (show xm_inP f nx (a1 + 2) b L st w (fun i' L' st' w' => xm_EQ o sta f cd i' L' st' w' Q) from (by
  subst has; subst hr
  simp only [xm_inP, hsh, hrk]
  exact xm_Ov_of h k))
theorem xq_invi1 {j a1 : Nat} {as : List xm_V} {F : Int → xm_W → Prop} (he : cd[i]? = some (.invokespecial j, pc, nx, a1 + 2, b, ps, sw)) (hrk : xm_rkd (a1 + 2) = 1) (hsh : xm_sh (st.drop b) = true) (has : (st.take b).reverse = as) (hr : st.drop b = r) (h : xm_Oi (f (a1 + 2) as w) F) (k : ∀ z w1, F z w1 → xm_EQ o sta f cd nx L (.inl z :: r) w1 Q) : xm_EQ o sta f cd i L (st) w Q := xq_sp he rfl (show xm_inP f nx (a1 + 2) b L st w (fun i' L' st' w' => xm_EQ o sta f cd i' L' st' w' Q) from (by
  subst has; subst hr
  simp only [xm_inP, hsh, hrk]
  exact xm_Oi_of h k))
theorem xq_invi2 {j a1 : Nat} {as : List xm_V} {F : Int → xm_W → Prop} (he : cd[i]? = some (.invokespecial j, pc, nx, a1 + 2, b, ps, sw)) (hrk : xm_rkd (a1 + 2) = 2) (hsh : xm_sh (st.drop b) = true) (has : (st.take b).reverse = as) (hr : st.drop b = r) (h : xm_Oi (f (a1 + 2) as w) F) (k : ∀ z w1, F z w1 → xm_EQ o sta f cd nx L (.inl z :: r) w1 Q) : xm_EQ o sta f cd i L (st) w Q := xq_sp he rfl (show xm_inP f nx (a1 + 2) b L st w (fun i' L' st' w' => xm_EQ o sta f cd i' L' st' w' Q) from (by
  subst has; subst hr
  simp only [xm_inP, hsh, hrk]
  exact xm_Oi_of h k))
theorem xq_invi4 {j a1 : Nat} {as : List xm_V} {F : Int → xm_W → Prop} (he : cd[i]? = some (.invokespecial j, pc, nx, a1 + 2, b, ps, sw)) (hrk : xm_rkd (a1 + 2) = 4) (hsh : xm_sh (st.drop b) = true) (has : (st.take b).reverse = as) (hr : st.drop b = r) (h : xm_Oi (f (a1 + 2) as w) F) (k : ∀ z w1, F z w1 → xm_EQ o sta f cd nx L (.inl z :: r) w1 Q) : xm_EQ o sta f cd i L (st) w Q := xq_sp he rfl (show xm_inP f nx (a1 + 2) b L st w (fun i' L' st' w' => xm_EQ o sta f cd i' L' st' w' Q) from (by
  subst has; subst hr
  simp only [xm_inP, hsh, hrk]
  exact xm_Oi_of h k))
theorem xq_invi3 {j a1 : Nat} {as : List xm_V} {F : Option Nat → xm_W → Prop} (he : cd[i]? = some (.invokespecial j, pc, nx, a1 + 2, b, ps, sw)) (hrk : xm_rkd (a1 + 2) = 3) (hsh : xm_sh (st.drop b) = true) (has : (st.take b).reverse = as) (hr : st.drop b = r) (h : xm_Oq (f (a1 + 2) as w) F) (k : ∀ z w1, F z w1 → xm_EQ o sta f cd nx L (.inr (.inl z) :: r) w1 Q) : xm_EQ o sta f cd i L (st) w Q := xq_sp he rfl (show xm_inP f nx (a1 + 2) b L st w (fun i' L' st' w' => xm_EQ o sta f cd i' L' st' w' Q) from (by
  subst has; subst hr
  simp only [xm_inP, hsh, hrk]
  exact xm_Oq_of h k))
theorem xq_obj {j y : Nat} (he : cd[i]? = some (.invokespecial j, pc, nx, 1, b, ps, sw)) (hsh : xm_sh r = true) (h : xm_EQ o sta f cd nx L (r) w Q) : xm_EQ o sta f cd i L (.inr (.inl (some y)) :: r) w Q := xq_sp he rfl (by simp only [xm_sp, hsh]; exact h)
theorem xq_copy {j k1 k0 : Nat} {n dp sp : Int} {F : xm_W → Prop} (he : cd[i]? = some (.invokestatic j, pc, nx, 2, b, ps, sw)) (hsh : xm_sh r = true) (h : xm_O (xm_copy w k0 sp k1 dp n) F) (k : ∀ w1, F w1 → xm_EQ o sta f cd nx L (r) w1 Q) : xm_EQ o sta f cd i L (.inl n :: .inl dp :: .inr (.inl (some k1)) :: .inl sp :: .inr (.inl (some k0)) :: r) w Q := xq_sp he rfl (by simp only [xm_sp, hsh, xm_O_some]; exact xm_O_of h k)
theorem xq_max {j : Nat} {x y : Int} (he : cd[i]? = some (.invokestatic j, pc, nx, 3, b, ps, sw)) (hsh : xm_sh r = true) (h : xm_EQ o sta f cd nx L (.inl (if x < y then y else x) :: r) w Q) : xm_EQ o sta f cd i L (.inl y :: .inl x :: r) w Q := xq_sp he rfl (by simp only [xm_sp, hsh]; exact h)
theorem xq_min {j : Nat} {x y : Int} (he : cd[i]? = some (.invokestatic j, pc, nx, 4, b, ps, sw)) (hsh : xm_sh r = true) (h : xm_EQ o sta f cd nx L (.inl (if y < x then y else x) :: r) w Q) : xm_EQ o sta f cd i L (.inl y :: .inl x :: r) w Q := xq_sp he rfl (by simp only [xm_sp, hsh]; exact h)
theorem xq_abs {j : Nat} {x : Int} (he : cd[i]? = some (.invokestatic j, pc, nx, 5, b, ps, sw)) (hsh : xm_sh r = true) (h : xm_EQ o sta f cd nx L (.inl (if 0 ≤ x then x else xm_w (0 - x)) :: r) w Q) : xm_EQ o sta f cd i L (.inl x :: r) w Q := xq_sp he rfl (by simp only [xm_sp, hsh]; exact h)
theorem xq_ireturn {x : Int} (he : cd[i]? = some (.ireturn, pc, nx, a, b, ps, sw)) (h : Q (some (.inl x), w)) : xm_EQ o sta f cd i L ([.inl x]) w Q := ⟨_, xs_ireturn he rfl, h⟩
theorem xq_areturn {x : Option Nat} (he : cd[i]? = some (.areturn, pc, nx, a, b, ps, sw)) (h : Q (some (.inr (.inl x)), w)) : xm_EQ o sta f cd i L ([.inr (.inl x)]) w Q := ⟨_, xs_areturn he rfl, h⟩
theorem xq_return (he : cd[i]? = some (.return_, pc, nx, a, b, ps, sw)) (h : Q (none, w)) : xm_EQ o sta f cd i L ([]) w Q := ⟨_, xs_return he rfl, h⟩
end xq_sec
