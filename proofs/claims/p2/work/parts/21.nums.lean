theorem xm_w_bmod (z : Int) : z.bmod 4294967296 = xm_w z := by
  unfold xm_w Int.bmod
  simp only []
  have h : ((4294967296 : Nat) : Int) = 4294967296 := rfl
  rw [h]
  by_cases q : z % 4294967296 < (4294967296 + 1) / 2
  · rw [if_pos q]; omega
  · rw [if_neg q]; omega
theorem xm_w_id {z : Int} (h1 : -2147483648 ≤ z) (h2 : z < 2147483648) : xm_w z = z := by unfold xm_w; omega
theorem xm_w_lo (z : Int) : -2147483648 ≤ xm_w z := by unfold xm_w; omega
theorem xm_w_hi (z : Int) : xm_w z < 2147483648 := by unfold xm_w; omega
def xm_ok (v : xm_V) : Prop := match v with
  | .inl z => -2147483648 ≤ z ∧ z < 2147483648
  | _ => True
theorem xm_ti (z : Int) : (Int32.ofInt z).toInt = xm_w z := by
  rw [← xm_w_bmod]; exact Int32.toInt_ofInt
theorem xm_tic {z : Int} (h : xm_ok (.inl z)) : (Int32.ofInt z).toInt = z := by
  rw [xm_ti]; exact xm_w_id h.1 h.2
theorem xm_of {x : Int32} {z : Int} (h : x.toInt = z) : x = Int32.ofInt z := by
  rw [← h]; exact (Int32.ofInt_toInt x).symm
theorem xm_ofw {x : Int32} {z : Int} (h : x.toInt = xm_w z) : x = Int32.ofInt (xm_w z) := xm_of h
theorem xm_ow (z : Int) : Int32.ofInt (xm_w z) = Int32.ofInt z := (xm_ofw (xm_ti z)).symm
theorem xm_okw (z : Int) : xm_ok (.inl (xm_w z)) := ⟨xm_w_lo z, xm_w_hi z⟩
theorem xm_okt (x : Int32) : xm_ok (.inl x.toInt) := ⟨by have := Int32.le_toInt x; simpa using this, by have := Int32.toInt_lt x; simpa using this⟩
theorem xm_ww (z : Int) : xm_w (xm_w z) = xm_w z := xm_w_id (xm_w_lo z) (xm_w_hi z)
theorem xm_add {x y : Int} (hx : xm_ok (.inl x)) (hy : xm_ok (.inl y)) : Int32.ofInt x + Int32.ofInt y = Int32.ofInt (xm_w (x + y)) := by
  apply xm_of
  rw [Int32.toInt_add, xm_tic hx, xm_tic hy]
  exact xm_w_bmod _
theorem xm_sub {x y : Int} (hx : xm_ok (.inl x)) (hy : xm_ok (.inl y)) : Int32.ofInt x - Int32.ofInt y = Int32.ofInt (xm_w (x - y)) := by
  apply xm_of
  rw [Int32.toInt_sub, xm_tic hx, xm_tic hy]
  exact xm_w_bmod _
theorem xm_mul {x y : Int} (hx : xm_ok (.inl x)) (hy : xm_ok (.inl y)) : Int32.ofInt x * Int32.ofInt y = Int32.ofInt (xm_w (x * y)) := by
  apply xm_of
  rw [Int32.toInt_mul, xm_tic hx, xm_tic hy]
  exact xm_w_bmod _
theorem xm_neg {x : Int} (hx : xm_ok (.inl x)) : - Int32.ofInt x = Int32.ofInt (xm_w (-x)) := by
  apply xm_of
  rw [Int32.toInt_neg, xm_tic hx]
  exact xm_w_bmod _
theorem xm_div {x y : Int} (hx : xm_ok (.inl x)) (hy : xm_ok (.inl y)) : Int32.ofInt x / Int32.ofInt y = Int32.ofInt (xm_w (x.tdiv y)) := by
  apply xm_of
  rw [Int32.toInt_div, xm_tic hx, xm_tic hy]
  exact xm_w_bmod _
theorem xm_mod {x y : Int} (hx : xm_ok (.inl x)) (hy : xm_ok (.inl y)) : Int32.ofInt x - Int32.ofInt x / Int32.ofInt y * Int32.ofInt y = Int32.ofInt (x.tmod y) := by
  rw [xm_div hx hy, xm_ow]
  rw [← Int32.ofInt_mul, ← Int32.ofInt_sub]
  congr 1
  have := Int.tmod_add_tdiv_mul x y
  have h2 := Int.mul_comm y (x.tdiv y)
  omega
theorem xm_eq0 {x : Int} (hx : xm_ok (.inl x)) : Int32.ofInt x = 0 ↔ x = 0 := by
  rw [← Int32.toInt_inj, xm_tic hx]; simp
theorem xm_lt0 {x : Int} (hx : xm_ok (.inl x)) : Int32.ofInt x < 0 ↔ x < 0 := by
  rw [Int32.lt_iff_toInt_lt, xm_tic hx]; simp
theorem xm_0lt {x : Int} (hx : xm_ok (.inl x)) : 0 < Int32.ofInt x ↔ 0 < x := by
  rw [Int32.lt_iff_toInt_lt, xm_tic hx]; simp
theorem xm_0le {x : Int} (hx : xm_ok (.inl x)) : 0 ≤ Int32.ofInt x ↔ 0 ≤ x := by
  rw [Int32.le_iff_toInt_le, xm_tic hx]; simp
theorem xm_le0 {x : Int} (hx : xm_ok (.inl x)) : Int32.ofInt x ≤ 0 ↔ x ≤ 0 := by
  rw [Int32.le_iff_toInt_le, xm_tic hx]; simp
theorem xm_eq {x y : Int} (hx : xm_ok (.inl x)) (hy : xm_ok (.inl y)) : Int32.ofInt x = Int32.ofInt y ↔ x = y := by
  rw [← Int32.toInt_inj, xm_tic hx, xm_tic hy]
theorem xm_lt {x y : Int} (hx : xm_ok (.inl x)) (hy : xm_ok (.inl y)) : Int32.ofInt x < Int32.ofInt y ↔ x < y := by
  rw [Int32.lt_iff_toInt_lt, xm_tic hx, xm_tic hy]
theorem xm_le {x y : Int} (hx : xm_ok (.inl x)) (hy : xm_ok (.inl y)) : Int32.ofInt x ≤ Int32.ofInt y ↔ x ≤ y := by
  rw [Int32.le_iff_toInt_le, xm_tic hx, xm_tic hy]
theorem xm_clamp {x : Int} (hx : xm_ok (.inl x)) : (Int32.ofInt x).toNatClampNeg = x.toNat := by
  show (Int32.ofInt x).toInt.toNat = _
  rw [xm_tic hx]
theorem xm_i2b {x : Int} : (Int32.ofInt x).toInt8.toInt32 = Int32.ofInt (xm_b x) := by
  apply xm_of
  rw [Int8.toInt_toInt32, Int32.toInt_toInt8, xm_ti]
  unfold xm_w xm_b Int.bmod
  simp only [Nat.reducePow]
  have h : ((256 : Nat) : Int) = 256 := rfl
  rw [h]
  generalize hy : (x + 2147483648) % 4294967296 - 2147483648 = y
  by_cases q : y % 256 < (256 + 1) / 2
  · rw [if_pos q]; omega
  · rw [if_neg q]; omega
theorem xm_i2s {x : Int} : (Int32.ofInt x).toInt16.toInt32 = Int32.ofInt (xm_s x) := by
  apply xm_of
  rw [Int16.toInt_toInt32, Int32.toInt_toInt16, xm_ti]
  unfold xm_w xm_s Int.bmod
  simp only [Nat.reducePow]
  have h : ((65536 : Nat) : Int) = 65536 := rfl
  rw [h]
  generalize hy : (x + 2147483648) % 4294967296 - 2147483648 = y
  by_cases q : y % 65536 < (65536 + 1) / 2
  · rw [if_pos q]; omega
  · rw [if_neg q]; omega
theorem xm_okb (x : Int) : xm_ok (.inl (xm_b x)) := by unfold xm_ok xm_b; exact ⟨by omega, by omega⟩
theorem xm_oks (x : Int) : xm_ok (.inl (xm_s x)) := by unfold xm_ok xm_s; exact ⟨by omega, by omega⟩
theorem xm_i2c {x : Int} (hx : xm_ok (.inl x)) : ((Int32.ofInt x).toUInt32 % 65536).toInt32 = Int32.ofInt (x % 65536) := by
  apply xm_of
  rw [pk_char, nI_toInt (by have := Nat.mod_lt (Int32.ofInt x).toBitVec.toNat (show 0 < 65536 by decide); simp only [Nat.reducePow]; omega)]
  have h := xm_tic hx
  have h2 : (Int32.ofInt x).toInt = (Int32.ofInt x).toBitVec.toInt := rfl
  rw [h2, BitVec.toInt_eq_toNat_cond] at h
  simp only [Nat.reducePow] at h ⊢
  have h3 := (Int32.ofInt x).toBitVec.isLt
  split at h <;> omega
