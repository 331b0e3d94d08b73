def xm_R0 : String := "ShodBackwards$Bargain"
def xm_F0 : u_T := fun k => match k with
  | 0 => ("ShodBackwards$Bargain", "plain", "Z", false)
  | 1 => ("ShodBackwards$Bargain", "turnedAbove", "I", false)
  | 2 => ("ShodBackwards$Bargain", "turnedBelow", "I", false)
  | 3 => ("ShodBackwards$Bargain", "gainAbove", "I", false)
  | _ => ("ShodBackwards$Bargain", "gainBelow", "I", false)
def xm_t0 : Nat → FieldType := fun k => match k with
  | 0 => .boolean
  | 1 => .int
  | 2 => .int
  | 3 => .int
  | _ => .int
def xm_R1 : String := "ShodBackwards$Desk"
def xm_F1 : u_T := fun k => match k with
  | 0 => ("ShodBackwards$Desk", "tape", "[I", true)
  | 1 => ("ShodBackwards$Desk", "tapeLength", "I", false)
  | 2 => ("ShodBackwards$Desk", "waiting", "[I", true)
  | 3 => ("ShodBackwards$Desk", "waitingCount", "I", false)
  | _ => ("ShodBackwards$Desk", "z", "I", false)
def xm_t1 : Nat → FieldType := fun k => match k with
  | 0 => .array (.int)
  | 1 => .int
  | 2 => .array (.int)
  | 3 => .int
  | _ => .int
def xm_R2 : String := "ShodBackwards$Moor"
def xm_F2 : u_T := fun k => match k with
  | 0 => ("ShodBackwards$Moor", "soil", "[I", true)
  | 1 => ("ShodBackwards$Moor", "frost", "I", false)
  | 2 => ("ShodBackwards$Moor", "hour", "I", false)
  | 3 => ("ShodBackwards$Moor", "riders", "[LShodBackwards$Rider;", true)
  | 4 => ("ShodBackwards$Moor", "riderCount", "I", false)
  | 5 => ("ShodBackwards$Moor", "prints", "[I", true)
  | 6 => ("ShodBackwards$Moor", "printCount", "I", false)
  | 7 => ("ShodBackwards$Moor", "texts", "[LShodBackwards$Text;", true)
  | 8 => ("ShodBackwards$Moor", "names", "[I", true)
  | _ => ("ShodBackwards$Moor", "stack", "[I", true)
def xm_t2 : Nat → FieldType := fun k => match k with
  | 0 => .array (.int)
  | 1 => .int
  | 2 => .int
  | 3 => .array (.object "ShodBackwards$Rider")
  | 4 => .int
  | 5 => .array (.int)
  | 6 => .int
  | 7 => .array (.object "ShodBackwards$Text")
  | 8 => .array (.int)
  | _ => .array (.int)
def xm_R3 : String := "ShodBackwards$Reader"
def xm_F3 : u_T := fun k => match k with
  | 0 => ("ShodBackwards$Reader", "bytes", "[I", false)
  | 1 => ("ShodBackwards$Reader", "length", "I", false)
  | 2 => ("ShodBackwards$Reader", "names", "Ljava/lang/String;", false)
  | 3 => ("ShodBackwards$Reader", "at", "I", false)
  | 4 => ("ShodBackwards$Reader", "signs", "[I", true)
  | _ => ("ShodBackwards$Reader", "signCount", "I", false)
def xm_t3 : Nat → FieldType := fun k => match k with
  | 0 => .array (.int)
  | 1 => .int
  | 2 => .object "java/lang/String"
  | 3 => .int
  | 4 => .array (.int)
  | _ => .int
def xm_R4 : String := "ShodBackwards$Rider"
def xm_F4 : u_T := fun k => match k with
  | 0 => ("ShodBackwards$Rider", "kind", "I", false)
  | 1 => ("ShodBackwards$Rider", "m", "I", false)
  | 2 => ("ShodBackwards$Rider", "cell", "I", false)
  | 3 => ("ShodBackwards$Rider", "load", "I", false)
  | 4 => ("ShodBackwards$Rider", "length", "I", false)
  | 5 => ("ShodBackwards$Rider", "step", "I", false)
  | _ => ("ShodBackwards$Rider", "ride", "[I", true)
def xm_t4 : Nat → FieldType := fun k => match k with
  | 0 => .int
  | 1 => .int
  | 2 => .int
  | 3 => .int
  | 4 => .int
  | 5 => .int
  | _ => .array (.int)
def xm_R5 : String := "ShodBackwards$Sheet"
def xm_F5 : u_T := fun k => match k with
  | 0 => ("ShodBackwards$Sheet", "bits", "I", false)
  | 1 => ("ShodBackwards$Sheet", "size", "I", false)
  | _ => ("ShodBackwards$Sheet", "numbers", "[I", true)
def xm_t5 : Nat → FieldType := fun k => match k with
  | 0 => .int
  | 1 => .int
  | _ => .array (.int)
def xm_R6 : String := "ShodBackwards$Speaker"
def xm_F6 : u_T := fun k => match k with
  | 0 => ("ShodBackwards$Speaker", "trace", "[I", true)
  | 1 => ("ShodBackwards$Speaker", "traced", "I", false)
  | 2 => ("ShodBackwards$Speaker", "kind", "I", false)
  | 3 => ("ShodBackwards$Speaker", "m", "I", false)
  | _ => ("ShodBackwards$Speaker", "k", "I", false)
def xm_t6 : Nat → FieldType := fun k => match k with
  | 0 => .array (.int)
  | 1 => .int
  | 2 => .int
  | 3 => .int
  | _ => .int
def xm_R7 : String := "ShodBackwards$Text"
def xm_F7 : u_T := fun k => match k with
  | _ => ("ShodBackwards$Text", "signs", "[I", true)
def xm_t7 : Nat → FieldType := fun k => match k with
  | _ => .array (.int)
def xm_R8 : String := "ShodBackwards"
def xm_F8 : u_T := fun k => match k with
  | 0 => ("ShodBackwards", "now", "LShodBackwards$Moor;", true)
  | 1 => ("ShodBackwards", "ahead", "LShodBackwards$Moor;", true)
  | 2 => ("ShodBackwards", "desk", "LShodBackwards$Desk;", true)
  | 3 => ("ShodBackwards", "keptMoor", "LShodBackwards$Moor;", true)
  | 4 => ("ShodBackwards", "keptDesk", "LShodBackwards$Desk;", true)
  | 5 => ("ShodBackwards", "imagesMade", "I", false)
  | 6 => ("ShodBackwards", "reader", "LShodBackwards$Reader;", true)
  | 7 => ("ShodBackwards", "speaker", "LShodBackwards$Speaker;", true)
  | 8 => ("ShodBackwards", "bargain", "LShodBackwards$Bargain;", true)
  | 9 => ("ShodBackwards", "sheets", "[LShodBackwards$Sheet;", true)
  | _ => ("ShodBackwards", "errors", "[I", true)
def xm_t8 : Nat → FieldType := fun k => match k with
  | 0 => .object "ShodBackwards$Moor"
  | 1 => .object "ShodBackwards$Moor"
  | 2 => .object "ShodBackwards$Desk"
  | 3 => .object "ShodBackwards$Moor"
  | 4 => .object "ShodBackwards$Desk"
  | 5 => .int
  | 6 => .object "ShodBackwards$Reader"
  | 7 => .object "ShodBackwards$Speaker"
  | 8 => .object "ShodBackwards$Bargain"
  | 9 => .array (.object "ShodBackwards$Sheet")
  | _ => .array (.int)
def xm_R9 : String := "ShodBackwardsModel"
def xm_F9 : u_T := fun k => match k with
  | 0 => ("ShodBackwardsModel", "s", "[I", true)
  | 1 => ("ShodBackwardsModel", "kept", "[I", true)
  | 2 => ("ShodBackwardsModel", "put", "[I", true)
  | 3 => ("ShodBackwardsModel", "stays", "I", false)
  | 4 => ("ShodBackwardsModel", "images", "I", false)
  | 5 => ("ShodBackwardsModel", "errors", "[I", true)
  | 6 => ("ShodBackwardsModel", "at", "I", false)
  | 7 => ("ShodBackwardsModel", "open", "I", false)
  | 8 => ("ShodBackwardsModel", "steps", "I", false)
  | 9 => ("ShodBackwardsModel", "use", "I", false)
  | 10 => ("ShodBackwardsModel", "step", "[I", true)
  | 11 => ("ShodBackwardsModel", "named", "[I", true)
  | 12 => ("ShodBackwardsModel", "pile", "[I", true)
  | 13 => ("ShodBackwardsModel", "followed", "I", false)
  | 14 => ("ShodBackwardsModel", "trace", "[I", true)
  | 15 => ("ShodBackwardsModel", "traced", "I", false)
  | 16 => ("ShodBackwardsModel", "speaks", "I", false)
  | 17 => ("ShodBackwardsModel", "isParted", "Z", false)
  | 18 => ("ShodBackwardsModel", "bits", "[I", true)
  | 19 => ("ShodBackwardsModel", "sizes", "[I", true)
  | 20 => ("ShodBackwardsModel", "number", "[I", true)
  | _ => ("ShodBackwardsModel", "aside", "[I", true)
def xm_t9 : Nat → FieldType := fun k => match k with
  | 0 => .array (.int)
  | 1 => .array (.int)
  | 2 => .array (.int)
  | 3 => .int
  | 4 => .int
  | 5 => .array (.int)
  | 6 => .int
  | 7 => .int
  | 8 => .int
  | 9 => .int
  | 10 => .array (.int)
  | 11 => .array (.int)
  | 12 => .array (.int)
  | 13 => .int
  | 14 => .array (.int)
  | 15 => .int
  | 16 => .int
  | 17 => .boolean
  | 18 => .array (.int)
  | 19 => .array (.int)
  | 20 => .array (.int)
  | _ => .array (.int)
abbrev xm_cl : List vw_C := [(xm_R0, xm_F0, 5), (xm_R1, xm_F1, 5), (xm_R2, xm_F2, 10), (xm_R3, xm_F3, 6), (xm_R4, xm_F4, 7), (xm_R5, xm_F5, 3), (xm_R6, xm_F6, 5), (xm_R7, xm_F7, 1), (xm_R8, xm_F8, 11), (xm_R9, xm_F9, 22)]
def xm_ty (c : Nat) : Nat → FieldType := match c with
  | 0 => xm_t0
  | 1 => xm_t1
  | 2 => xm_t2
  | 3 => xm_t3
  | 4 => xm_t4
  | 5 => xm_t5
  | 6 => xm_t6
  | 7 => xm_t7
  | 8 => xm_t8
  | _ => xm_t9
/-- the fields of a class by kinds: 0 an int, 1 a truth, 2 a reference -/
def xm_kd (c : Nat) : List Nat := match c with
  | 0 => [1, 0, 0, 0, 0]
  | 1 => [2, 0, 2, 0, 0]
  | 2 => [2, 0, 0, 2, 0, 2, 0, 2, 2, 2]
  | 3 => [2, 0, 2, 0, 2, 0]
  | 4 => [0, 0, 0, 0, 0, 0, 2]
  | 5 => [0, 0, 2]
  | 6 => [2, 0, 0, 0, 0]
  | 7 => [2]
  | 8 => [2, 2, 2, 2, 2, 0, 2, 2, 2, 2, 2]
  | 9 => [2, 2, 2, 0, 0, 2, 0, 0, 0, 0, 2, 2, 2, 0, 2, 0, 0, 1, 2, 2, 2, 2]
  | _ => []
def xm_kind (t : FieldType) : Nat := match t with
  | .int => 0
  | .boolean => 1
  | .object _ => 2
  | .array _ => 2
  | _ => 9
theorem xm_n0 : ∀ a, a < 5 → ∀ b, b < 5 → a ≠ b → (xm_F0 a).2.1 ≠ (xm_F0 b).2.1 := by decide +kernel
theorem xm_p0 : ∀ k, k < 5 → parseFieldDescriptor (xm_F0 k).2.2.1 = some (xm_t0 k) ∧ (xm_kd 0)[k]? = some (xm_kind (xm_t0 k)) := by decide +kernel
theorem xm_l0 : (xm_kd 0).length = 5 := rfl
theorem xm_i0 : ∀ w ∈ u_ws xm_R0 xm_F0 5, w ∈ lw_tbl ∧ goodWord w = true := by decide +kernel
theorem xm_n1 : ∀ a, a < 5 → ∀ b, b < 5 → a ≠ b → (xm_F1 a).2.1 ≠ (xm_F1 b).2.1 := by decide +kernel
theorem xm_p1 : ∀ k, k < 5 → parseFieldDescriptor (xm_F1 k).2.2.1 = some (xm_t1 k) ∧ (xm_kd 1)[k]? = some (xm_kind (xm_t1 k)) := by decide +kernel
theorem xm_l1 : (xm_kd 1).length = 5 := rfl
theorem xm_i1 : ∀ w ∈ u_ws xm_R1 xm_F1 5, w ∈ lw_tbl ∧ goodWord w = true := by decide +kernel
theorem xm_n2 : ∀ a, a < 10 → ∀ b, b < 10 → a ≠ b → (xm_F2 a).2.1 ≠ (xm_F2 b).2.1 := by decide +kernel
theorem xm_p2 : ∀ k, k < 10 → parseFieldDescriptor (xm_F2 k).2.2.1 = some (xm_t2 k) ∧ (xm_kd 2)[k]? = some (xm_kind (xm_t2 k)) := by decide +kernel
theorem xm_l2 : (xm_kd 2).length = 10 := rfl
theorem xm_i2 : ∀ w ∈ u_ws xm_R2 xm_F2 10, w ∈ lw_tbl ∧ goodWord w = true := by decide +kernel
theorem xm_n3 : ∀ a, a < 6 → ∀ b, b < 6 → a ≠ b → (xm_F3 a).2.1 ≠ (xm_F3 b).2.1 := by decide +kernel
theorem xm_p3 : ∀ k, k < 6 → parseFieldDescriptor (xm_F3 k).2.2.1 = some (xm_t3 k) ∧ (xm_kd 3)[k]? = some (xm_kind (xm_t3 k)) := by decide +kernel
theorem xm_l3 : (xm_kd 3).length = 6 := rfl
theorem xm_i3 : ∀ w ∈ u_ws xm_R3 xm_F3 6, w ∈ lw_tbl ∧ goodWord w = true := by decide +kernel
theorem xm_n4 : ∀ a, a < 7 → ∀ b, b < 7 → a ≠ b → (xm_F4 a).2.1 ≠ (xm_F4 b).2.1 := by decide +kernel
theorem xm_p4 : ∀ k, k < 7 → parseFieldDescriptor (xm_F4 k).2.2.1 = some (xm_t4 k) ∧ (xm_kd 4)[k]? = some (xm_kind (xm_t4 k)) := by decide +kernel
theorem xm_l4 : (xm_kd 4).length = 7 := rfl
theorem xm_i4 : ∀ w ∈ u_ws xm_R4 xm_F4 7, w ∈ lw_tbl ∧ goodWord w = true := by decide +kernel
theorem xm_n5 : ∀ a, a < 3 → ∀ b, b < 3 → a ≠ b → (xm_F5 a).2.1 ≠ (xm_F5 b).2.1 := by decide +kernel
theorem xm_p5 : ∀ k, k < 3 → parseFieldDescriptor (xm_F5 k).2.2.1 = some (xm_t5 k) ∧ (xm_kd 5)[k]? = some (xm_kind (xm_t5 k)) := by decide +kernel
theorem xm_l5 : (xm_kd 5).length = 3 := rfl
theorem xm_i5 : ∀ w ∈ u_ws xm_R5 xm_F5 3, w ∈ lw_tbl ∧ goodWord w = true := by decide +kernel
theorem xm_n6 : ∀ a, a < 5 → ∀ b, b < 5 → a ≠ b → (xm_F6 a).2.1 ≠ (xm_F6 b).2.1 := by decide +kernel
theorem xm_p6 : ∀ k, k < 5 → parseFieldDescriptor (xm_F6 k).2.2.1 = some (xm_t6 k) ∧ (xm_kd 6)[k]? = some (xm_kind (xm_t6 k)) := by decide +kernel
theorem xm_l6 : (xm_kd 6).length = 5 := rfl
theorem xm_i6 : ∀ w ∈ u_ws xm_R6 xm_F6 5, w ∈ lw_tbl ∧ goodWord w = true := by decide +kernel
theorem xm_n7 : ∀ a, a < 1 → ∀ b, b < 1 → a ≠ b → (xm_F7 a).2.1 ≠ (xm_F7 b).2.1 := by decide +kernel
theorem xm_p7 : ∀ k, k < 1 → parseFieldDescriptor (xm_F7 k).2.2.1 = some (xm_t7 k) ∧ (xm_kd 7)[k]? = some (xm_kind (xm_t7 k)) := by decide +kernel
theorem xm_l7 : (xm_kd 7).length = 1 := rfl
theorem xm_i7 : ∀ w ∈ u_ws xm_R7 xm_F7 1, w ∈ lw_tbl ∧ goodWord w = true := by decide +kernel
theorem xm_n8 : ∀ a, a < 11 → ∀ b, b < 11 → a ≠ b → (xm_F8 a).2.1 ≠ (xm_F8 b).2.1 := by decide +kernel
theorem xm_p8 : ∀ k, k < 11 → parseFieldDescriptor (xm_F8 k).2.2.1 = some (xm_t8 k) ∧ (xm_kd 8)[k]? = some (xm_kind (xm_t8 k)) := by decide +kernel
theorem xm_l8 : (xm_kd 8).length = 11 := rfl
theorem xm_i8 : ∀ w ∈ u_ws xm_R8 xm_F8 11, w ∈ lw_tbl ∧ goodWord w = true := by decide +kernel
theorem xm_n9 : ∀ a, a < 22 → ∀ b, b < 22 → a ≠ b → (xm_F9 a).2.1 ≠ (xm_F9 b).2.1 := by decide +kernel
theorem xm_p9 : ∀ k, k < 22 → parseFieldDescriptor (xm_F9 k).2.2.1 = some (xm_t9 k) ∧ (xm_kd 9)[k]? = some (xm_kind (xm_t9 k)) := by decide +kernel
theorem xm_l9 : (xm_kd 9).length = 22 := rfl
theorem xm_i9 : ∀ w ∈ u_ws xm_R9 xm_F9 22, w ∈ lw_tbl ∧ goodWord w = true := by decide +kernel
/-- what is known of every class of the list -/
theorem xm_clok (c : Nat) (q : vw_C) (h : xm_cl[c]? = some q) : (∀ a, a < q.2.2 → ∀ b, b < q.2.2 → a ≠ b → (q.2.1 a).2.1 ≠ (q.2.1 b).2.1) ∧ (∀ k, k < q.2.2 → parseFieldDescriptor (q.2.1 k).2.2.1 = some (xm_ty c k) ∧ (xm_kd c)[k]? = some (xm_kind (xm_ty c k))) ∧ (xm_kd c).length = q.2.2 ∧ (∀ w ∈ u_ws q.1 q.2.1 q.2.2, w ∈ lw_tbl ∧ goodWord w = true) := by
  match c, h with
  | 0, h => cases h; exact ⟨xm_n0, xm_p0, xm_l0, xm_i0⟩
  | 1, h => cases h; exact ⟨xm_n1, xm_p1, xm_l1, xm_i1⟩
  | 2, h => cases h; exact ⟨xm_n2, xm_p2, xm_l2, xm_i2⟩
  | 3, h => cases h; exact ⟨xm_n3, xm_p3, xm_l3, xm_i3⟩
  | 4, h => cases h; exact ⟨xm_n4, xm_p4, xm_l4, xm_i4⟩
  | 5, h => cases h; exact ⟨xm_n5, xm_p5, xm_l5, xm_i5⟩
  | 6, h => cases h; exact ⟨xm_n6, xm_p6, xm_l6, xm_i6⟩
  | 7, h => cases h; exact ⟨xm_n7, xm_p7, xm_l7, xm_i7⟩
  | 8, h => cases h; exact ⟨xm_n8, xm_p8, xm_l8, xm_i8⟩
  | 9, h => cases h; exact ⟨xm_n9, xm_p9, xm_l9, xm_i9⟩
  | c + 10, h => simp [xm_cl] at h
