/-- java/lang/String.length()I -/
theorem d_1454_0 : List.drop 0 xm_c1454 = xm_c1454 := rfl
theorem k_1454_0 : xm_gi xm_c1454 0 = some xm_e1454_0 := xm_gt d_1454_0
theorem d_1454_1 : List.drop 1 xm_c1454 = xm_c1454_1 := xm_dr d_1454_0
theorem k_1454_1 : xm_gi xm_c1454 1 = some xm_e1454_1 := xm_gt d_1454_1
theorem d_1454_2 : List.drop 2 xm_c1454 = xm_c1454_2 := xm_dr d_1454_1
theorem k_1454_2 : xm_gi xm_c1454 2 = some xm_e1454_2 := xm_gt d_1454_2
theorem d_1454_3 : List.drop 3 xm_c1454 = xm_c1454_3 := xm_dr d_1454_2
theorem k_1454_3 : xm_gi xm_c1454 3 = some xm_e1454_3 := xm_gt d_1454_3
theorem d_1454_4 : List.drop 4 xm_c1454 = xm_c1454_4 := xm_dr d_1454_3
theorem k_1454_4 : xm_gi xm_c1454 4 = some xm_e1454_4 := xm_gt d_1454_4
theorem d_1454_5 : List.drop 5 xm_c1454 = xm_c1454_5 := xm_dr d_1454_4
theorem k_1454_5 : xm_gi xm_c1454 5 = some xm_e1454_5 := xm_gt d_1454_5
theorem d_1454_6 : List.drop 6 xm_c1454 = xm_c1454_6 := xm_dr d_1454_5
theorem k_1454_6 : xm_gi xm_c1454 6 = some xm_e1454_6 := xm_gt d_1454_6
theorem xb_1454_0 {sc : List Int} {f : Nat → List xm_V → xm_W → xm_R} {w : xm_W} {Q : Option xm_V × xm_W → Prop} {x0 : Nat}
  (h : xm_O (xm_fr (xm_old sc) w x0 98 0) (fun r1 => xm_O (xm_len (xm_old sc) w r1) (fun (n2 : Nat) => xm_Oi (f 1552 [.inr (.inl (some x0))] w) (fun z4 w3 => Q (some (.inl (xm_shr ((n2 : Nat) : Int) z4)), w3))))) :
  xm_EQ (xm_old sc) xm_sta f xm_c1454 0 [some (.inr (.inl (some x0)))] [] w Q :=
  (xq_aload_n k_1454_0 rfl (xq_getr k_1454_1 rfl h (fun r1 h => (xq_alen k_1454_2 h (fun n2 h => (xq_aload_n k_1454_3 rfl (xq_invv4 k_1454_4 xr_1552 rfl rfl rfl h (fun z4 w3 h => (xq_ishr k_1454_5 (xq_ireturn k_1454_6 h))))))))))
/-- java/lang/String.indexOf(I)I -/
theorem d_1479_0 : List.drop 0 xm_c1479 = xm_c1479 := rfl
theorem k_1479_0 : xm_gi xm_c1479 0 = some xm_e1479_0 := xm_gt d_1479_0
theorem d_1479_1 : List.drop 1 xm_c1479 = xm_c1479_1 := xm_dr d_1479_0
theorem k_1479_1 : xm_gi xm_c1479 1 = some xm_e1479_1 := xm_gt d_1479_1
theorem d_1479_2 : List.drop 2 xm_c1479 = xm_c1479_2 := xm_dr d_1479_1
theorem k_1479_2 : xm_gi xm_c1479 2 = some xm_e1479_2 := xm_gt d_1479_2
theorem d_1479_3 : List.drop 3 xm_c1479 = xm_c1479_3 := xm_dr d_1479_2
theorem k_1479_3 : xm_gi xm_c1479 3 = some xm_e1479_3 := xm_gt d_1479_3
theorem d_1479_4 : List.drop 4 xm_c1479 = xm_c1479_4 := xm_dr d_1479_3
theorem k_1479_4 : xm_gi xm_c1479 4 = some xm_e1479_4 := xm_gt d_1479_4
theorem xb_1479_0 {sc : List Int} {f : Nat → List xm_V → xm_W → xm_R} {w : xm_W} {Q : Option xm_V × xm_W → Prop} {x0 : Nat} {x1 : Int}
  (h : xm_Oi (f 1480 [.inr (.inl (some x0)), .inl x1, .inl 0] w) (fun z2 w1 => Q (some (.inl z2), w1))) :
  xm_EQ (xm_old sc) xm_sta f xm_c1479 0 [some (.inr (.inl (some x0))), some (.inl x1)] [] w Q :=
  (xq_aload_n k_1479_0 rfl (xq_iload_n k_1479_1 rfl (xq_iconst k_1479_2 (xq_invv1 k_1479_3 xr_1480 rfl rfl rfl h (fun z2 w1 h => (xq_ireturn k_1479_4 h))))))
/-- java/lang/String.indexOf(II)I -/
theorem d_1480_0 : List.drop 0 xm_c1480 = xm_c1480 := rfl
theorem k_1480_0 : xm_gi xm_c1480 0 = some xm_e1480_0 := xm_gt d_1480_0
theorem d_1480_1 : List.drop 1 xm_c1480 = xm_c1480_1 := xm_dr d_1480_0
theorem k_1480_1 : xm_gi xm_c1480 1 = some xm_e1480_1 := xm_gt d_1480_1
theorem d_1480_2 : List.drop 2 xm_c1480 = xm_c1480_2 := xm_dr d_1480_1
theorem k_1480_2 : xm_gi xm_c1480 2 = some xm_e1480_2 := xm_gt d_1480_2
theorem d_1480_3 : List.drop 3 xm_c1480 = xm_c1480_3 := xm_dr d_1480_2
theorem k_1480_3 : xm_gi xm_c1480 3 = some xm_e1480_3 := xm_gt d_1480_3
theorem d_1480_4 : List.drop 4 xm_c1480 = xm_c1480_4 := xm_dr d_1480_3
theorem k_1480_4 : xm_gi xm_c1480 4 = some xm_e1480_4 := xm_gt d_1480_4
theorem d_1480_5 : List.drop 5 xm_c1480 = xm_c1480_5 := xm_dr d_1480_4
theorem k_1480_5 : xm_gi xm_c1480 5 = some xm_e1480_5 := xm_gt d_1480_5
theorem d_1480_6 : List.drop 6 xm_c1480 = xm_c1480_6 := xm_dr d_1480_5
theorem k_1480_6 : xm_gi xm_c1480 6 = some xm_e1480_6 := xm_gt d_1480_6
theorem d_1480_7 : List.drop 7 xm_c1480 = xm_c1480_7 := xm_dr d_1480_6
theorem k_1480_7 : xm_gi xm_c1480 7 = some xm_e1480_7 := xm_gt d_1480_7
theorem d_1480_8 : List.drop 8 xm_c1480 = xm_c1480_8 := xm_dr d_1480_7
theorem k_1480_8 : xm_gi xm_c1480 8 = some xm_e1480_8 := xm_gt d_1480_8
theorem d_1480_9 : List.drop 9 xm_c1480 = xm_c1480_9 := xm_dr d_1480_8
theorem k_1480_9 : xm_gi xm_c1480 9 = some xm_e1480_9 := xm_gt d_1480_9
theorem d_1480_10 : List.drop 10 xm_c1480 = xm_c1480_10 := xm_dr d_1480_9
theorem k_1480_10 : xm_gi xm_c1480 10 = some xm_e1480_10 := xm_gt d_1480_10
theorem d_1480_11 : List.drop 11 xm_c1480 = xm_c1480_11 := xm_dr d_1480_10
theorem k_1480_11 : xm_gi xm_c1480 11 = some xm_e1480_11 := xm_gt d_1480_11
theorem d_1480_12 : List.drop 12 xm_c1480 = xm_c1480_12 := xm_dr d_1480_11
theorem k_1480_12 : xm_gi xm_c1480 12 = some xm_e1480_12 := xm_gt d_1480_12
theorem d_1480_13 : List.drop 13 xm_c1480 = xm_c1480_13 := xm_dr d_1480_12
theorem k_1480_13 : xm_gi xm_c1480 13 = some xm_e1480_13 := xm_gt d_1480_13
theorem d_1480_14 : List.drop 14 xm_c1480 = xm_c1480_14 := xm_dr d_1480_13
theorem k_1480_14 : xm_gi xm_c1480 14 = some xm_e1480_14 := xm_gt d_1480_14
theorem d_1480_15 : List.drop 15 xm_c1480 = xm_c1480_15 := xm_dr d_1480_14
theorem k_1480_15 : xm_gi xm_c1480 15 = some xm_e1480_15 := xm_gt d_1480_15
theorem d_1480_16 : List.drop 16 xm_c1480 = xm_c1480_16 := xm_dr d_1480_15
theorem k_1480_16 : xm_gi xm_c1480 16 = some xm_e1480_16 := xm_gt d_1480_16
theorem d_1480_17 : List.drop 17 xm_c1480 = xm_c1480_17 := xm_dr d_1480_16
theorem k_1480_17 : xm_gi xm_c1480 17 = some xm_e1480_17 := xm_gt d_1480_17
theorem d_1480_18 : List.drop 18 xm_c1480 = xm_c1480_18 := xm_dr d_1480_17
theorem k_1480_18 : xm_gi xm_c1480 18 = some xm_e1480_18 := xm_gt d_1480_18
theorem xb_1480_0 {sc : List Int} {f : Nat → List xm_V → xm_W → xm_R} {w : xm_W} {Q : Option xm_V × xm_W → Prop} {x0 : Nat} {x1 : Int} {x2 : Int}
  (h : xm_Oi (f 1554 [.inr (.inl (some x0))] w) (fun z2 w1 => if (z2 : Int) = 0 then (xm_O (xm_fr (xm_old sc) w1 x0 98 0) (fun r3 => xm_Oi (f 1454 [.inr (.inl (some x0))] w1) (fun z5 w4 => False))) else (xm_O (xm_fr (xm_old sc) w1 x0 98 0) (fun r6 => xm_Oi (f 1454 [.inr (.inl (some x0))] w1) (fun z8 w7 => xm_Oi (f 1522 [.inr (.inl (some r6)), .inl x1, .inl x2, .inl z8] w7) (fun z10 w9 => Q (some (.inl z10), w9))))))) :
  xm_EQ (xm_old sc) xm_sta f xm_c1480 0 [some (.inr (.inl (some x0))), some (.inl x1), some (.inl x2)] [] w Q :=
  (xq_aload_n k_1480_0 rfl (xq_invv2 k_1480_1 xr_1554 rfl rfl rfl h (fun z2 w1 h => (xq_if_eq k_1480_2 h (fun h => (xq_aload_n k_1480_11 rfl (xq_getr k_1480_12 rfl h (fun r3 h => (xq_iload_n k_1480_13 rfl (xq_iload_n k_1480_14 rfl (xq_aload_n k_1480_15 rfl (xq_invv1 k_1480_16 xr_1454 rfl rfl rfl h (fun z5 w4 h => False.elim h))))))))) (fun h => (xq_aload_n k_1480_3 rfl (xq_getr k_1480_4 rfl h (fun r6 h => (xq_iload_n k_1480_5 rfl (xq_iload_n k_1480_6 rfl (xq_aload_n k_1480_7 rfl (xq_invv1 k_1480_8 xr_1454 rfl rfl rfl h (fun z8 w7 h => (xq_invs1 k_1480_9 xr_1522 rfl rfl rfl h (fun z10 w9 h => (xq_goto k_1480_10 (xq_ireturn k_1480_18 h)))))))))))))))))
