/-- java/lang/StringLatin1.canEncode(I)Z -/
theorem d_1504_0 : List.drop 0 xm_c1504 = xm_c1504 := rfl
theorem k_1504_0 : xm_gi xm_c1504 0 = some xm_e1504_0 := xm_gt d_1504_0
theorem d_1504_1 : List.drop 1 xm_c1504 = xm_c1504_1 := xm_dr d_1504_0
theorem k_1504_1 : xm_gi xm_c1504 1 = some xm_e1504_1 := xm_gt d_1504_1
theorem d_1504_2 : List.drop 2 xm_c1504 = xm_c1504_2 := xm_dr d_1504_1
theorem k_1504_2 : xm_gi xm_c1504 2 = some xm_e1504_2 := xm_gt d_1504_2
theorem d_1504_3 : List.drop 3 xm_c1504 = xm_c1504_3 := xm_dr d_1504_2
theorem k_1504_3 : xm_gi xm_c1504 3 = some xm_e1504_3 := xm_gt d_1504_3
theorem d_1504_4 : List.drop 4 xm_c1504 = xm_c1504_4 := xm_dr d_1504_3
theorem k_1504_4 : xm_gi xm_c1504 4 = some xm_e1504_4 := xm_gt d_1504_4
theorem d_1504_5 : List.drop 5 xm_c1504 = xm_c1504_5 := xm_dr d_1504_4
theorem k_1504_5 : xm_gi xm_c1504 5 = some xm_e1504_5 := xm_gt d_1504_5
theorem d_1504_6 : List.drop 6 xm_c1504 = xm_c1504_6 := xm_dr d_1504_5
theorem k_1504_6 : xm_gi xm_c1504 6 = some xm_e1504_6 := xm_gt d_1504_6
theorem d_1504_7 : List.drop 7 xm_c1504 = xm_c1504_7 := xm_dr d_1504_6
theorem k_1504_7 : xm_gi xm_c1504 7 = some xm_e1504_7 := xm_gt d_1504_7
theorem d_1504_8 : List.drop 8 xm_c1504 = xm_c1504_8 := xm_dr d_1504_7
theorem k_1504_8 : xm_gi xm_c1504 8 = some xm_e1504_8 := xm_gt d_1504_8
theorem xb_1504_0 {sc : List Int} {f : Nat → List xm_V → xm_W → xm_R} {w : xm_W} {Q : Option xm_V × xm_W → Prop} {x0 : Int}
  (h : if (x0 : Int) < 0 then (Q (some (.inl 0), w)) else (if (255 : Int) < x0 then (Q (some (.inl 0), w)) else (Q (some (.inl 1), w)))) :
  xm_EQ (xm_old sc) xm_sta f xm_c1504 0 [some (.inl x0)] [] w Q :=
  (xq_iload_n k_1504_0 rfl (xq_if_lt k_1504_1 h (fun h => (xq_iconst k_1504_7 (xq_ireturn k_1504_8 h))) (fun h => (xq_iload_n k_1504_2 rfl (xq_sipush k_1504_3 (xq_ic_gt k_1504_4 h (fun h => (xq_iconst k_1504_7 (xq_ireturn k_1504_8 h))) (fun h => (xq_iconst k_1504_5 (xq_goto k_1504_6 (xq_ireturn k_1504_8 h))))))))))
/-- java/lang/StringLatin1.indexOf([BIII)I -/
theorem d_1522_0 : List.drop 0 xm_c1522 = xm_c1522 := rfl
theorem k_1522_0 : xm_gi xm_c1522 0 = some xm_e1522_0 := xm_gt d_1522_0
theorem d_1522_1 : List.drop 1 xm_c1522 = xm_c1522_1 := xm_dr d_1522_0
theorem k_1522_1 : xm_gi xm_c1522 1 = some xm_e1522_1 := xm_gt d_1522_1
theorem d_1522_2 : List.drop 2 xm_c1522 = xm_c1522_2 := xm_dr d_1522_1
theorem k_1522_2 : xm_gi xm_c1522 2 = some xm_e1522_2 := xm_gt d_1522_2
theorem d_1522_3 : List.drop 3 xm_c1522 = xm_c1522_3 := xm_dr d_1522_2
theorem k_1522_3 : xm_gi xm_c1522 3 = some xm_e1522_3 := xm_gt d_1522_3
theorem d_1522_4 : List.drop 4 xm_c1522 = xm_c1522_4 := xm_dr d_1522_3
theorem k_1522_4 : xm_gi xm_c1522 4 = some xm_e1522_4 := xm_gt d_1522_4
theorem d_1522_5 : List.drop 5 xm_c1522 = xm_c1522_5 := xm_dr d_1522_4
theorem k_1522_5 : xm_gi xm_c1522 5 = some xm_e1522_5 := xm_gt d_1522_5
theorem d_1522_6 : List.drop 6 xm_c1522 = xm_c1522_6 := xm_dr d_1522_5
theorem k_1522_6 : xm_gi xm_c1522 6 = some xm_e1522_6 := xm_gt d_1522_6
theorem d_1522_7 : List.drop 7 xm_c1522 = xm_c1522_7 := xm_dr d_1522_6
theorem k_1522_7 : xm_gi xm_c1522 7 = some xm_e1522_7 := xm_gt d_1522_7
theorem d_1522_8 : List.drop 8 xm_c1522 = xm_c1522_8 := xm_dr d_1522_7
theorem k_1522_8 : xm_gi xm_c1522 8 = some xm_e1522_8 := xm_gt d_1522_8
theorem d_1522_9 : List.drop 9 xm_c1522 = xm_c1522_9 := xm_dr d_1522_8
theorem k_1522_9 : xm_gi xm_c1522 9 = some xm_e1522_9 := xm_gt d_1522_9
theorem d_1522_10 : List.drop 10 xm_c1522 = xm_c1522_10 := xm_dr d_1522_9
theorem k_1522_10 : xm_gi xm_c1522 10 = some xm_e1522_10 := xm_gt d_1522_10
theorem d_1522_11 : List.drop 11 xm_c1522 = xm_c1522_11 := xm_dr d_1522_10
theorem k_1522_11 : xm_gi xm_c1522 11 = some xm_e1522_11 := xm_gt d_1522_11
theorem d_1522_12 : List.drop 12 xm_c1522 = xm_c1522_12 := xm_dr d_1522_11
theorem k_1522_12 : xm_gi xm_c1522 12 = some xm_e1522_12 := xm_gt d_1522_12
theorem d_1522_13 : List.drop 13 xm_c1522 = xm_c1522_13 := xm_dr d_1522_12
theorem k_1522_13 : xm_gi xm_c1522 13 = some xm_e1522_13 := xm_gt d_1522_13
theorem d_1522_14 : List.drop 14 xm_c1522 = xm_c1522_14 := xm_dr d_1522_13
theorem k_1522_14 : xm_gi xm_c1522 14 = some xm_e1522_14 := xm_gt d_1522_14
theorem d_1522_15 : List.drop 15 xm_c1522 = xm_c1522_15 := xm_dr d_1522_14
theorem k_1522_15 : xm_gi xm_c1522 15 = some xm_e1522_15 := xm_gt d_1522_15
theorem d_1522_16 : List.drop 16 xm_c1522 = xm_c1522_16 := xm_dr d_1522_15
theorem k_1522_16 : xm_gi xm_c1522 16 = some xm_e1522_16 := xm_gt d_1522_16
theorem d_1522_17 : List.drop 17 xm_c1522 = xm_c1522_17 := xm_dr d_1522_16
theorem k_1522_17 : xm_gi xm_c1522 17 = some xm_e1522_17 := xm_gt d_1522_17
theorem d_1522_18 : List.drop 18 xm_c1522 = xm_c1522_18 := xm_dr d_1522_17
theorem k_1522_18 : xm_gi xm_c1522 18 = some xm_e1522_18 := xm_gt d_1522_18
theorem d_1522_19 : List.drop 19 xm_c1522 = xm_c1522_19 := xm_dr d_1522_18
theorem k_1522_19 : xm_gi xm_c1522 19 = some xm_e1522_19 := xm_gt d_1522_19
theorem d_1522_20 : List.drop 20 xm_c1522 = xm_c1522_20 := xm_dr d_1522_19
theorem k_1522_20 : xm_gi xm_c1522 20 = some xm_e1522_20 := xm_gt d_1522_20
theorem d_1522_21 : List.drop 21 xm_c1522 = xm_c1522_21 := xm_dr d_1522_20
theorem k_1522_21 : xm_gi xm_c1522 21 = some xm_e1522_21 := xm_gt d_1522_21
theorem d_1522_22 : List.drop 22 xm_c1522 = xm_c1522_22 := xm_dr d_1522_21
theorem k_1522_22 : xm_gi xm_c1522 22 = some xm_e1522_22 := xm_gt d_1522_22
theorem d_1522_23 : List.drop 23 xm_c1522 = xm_c1522_23 := xm_dr d_1522_22
theorem k_1522_23 : xm_gi xm_c1522 23 = some xm_e1522_23 := xm_gt d_1522_23
theorem d_1522_24 : List.drop 24 xm_c1522 = xm_c1522_24 := xm_dr d_1522_23
theorem k_1522_24 : xm_gi xm_c1522 24 = some xm_e1522_24 := xm_gt d_1522_24
theorem xb_1522_0 {sc : List Int} {f : Nat → List xm_V → xm_W → xm_R} {w : xm_W} {Q : Option xm_V × xm_W → Prop} {x0 : Nat} {x1 : Int} {x2 : Int} {x3 : Int}
  (h : xm_Oi (f 1504 [.inl x1] w) (fun z2 w1 => if (z2 : Int) = 0 then (Q (some (.inl (-1)), w1)) else (xm_O (xm_len (xm_old sc) w1 x0) (fun (n3 : Nat) => if ((if x2 < 0 then 0 else x2) : Int) < (if ((n3 : Nat) : Int) < x3 then ((n3 : Nat) : Int) else x3) then (xm_Oi (f 1523 [.inr (.inl (some x0)), .inl x1, .inl (if x2 < 0 then 0 else x2), .inl (if ((n3 : Nat) : Int) < x3 then ((n3 : Nat) : Int) else x3)] w1) (fun z5 w4 => Q (some (.inl z5), w4))) else (Q (some (.inl (-1)), w1)))))) :
  xm_EQ (xm_old sc) xm_sta f xm_c1522 0 [some (.inr (.inl (some x0))), some (.inl x1), some (.inl x2), some (.inl x3)] [] w Q :=
  (xq_iload_n k_1522_0 rfl (xq_invs2 k_1522_1 xr_1504 rfl rfl rfl h (fun z2 w1 h => (xq_if_ne k_1522_2 h (fun h => (xq_iconst k_1522_3 (xq_ireturn k_1522_4 h))) (fun h => (xq_iload_n k_1522_5 rfl (xq_iconst k_1522_6 (xq_max k_1522_7 rfl (xq_istore_n k_1522_8 rfl (xq_iload_n k_1522_9 rfl (xq_aload_n k_1522_10 rfl (xq_alen k_1522_11 h (fun n3 h => (xq_min k_1522_12 rfl (xq_istore_n k_1522_13 rfl (xq_iload_n k_1522_14 rfl (xq_iload_n k_1522_15 rfl (xq_ic_lt k_1522_16 h (fun h => (xq_aload_n k_1522_19 rfl (xq_iload_n k_1522_20 rfl (xq_iload_n k_1522_21 rfl (xq_iload_n k_1522_22 rfl (xq_invs1 k_1522_23 xr_1523 rfl rfl rfl h (fun z5 w4 h => (xq_ireturn k_1522_24 h)))))))) (fun h => (xq_iconst k_1522_17 (xq_ireturn k_1522_18 h)))))))))))))))))))))
/-- java/lang/StringLatin1.indexOfChar([BIII)I -/
theorem d_1523_0 : List.drop 0 xm_c1523 = xm_c1523 := rfl
theorem k_1523_0 : xm_gi xm_c1523 0 = some xm_e1523_0 := xm_gt d_1523_0
theorem d_1523_1 : List.drop 1 xm_c1523 = xm_c1523_1 := xm_dr d_1523_0
theorem k_1523_1 : xm_gi xm_c1523 1 = some xm_e1523_1 := xm_gt d_1523_1
theorem d_1523_2 : List.drop 2 xm_c1523 = xm_c1523_2 := xm_dr d_1523_1
theorem k_1523_2 : xm_gi xm_c1523 2 = some xm_e1523_2 := xm_gt d_1523_2
theorem d_1523_3 : List.drop 3 xm_c1523 = xm_c1523_3 := xm_dr d_1523_2
theorem k_1523_3 : xm_gi xm_c1523 3 = some xm_e1523_3 := xm_gt d_1523_3
theorem d_1523_4 : List.drop 4 xm_c1523 = xm_c1523_4 := xm_dr d_1523_3
theorem k_1523_4 : xm_gi xm_c1523 4 = some xm_e1523_4 := xm_gt d_1523_4
theorem d_1523_5 : List.drop 5 xm_c1523 = xm_c1523_5 := xm_dr d_1523_4
theorem k_1523_5 : xm_gi xm_c1523 5 = some xm_e1523_5 := xm_gt d_1523_5
theorem d_1523_6 : List.drop 6 xm_c1523 = xm_c1523_6 := xm_dr d_1523_5
theorem k_1523_6 : xm_gi xm_c1523 6 = some xm_e1523_6 := xm_gt d_1523_6
theorem d_1523_7 : List.drop 7 xm_c1523 = xm_c1523_7 := xm_dr d_1523_6
theorem k_1523_7 : xm_gi xm_c1523 7 = some xm_e1523_7 := xm_gt d_1523_7
theorem d_1523_8 : List.drop 8 xm_c1523 = xm_c1523_8 := xm_dr d_1523_7
theorem k_1523_8 : xm_gi xm_c1523 8 = some xm_e1523_8 := xm_gt d_1523_8
theorem d_1523_9 : List.drop 9 xm_c1523 = xm_c1523_9 := xm_dr d_1523_8
theorem k_1523_9 : xm_gi xm_c1523 9 = some xm_e1523_9 := xm_gt d_1523_9
theorem d_1523_10 : List.drop 10 xm_c1523 = xm_c1523_10 := xm_dr d_1523_9
theorem k_1523_10 : xm_gi xm_c1523 10 = some xm_e1523_10 := xm_gt d_1523_10
theorem d_1523_11 : List.drop 11 xm_c1523 = xm_c1523_11 := xm_dr d_1523_10
theorem k_1523_11 : xm_gi xm_c1523 11 = some xm_e1523_11 := xm_gt d_1523_11
theorem d_1523_12 : List.drop 12 xm_c1523 = xm_c1523_12 := xm_dr d_1523_11
theorem k_1523_12 : xm_gi xm_c1523 12 = some xm_e1523_12 := xm_gt d_1523_12
theorem d_1523_13 : List.drop 13 xm_c1523 = xm_c1523_13 := xm_dr d_1523_12
theorem k_1523_13 : xm_gi xm_c1523 13 = some xm_e1523_13 := xm_gt d_1523_13
theorem d_1523_14 : List.drop 14 xm_c1523 = xm_c1523_14 := xm_dr d_1523_13
theorem k_1523_14 : xm_gi xm_c1523 14 = some xm_e1523_14 := xm_gt d_1523_14
theorem d_1523_15 : List.drop 15 xm_c1523 = xm_c1523_15 := xm_dr d_1523_14
theorem k_1523_15 : xm_gi xm_c1523 15 = some xm_e1523_15 := xm_gt d_1523_15
theorem d_1523_16 : List.drop 16 xm_c1523 = xm_c1523_16 := xm_dr d_1523_15
theorem k_1523_16 : xm_gi xm_c1523 16 = some xm_e1523_16 := xm_gt d_1523_16
theorem d_1523_17 : List.drop 17 xm_c1523 = xm_c1523_17 := xm_dr d_1523_16
theorem k_1523_17 : xm_gi xm_c1523 17 = some xm_e1523_17 := xm_gt d_1523_17
theorem d_1523_18 : List.drop 18 xm_c1523 = xm_c1523_18 := xm_dr d_1523_17
theorem k_1523_18 : xm_gi xm_c1523 18 = some xm_e1523_18 := xm_gt d_1523_18
theorem xb_1523_0 {sc : List Int} {f : Nat → List xm_V → xm_W → xm_R} {w : xm_W} {Q : Option xm_V × xm_W → Prop} {x0 : Nat} {x1 : Int} {x2 : Int} {x3 : Int}
  (h : xm_EQ (xm_old sc) xm_sta f xm_c1523 5 [some (.inr (.inl (some x0))), some (.inl x1), some (.inl x2), some (.inl x3), some (.inl (xm_b x1)), some (.inl x2)] [] w Q) :
  xm_EQ (xm_old sc) xm_sta f xm_c1523 0 [some (.inr (.inl (some x0))), some (.inl x1), some (.inl x2), some (.inl x3), none, none] [] w Q :=
  (xq_iload_n k_1523_0 rfl (xq_i2b k_1523_1 (xq_istore k_1523_2 rfl (xq_iload_n k_1523_3 rfl (xq_istore k_1523_4 rfl h)))))
theorem xb_1523_5 {sc : List Int} {f : Nat → List xm_V → xm_W → xm_R} {w : xm_W} {Q : Option xm_V × xm_W → Prop} {x0 : Nat} {x1 : Int} {x2 : Int} {x3 : Int} {x4 : Int} {x5 : Int}
  (h : if (x5 : Int) < x3 then (xm_O (xm_byt (xm_old sc) w x0 x5) (fun z1 => if (z1 : Int) = x4 then (Q (some (.inl x5), w)) else (xm_EQ (xm_old sc) xm_sta f xm_c1523 5 [some (.inr (.inl (some x0))), some (.inl x1), some (.inl x2), some (.inl x3), some (.inl x4), some (.inl (xm_w (x5 + 1)))] [] w Q))) else (Q (some (.inl (-1)), w))) :
  xm_EQ (xm_old sc) xm_sta f xm_c1523 5 [some (.inr (.inl (some x0))), some (.inl x1), some (.inl x2), some (.inl x3), some (.inl x4), some (.inl x5)] [] w Q :=
  (xq_iload k_1523_5 rfl (xq_iload_n k_1523_6 rfl (xq_ic_ge k_1523_7 h (fun h => (xq_aload_n k_1523_8 rfl (xq_iload k_1523_9 rfl (xq_baload k_1523_10 h (fun z1 h => (xq_iload k_1523_11 rfl (xq_ic_ne k_1523_12 h (fun h => (xq_iload k_1523_13 rfl (xq_ireturn k_1523_14 h))) (fun h => (xq_iinc k_1523_15 rfl rfl (xq_goto k_1523_16 h)))))))))) (fun h => (xq_iconst k_1523_17 (xq_ireturn k_1523_18 h))))))
/-- java/lang/String.coder()B -/
theorem d_1552_0 : List.drop 0 xm_c1552 = xm_c1552 := rfl
theorem k_1552_0 : xm_gi xm_c1552 0 = some xm_e1552_0 := xm_gt d_1552_0
theorem d_1552_1 : List.drop 1 xm_c1552 = xm_c1552_1 := xm_dr d_1552_0
theorem k_1552_1 : xm_gi xm_c1552 1 = some xm_e1552_1 := xm_gt d_1552_1
theorem d_1552_2 : List.drop 2 xm_c1552 = xm_c1552_2 := xm_dr d_1552_1
theorem k_1552_2 : xm_gi xm_c1552 2 = some xm_e1552_2 := xm_gt d_1552_2
theorem d_1552_3 : List.drop 3 xm_c1552 = xm_c1552_3 := xm_dr d_1552_2
theorem k_1552_3 : xm_gi xm_c1552 3 = some xm_e1552_3 := xm_gt d_1552_3
theorem d_1552_4 : List.drop 4 xm_c1552 = xm_c1552_4 := xm_dr d_1552_3
theorem k_1552_4 : xm_gi xm_c1552 4 = some xm_e1552_4 := xm_gt d_1552_4
theorem d_1552_5 : List.drop 5 xm_c1552 = xm_c1552_5 := xm_dr d_1552_4
theorem k_1552_5 : xm_gi xm_c1552 5 = some xm_e1552_5 := xm_gt d_1552_5
theorem d_1552_6 : List.drop 6 xm_c1552 = xm_c1552_6 := xm_dr d_1552_5
theorem k_1552_6 : xm_gi xm_c1552 6 = some xm_e1552_6 := xm_gt d_1552_6
theorem xb_1552_0 {sc : List Int} {f : Nat → List xm_V → xm_W → xm_R} {w : xm_W} {Q : Option xm_V × xm_W → Prop} {x0 : Nat}
  (h : if (1 : Int) = 0 then (Q (some (.inl 1), w)) else (xm_O (xm_fi (xm_old sc) w x0 98 1) (fun z1 => Q (some (.inl z1), w)))) :
  xm_EQ (xm_old sc) xm_sta f xm_c1552 0 [some (.inr (.inl (some x0)))] [] w Q :=
  (xq_gets k_1552_0 rfl (xq_if_eq k_1552_1 h (fun h => (xq_iconst k_1552_5 (xq_ireturn k_1552_6 h))) (fun h => (xq_aload_n k_1552_2 rfl (xq_geti0 k_1552_3 rfl h (fun z1 h => (xq_goto k_1552_4 (xq_ireturn k_1552_6 h))))))))
/-- java/lang/String.isLatin1()Z -/
theorem d_1554_0 : List.drop 0 xm_c1554 = xm_c1554 := rfl
theorem k_1554_0 : xm_gi xm_c1554 0 = some xm_e1554_0 := xm_gt d_1554_0
theorem d_1554_1 : List.drop 1 xm_c1554 = xm_c1554_1 := xm_dr d_1554_0
theorem k_1554_1 : xm_gi xm_c1554 1 = some xm_e1554_1 := xm_gt d_1554_1
theorem d_1554_2 : List.drop 2 xm_c1554 = xm_c1554_2 := xm_dr d_1554_1
theorem k_1554_2 : xm_gi xm_c1554 2 = some xm_e1554_2 := xm_gt d_1554_2
theorem d_1554_3 : List.drop 3 xm_c1554 = xm_c1554_3 := xm_dr d_1554_2
theorem k_1554_3 : xm_gi xm_c1554 3 = some xm_e1554_3 := xm_gt d_1554_3
theorem d_1554_4 : List.drop 4 xm_c1554 = xm_c1554_4 := xm_dr d_1554_3
theorem k_1554_4 : xm_gi xm_c1554 4 = some xm_e1554_4 := xm_gt d_1554_4
theorem d_1554_5 : List.drop 5 xm_c1554 = xm_c1554_5 := xm_dr d_1554_4
theorem k_1554_5 : xm_gi xm_c1554 5 = some xm_e1554_5 := xm_gt d_1554_5
theorem d_1554_6 : List.drop 6 xm_c1554 = xm_c1554_6 := xm_dr d_1554_5
theorem k_1554_6 : xm_gi xm_c1554 6 = some xm_e1554_6 := xm_gt d_1554_6
theorem d_1554_7 : List.drop 7 xm_c1554 = xm_c1554_7 := xm_dr d_1554_6
theorem k_1554_7 : xm_gi xm_c1554 7 = some xm_e1554_7 := xm_gt d_1554_7
theorem d_1554_8 : List.drop 8 xm_c1554 = xm_c1554_8 := xm_dr d_1554_7
theorem k_1554_8 : xm_gi xm_c1554 8 = some xm_e1554_8 := xm_gt d_1554_8
theorem xb_1554_0 {sc : List Int} {f : Nat → List xm_V → xm_W → xm_R} {w : xm_W} {Q : Option xm_V × xm_W → Prop} {x0 : Nat}
  (h : if (1 : Int) = 0 then (Q (some (.inl 0), w)) else (xm_O (xm_fi (xm_old sc) w x0 98 1) (fun z1 => if (z1 : Int) = 0 then (Q (some (.inl 1), w)) else (Q (some (.inl 0), w))))) :
  xm_EQ (xm_old sc) xm_sta f xm_c1554 0 [some (.inr (.inl (some x0)))] [] w Q :=
  (xq_gets k_1554_0 rfl (xq_if_eq k_1554_1 h (fun h => (xq_iconst k_1554_7 (xq_ireturn k_1554_8 h))) (fun h => (xq_aload_n k_1554_2 rfl (xq_geti0 k_1554_3 rfl h (fun z1 h => (xq_if_ne k_1554_4 h (fun h => (xq_iconst k_1554_5 (xq_goto k_1554_6 (xq_ireturn k_1554_8 h)))) (fun h => (xq_iconst k_1554_7 (xq_ireturn k_1554_8 h))))))))))
