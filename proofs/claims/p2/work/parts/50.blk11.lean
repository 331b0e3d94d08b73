/-- ShodBackwardsModel.<init>()V -/
theorem d_1101_0 : List.drop 0 xm_c1101 = xm_c1101 := rfl
theorem k_1101_0 : xm_gi xm_c1101 0 = some xm_e1101_0 := xm_gt d_1101_0
theorem d_1101_1 : List.drop 1 xm_c1101 = xm_c1101_1 := xm_dr d_1101_0
theorem k_1101_1 : xm_gi xm_c1101 1 = some xm_e1101_1 := xm_gt d_1101_1
theorem d_1101_2 : List.drop 2 xm_c1101 = xm_c1101_2 := xm_dr d_1101_1
theorem k_1101_2 : xm_gi xm_c1101 2 = some xm_e1101_2 := xm_gt d_1101_2
theorem d_1101_3 : List.drop 3 xm_c1101 = xm_c1101_3 := xm_dr d_1101_2
theorem k_1101_3 : xm_gi xm_c1101 3 = some xm_e1101_3 := xm_gt d_1101_3
theorem d_1101_4 : List.drop 4 xm_c1101 = xm_c1101_4 := xm_dr d_1101_3
theorem k_1101_4 : xm_gi xm_c1101 4 = some xm_e1101_4 := xm_gt d_1101_4
theorem d_1101_5 : List.drop 5 xm_c1101 = xm_c1101_5 := xm_dr d_1101_4
theorem k_1101_5 : xm_gi xm_c1101 5 = some xm_e1101_5 := xm_gt d_1101_5
theorem d_1101_6 : List.drop 6 xm_c1101 = xm_c1101_6 := xm_dr d_1101_5
theorem k_1101_6 : xm_gi xm_c1101 6 = some xm_e1101_6 := xm_gt d_1101_6
theorem d_1101_7 : List.drop 7 xm_c1101 = xm_c1101_7 := xm_dr d_1101_6
theorem k_1101_7 : xm_gi xm_c1101 7 = some xm_e1101_7 := xm_gt d_1101_7
theorem d_1101_8 : List.drop 8 xm_c1101 = xm_c1101_8 := xm_dr d_1101_7
theorem k_1101_8 : xm_gi xm_c1101 8 = some xm_e1101_8 := xm_gt d_1101_8
theorem d_1101_9 : List.drop 9 xm_c1101 = xm_c1101_9 := xm_dr d_1101_8
theorem k_1101_9 : xm_gi xm_c1101 9 = some xm_e1101_9 := xm_gt d_1101_9
theorem d_1101_10 : List.drop 10 xm_c1101 = xm_c1101_10 := xm_dr d_1101_9
theorem k_1101_10 : xm_gi xm_c1101 10 = some xm_e1101_10 := xm_gt d_1101_10
theorem d_1101_11 : List.drop 11 xm_c1101 = xm_c1101_11 := xm_dr d_1101_10
theorem k_1101_11 : xm_gi xm_c1101 11 = some xm_e1101_11 := xm_gt d_1101_11
theorem d_1101_12 : List.drop 12 xm_c1101 = xm_c1101_12 := xm_dr d_1101_11
theorem k_1101_12 : xm_gi xm_c1101 12 = some xm_e1101_12 := xm_gt d_1101_12
theorem d_1101_13 : List.drop 13 xm_c1101 = xm_c1101_13 := xm_dr d_1101_12
theorem k_1101_13 : xm_gi xm_c1101 13 = some xm_e1101_13 := xm_gt d_1101_13
theorem d_1101_14 : List.drop 14 xm_c1101 = xm_c1101_14 := xm_dr d_1101_13
theorem k_1101_14 : xm_gi xm_c1101 14 = some xm_e1101_14 := xm_gt d_1101_14
theorem d_1101_15 : List.drop 15 xm_c1101 = xm_c1101_15 := xm_dr d_1101_14
theorem k_1101_15 : xm_gi xm_c1101 15 = some xm_e1101_15 := xm_gt d_1101_15
theorem d_1101_16 : List.drop 16 xm_c1101 = xm_c1101_16 := xm_dr d_1101_15
theorem k_1101_16 : xm_gi xm_c1101 16 = some xm_e1101_16 := xm_gt d_1101_16
theorem d_1101_17 : List.drop 17 xm_c1101 = xm_c1101_17 := xm_dr d_1101_16
theorem k_1101_17 : xm_gi xm_c1101 17 = some xm_e1101_17 := xm_gt d_1101_17
theorem d_1101_18 : List.drop 18 xm_c1101 = xm_c1101_18 := xm_dr d_1101_17
theorem k_1101_18 : xm_gi xm_c1101 18 = some xm_e1101_18 := xm_gt d_1101_18
theorem d_1101_19 : List.drop 19 xm_c1101 = xm_c1101_19 := xm_dr d_1101_18
theorem k_1101_19 : xm_gi xm_c1101 19 = some xm_e1101_19 := xm_gt d_1101_19
theorem d_1101_20 : List.drop 20 xm_c1101 = xm_c1101_20 := xm_dr d_1101_19
theorem k_1101_20 : xm_gi xm_c1101 20 = some xm_e1101_20 := xm_gt d_1101_20
theorem d_1101_21 : List.drop 21 xm_c1101 = xm_c1101_21 := xm_dr d_1101_20
theorem k_1101_21 : xm_gi xm_c1101 21 = some xm_e1101_21 := xm_gt d_1101_21
theorem d_1101_22 : List.drop 22 xm_c1101 = xm_c1101_22 := xm_dr d_1101_21
theorem k_1101_22 : xm_gi xm_c1101 22 = some xm_e1101_22 := xm_gt d_1101_22
theorem d_1101_23 : List.drop 23 xm_c1101 = xm_c1101_23 := xm_dr d_1101_22
theorem k_1101_23 : xm_gi xm_c1101 23 = some xm_e1101_23 := xm_gt d_1101_23
theorem d_1101_24 : List.drop 24 xm_c1101 = xm_c1101_24 := xm_dr d_1101_23
theorem k_1101_24 : xm_gi xm_c1101 24 = some xm_e1101_24 := xm_gt d_1101_24
theorem d_1101_25 : List.drop 25 xm_c1101 = xm_c1101_25 := xm_dr d_1101_24
theorem k_1101_25 : xm_gi xm_c1101 25 = some xm_e1101_25 := xm_gt d_1101_25
theorem d_1101_26 : List.drop 26 xm_c1101 = xm_c1101_26 := xm_dr d_1101_25
theorem k_1101_26 : xm_gi xm_c1101 26 = some xm_e1101_26 := xm_gt d_1101_26
theorem d_1101_27 : List.drop 27 xm_c1101 = xm_c1101_27 := xm_dr d_1101_26
theorem k_1101_27 : xm_gi xm_c1101 27 = some xm_e1101_27 := xm_gt d_1101_27
theorem d_1101_28 : List.drop 28 xm_c1101 = xm_c1101_28 := xm_dr d_1101_27
theorem k_1101_28 : xm_gi xm_c1101 28 = some xm_e1101_28 := xm_gt d_1101_28
theorem d_1101_29 : List.drop 29 xm_c1101 = xm_c1101_29 := xm_dr d_1101_28
theorem k_1101_29 : xm_gi xm_c1101 29 = some xm_e1101_29 := xm_gt d_1101_29
theorem d_1101_30 : List.drop 30 xm_c1101 = xm_c1101_30 := xm_dr d_1101_29
theorem k_1101_30 : xm_gi xm_c1101 30 = some xm_e1101_30 := xm_gt d_1101_30
theorem d_1101_31 : List.drop 31 xm_c1101 = xm_c1101_31 := xm_dr d_1101_30
theorem k_1101_31 : xm_gi xm_c1101 31 = some xm_e1101_31 := xm_gt d_1101_31
theorem d_1101_32 : List.drop 32 xm_c1101 = xm_c1101_32 := xm_dr d_1101_31
theorem k_1101_32 : xm_gi xm_c1101 32 = some xm_e1101_32 := xm_gt d_1101_32
theorem d_1101_33 : List.drop 33 xm_c1101 = xm_c1101_33 := xm_dr d_1101_32
theorem k_1101_33 : xm_gi xm_c1101 33 = some xm_e1101_33 := xm_gt d_1101_33
theorem d_1101_34 : List.drop 34 xm_c1101 = xm_c1101_34 := xm_dr d_1101_33
theorem k_1101_34 : xm_gi xm_c1101 34 = some xm_e1101_34 := xm_gt d_1101_34
theorem d_1101_35 : List.drop 35 xm_c1101 = xm_c1101_35 := xm_dr d_1101_34
theorem k_1101_35 : xm_gi xm_c1101 35 = some xm_e1101_35 := xm_gt d_1101_35
theorem d_1101_36 : List.drop 36 xm_c1101 = xm_c1101_36 := xm_dr d_1101_35
theorem k_1101_36 : xm_gi xm_c1101 36 = some xm_e1101_36 := xm_gt d_1101_36
theorem d_1101_37 : List.drop 37 xm_c1101 = xm_c1101_37 := xm_dr d_1101_36
theorem k_1101_37 : xm_gi xm_c1101 37 = some xm_e1101_37 := xm_gt d_1101_37
theorem d_1101_38 : List.drop 38 xm_c1101 = xm_c1101_38 := xm_dr d_1101_37
theorem k_1101_38 : xm_gi xm_c1101 38 = some xm_e1101_38 := xm_gt d_1101_38
theorem d_1101_39 : List.drop 39 xm_c1101 = xm_c1101_39 := xm_dr d_1101_38
theorem k_1101_39 : xm_gi xm_c1101 39 = some xm_e1101_39 := xm_gt d_1101_39
theorem d_1101_40 : List.drop 40 xm_c1101 = xm_c1101_40 := xm_dr d_1101_39
theorem k_1101_40 : xm_gi xm_c1101 40 = some xm_e1101_40 := xm_gt d_1101_40
theorem d_1101_41 : List.drop 41 xm_c1101 = xm_c1101_41 := xm_dr d_1101_40
theorem k_1101_41 : xm_gi xm_c1101 41 = some xm_e1101_41 := xm_gt d_1101_41
theorem d_1101_42 : List.drop 42 xm_c1101 = xm_c1101_42 := xm_dr d_1101_41
theorem k_1101_42 : xm_gi xm_c1101 42 = some xm_e1101_42 := xm_gt d_1101_42
theorem d_1101_43 : List.drop 43 xm_c1101 = xm_c1101_43 := xm_dr d_1101_42
theorem k_1101_43 : xm_gi xm_c1101 43 = some xm_e1101_43 := xm_gt d_1101_43
theorem d_1101_44 : List.drop 44 xm_c1101 = xm_c1101_44 := xm_dr d_1101_43
theorem k_1101_44 : xm_gi xm_c1101 44 = some xm_e1101_44 := xm_gt d_1101_44
theorem d_1101_45 : List.drop 45 xm_c1101 = xm_c1101_45 := xm_dr d_1101_44
theorem k_1101_45 : xm_gi xm_c1101 45 = some xm_e1101_45 := xm_gt d_1101_45
theorem d_1101_46 : List.drop 46 xm_c1101 = xm_c1101_46 := xm_dr d_1101_45
theorem k_1101_46 : xm_gi xm_c1101 46 = some xm_e1101_46 := xm_gt d_1101_46
theorem d_1101_47 : List.drop 47 xm_c1101 = xm_c1101_47 := xm_dr d_1101_46
theorem k_1101_47 : xm_gi xm_c1101 47 = some xm_e1101_47 := xm_gt d_1101_47
theorem d_1101_48 : List.drop 48 xm_c1101 = xm_c1101_48 := xm_dr d_1101_47
theorem k_1101_48 : xm_gi xm_c1101 48 = some xm_e1101_48 := xm_gt d_1101_48
theorem d_1101_49 : List.drop 49 xm_c1101 = xm_c1101_49 := xm_dr d_1101_48
theorem k_1101_49 : xm_gi xm_c1101 49 = some xm_e1101_49 := xm_gt d_1101_49
theorem d_1101_50 : List.drop 50 xm_c1101 = xm_c1101_50 := xm_dr d_1101_49
theorem k_1101_50 : xm_gi xm_c1101 50 = some xm_e1101_50 := xm_gt d_1101_50
theorem d_1101_51 : List.drop 51 xm_c1101 = xm_c1101_51 := xm_dr d_1101_50
theorem k_1101_51 : xm_gi xm_c1101 51 = some xm_e1101_51 := xm_gt d_1101_51
theorem d_1101_52 : List.drop 52 xm_c1101 = xm_c1101_52 := xm_dr d_1101_51
theorem k_1101_52 : xm_gi xm_c1101 52 = some xm_e1101_52 := xm_gt d_1101_52
theorem d_1101_53 : List.drop 53 xm_c1101 = xm_c1101_53 := xm_dr d_1101_52
theorem k_1101_53 : xm_gi xm_c1101 53 = some xm_e1101_53 := xm_gt d_1101_53
theorem d_1101_54 : List.drop 54 xm_c1101 = xm_c1101_54 := xm_dr d_1101_53
theorem k_1101_54 : xm_gi xm_c1101 54 = some xm_e1101_54 := xm_gt d_1101_54
theorem d_1101_55 : List.drop 55 xm_c1101 = xm_c1101_55 := xm_dr d_1101_54
theorem k_1101_55 : xm_gi xm_c1101 55 = some xm_e1101_55 := xm_gt d_1101_55
theorem d_1101_56 : List.drop 56 xm_c1101 = xm_c1101_56 := xm_dr d_1101_55
theorem k_1101_56 : xm_gi xm_c1101 56 = some xm_e1101_56 := xm_gt d_1101_56
theorem d_1101_57 : List.drop 57 xm_c1101 = xm_c1101_57 := xm_dr d_1101_56
theorem k_1101_57 : xm_gi xm_c1101 57 = some xm_e1101_57 := xm_gt d_1101_57
theorem d_1101_58 : List.drop 58 xm_c1101 = xm_c1101_58 := xm_dr d_1101_57
theorem k_1101_58 : xm_gi xm_c1101 58 = some xm_e1101_58 := xm_gt d_1101_58
theorem xb_1101_0 {sc : List Int} {f : Nat → List xm_V → xm_W → xm_R} {w : xm_W} {Q : Option xm_V × xm_W → Prop} {x0 : Nat}
  (h : (0 ≤ (673 : Int) ∧ (673 : Int) ≤ 1000) ∧ (xm_O (xm_setf (w ++ [.inl (List.replicate (Int.toNat 673) 0)]) x0 9 0 2 (.inr (.inl (some w.length)))) (fun w1 => (0 ≤ (673 : Int) ∧ (673 : Int) ≤ 1000) ∧ (xm_O (xm_setf (w1 ++ [.inl (List.replicate (Int.toNat 673) 0)]) x0 9 1 2 (.inr (.inl (some w1.length)))) (fun w2 => (0 ≤ (339 : Int) ∧ (339 : Int) ≤ 1000) ∧ (xm_O (xm_setf (w2 ++ [.inl (List.replicate (Int.toNat 339) 0)]) x0 9 2 2 (.inr (.inl (some w2.length)))) (fun w3 => xm_O (xm_setf w3 x0 9 3 0 (.inl (-1))) (fun w4 => (0 ≤ (7 : Int) ∧ (7 : Int) ≤ 1000) ∧ (xm_O (xm_setf (w4 ++ [.inl (List.replicate (Int.toNat 7) 0)]) x0 9 5 2 (.inr (.inl (some w4.length)))) (fun w5 => (0 ≤ (124 : Int) ∧ (124 : Int) ≤ 1000) ∧ (xm_O (xm_setf (w5 ++ [.inl (List.replicate (Int.toNat 124) 0)]) x0 9 10 2 (.inr (.inl (some w5.length)))) (fun w6 => (0 ≤ (128 : Int) ∧ (128 : Int) ≤ 1000) ∧ (xm_O (xm_setf (w6 ++ [.inl (List.replicate (Int.toNat 128) 0)]) x0 9 11 2 (.inr (.inl (some w6.length)))) (fun w7 => (0 ≤ (64 : Int) ∧ (64 : Int) ≤ 1000) ∧ (xm_O (xm_setf (w7 ++ [.inl (List.replicate (Int.toNat 64) 0)]) x0 9 12 2 (.inr (.inl (some w7.length)))) (fun w8 => (0 ≤ (30 : Int) ∧ (30 : Int) ≤ 1000) ∧ (xm_O (xm_setf (w8 ++ [.inl (List.replicate (Int.toNat 30) 0)]) x0 9 14 2 (.inr (.inl (some w8.length)))) (fun w9 => (0 ≤ (4 : Int) ∧ (4 : Int) ≤ 1000) ∧ (xm_O (xm_setf (w9 ++ [.inl (List.replicate (Int.toNat 4) 0)]) x0 9 18 2 (.inr (.inl (some w9.length)))) (fun w10 => (0 ≤ (4 : Int) ∧ (4 : Int) ≤ 1000) ∧ (xm_O (xm_setf (w10 ++ [.inl (List.replicate (Int.toNat 4) 0)]) x0 9 19 2 (.inr (.inl (some w10.length)))) (fun w11 => (0 ≤ (96 : Int) ∧ (96 : Int) ≤ 1000) ∧ (xm_O (xm_setf (w11 ++ [.inl (List.replicate (Int.toNat 96) 0)]) x0 9 20 2 (.inr (.inl (some w11.length)))) (fun w12 => (0 ≤ (24 : Int) ∧ (24 : Int) ≤ 1000) ∧ (xm_O (xm_setf (w12 ++ [.inl (List.replicate (Int.toNat 24) 0)]) x0 9 21 2 (.inr (.inl (some w12.length)))) (fun w13 => xm_O (xm_fr (xm_old sc) w13 x0 9 0) (fun r14 => xm_O (xm_seti w13 r14 6 1) (fun w15 => Q (none, w15))))))))))))))))))))))))))))) :
  xm_EQ (xm_old sc) xm_sta f xm_c1101 0 [some (.inr (.inl (some x0)))] [] w Q :=
  (xq_aload_n k_1101_0 rfl (xq_obj k_1101_1 rfl (xq_aload_n k_1101_2 rfl (xq_sipush k_1101_3 (xq_newarray k_1101_4 h (fun h => (xq_put k_1101_5 rfl h (fun w1 h => (xq_aload_n k_1101_6 rfl (xq_sipush k_1101_7 (xq_newarray k_1101_8 h (fun h => (xq_put k_1101_9 rfl h (fun w2 h => (xq_aload_n k_1101_10 rfl (xq_sipush k_1101_11 (xq_newarray k_1101_12 h (fun h => (xq_put k_1101_13 rfl h (fun w3 h => (xq_aload_n k_1101_14 rfl (xq_iconst k_1101_15 (xq_put k_1101_16 rfl h (fun w4 h => (xq_aload_n k_1101_17 rfl (xq_bipush k_1101_18 (xq_newarray k_1101_19 h (fun h => (xq_put k_1101_20 rfl h (fun w5 h => (xq_aload_n k_1101_21 rfl (xq_bipush k_1101_22 (xq_newarray k_1101_23 h (fun h => (xq_put k_1101_24 rfl h (fun w6 h => (xq_aload_n k_1101_25 rfl (xq_sipush k_1101_26 (xq_newarray k_1101_27 h (fun h => (xq_put k_1101_28 rfl h (fun w7 h => (xq_aload_n k_1101_29 rfl (xq_bipush k_1101_30 (xq_newarray k_1101_31 h (fun h => (xq_put k_1101_32 rfl h (fun w8 h => (xq_aload_n k_1101_33 rfl (xq_bipush k_1101_34 (xq_newarray k_1101_35 h (fun h => (xq_put k_1101_36 rfl h (fun w9 h => (xq_aload_n k_1101_37 rfl (xq_iconst k_1101_38 (xq_newarray k_1101_39 h (fun h => (xq_put k_1101_40 rfl h (fun w10 h => (xq_aload_n k_1101_41 rfl (xq_iconst k_1101_42 (xq_newarray k_1101_43 h (fun h => (xq_put k_1101_44 rfl h (fun w11 h => (xq_aload_n k_1101_45 rfl (xq_bipush k_1101_46 (xq_newarray k_1101_47 h (fun h => (xq_put k_1101_48 rfl h (fun w12 h => (xq_aload_n k_1101_49 rfl (xq_bipush k_1101_50 (xq_newarray k_1101_51 h (fun h => (xq_put k_1101_52 rfl h (fun w13 h => (xq_aload_n k_1101_53 rfl (xq_getr k_1101_54 rfl h (fun r14 h => (xq_bipush k_1101_55 (xq_iconst k_1101_56 (xq_iastore k_1101_57 h (fun w15 h => (xq_return k_1101_58 h))))))))))))))))))))))))))))))))))))))))))))))))))))))))))))))))))))))))))))))))))))))
/-- ShodBackwardsModel.error(I)I -/
theorem d_1102_0 : List.drop 0 xm_c1102 = xm_c1102 := rfl
theorem k_1102_0 : xm_gi xm_c1102 0 = some xm_e1102_0 := xm_gt d_1102_0
theorem d_1102_1 : List.drop 1 xm_c1102 = xm_c1102_1 := xm_dr d_1102_0
theorem k_1102_1 : xm_gi xm_c1102 1 = some xm_e1102_1 := xm_gt d_1102_1
theorem d_1102_2 : List.drop 2 xm_c1102 = xm_c1102_2 := xm_dr d_1102_1
theorem k_1102_2 : xm_gi xm_c1102 2 = some xm_e1102_2 := xm_gt d_1102_2
theorem d_1102_3 : List.drop 3 xm_c1102 = xm_c1102_3 := xm_dr d_1102_2
theorem k_1102_3 : xm_gi xm_c1102 3 = some xm_e1102_3 := xm_gt d_1102_3
theorem d_1102_4 : List.drop 4 xm_c1102 = xm_c1102_4 := xm_dr d_1102_3
theorem k_1102_4 : xm_gi xm_c1102 4 = some xm_e1102_4 := xm_gt d_1102_4
theorem d_1102_5 : List.drop 5 xm_c1102 = xm_c1102_5 := xm_dr d_1102_4
theorem k_1102_5 : xm_gi xm_c1102 5 = some xm_e1102_5 := xm_gt d_1102_5
theorem d_1102_6 : List.drop 6 xm_c1102 = xm_c1102_6 := xm_dr d_1102_5
theorem k_1102_6 : xm_gi xm_c1102 6 = some xm_e1102_6 := xm_gt d_1102_6
theorem d_1102_7 : List.drop 7 xm_c1102 = xm_c1102_7 := xm_dr d_1102_6
theorem k_1102_7 : xm_gi xm_c1102 7 = some xm_e1102_7 := xm_gt d_1102_7
theorem d_1102_8 : List.drop 8 xm_c1102 = xm_c1102_8 := xm_dr d_1102_7
theorem k_1102_8 : xm_gi xm_c1102 8 = some xm_e1102_8 := xm_gt d_1102_8
theorem d_1102_9 : List.drop 9 xm_c1102 = xm_c1102_9 := xm_dr d_1102_8
theorem k_1102_9 : xm_gi xm_c1102 9 = some xm_e1102_9 := xm_gt d_1102_9
theorem d_1102_10 : List.drop 10 xm_c1102 = xm_c1102_10 := xm_dr d_1102_9
theorem k_1102_10 : xm_gi xm_c1102 10 = some xm_e1102_10 := xm_gt d_1102_10
theorem d_1102_11 : List.drop 11 xm_c1102 = xm_c1102_11 := xm_dr d_1102_10
theorem k_1102_11 : xm_gi xm_c1102 11 = some xm_e1102_11 := xm_gt d_1102_11
theorem xb_1102_0 {sc : List Int} {f : Nat → List xm_V → xm_W → xm_R} {w : xm_W} {Q : Option xm_V × xm_W → Prop} {x0 : Nat} {x1 : Int}
  (h : xm_O (xm_fr (xm_old sc) w x0 9 5) (fun r1 => xm_O (xm_ints (xm_old sc) w r1) (fun l2 => xm_O (xm_at l2 x1) (fun z3 => xm_O (xm_seti w r1 x1 (xm_w (z3 + 1))) (fun w4 => Q (some (.inl (xm_w ((-1000000000) - x1))), w4)))))) :
  xm_EQ (xm_old sc) xm_sta f xm_c1102 0 [some (.inr (.inl (some x0))), some (.inl x1)] [] w Q :=
  (xq_aload_n k_1102_0 rfl (xq_getr k_1102_1 rfl h (fun r1 h => (xq_iload_n k_1102_2 rfl (xq_dup2 k_1102_3 (xq_iaload k_1102_4 h (fun l2 h => h) (fun l2 z3 h => (xq_iconst k_1102_5 (xq_iadd k_1102_6 (xq_iastore k_1102_7 h (fun w4 h => (xq_ldc k_1102_8 (xq_iload_n k_1102_9 rfl (xq_isub k_1102_10 (xq_ireturn k_1102_11 h)))))))))))))))
/-- ShodBackwardsModel.in(III)Z -/
theorem d_1103_0 : List.drop 0 xm_c1103 = xm_c1103 := rfl
theorem k_1103_0 : xm_gi xm_c1103 0 = some xm_e1103_0 := xm_gt d_1103_0
theorem d_1103_1 : List.drop 1 xm_c1103 = xm_c1103_1 := xm_dr d_1103_0
theorem k_1103_1 : xm_gi xm_c1103 1 = some xm_e1103_1 := xm_gt d_1103_1
theorem d_1103_2 : List.drop 2 xm_c1103 = xm_c1103_2 := xm_dr d_1103_1
theorem k_1103_2 : xm_gi xm_c1103 2 = some xm_e1103_2 := xm_gt d_1103_2
theorem d_1103_3 : List.drop 3 xm_c1103 = xm_c1103_3 := xm_dr d_1103_2
theorem k_1103_3 : xm_gi xm_c1103 3 = some xm_e1103_3 := xm_gt d_1103_3
theorem d_1103_4 : List.drop 4 xm_c1103 = xm_c1103_4 := xm_dr d_1103_3
theorem k_1103_4 : xm_gi xm_c1103 4 = some xm_e1103_4 := xm_gt d_1103_4
theorem d_1103_5 : List.drop 5 xm_c1103 = xm_c1103_5 := xm_dr d_1103_4
theorem k_1103_5 : xm_gi xm_c1103 5 = some xm_e1103_5 := xm_gt d_1103_5
theorem d_1103_6 : List.drop 6 xm_c1103 = xm_c1103_6 := xm_dr d_1103_5
theorem k_1103_6 : xm_gi xm_c1103 6 = some xm_e1103_6 := xm_gt d_1103_6
theorem d_1103_7 : List.drop 7 xm_c1103 = xm_c1103_7 := xm_dr d_1103_6
theorem k_1103_7 : xm_gi xm_c1103 7 = some xm_e1103_7 := xm_gt d_1103_7
theorem d_1103_8 : List.drop 8 xm_c1103 = xm_c1103_8 := xm_dr d_1103_7
theorem k_1103_8 : xm_gi xm_c1103 8 = some xm_e1103_8 := xm_gt d_1103_8
theorem d_1103_9 : List.drop 9 xm_c1103 = xm_c1103_9 := xm_dr d_1103_8
theorem k_1103_9 : xm_gi xm_c1103 9 = some xm_e1103_9 := xm_gt d_1103_9
theorem xb_1103_0 {sc : List Int} {f : Nat → List xm_V → xm_W → xm_R} {w : xm_W} {Q : Option xm_V × xm_W → Prop} {x0 : Int} {x1 : Int} {x2 : Int}
  (h : if (x0 : Int) < x1 then (Q (some (.inl 0), w)) else (if (x2 : Int) < x0 then (Q (some (.inl 0), w)) else (Q (some (.inl 1), w)))) :
  xm_EQ (xm_old sc) xm_sta f xm_c1103 0 [some (.inl x0), some (.inl x1), some (.inl x2)] [] w Q :=
  (xq_iload_n k_1103_0 rfl (xq_iload_n k_1103_1 rfl (xq_ic_lt k_1103_2 h (fun h => (xq_iconst k_1103_8 (xq_ireturn k_1103_9 h))) (fun h => (xq_iload_n k_1103_3 rfl (xq_iload_n k_1103_4 rfl (xq_ic_gt k_1103_5 h (fun h => (xq_iconst k_1103_8 (xq_ireturn k_1103_9 h))) (fun h => (xq_iconst k_1103_6 (xq_goto k_1103_7 (xq_ireturn k_1103_9 h)))))))))))
/-- ShodBackwardsModel.held(III)I -/
theorem d_1104_0 : List.drop 0 xm_c1104 = xm_c1104 := rfl
theorem k_1104_0 : xm_gi xm_c1104 0 = some xm_e1104_0 := xm_gt d_1104_0
theorem d_1104_1 : List.drop 1 xm_c1104 = xm_c1104_1 := xm_dr d_1104_0
theorem k_1104_1 : xm_gi xm_c1104 1 = some xm_e1104_1 := xm_gt d_1104_1
theorem d_1104_2 : List.drop 2 xm_c1104 = xm_c1104_2 := xm_dr d_1104_1
theorem k_1104_2 : xm_gi xm_c1104 2 = some xm_e1104_2 := xm_gt d_1104_2
theorem d_1104_3 : List.drop 3 xm_c1104 = xm_c1104_3 := xm_dr d_1104_2
theorem k_1104_3 : xm_gi xm_c1104 3 = some xm_e1104_3 := xm_gt d_1104_3
theorem d_1104_4 : List.drop 4 xm_c1104 = xm_c1104_4 := xm_dr d_1104_3
theorem k_1104_4 : xm_gi xm_c1104 4 = some xm_e1104_4 := xm_gt d_1104_4
theorem d_1104_5 : List.drop 5 xm_c1104 = xm_c1104_5 := xm_dr d_1104_4
theorem k_1104_5 : xm_gi xm_c1104 5 = some xm_e1104_5 := xm_gt d_1104_5
theorem d_1104_6 : List.drop 6 xm_c1104 = xm_c1104_6 := xm_dr d_1104_5
theorem k_1104_6 : xm_gi xm_c1104 6 = some xm_e1104_6 := xm_gt d_1104_6
theorem d_1104_7 : List.drop 7 xm_c1104 = xm_c1104_7 := xm_dr d_1104_6
theorem k_1104_7 : xm_gi xm_c1104 7 = some xm_e1104_7 := xm_gt d_1104_7
theorem d_1104_8 : List.drop 8 xm_c1104 = xm_c1104_8 := xm_dr d_1104_7
theorem k_1104_8 : xm_gi xm_c1104 8 = some xm_e1104_8 := xm_gt d_1104_8
theorem d_1104_9 : List.drop 9 xm_c1104 = xm_c1104_9 := xm_dr d_1104_8
theorem k_1104_9 : xm_gi xm_c1104 9 = some xm_e1104_9 := xm_gt d_1104_9
theorem d_1104_10 : List.drop 10 xm_c1104 = xm_c1104_10 := xm_dr d_1104_9
theorem k_1104_10 : xm_gi xm_c1104 10 = some xm_e1104_10 := xm_gt d_1104_10
theorem d_1104_11 : List.drop 11 xm_c1104 = xm_c1104_11 := xm_dr d_1104_10
theorem k_1104_11 : xm_gi xm_c1104 11 = some xm_e1104_11 := xm_gt d_1104_11
theorem xb_1104_0 {sc : List Int} {f : Nat → List xm_V → xm_W → xm_R} {w : xm_W} {Q : Option xm_V × xm_W → Prop} {x0 : Int} {x1 : Int} {x2 : Int}
  (h : if (x0 : Int) < x1 then (Q (some (.inl x1), w)) else (if (x2 : Int) < x0 then (Q (some (.inl x2), w)) else (Q (some (.inl x0), w)))) :
  xm_EQ (xm_old sc) xm_sta f xm_c1104 0 [some (.inl x0), some (.inl x1), some (.inl x2)] [] w Q :=
  (xq_iload_n k_1104_0 rfl (xq_iload_n k_1104_1 rfl (xq_ic_ge k_1104_2 h (fun h => (xq_iload_n k_1104_3 rfl (xq_goto k_1104_4 (xq_ireturn k_1104_11 h)))) (fun h => (xq_iload_n k_1104_5 rfl (xq_iload_n k_1104_6 rfl (xq_ic_le k_1104_7 h (fun h => (xq_iload_n k_1104_8 rfl (xq_goto k_1104_9 (xq_ireturn k_1104_11 h)))) (fun h => (xq_iload_n k_1104_10 rfl (xq_ireturn k_1104_11 h))))))))))
/-- ShodBackwardsModel.carry([I[II)V -/
theorem d_1105_0 : List.drop 0 xm_c1105 = xm_c1105 := rfl
theorem k_1105_0 : xm_gi xm_c1105 0 = some xm_e1105_0 := xm_gt d_1105_0
theorem d_1105_1 : List.drop 1 xm_c1105 = xm_c1105_1 := xm_dr d_1105_0
theorem k_1105_1 : xm_gi xm_c1105 1 = some xm_e1105_1 := xm_gt d_1105_1
theorem d_1105_2 : List.drop 2 xm_c1105 = xm_c1105_2 := xm_dr d_1105_1
theorem k_1105_2 : xm_gi xm_c1105 2 = some xm_e1105_2 := xm_gt d_1105_2
theorem d_1105_3 : List.drop 3 xm_c1105 = xm_c1105_3 := xm_dr d_1105_2
theorem k_1105_3 : xm_gi xm_c1105 3 = some xm_e1105_3 := xm_gt d_1105_3
theorem d_1105_4 : List.drop 4 xm_c1105 = xm_c1105_4 := xm_dr d_1105_3
theorem k_1105_4 : xm_gi xm_c1105 4 = some xm_e1105_4 := xm_gt d_1105_4
theorem d_1105_5 : List.drop 5 xm_c1105 = xm_c1105_5 := xm_dr d_1105_4
theorem k_1105_5 : xm_gi xm_c1105 5 = some xm_e1105_5 := xm_gt d_1105_5
theorem d_1105_6 : List.drop 6 xm_c1105 = xm_c1105_6 := xm_dr d_1105_5
theorem k_1105_6 : xm_gi xm_c1105 6 = some xm_e1105_6 := xm_gt d_1105_6
theorem d_1105_7 : List.drop 7 xm_c1105 = xm_c1105_7 := xm_dr d_1105_6
theorem k_1105_7 : xm_gi xm_c1105 7 = some xm_e1105_7 := xm_gt d_1105_7
theorem d_1105_8 : List.drop 8 xm_c1105 = xm_c1105_8 := xm_dr d_1105_7
theorem k_1105_8 : xm_gi xm_c1105 8 = some xm_e1105_8 := xm_gt d_1105_8
theorem d_1105_9 : List.drop 9 xm_c1105 = xm_c1105_9 := xm_dr d_1105_8
theorem k_1105_9 : xm_gi xm_c1105 9 = some xm_e1105_9 := xm_gt d_1105_9
theorem d_1105_10 : List.drop 10 xm_c1105 = xm_c1105_10 := xm_dr d_1105_9
theorem k_1105_10 : xm_gi xm_c1105 10 = some xm_e1105_10 := xm_gt d_1105_10
theorem d_1105_11 : List.drop 11 xm_c1105 = xm_c1105_11 := xm_dr d_1105_10
theorem k_1105_11 : xm_gi xm_c1105 11 = some xm_e1105_11 := xm_gt d_1105_11
theorem d_1105_12 : List.drop 12 xm_c1105 = xm_c1105_12 := xm_dr d_1105_11
theorem k_1105_12 : xm_gi xm_c1105 12 = some xm_e1105_12 := xm_gt d_1105_12
theorem d_1105_13 : List.drop 13 xm_c1105 = xm_c1105_13 := xm_dr d_1105_12
theorem k_1105_13 : xm_gi xm_c1105 13 = some xm_e1105_13 := xm_gt d_1105_13
theorem xb_1105_0 {sc : List Int} {f : Nat → List xm_V → xm_W → xm_R} {w : xm_W} {Q : Option xm_V × xm_W → Prop} {x0 : Nat} {x1 : Nat} {x2 : Int}
  (h : xm_EQ (xm_old sc) xm_sta f xm_c1105 2 [some (.inr (.inl (some x0))), some (.inr (.inl (some x1))), some (.inl x2), some (.inl 0)] [] w Q) :
  xm_EQ (xm_old sc) xm_sta f xm_c1105 0 [some (.inr (.inl (some x0))), some (.inr (.inl (some x1))), some (.inl x2), none] [] w Q :=
  (xq_iconst k_1105_0 (xq_istore_n k_1105_1 rfl h))
theorem xb_1105_2 {sc : List Int} {f : Nat → List xm_V → xm_W → xm_R} {w : xm_W} {Q : Option xm_V × xm_W → Prop} {x0 : Nat} {x1 : Nat} {x2 : Int} {x3 : Int}
  (h : if (x3 : Int) < x2 then (xm_O (xm_ints (xm_old sc) w x0) (fun l1 => xm_O (xm_at l1 x3) (fun z2 => xm_O (xm_seti w x1 x3 z2) (fun w3 => xm_EQ (xm_old sc) xm_sta f xm_c1105 2 [some (.inr (.inl (some x0))), some (.inr (.inl (some x1))), some (.inl x2), some (.inl (xm_w (x3 + 1)))] [] w3 Q)))) else (Q (none, w))) :
  xm_EQ (xm_old sc) xm_sta f xm_c1105 2 [some (.inr (.inl (some x0))), some (.inr (.inl (some x1))), some (.inl x2), some (.inl x3)] [] w Q :=
  (xq_iload_n k_1105_2 rfl (xq_iload_n k_1105_3 rfl (xq_ic_ge k_1105_4 h (fun h => (xq_aload_n k_1105_5 rfl (xq_iload_n k_1105_6 rfl (xq_aload_n k_1105_7 rfl (xq_iload_n k_1105_8 rfl (xq_iaload k_1105_9 h (fun l1 h => h) (fun l1 z2 h => (xq_iastore k_1105_10 h (fun w3 h => (xq_iinc k_1105_11 rfl rfl (xq_goto k_1105_12 h))))))))))) (fun h => (xq_return k_1105_13 h)))))
/-- ShodBackwardsModel.layDown()V -/
theorem d_1106_0 : List.drop 0 xm_c1106 = xm_c1106 := rfl
theorem k_1106_0 : xm_gi xm_c1106 0 = some xm_e1106_0 := xm_gt d_1106_0
theorem d_1106_1 : List.drop 1 xm_c1106 = xm_c1106_1 := xm_dr d_1106_0
theorem k_1106_1 : xm_gi xm_c1106 1 = some xm_e1106_1 := xm_gt d_1106_1
theorem d_1106_2 : List.drop 2 xm_c1106 = xm_c1106_2 := xm_dr d_1106_1
theorem k_1106_2 : xm_gi xm_c1106 2 = some xm_e1106_2 := xm_gt d_1106_2
theorem d_1106_3 : List.drop 3 xm_c1106 = xm_c1106_3 := xm_dr d_1106_2
theorem k_1106_3 : xm_gi xm_c1106 3 = some xm_e1106_3 := xm_gt d_1106_3
theorem d_1106_4 : List.drop 4 xm_c1106 = xm_c1106_4 := xm_dr d_1106_3
theorem k_1106_4 : xm_gi xm_c1106 4 = some xm_e1106_4 := xm_gt d_1106_4
theorem d_1106_5 : List.drop 5 xm_c1106 = xm_c1106_5 := xm_dr d_1106_4
theorem k_1106_5 : xm_gi xm_c1106 5 = some xm_e1106_5 := xm_gt d_1106_5
theorem d_1106_6 : List.drop 6 xm_c1106 = xm_c1106_6 := xm_dr d_1106_5
theorem k_1106_6 : xm_gi xm_c1106 6 = some xm_e1106_6 := xm_gt d_1106_6
theorem xb_1106_0 {sc : List Int} {f : Nat → List xm_V → xm_W → xm_R} {w : xm_W} {Q : Option xm_V × xm_W → Prop} {x0 : Nat}
  (h : xm_O (xm_fr (xm_old sc) w x0 9 0) (fun r1 => xm_O (xm_fr (xm_old sc) w x0 9 2) (fun r2 => xm_Ov (f 1105 [.inr (.inl (some r1)), .inr (.inl (some r2)), .inl 339] w) (fun w3 => Q (none, w3))))) :
  xm_EQ (xm_old sc) xm_sta f xm_c1106 0 [some (.inr (.inl (some x0)))] [] w Q :=
  (xq_aload_n k_1106_0 rfl (xq_getr k_1106_1 rfl h (fun r1 h => (xq_aload_n k_1106_2 rfl (xq_getr k_1106_3 rfl h (fun r2 h => (xq_sipush k_1106_4 (xq_invs0 k_1106_5 xr_1105 rfl rfl rfl h (fun w3 h => (xq_return k_1106_6 h))))))))))
/-- ShodBackwardsModel.layBack()V -/
theorem d_1107_0 : List.drop 0 xm_c1107 = xm_c1107 := rfl
theorem k_1107_0 : xm_gi xm_c1107 0 = some xm_e1107_0 := xm_gt d_1107_0
theorem d_1107_1 : List.drop 1 xm_c1107 = xm_c1107_1 := xm_dr d_1107_0
theorem k_1107_1 : xm_gi xm_c1107 1 = some xm_e1107_1 := xm_gt d_1107_1
theorem d_1107_2 : List.drop 2 xm_c1107 = xm_c1107_2 := xm_dr d_1107_1
theorem k_1107_2 : xm_gi xm_c1107 2 = some xm_e1107_2 := xm_gt d_1107_2
theorem d_1107_3 : List.drop 3 xm_c1107 = xm_c1107_3 := xm_dr d_1107_2
theorem k_1107_3 : xm_gi xm_c1107 3 = some xm_e1107_3 := xm_gt d_1107_3
theorem d_1107_4 : List.drop 4 xm_c1107 = xm_c1107_4 := xm_dr d_1107_3
theorem k_1107_4 : xm_gi xm_c1107 4 = some xm_e1107_4 := xm_gt d_1107_4
theorem d_1107_5 : List.drop 5 xm_c1107 = xm_c1107_5 := xm_dr d_1107_4
theorem k_1107_5 : xm_gi xm_c1107 5 = some xm_e1107_5 := xm_gt d_1107_5
theorem d_1107_6 : List.drop 6 xm_c1107 = xm_c1107_6 := xm_dr d_1107_5
theorem k_1107_6 : xm_gi xm_c1107 6 = some xm_e1107_6 := xm_gt d_1107_6
theorem xb_1107_0 {sc : List Int} {f : Nat → List xm_V → xm_W → xm_R} {w : xm_W} {Q : Option xm_V × xm_W → Prop} {x0 : Nat}
  (h : xm_O (xm_fr (xm_old sc) w x0 9 2) (fun r1 => xm_O (xm_fr (xm_old sc) w x0 9 0) (fun r2 => xm_Ov (f 1105 [.inr (.inl (some r1)), .inr (.inl (some r2)), .inl 339] w) (fun w3 => Q (none, w3))))) :
  xm_EQ (xm_old sc) xm_sta f xm_c1107 0 [some (.inr (.inl (some x0)))] [] w Q :=
  (xq_aload_n k_1107_0 rfl (xq_getr k_1107_1 rfl h (fun r1 h => (xq_aload_n k_1107_2 rfl (xq_getr k_1107_3 rfl h (fun r2 h => (xq_sipush k_1107_4 (xq_invs0 k_1107_5 xr_1105 rfl rfl rfl h (fun w3 h => (xq_return k_1107_6 h))))))))))
/-- ShodBackwardsModel.isCell(I)Z -/
theorem d_1108_0 : List.drop 0 xm_c1108 = xm_c1108 := rfl
theorem k_1108_0 : xm_gi xm_c1108 0 = some xm_e1108_0 := xm_gt d_1108_0
theorem d_1108_1 : List.drop 1 xm_c1108 = xm_c1108_1 := xm_dr d_1108_0
theorem k_1108_1 : xm_gi xm_c1108 1 = some xm_e1108_1 := xm_gt d_1108_1
theorem d_1108_2 : List.drop 2 xm_c1108 = xm_c1108_2 := xm_dr d_1108_1
theorem k_1108_2 : xm_gi xm_c1108 2 = some xm_e1108_2 := xm_gt d_1108_2
theorem d_1108_3 : List.drop 3 xm_c1108 = xm_c1108_3 := xm_dr d_1108_2
theorem k_1108_3 : xm_gi xm_c1108 3 = some xm_e1108_3 := xm_gt d_1108_3
theorem d_1108_4 : List.drop 4 xm_c1108 = xm_c1108_4 := xm_dr d_1108_3
theorem k_1108_4 : xm_gi xm_c1108 4 = some xm_e1108_4 := xm_gt d_1108_4
theorem xb_1108_0 {sc : List Int} {f : Nat → List xm_V → xm_W → xm_R} {w : xm_W} {Q : Option xm_V × xm_W → Prop} {x0 : Int}
  (h : xm_Oi (f 1103 [.inl x0, .inl 0, .inl 35] w) (fun z2 w1 => Q (some (.inl z2), w1))) :
  xm_EQ (xm_old sc) xm_sta f xm_c1108 0 [some (.inl x0)] [] w Q :=
  (xq_iload_n k_1108_0 rfl (xq_iconst k_1108_1 (xq_bipush k_1108_2 (xq_invs2 k_1108_3 xr_1103 rfl rfl rfl h (fun z2 w1 h => (xq_ireturn k_1108_4 h))))))
/-- ShodBackwardsModel.isRider(I)Z -/
theorem d_1109_0 : List.drop 0 xm_c1109 = xm_c1109 := rfl
theorem k_1109_0 : xm_gi xm_c1109 0 = some xm_e1109_0 := xm_gt d_1109_0
theorem d_1109_1 : List.drop 1 xm_c1109 = xm_c1109_1 := xm_dr d_1109_0
theorem k_1109_1 : xm_gi xm_c1109 1 = some xm_e1109_1 := xm_gt d_1109_1
theorem d_1109_2 : List.drop 2 xm_c1109 = xm_c1109_2 := xm_dr d_1109_1
theorem k_1109_2 : xm_gi xm_c1109 2 = some xm_e1109_2 := xm_gt d_1109_2
theorem d_1109_3 : List.drop 3 xm_c1109 = xm_c1109_3 := xm_dr d_1109_2
theorem k_1109_3 : xm_gi xm_c1109 3 = some xm_e1109_3 := xm_gt d_1109_3
theorem d_1109_4 : List.drop 4 xm_c1109 = xm_c1109_4 := xm_dr d_1109_3
theorem k_1109_4 : xm_gi xm_c1109 4 = some xm_e1109_4 := xm_gt d_1109_4
theorem d_1109_5 : List.drop 5 xm_c1109 = xm_c1109_5 := xm_dr d_1109_4
theorem k_1109_5 : xm_gi xm_c1109 5 = some xm_e1109_5 := xm_gt d_1109_5
theorem d_1109_6 : List.drop 6 xm_c1109 = xm_c1109_6 := xm_dr d_1109_5
theorem k_1109_6 : xm_gi xm_c1109 6 = some xm_e1109_6 := xm_gt d_1109_6
theorem d_1109_7 : List.drop 7 xm_c1109 = xm_c1109_7 := xm_dr d_1109_6
theorem k_1109_7 : xm_gi xm_c1109 7 = some xm_e1109_7 := xm_gt d_1109_7
theorem d_1109_8 : List.drop 8 xm_c1109 = xm_c1109_8 := xm_dr d_1109_7
theorem k_1109_8 : xm_gi xm_c1109 8 = some xm_e1109_8 := xm_gt d_1109_8
theorem d_1109_9 : List.drop 9 xm_c1109 = xm_c1109_9 := xm_dr d_1109_8
theorem k_1109_9 : xm_gi xm_c1109 9 = some xm_e1109_9 := xm_gt d_1109_9
theorem xb_1109_0 {sc : List Int} {f : Nat → List xm_V → xm_W → xm_R} {w : xm_W} {Q : Option xm_V × xm_W → Prop} {x0 : Nat} {x1 : Int}
  (h : xm_O (xm_fr (xm_old sc) w x0 9 0) (fun r1 => xm_O (xm_ints (xm_old sc) w r1) (fun l2 => xm_O (xm_at l2 0) (fun z3 => xm_Oi (f 1103 [.inl x1, .inl 0, .inl (xm_w (z3 - 1))] w) (fun z5 w4 => Q (some (.inl z5), w4)))))) :
  xm_EQ (xm_old sc) xm_sta f xm_c1109 0 [some (.inr (.inl (some x0))), some (.inl x1)] [] w Q :=
  (xq_iload_n k_1109_0 rfl (xq_iconst k_1109_1 (xq_aload_n k_1109_2 rfl (xq_getr k_1109_3 rfl h (fun r1 h => (xq_iconst k_1109_4 (xq_iaload k_1109_5 h (fun l2 h => h) (fun l2 z3 h => (xq_iconst k_1109_6 (xq_isub k_1109_7 (xq_invs2 k_1109_8 xr_1103 rfl rfl rfl h (fun z5 w4 h => (xq_ireturn k_1109_9 h)))))))))))))
/-- ShodBackwardsModel.its(II)I -/
theorem d_1110_0 : List.drop 0 xm_c1110 = xm_c1110 := rfl
theorem k_1110_0 : xm_gi xm_c1110 0 = some xm_e1110_0 := xm_gt d_1110_0
theorem d_1110_1 : List.drop 1 xm_c1110 = xm_c1110_1 := xm_dr d_1110_0
theorem k_1110_1 : xm_gi xm_c1110 1 = some xm_e1110_1 := xm_gt d_1110_1
theorem d_1110_2 : List.drop 2 xm_c1110 = xm_c1110_2 := xm_dr d_1110_1
theorem k_1110_2 : xm_gi xm_c1110 2 = some xm_e1110_2 := xm_gt d_1110_2
theorem d_1110_3 : List.drop 3 xm_c1110 = xm_c1110_3 := xm_dr d_1110_2
theorem k_1110_3 : xm_gi xm_c1110 3 = some xm_e1110_3 := xm_gt d_1110_3
theorem d_1110_4 : List.drop 4 xm_c1110 = xm_c1110_4 := xm_dr d_1110_3
theorem k_1110_4 : xm_gi xm_c1110 4 = some xm_e1110_4 := xm_gt d_1110_4
theorem d_1110_5 : List.drop 5 xm_c1110 = xm_c1110_5 := xm_dr d_1110_4
theorem k_1110_5 : xm_gi xm_c1110 5 = some xm_e1110_5 := xm_gt d_1110_5
theorem d_1110_6 : List.drop 6 xm_c1110 = xm_c1110_6 := xm_dr d_1110_5
theorem k_1110_6 : xm_gi xm_c1110 6 = some xm_e1110_6 := xm_gt d_1110_6
theorem d_1110_7 : List.drop 7 xm_c1110 = xm_c1110_7 := xm_dr d_1110_6
theorem k_1110_7 : xm_gi xm_c1110 7 = some xm_e1110_7 := xm_gt d_1110_7
theorem d_1110_8 : List.drop 8 xm_c1110 = xm_c1110_8 := xm_dr d_1110_7
theorem k_1110_8 : xm_gi xm_c1110 8 = some xm_e1110_8 := xm_gt d_1110_8
theorem d_1110_9 : List.drop 9 xm_c1110 = xm_c1110_9 := xm_dr d_1110_8
theorem k_1110_9 : xm_gi xm_c1110 9 = some xm_e1110_9 := xm_gt d_1110_9
theorem d_1110_10 : List.drop 10 xm_c1110 = xm_c1110_10 := xm_dr d_1110_9
theorem k_1110_10 : xm_gi xm_c1110 10 = some xm_e1110_10 := xm_gt d_1110_10
theorem xb_1110_0 {sc : List Int} {f : Nat → List xm_V → xm_W → xm_R} {w : xm_W} {Q : Option xm_V × xm_W → Prop} {x0 : Nat} {x1 : Int} {x2 : Int}
  (h : xm_O (xm_fr (xm_old sc) w x0 9 0) (fun r1 => xm_O (xm_ints (xm_old sc) w r1) (fun l2 => xm_O (xm_at l2 (xm_w ((xm_w (44 + (xm_w (18 * x1)))) + x2))) (fun z3 => Q (some (.inl z3), w))))) :
  xm_EQ (xm_old sc) xm_sta f xm_c1110 0 [some (.inr (.inl (some x0))), some (.inl x1), some (.inl x2)] [] w Q :=
  (xq_aload_n k_1110_0 rfl (xq_getr k_1110_1 rfl h (fun r1 h => (xq_bipush k_1110_2 (xq_bipush k_1110_3 (xq_iload_n k_1110_4 rfl (xq_imul k_1110_5 (xq_iadd k_1110_6 (xq_iload_n k_1110_7 rfl (xq_iadd k_1110_8 (xq_iaload k_1110_9 h (fun l2 h => h) (fun l2 z3 h => (xq_ireturn k_1110_10 h)))))))))))))
/-- ShodBackwardsModel.lays1(III)V -/
theorem d_1111_0 : List.drop 0 xm_c1111 = xm_c1111 := rfl
theorem k_1111_0 : xm_gi xm_c1111 0 = some xm_e1111_0 := xm_gt d_1111_0
theorem d_1111_1 : List.drop 1 xm_c1111 = xm_c1111_1 := xm_dr d_1111_0
theorem k_1111_1 : xm_gi xm_c1111 1 = some xm_e1111_1 := xm_gt d_1111_1
theorem d_1111_2 : List.drop 2 xm_c1111 = xm_c1111_2 := xm_dr d_1111_1
theorem k_1111_2 : xm_gi xm_c1111 2 = some xm_e1111_2 := xm_gt d_1111_2
theorem d_1111_3 : List.drop 3 xm_c1111 = xm_c1111_3 := xm_dr d_1111_2
theorem k_1111_3 : xm_gi xm_c1111 3 = some xm_e1111_3 := xm_gt d_1111_3
theorem d_1111_4 : List.drop 4 xm_c1111 = xm_c1111_4 := xm_dr d_1111_3
theorem k_1111_4 : xm_gi xm_c1111 4 = some xm_e1111_4 := xm_gt d_1111_4
theorem d_1111_5 : List.drop 5 xm_c1111 = xm_c1111_5 := xm_dr d_1111_4
theorem k_1111_5 : xm_gi xm_c1111 5 = some xm_e1111_5 := xm_gt d_1111_5
theorem d_1111_6 : List.drop 6 xm_c1111 = xm_c1111_6 := xm_dr d_1111_5
theorem k_1111_6 : xm_gi xm_c1111 6 = some xm_e1111_6 := xm_gt d_1111_6
theorem d_1111_7 : List.drop 7 xm_c1111 = xm_c1111_7 := xm_dr d_1111_6
theorem k_1111_7 : xm_gi xm_c1111 7 = some xm_e1111_7 := xm_gt d_1111_7
theorem d_1111_8 : List.drop 8 xm_c1111 = xm_c1111_8 := xm_dr d_1111_7
theorem k_1111_8 : xm_gi xm_c1111 8 = some xm_e1111_8 := xm_gt d_1111_8
theorem d_1111_9 : List.drop 9 xm_c1111 = xm_c1111_9 := xm_dr d_1111_8
theorem k_1111_9 : xm_gi xm_c1111 9 = some xm_e1111_9 := xm_gt d_1111_9
theorem d_1111_10 : List.drop 10 xm_c1111 = xm_c1111_10 := xm_dr d_1111_9
theorem k_1111_10 : xm_gi xm_c1111 10 = some xm_e1111_10 := xm_gt d_1111_10
theorem d_1111_11 : List.drop 11 xm_c1111 = xm_c1111_11 := xm_dr d_1111_10
theorem k_1111_11 : xm_gi xm_c1111 11 = some xm_e1111_11 := xm_gt d_1111_11
theorem xb_1111_0 {sc : List Int} {f : Nat → List xm_V → xm_W → xm_R} {w : xm_W} {Q : Option xm_V × xm_W → Prop} {x0 : Nat} {x1 : Int} {x2 : Int} {x3 : Int}
  (h : xm_O (xm_fr (xm_old sc) w x0 9 0) (fun r1 => xm_O (xm_seti w r1 (xm_w ((xm_w (44 + (xm_w (18 * x1)))) + x2)) x3) (fun w2 => Q (none, w2)))) :
  xm_EQ (xm_old sc) xm_sta f xm_c1111 0 [some (.inr (.inl (some x0))), some (.inl x1), some (.inl x2), some (.inl x3)] [] w Q :=
  (xq_aload_n k_1111_0 rfl (xq_getr k_1111_1 rfl h (fun r1 h => (xq_bipush k_1111_2 (xq_bipush k_1111_3 (xq_iload_n k_1111_4 rfl (xq_imul k_1111_5 (xq_iadd k_1111_6 (xq_iload_n k_1111_7 rfl (xq_iadd k_1111_8 (xq_iload_n k_1111_9 rfl (xq_iastore k_1111_10 h (fun w2 h => (xq_return k_1111_11 h))))))))))))))
/-- ShodBackwardsModel.of(II)I -/
theorem d_1112_0 : List.drop 0 xm_c1112 = xm_c1112 := rfl
theorem k_1112_0 : xm_gi xm_c1112 0 = some xm_e1112_0 := xm_gt d_1112_0
theorem d_1112_1 : List.drop 1 xm_c1112 = xm_c1112_1 := xm_dr d_1112_0
theorem k_1112_1 : xm_gi xm_c1112 1 = some xm_e1112_1 := xm_gt d_1112_1
theorem d_1112_2 : List.drop 2 xm_c1112 = xm_c1112_2 := xm_dr d_1112_1
theorem k_1112_2 : xm_gi xm_c1112 2 = some xm_e1112_2 := xm_gt d_1112_2
theorem d_1112_3 : List.drop 3 xm_c1112 = xm_c1112_3 := xm_dr d_1112_2
theorem k_1112_3 : xm_gi xm_c1112 3 = some xm_e1112_3 := xm_gt d_1112_3
theorem d_1112_4 : List.drop 4 xm_c1112 = xm_c1112_4 := xm_dr d_1112_3
theorem k_1112_4 : xm_gi xm_c1112 4 = some xm_e1112_4 := xm_gt d_1112_4
theorem d_1112_5 : List.drop 5 xm_c1112 = xm_c1112_5 := xm_dr d_1112_4
theorem k_1112_5 : xm_gi xm_c1112 5 = some xm_e1112_5 := xm_gt d_1112_5
theorem d_1112_6 : List.drop 6 xm_c1112 = xm_c1112_6 := xm_dr d_1112_5
theorem k_1112_6 : xm_gi xm_c1112 6 = some xm_e1112_6 := xm_gt d_1112_6
theorem d_1112_7 : List.drop 7 xm_c1112 = xm_c1112_7 := xm_dr d_1112_6
theorem k_1112_7 : xm_gi xm_c1112 7 = some xm_e1112_7 := xm_gt d_1112_7
theorem d_1112_8 : List.drop 8 xm_c1112 = xm_c1112_8 := xm_dr d_1112_7
theorem k_1112_8 : xm_gi xm_c1112 8 = some xm_e1112_8 := xm_gt d_1112_8
theorem d_1112_9 : List.drop 9 xm_c1112 = xm_c1112_9 := xm_dr d_1112_8
theorem k_1112_9 : xm_gi xm_c1112 9 = some xm_e1112_9 := xm_gt d_1112_9
theorem d_1112_10 : List.drop 10 xm_c1112 = xm_c1112_10 := xm_dr d_1112_9
theorem k_1112_10 : xm_gi xm_c1112 10 = some xm_e1112_10 := xm_gt d_1112_10
theorem xb_1112_0 {sc : List Int} {f : Nat → List xm_V → xm_W → xm_R} {w : xm_W} {Q : Option xm_V × xm_W → Prop} {x0 : Nat} {x1 : Int} {x2 : Int}
  (h : xm_O (xm_fr (xm_old sc) w x0 9 0) (fun r1 => xm_O (xm_ints (xm_old sc) w r1) (fun l2 => xm_O (xm_at l2 (xm_w ((xm_w (134 + (xm_w (5 * x1)))) + x2))) (fun z3 => Q (some (.inl z3), w))))) :
  xm_EQ (xm_old sc) xm_sta f xm_c1112 0 [some (.inr (.inl (some x0))), some (.inl x1), some (.inl x2)] [] w Q :=
  (xq_aload_n k_1112_0 rfl (xq_getr k_1112_1 rfl h (fun r1 h => (xq_sipush k_1112_2 (xq_iconst k_1112_3 (xq_iload_n k_1112_4 rfl (xq_imul k_1112_5 (xq_iadd k_1112_6 (xq_iload_n k_1112_7 rfl (xq_iadd k_1112_8 (xq_iaload k_1112_9 h (fun l2 h => h) (fun l2 z3 h => (xq_ireturn k_1112_10 h)))))))))))))
/-- ShodBackwardsModel.change1(II)I -/
theorem d_1113_0 : List.drop 0 xm_c1113 = xm_c1113 := rfl
theorem k_1113_0 : xm_gi xm_c1113 0 = some xm_e1113_0 := xm_gt d_1113_0
theorem d_1113_1 : List.drop 1 xm_c1113 = xm_c1113_1 := xm_dr d_1113_0
theorem k_1113_1 : xm_gi xm_c1113 1 = some xm_e1113_1 := xm_gt d_1113_1
theorem d_1113_2 : List.drop 2 xm_c1113 = xm_c1113_2 := xm_dr d_1113_1
theorem k_1113_2 : xm_gi xm_c1113 2 = some xm_e1113_2 := xm_gt d_1113_2
theorem d_1113_3 : List.drop 3 xm_c1113 = xm_c1113_3 := xm_dr d_1113_2
theorem k_1113_3 : xm_gi xm_c1113 3 = some xm_e1113_3 := xm_gt d_1113_3
theorem d_1113_4 : List.drop 4 xm_c1113 = xm_c1113_4 := xm_dr d_1113_3
theorem k_1113_4 : xm_gi xm_c1113 4 = some xm_e1113_4 := xm_gt d_1113_4
theorem d_1113_5 : List.drop 5 xm_c1113 = xm_c1113_5 := xm_dr d_1113_4
theorem k_1113_5 : xm_gi xm_c1113 5 = some xm_e1113_5 := xm_gt d_1113_5
theorem d_1113_6 : List.drop 6 xm_c1113 = xm_c1113_6 := xm_dr d_1113_5
theorem k_1113_6 : xm_gi xm_c1113 6 = some xm_e1113_6 := xm_gt d_1113_6
theorem d_1113_7 : List.drop 7 xm_c1113 = xm_c1113_7 := xm_dr d_1113_6
theorem k_1113_7 : xm_gi xm_c1113 7 = some xm_e1113_7 := xm_gt d_1113_7
theorem d_1113_8 : List.drop 8 xm_c1113 = xm_c1113_8 := xm_dr d_1113_7
theorem k_1113_8 : xm_gi xm_c1113 8 = some xm_e1113_8 := xm_gt d_1113_8
theorem d_1113_9 : List.drop 9 xm_c1113 = xm_c1113_9 := xm_dr d_1113_8
theorem k_1113_9 : xm_gi xm_c1113 9 = some xm_e1113_9 := xm_gt d_1113_9
theorem d_1113_10 : List.drop 10 xm_c1113 = xm_c1113_10 := xm_dr d_1113_9
theorem k_1113_10 : xm_gi xm_c1113 10 = some xm_e1113_10 := xm_gt d_1113_10
theorem d_1113_11 : List.drop 11 xm_c1113 = xm_c1113_11 := xm_dr d_1113_10
theorem k_1113_11 : xm_gi xm_c1113 11 = some xm_e1113_11 := xm_gt d_1113_11
theorem xb_1113_0 {sc : List Int} {f : Nat → List xm_V → xm_W → xm_R} {w : xm_W} {Q : Option xm_V × xm_W → Prop} {x0 : Nat} {x1 : Int} {x2 : Int}
  (h : xm_O (xm_fr (xm_old sc) w x0 9 0) (fun r1 => xm_O (xm_ints (xm_old sc) w r1) (fun l2 => xm_O (xm_at l2 x1) (fun z3 => xm_O (xm_fr (xm_old sc) w x0 9 0) (fun r4 => xm_O (xm_seti w r4 x1 x2) (fun w5 => Q (some (.inl z3), w5))))))) :
  xm_EQ (xm_old sc) xm_sta f xm_c1113 0 [some (.inr (.inl (some x0))), some (.inl x1), some (.inl x2), none] [] w Q :=
  (xq_aload_n k_1113_0 rfl (xq_getr k_1113_1 rfl h (fun r1 h => (xq_iload_n k_1113_2 rfl (xq_iaload k_1113_3 h (fun l2 h => h) (fun l2 z3 h => (xq_istore_n k_1113_4 rfl (xq_aload_n k_1113_5 rfl (xq_getr k_1113_6 rfl h (fun r4 h => (xq_iload_n k_1113_7 rfl (xq_iload_n k_1113_8 rfl (xq_iastore k_1113_9 h (fun w5 h => (xq_iload_n k_1113_10 rfl (xq_ireturn k_1113_11 h))))))))))))))))
/-- ShodBackwardsModel.feed(JI)I -/
theorem d_1114_0 : List.drop 0 xm_c1114 = xm_c1114 := rfl
theorem k_1114_0 : xm_gi xm_c1114 0 = some xm_e1114_0 := xm_gt d_1114_0
theorem d_1114_1 : List.drop 1 xm_c1114 = xm_c1114_1 := xm_dr d_1114_0
theorem k_1114_1 : xm_gi xm_c1114 1 = some xm_e1114_1 := xm_gt d_1114_1
theorem d_1114_2 : List.drop 2 xm_c1114 = xm_c1114_2 := xm_dr d_1114_1
theorem k_1114_2 : xm_gi xm_c1114 2 = some xm_e1114_2 := xm_gt d_1114_2
theorem d_1114_3 : List.drop 3 xm_c1114 = xm_c1114_3 := xm_dr d_1114_2
theorem k_1114_3 : xm_gi xm_c1114 3 = some xm_e1114_3 := xm_gt d_1114_3
theorem d_1114_4 : List.drop 4 xm_c1114 = xm_c1114_4 := xm_dr d_1114_3
theorem k_1114_4 : xm_gi xm_c1114 4 = some xm_e1114_4 := xm_gt d_1114_4
theorem d_1114_5 : List.drop 5 xm_c1114 = xm_c1114_5 := xm_dr d_1114_4
theorem k_1114_5 : xm_gi xm_c1114 5 = some xm_e1114_5 := xm_gt d_1114_5
theorem d_1114_6 : List.drop 6 xm_c1114 = xm_c1114_6 := xm_dr d_1114_5
theorem k_1114_6 : xm_gi xm_c1114 6 = some xm_e1114_6 := xm_gt d_1114_6
theorem d_1114_7 : List.drop 7 xm_c1114 = xm_c1114_7 := xm_dr d_1114_6
theorem k_1114_7 : xm_gi xm_c1114 7 = some xm_e1114_7 := xm_gt d_1114_7
theorem d_1114_8 : List.drop 8 xm_c1114 = xm_c1114_8 := xm_dr d_1114_7
theorem k_1114_8 : xm_gi xm_c1114 8 = some xm_e1114_8 := xm_gt d_1114_8
theorem d_1114_9 : List.drop 9 xm_c1114 = xm_c1114_9 := xm_dr d_1114_8
theorem k_1114_9 : xm_gi xm_c1114 9 = some xm_e1114_9 := xm_gt d_1114_9
theorem d_1114_10 : List.drop 10 xm_c1114 = xm_c1114_10 := xm_dr d_1114_9
theorem k_1114_10 : xm_gi xm_c1114 10 = some xm_e1114_10 := xm_gt d_1114_10
theorem d_1114_11 : List.drop 11 xm_c1114 = xm_c1114_11 := xm_dr d_1114_10
theorem k_1114_11 : xm_gi xm_c1114 11 = some xm_e1114_11 := xm_gt d_1114_11
theorem d_1114_12 : List.drop 12 xm_c1114 = xm_c1114_12 := xm_dr d_1114_11
theorem k_1114_12 : xm_gi xm_c1114 12 = some xm_e1114_12 := xm_gt d_1114_12
theorem d_1114_13 : List.drop 13 xm_c1114 = xm_c1114_13 := xm_dr d_1114_12
theorem k_1114_13 : xm_gi xm_c1114 13 = some xm_e1114_13 := xm_gt d_1114_13
theorem d_1114_14 : List.drop 14 xm_c1114 = xm_c1114_14 := xm_dr d_1114_13
theorem k_1114_14 : xm_gi xm_c1114 14 = some xm_e1114_14 := xm_gt d_1114_14
theorem d_1114_15 : List.drop 15 xm_c1114 = xm_c1114_15 := xm_dr d_1114_14
theorem k_1114_15 : xm_gi xm_c1114 15 = some xm_e1114_15 := xm_gt d_1114_15
theorem d_1114_16 : List.drop 16 xm_c1114 = xm_c1114_16 := xm_dr d_1114_15
theorem k_1114_16 : xm_gi xm_c1114 16 = some xm_e1114_16 := xm_gt d_1114_16
theorem d_1114_17 : List.drop 17 xm_c1114 = xm_c1114_17 := xm_dr d_1114_16
theorem k_1114_17 : xm_gi xm_c1114 17 = some xm_e1114_17 := xm_gt d_1114_17
theorem d_1114_18 : List.drop 18 xm_c1114 = xm_c1114_18 := xm_dr d_1114_17
theorem k_1114_18 : xm_gi xm_c1114 18 = some xm_e1114_18 := xm_gt d_1114_18
theorem d_1114_19 : List.drop 19 xm_c1114 = xm_c1114_19 := xm_dr d_1114_18
theorem k_1114_19 : xm_gi xm_c1114 19 = some xm_e1114_19 := xm_gt d_1114_19
theorem d_1114_20 : List.drop 20 xm_c1114 = xm_c1114_20 := xm_dr d_1114_19
theorem k_1114_20 : xm_gi xm_c1114 20 = some xm_e1114_20 := xm_gt d_1114_20
theorem d_1114_21 : List.drop 21 xm_c1114 = xm_c1114_21 := xm_dr d_1114_20
theorem k_1114_21 : xm_gi xm_c1114 21 = some xm_e1114_21 := xm_gt d_1114_21
theorem d_1114_22 : List.drop 22 xm_c1114 = xm_c1114_22 := xm_dr d_1114_21
theorem k_1114_22 : xm_gi xm_c1114 22 = some xm_e1114_22 := xm_gt d_1114_22
theorem d_1114_23 : List.drop 23 xm_c1114 = xm_c1114_23 := xm_dr d_1114_22
theorem k_1114_23 : xm_gi xm_c1114 23 = some xm_e1114_23 := xm_gt d_1114_23
theorem d_1114_24 : List.drop 24 xm_c1114 = xm_c1114_24 := xm_dr d_1114_23
theorem k_1114_24 : xm_gi xm_c1114 24 = some xm_e1114_24 := xm_gt d_1114_24
theorem d_1114_25 : List.drop 25 xm_c1114 = xm_c1114_25 := xm_dr d_1114_24
theorem k_1114_25 : xm_gi xm_c1114 25 = some xm_e1114_25 := xm_gt d_1114_25
theorem d_1114_26 : List.drop 26 xm_c1114 = xm_c1114_26 := xm_dr d_1114_25
theorem k_1114_26 : xm_gi xm_c1114 26 = some xm_e1114_26 := xm_gt d_1114_26
theorem d_1114_27 : List.drop 27 xm_c1114 = xm_c1114_27 := xm_dr d_1114_26
theorem k_1114_27 : xm_gi xm_c1114 27 = some xm_e1114_27 := xm_gt d_1114_27
theorem d_1114_28 : List.drop 28 xm_c1114 = xm_c1114_28 := xm_dr d_1114_27
theorem k_1114_28 : xm_gi xm_c1114 28 = some xm_e1114_28 := xm_gt d_1114_28
theorem d_1114_29 : List.drop 29 xm_c1114 = xm_c1114_29 := xm_dr d_1114_28
theorem k_1114_29 : xm_gi xm_c1114 29 = some xm_e1114_29 := xm_gt d_1114_29
theorem d_1114_30 : List.drop 30 xm_c1114 = xm_c1114_30 := xm_dr d_1114_29
theorem k_1114_30 : xm_gi xm_c1114 30 = some xm_e1114_30 := xm_gt d_1114_30
theorem d_1114_31 : List.drop 31 xm_c1114 = xm_c1114_31 := xm_dr d_1114_30
theorem k_1114_31 : xm_gi xm_c1114 31 = some xm_e1114_31 := xm_gt d_1114_31
theorem d_1114_32 : List.drop 32 xm_c1114 = xm_c1114_32 := xm_dr d_1114_31
theorem k_1114_32 : xm_gi xm_c1114 32 = some xm_e1114_32 := xm_gt d_1114_32
theorem d_1114_33 : List.drop 33 xm_c1114 = xm_c1114_33 := xm_dr d_1114_32
theorem k_1114_33 : xm_gi xm_c1114 33 = some xm_e1114_33 := xm_gt d_1114_33
theorem d_1114_34 : List.drop 34 xm_c1114 = xm_c1114_34 := xm_dr d_1114_33
theorem k_1114_34 : xm_gi xm_c1114 34 = some xm_e1114_34 := xm_gt d_1114_34
theorem d_1114_35 : List.drop 35 xm_c1114 = xm_c1114_35 := xm_dr d_1114_34
theorem k_1114_35 : xm_gi xm_c1114 35 = some xm_e1114_35 := xm_gt d_1114_35
theorem d_1114_36 : List.drop 36 xm_c1114 = xm_c1114_36 := xm_dr d_1114_35
theorem k_1114_36 : xm_gi xm_c1114 36 = some xm_e1114_36 := xm_gt d_1114_36
theorem d_1114_37 : List.drop 37 xm_c1114 = xm_c1114_37 := xm_dr d_1114_36
theorem k_1114_37 : xm_gi xm_c1114 37 = some xm_e1114_37 := xm_gt d_1114_37
theorem d_1114_38 : List.drop 38 xm_c1114 = xm_c1114_38 := xm_dr d_1114_37
theorem k_1114_38 : xm_gi xm_c1114 38 = some xm_e1114_38 := xm_gt d_1114_38
theorem d_1114_39 : List.drop 39 xm_c1114 = xm_c1114_39 := xm_dr d_1114_38
theorem k_1114_39 : xm_gi xm_c1114 39 = some xm_e1114_39 := xm_gt d_1114_39
theorem d_1114_40 : List.drop 40 xm_c1114 = xm_c1114_40 := xm_dr d_1114_39
theorem k_1114_40 : xm_gi xm_c1114 40 = some xm_e1114_40 := xm_gt d_1114_40
theorem d_1114_41 : List.drop 41 xm_c1114 = xm_c1114_41 := xm_dr d_1114_40
theorem k_1114_41 : xm_gi xm_c1114 41 = some xm_e1114_41 := xm_gt d_1114_41
theorem d_1114_42 : List.drop 42 xm_c1114 = xm_c1114_42 := xm_dr d_1114_41
theorem k_1114_42 : xm_gi xm_c1114 42 = some xm_e1114_42 := xm_gt d_1114_42
theorem d_1114_43 : List.drop 43 xm_c1114 = xm_c1114_43 := xm_dr d_1114_42
theorem k_1114_43 : xm_gi xm_c1114 43 = some xm_e1114_43 := xm_gt d_1114_43
theorem d_1114_44 : List.drop 44 xm_c1114 = xm_c1114_44 := xm_dr d_1114_43
theorem k_1114_44 : xm_gi xm_c1114 44 = some xm_e1114_44 := xm_gt d_1114_44
theorem d_1114_45 : List.drop 45 xm_c1114 = xm_c1114_45 := xm_dr d_1114_44
theorem k_1114_45 : xm_gi xm_c1114 45 = some xm_e1114_45 := xm_gt d_1114_45
theorem d_1114_46 : List.drop 46 xm_c1114 = xm_c1114_46 := xm_dr d_1114_45
theorem k_1114_46 : xm_gi xm_c1114 46 = some xm_e1114_46 := xm_gt d_1114_46
theorem d_1114_47 : List.drop 47 xm_c1114 = xm_c1114_47 := xm_dr d_1114_46
theorem k_1114_47 : xm_gi xm_c1114 47 = some xm_e1114_47 := xm_gt d_1114_47
theorem d_1114_48 : List.drop 48 xm_c1114 = xm_c1114_48 := xm_dr d_1114_47
theorem k_1114_48 : xm_gi xm_c1114 48 = some xm_e1114_48 := xm_gt d_1114_48
theorem d_1114_49 : List.drop 49 xm_c1114 = xm_c1114_49 := xm_dr d_1114_48
theorem k_1114_49 : xm_gi xm_c1114 49 = some xm_e1114_49 := xm_gt d_1114_49
theorem d_1114_50 : List.drop 50 xm_c1114 = xm_c1114_50 := xm_dr d_1114_49
theorem k_1114_50 : xm_gi xm_c1114 50 = some xm_e1114_50 := xm_gt d_1114_50
theorem d_1114_51 : List.drop 51 xm_c1114 = xm_c1114_51 := xm_dr d_1114_50
theorem k_1114_51 : xm_gi xm_c1114 51 = some xm_e1114_51 := xm_gt d_1114_51
theorem d_1114_52 : List.drop 52 xm_c1114 = xm_c1114_52 := xm_dr d_1114_51
theorem k_1114_52 : xm_gi xm_c1114 52 = some xm_e1114_52 := xm_gt d_1114_52
theorem d_1114_53 : List.drop 53 xm_c1114 = xm_c1114_53 := xm_dr d_1114_52
theorem k_1114_53 : xm_gi xm_c1114 53 = some xm_e1114_53 := xm_gt d_1114_53
theorem d_1114_54 : List.drop 54 xm_c1114 = xm_c1114_54 := xm_dr d_1114_53
theorem k_1114_54 : xm_gi xm_c1114 54 = some xm_e1114_54 := xm_gt d_1114_54
theorem d_1114_55 : List.drop 55 xm_c1114 = xm_c1114_55 := xm_dr d_1114_54
theorem k_1114_55 : xm_gi xm_c1114 55 = some xm_e1114_55 := xm_gt d_1114_55
theorem d_1114_56 : List.drop 56 xm_c1114 = xm_c1114_56 := xm_dr d_1114_55
theorem k_1114_56 : xm_gi xm_c1114 56 = some xm_e1114_56 := xm_gt d_1114_56
theorem d_1114_57 : List.drop 57 xm_c1114 = xm_c1114_57 := xm_dr d_1114_56
theorem k_1114_57 : xm_gi xm_c1114 57 = some xm_e1114_57 := xm_gt d_1114_57
theorem xb_1114_0 {sc : List Int} {f : Nat → List xm_V → xm_W → xm_R} {w : xm_W} {Q : Option xm_V × xm_W → Prop} {x0 : Nat} {x1 : Int64} {x3 : Int}
  (h : xm_Oi (f 1103 [.inl x3, .inl 1, .inl 8] w) (fun z2 w1 => if (z2 : Int) = 0 then (xm_Oi (f 1102 [.inr (.inl (some x0)), .inl 1] w1) (fun z9 w8 => Q (some (.inl z9), w8))) else (xm_O (xm_fr (xm_old sc) w1 x0 9 0) (fun r3 => xm_O (xm_ints (xm_old sc) w1 r3) (fun l4 => xm_O (xm_at l4 4) (fun z5 => if (60 : Int) < (xm_w (z5 + x3)) then (xm_Oi (f 1102 [.inr (.inl (some x0)), .inl 4] w1) (fun z7 w6 => Q (some (.inl z7), w6))) else (xm_EQ (xm_old sc) xm_sta f xm_c1114 23 [some (.inr (.inl (some x0))), some (.inr (.inr x1)), none, some (.inl x3), some (.inl 0)] [] w1 Q))))))) :
  xm_EQ (xm_old sc) xm_sta f xm_c1114 0 [some (.inr (.inl (some x0))), some (.inr (.inr x1)), none, some (.inl x3), none] [] w Q :=
  (xq_iload_n k_1114_0 rfl (xq_iconst k_1114_1 (xq_bipush k_1114_2 (xq_invs2 k_1114_3 xr_1103 rfl rfl rfl h (fun z2 w1 h => (xq_if_ne k_1114_4 h (fun h => (xq_aload_n k_1114_5 rfl (xq_iconst k_1114_6 (xq_invv1 k_1114_7 xr_1102 rfl rfl rfl h (fun z9 w8 h => (xq_ireturn k_1114_8 h)))))) (fun h => (xq_aload_n k_1114_9 rfl (xq_getr k_1114_10 rfl h (fun r3 h => (xq_iconst k_1114_11 (xq_iaload k_1114_12 h (fun l4 h => h) (fun l4 z5 h => (xq_iload_n k_1114_13 rfl (xq_iadd k_1114_14 (xq_bipush k_1114_15 (xq_ic_le k_1114_16 h (fun h => (xq_aload_n k_1114_17 rfl (xq_iconst k_1114_18 (xq_invv1 k_1114_19 xr_1102 rfl rfl rfl h (fun z7 w6 h => (xq_ireturn k_1114_20 h)))))) (fun h => (xq_iconst k_1114_21 (xq_istore k_1114_22 rfl h))))))))))))))))))))
theorem xb_1114_23 {sc : List Int} {f : Nat → List xm_V → xm_W → xm_R} {w : xm_W} {Q : Option xm_V × xm_W → Prop} {x0 : Nat} {x1 : Int64} {x3 : Int} {x4 : Int} {u2 : Option xm_V}
  (h : if (x4 : Int) < x3 then (xm_O (xm_fr (xm_old sc) w x0 9 0) (fun r4 => xm_O (xm_fr (xm_old sc) w x0 9 0) (fun r5 => xm_O (xm_ints (xm_old sc) w r5) (fun l6 => xm_O (xm_at l6 4) (fun z7 => xm_O (xm_seti w r4 (xm_w (589 + z7)) (((xm_lshr x1 (xm_w (8 * x4))) &&& (Int64.ofInt 255))).toInt32.toInt) (fun w8 => xm_O (xm_fr (xm_old sc) w8 x0 9 0) (fun r9 => xm_O (xm_ints (xm_old sc) w8 r9) (fun l10 => xm_O (xm_at l10 4) (fun z11 => xm_O (xm_seti w8 r9 4 (xm_w (z11 + 1))) (fun w12 => xm_EQ (xm_old sc) xm_sta f xm_c1114 23 [some (.inr (.inl (some x0))), some (.inr (.inr x1)), u2, some (.inl x3), some (.inl (xm_w (x4 + 1)))] [] w12 Q)))))))))) else (xm_O (xm_fr (xm_old sc) w x0 9 0) (fun r1 => xm_O (xm_ints (xm_old sc) w r1) (fun l2 => xm_O (xm_at l2 4) (fun z3 => Q (some (.inl z3), w)))))) :
  xm_EQ (xm_old sc) xm_sta f xm_c1114 23 [some (.inr (.inl (some x0))), some (.inr (.inr x1)), u2, some (.inl x3), some (.inl x4)] [] w Q :=
  (xq_iload k_1114_23 rfl (xq_iload_n k_1114_24 rfl (xq_ic_ge k_1114_25 h (fun h => (xq_aload_n k_1114_26 rfl (xq_getr k_1114_27 rfl h (fun r4 h => (xq_sipush k_1114_28 (xq_aload_n k_1114_29 rfl (xq_getr k_1114_30 rfl h (fun r5 h => (xq_iconst k_1114_31 (xq_iaload k_1114_32 h (fun l6 h => h) (fun l6 z7 h => (xq_iadd k_1114_33 (xq_lload_n k_1114_34 rfl (xq_bipush k_1114_35 (xq_iload k_1114_36 rfl (xq_imul k_1114_37 (xq_lshr k_1114_38 (xq_ldc2 k_1114_39 (xq_land k_1114_40 (xq_l2i k_1114_41 (xq_iastore k_1114_42 h (fun w8 h => (xq_aload_n k_1114_43 rfl (xq_getr k_1114_44 rfl h (fun r9 h => (xq_iconst k_1114_45 (xq_dup2 k_1114_46 (xq_iaload k_1114_47 h (fun l10 h => h) (fun l10 z11 h => (xq_iconst k_1114_48 (xq_iadd k_1114_49 (xq_iastore k_1114_50 h (fun w12 h => (xq_iinc k_1114_51 rfl rfl (xq_goto k_1114_52 h))))))))))))))))))))))))))))))))))) (fun h => (xq_aload_n k_1114_53 rfl (xq_getr k_1114_54 rfl h (fun r1 h => (xq_iconst k_1114_55 (xq_iaload k_1114_56 h (fun l2 h => h) (fun l2 z3 h => (xq_ireturn k_1114_57 h)))))))))))
/-- ShodBackwardsModel.look()I -/
theorem d_1115_0 : List.drop 0 xm_c1115 = xm_c1115 := rfl
theorem k_1115_0 : xm_gi xm_c1115 0 = some xm_e1115_0 := xm_gt d_1115_0
theorem d_1115_1 : List.drop 1 xm_c1115 = xm_c1115_1 := xm_dr d_1115_0
theorem k_1115_1 : xm_gi xm_c1115 1 = some xm_e1115_1 := xm_gt d_1115_1
theorem d_1115_2 : List.drop 2 xm_c1115 = xm_c1115_2 := xm_dr d_1115_1
theorem k_1115_2 : xm_gi xm_c1115 2 = some xm_e1115_2 := xm_gt d_1115_2
theorem d_1115_3 : List.drop 3 xm_c1115 = xm_c1115_3 := xm_dr d_1115_2
theorem k_1115_3 : xm_gi xm_c1115 3 = some xm_e1115_3 := xm_gt d_1115_3
theorem d_1115_4 : List.drop 4 xm_c1115 = xm_c1115_4 := xm_dr d_1115_3
theorem k_1115_4 : xm_gi xm_c1115 4 = some xm_e1115_4 := xm_gt d_1115_4
theorem d_1115_5 : List.drop 5 xm_c1115 = xm_c1115_5 := xm_dr d_1115_4
theorem k_1115_5 : xm_gi xm_c1115 5 = some xm_e1115_5 := xm_gt d_1115_5
theorem d_1115_6 : List.drop 6 xm_c1115 = xm_c1115_6 := xm_dr d_1115_5
theorem k_1115_6 : xm_gi xm_c1115 6 = some xm_e1115_6 := xm_gt d_1115_6
theorem d_1115_7 : List.drop 7 xm_c1115 = xm_c1115_7 := xm_dr d_1115_6
theorem k_1115_7 : xm_gi xm_c1115 7 = some xm_e1115_7 := xm_gt d_1115_7
theorem d_1115_8 : List.drop 8 xm_c1115 = xm_c1115_8 := xm_dr d_1115_7
theorem k_1115_8 : xm_gi xm_c1115 8 = some xm_e1115_8 := xm_gt d_1115_8
theorem d_1115_9 : List.drop 9 xm_c1115 = xm_c1115_9 := xm_dr d_1115_8
theorem k_1115_9 : xm_gi xm_c1115 9 = some xm_e1115_9 := xm_gt d_1115_9
theorem d_1115_10 : List.drop 10 xm_c1115 = xm_c1115_10 := xm_dr d_1115_9
theorem k_1115_10 : xm_gi xm_c1115 10 = some xm_e1115_10 := xm_gt d_1115_10
theorem d_1115_11 : List.drop 11 xm_c1115 = xm_c1115_11 := xm_dr d_1115_10
theorem k_1115_11 : xm_gi xm_c1115 11 = some xm_e1115_11 := xm_gt d_1115_11
theorem d_1115_12 : List.drop 12 xm_c1115 = xm_c1115_12 := xm_dr d_1115_11
theorem k_1115_12 : xm_gi xm_c1115 12 = some xm_e1115_12 := xm_gt d_1115_12
theorem d_1115_13 : List.drop 13 xm_c1115 = xm_c1115_13 := xm_dr d_1115_12
theorem k_1115_13 : xm_gi xm_c1115 13 = some xm_e1115_13 := xm_gt d_1115_13
theorem d_1115_14 : List.drop 14 xm_c1115 = xm_c1115_14 := xm_dr d_1115_13
theorem k_1115_14 : xm_gi xm_c1115 14 = some xm_e1115_14 := xm_gt d_1115_14
theorem d_1115_15 : List.drop 15 xm_c1115 = xm_c1115_15 := xm_dr d_1115_14
theorem k_1115_15 : xm_gi xm_c1115 15 = some xm_e1115_15 := xm_gt d_1115_15
theorem d_1115_16 : List.drop 16 xm_c1115 = xm_c1115_16 := xm_dr d_1115_15
theorem k_1115_16 : xm_gi xm_c1115 16 = some xm_e1115_16 := xm_gt d_1115_16
theorem xb_1115_0 {sc : List Int} {f : Nat → List xm_V → xm_W → xm_R} {w : xm_W} {Q : Option xm_V × xm_W → Prop} {x0 : Nat}
  (h : xm_O (xm_fi (xm_old sc) w x0 9 6) (fun z1 => xm_O (xm_fr (xm_old sc) w x0 9 0) (fun r2 => xm_O (xm_ints (xm_old sc) w r2) (fun l3 => xm_O (xm_at l3 4) (fun z4 => if (z1 : Int) < z4 then (xm_O (xm_fr (xm_old sc) w x0 9 0) (fun r5 => xm_O (xm_fi (xm_old sc) w x0 9 6) (fun z6 => xm_O (xm_ints (xm_old sc) w r5) (fun l7 => xm_O (xm_at l7 (xm_w (589 + z6))) (fun z8 => Q (some (.inl z8), w)))))) else (Q (some (.inl (-1)), w))))))) :
  xm_EQ (xm_old sc) xm_sta f xm_c1115 0 [some (.inr (.inl (some x0)))] [] w Q :=
  (xq_aload_n k_1115_0 rfl (xq_geti0 k_1115_1 rfl h (fun z1 h => (xq_aload_n k_1115_2 rfl (xq_getr k_1115_3 rfl h (fun r2 h => (xq_iconst k_1115_4 (xq_iaload k_1115_5 h (fun l3 h => h) (fun l3 z4 h => (xq_ic_ge k_1115_6 h (fun h => (xq_aload_n k_1115_7 rfl (xq_getr k_1115_8 rfl h (fun r5 h => (xq_sipush k_1115_9 (xq_aload_n k_1115_10 rfl (xq_geti0 k_1115_11 rfl h (fun z6 h => (xq_iadd k_1115_12 (xq_iaload k_1115_13 h (fun l7 h => h) (fun l7 z8 h => (xq_goto k_1115_14 (xq_ireturn k_1115_16 h))))))))))))) (fun h => (xq_iconst k_1115_15 (xq_ireturn k_1115_16 h)))))))))))))
/-- ShodBackwardsModel.isName(I)Z -/
theorem d_1116_0 : List.drop 0 xm_c1116 = xm_c1116 := rfl
theorem k_1116_0 : xm_gi xm_c1116 0 = some xm_e1116_0 := xm_gt d_1116_0
theorem d_1116_1 : List.drop 1 xm_c1116 = xm_c1116_1 := xm_dr d_1116_0
theorem k_1116_1 : xm_gi xm_c1116 1 = some xm_e1116_1 := xm_gt d_1116_1
theorem d_1116_2 : List.drop 2 xm_c1116 = xm_c1116_2 := xm_dr d_1116_1
theorem k_1116_2 : xm_gi xm_c1116 2 = some xm_e1116_2 := xm_gt d_1116_2
theorem d_1116_3 : List.drop 3 xm_c1116 = xm_c1116_3 := xm_dr d_1116_2
theorem k_1116_3 : xm_gi xm_c1116 3 = some xm_e1116_3 := xm_gt d_1116_3
theorem d_1116_4 : List.drop 4 xm_c1116 = xm_c1116_4 := xm_dr d_1116_3
theorem k_1116_4 : xm_gi xm_c1116 4 = some xm_e1116_4 := xm_gt d_1116_4
theorem d_1116_5 : List.drop 5 xm_c1116 = xm_c1116_5 := xm_dr d_1116_4
theorem k_1116_5 : xm_gi xm_c1116 5 = some xm_e1116_5 := xm_gt d_1116_5
theorem d_1116_6 : List.drop 6 xm_c1116 = xm_c1116_6 := xm_dr d_1116_5
theorem k_1116_6 : xm_gi xm_c1116 6 = some xm_e1116_6 := xm_gt d_1116_6
theorem d_1116_7 : List.drop 7 xm_c1116 = xm_c1116_7 := xm_dr d_1116_6
theorem k_1116_7 : xm_gi xm_c1116 7 = some xm_e1116_7 := xm_gt d_1116_7
theorem d_1116_8 : List.drop 8 xm_c1116 = xm_c1116_8 := xm_dr d_1116_7
theorem k_1116_8 : xm_gi xm_c1116 8 = some xm_e1116_8 := xm_gt d_1116_8
theorem d_1116_9 : List.drop 9 xm_c1116 = xm_c1116_9 := xm_dr d_1116_8
theorem k_1116_9 : xm_gi xm_c1116 9 = some xm_e1116_9 := xm_gt d_1116_9
theorem d_1116_10 : List.drop 10 xm_c1116 = xm_c1116_10 := xm_dr d_1116_9
theorem k_1116_10 : xm_gi xm_c1116 10 = some xm_e1116_10 := xm_gt d_1116_10
theorem d_1116_11 : List.drop 11 xm_c1116 = xm_c1116_11 := xm_dr d_1116_10
theorem k_1116_11 : xm_gi xm_c1116 11 = some xm_e1116_11 := xm_gt d_1116_11
theorem d_1116_12 : List.drop 12 xm_c1116 = xm_c1116_12 := xm_dr d_1116_11
theorem k_1116_12 : xm_gi xm_c1116 12 = some xm_e1116_12 := xm_gt d_1116_12
theorem d_1116_13 : List.drop 13 xm_c1116 = xm_c1116_13 := xm_dr d_1116_12
theorem k_1116_13 : xm_gi xm_c1116 13 = some xm_e1116_13 := xm_gt d_1116_13
theorem d_1116_14 : List.drop 14 xm_c1116 = xm_c1116_14 := xm_dr d_1116_13
theorem k_1116_14 : xm_gi xm_c1116 14 = some xm_e1116_14 := xm_gt d_1116_14
theorem d_1116_15 : List.drop 15 xm_c1116 = xm_c1116_15 := xm_dr d_1116_14
theorem k_1116_15 : xm_gi xm_c1116 15 = some xm_e1116_15 := xm_gt d_1116_15
theorem d_1116_16 : List.drop 16 xm_c1116 = xm_c1116_16 := xm_dr d_1116_15
theorem k_1116_16 : xm_gi xm_c1116 16 = some xm_e1116_16 := xm_gt d_1116_16
theorem d_1116_17 : List.drop 17 xm_c1116 = xm_c1116_17 := xm_dr d_1116_16
theorem k_1116_17 : xm_gi xm_c1116 17 = some xm_e1116_17 := xm_gt d_1116_17
theorem d_1116_18 : List.drop 18 xm_c1116 = xm_c1116_18 := xm_dr d_1116_17
theorem k_1116_18 : xm_gi xm_c1116 18 = some xm_e1116_18 := xm_gt d_1116_18
theorem d_1116_19 : List.drop 19 xm_c1116 = xm_c1116_19 := xm_dr d_1116_18
theorem k_1116_19 : xm_gi xm_c1116 19 = some xm_e1116_19 := xm_gt d_1116_19
theorem d_1116_20 : List.drop 20 xm_c1116 = xm_c1116_20 := xm_dr d_1116_19
theorem k_1116_20 : xm_gi xm_c1116 20 = some xm_e1116_20 := xm_gt d_1116_20
theorem d_1116_21 : List.drop 21 xm_c1116 = xm_c1116_21 := xm_dr d_1116_20
theorem k_1116_21 : xm_gi xm_c1116 21 = some xm_e1116_21 := xm_gt d_1116_21
theorem d_1116_22 : List.drop 22 xm_c1116 = xm_c1116_22 := xm_dr d_1116_21
theorem k_1116_22 : xm_gi xm_c1116 22 = some xm_e1116_22 := xm_gt d_1116_22
theorem d_1116_23 : List.drop 23 xm_c1116 = xm_c1116_23 := xm_dr d_1116_22
theorem k_1116_23 : xm_gi xm_c1116 23 = some xm_e1116_23 := xm_gt d_1116_23
theorem d_1116_24 : List.drop 24 xm_c1116 = xm_c1116_24 := xm_dr d_1116_23
theorem k_1116_24 : xm_gi xm_c1116 24 = some xm_e1116_24 := xm_gt d_1116_24
theorem d_1116_25 : List.drop 25 xm_c1116 = xm_c1116_25 := xm_dr d_1116_24
theorem k_1116_25 : xm_gi xm_c1116 25 = some xm_e1116_25 := xm_gt d_1116_25
theorem d_1116_26 : List.drop 26 xm_c1116 = xm_c1116_26 := xm_dr d_1116_25
theorem k_1116_26 : xm_gi xm_c1116 26 = some xm_e1116_26 := xm_gt d_1116_26
theorem d_1116_27 : List.drop 27 xm_c1116 = xm_c1116_27 := xm_dr d_1116_26
theorem k_1116_27 : xm_gi xm_c1116 27 = some xm_e1116_27 := xm_gt d_1116_27
theorem d_1116_28 : List.drop 28 xm_c1116 = xm_c1116_28 := xm_dr d_1116_27
theorem k_1116_28 : xm_gi xm_c1116 28 = some xm_e1116_28 := xm_gt d_1116_28
theorem d_1116_29 : List.drop 29 xm_c1116 = xm_c1116_29 := xm_dr d_1116_28
theorem k_1116_29 : xm_gi xm_c1116 29 = some xm_e1116_29 := xm_gt d_1116_29
theorem d_1116_30 : List.drop 30 xm_c1116 = xm_c1116_30 := xm_dr d_1116_29
theorem k_1116_30 : xm_gi xm_c1116 30 = some xm_e1116_30 := xm_gt d_1116_30
theorem d_1116_31 : List.drop 31 xm_c1116 = xm_c1116_31 := xm_dr d_1116_30
theorem k_1116_31 : xm_gi xm_c1116 31 = some xm_e1116_31 := xm_gt d_1116_31
theorem xb_1116_0 {sc : List Int} {f : Nat → List xm_V → xm_W → xm_R} {w : xm_W} {Q : Option xm_V × xm_W → Prop} {x0 : Nat} {x1 : Int}
  (h : xm_O (xm_fi (xm_old sc) w x0 9 9) (fun z1 => if (z1 : Int) = 0 then (if (x1 : Int) = 119 then (Q (some (.inl 1), w)) else (if (x1 : Int) = 115 then (Q (some (.inl 1), w)) else (if (x1 : Int) = 109 then (Q (some (.inl 1), w)) else (if (x1 : Int) = 103 then (Q (some (.inl 1), w)) else (Q (some (.inl 0), w)))))) else (if (x1 : Int) = 110 then (Q (some (.inl 1), w)) else (if (x1 : Int) = 100 then (Q (some (.inl 1), w)) else (if (x1 : Int) = 97 then (Q (some (.inl 1), w)) else (Q (some (.inl 0), w))))))) :
  xm_EQ (xm_old sc) xm_sta f xm_c1116 0 [some (.inr (.inl (some x0))), some (.inl x1)] [] w Q :=
  (xq_aload_n k_1116_0 rfl (xq_geti0 k_1116_1 rfl h (fun z1 h => (xq_if_ne k_1116_2 h (fun h => (xq_iload_n k_1116_3 rfl (xq_bipush k_1116_4 (xq_ic_eq k_1116_5 h (fun h => (xq_iconst k_1116_15 (xq_goto k_1116_16 (xq_ireturn k_1116_18 h)))) (fun h => (xq_iload_n k_1116_6 rfl (xq_bipush k_1116_7 (xq_ic_eq k_1116_8 h (fun h => (xq_iconst k_1116_15 (xq_goto k_1116_16 (xq_ireturn k_1116_18 h)))) (fun h => (xq_iload_n k_1116_9 rfl (xq_bipush k_1116_10 (xq_ic_eq k_1116_11 h (fun h => (xq_iconst k_1116_15 (xq_goto k_1116_16 (xq_ireturn k_1116_18 h)))) (fun h => (xq_iload_n k_1116_12 rfl (xq_bipush k_1116_13 (xq_ic_ne k_1116_14 h (fun h => (xq_iconst k_1116_15 (xq_goto k_1116_16 (xq_ireturn k_1116_18 h)))) (fun h => (xq_iconst k_1116_17 (xq_ireturn k_1116_18 h))))))))))))))))))) (fun h => (xq_iload_n k_1116_19 rfl (xq_bipush k_1116_20 (xq_ic_eq k_1116_21 h (fun h => (xq_iconst k_1116_28 (xq_goto k_1116_29 (xq_ireturn k_1116_31 h)))) (fun h => (xq_iload_n k_1116_22 rfl (xq_bipush k_1116_23 (xq_ic_eq k_1116_24 h (fun h => (xq_iconst k_1116_28 (xq_goto k_1116_29 (xq_ireturn k_1116_31 h)))) (fun h => (xq_iload_n k_1116_25 rfl (xq_bipush k_1116_26 (xq_ic_ne k_1116_27 h (fun h => (xq_iconst k_1116_28 (xq_goto k_1116_29 (xq_ireturn k_1116_31 h)))) (fun h => (xq_iconst k_1116_30 (xq_ireturn k_1116_31 h)))))))))))))))))))
/-- ShodBackwardsModel.step1(II)V -/
theorem d_1117_0 : List.drop 0 xm_c1117 = xm_c1117 := rfl
theorem k_1117_0 : xm_gi xm_c1117 0 = some xm_e1117_0 := xm_gt d_1117_0
theorem d_1117_1 : List.drop 1 xm_c1117 = xm_c1117_1 := xm_dr d_1117_0
theorem k_1117_1 : xm_gi xm_c1117 1 = some xm_e1117_1 := xm_gt d_1117_1
theorem d_1117_2 : List.drop 2 xm_c1117 = xm_c1117_2 := xm_dr d_1117_1
theorem k_1117_2 : xm_gi xm_c1117 2 = some xm_e1117_2 := xm_gt d_1117_2
theorem d_1117_3 : List.drop 3 xm_c1117 = xm_c1117_3 := xm_dr d_1117_2
theorem k_1117_3 : xm_gi xm_c1117 3 = some xm_e1117_3 := xm_gt d_1117_3
theorem d_1117_4 : List.drop 4 xm_c1117 = xm_c1117_4 := xm_dr d_1117_3
theorem k_1117_4 : xm_gi xm_c1117 4 = some xm_e1117_4 := xm_gt d_1117_4
theorem d_1117_5 : List.drop 5 xm_c1117 = xm_c1117_5 := xm_dr d_1117_4
theorem k_1117_5 : xm_gi xm_c1117 5 = some xm_e1117_5 := xm_gt d_1117_5
theorem d_1117_6 : List.drop 6 xm_c1117 = xm_c1117_6 := xm_dr d_1117_5
theorem k_1117_6 : xm_gi xm_c1117 6 = some xm_e1117_6 := xm_gt d_1117_6
theorem d_1117_7 : List.drop 7 xm_c1117 = xm_c1117_7 := xm_dr d_1117_6
theorem k_1117_7 : xm_gi xm_c1117 7 = some xm_e1117_7 := xm_gt d_1117_7
theorem d_1117_8 : List.drop 8 xm_c1117 = xm_c1117_8 := xm_dr d_1117_7
theorem k_1117_8 : xm_gi xm_c1117 8 = some xm_e1117_8 := xm_gt d_1117_8
theorem d_1117_9 : List.drop 9 xm_c1117 = xm_c1117_9 := xm_dr d_1117_8
theorem k_1117_9 : xm_gi xm_c1117 9 = some xm_e1117_9 := xm_gt d_1117_9
theorem d_1117_10 : List.drop 10 xm_c1117 = xm_c1117_10 := xm_dr d_1117_9
theorem k_1117_10 : xm_gi xm_c1117 10 = some xm_e1117_10 := xm_gt d_1117_10
theorem d_1117_11 : List.drop 11 xm_c1117 = xm_c1117_11 := xm_dr d_1117_10
theorem k_1117_11 : xm_gi xm_c1117 11 = some xm_e1117_11 := xm_gt d_1117_11
theorem d_1117_12 : List.drop 12 xm_c1117 = xm_c1117_12 := xm_dr d_1117_11
theorem k_1117_12 : xm_gi xm_c1117 12 = some xm_e1117_12 := xm_gt d_1117_12
theorem d_1117_13 : List.drop 13 xm_c1117 = xm_c1117_13 := xm_dr d_1117_12
theorem k_1117_13 : xm_gi xm_c1117 13 = some xm_e1117_13 := xm_gt d_1117_13
theorem d_1117_14 : List.drop 14 xm_c1117 = xm_c1117_14 := xm_dr d_1117_13
theorem k_1117_14 : xm_gi xm_c1117 14 = some xm_e1117_14 := xm_gt d_1117_14
theorem d_1117_15 : List.drop 15 xm_c1117 = xm_c1117_15 := xm_dr d_1117_14
theorem k_1117_15 : xm_gi xm_c1117 15 = some xm_e1117_15 := xm_gt d_1117_15
theorem d_1117_16 : List.drop 16 xm_c1117 = xm_c1117_16 := xm_dr d_1117_15
theorem k_1117_16 : xm_gi xm_c1117 16 = some xm_e1117_16 := xm_gt d_1117_16
theorem d_1117_17 : List.drop 17 xm_c1117 = xm_c1117_17 := xm_dr d_1117_16
theorem k_1117_17 : xm_gi xm_c1117 17 = some xm_e1117_17 := xm_gt d_1117_17
theorem d_1117_18 : List.drop 18 xm_c1117 = xm_c1117_18 := xm_dr d_1117_17
theorem k_1117_18 : xm_gi xm_c1117 18 = some xm_e1117_18 := xm_gt d_1117_18
theorem d_1117_19 : List.drop 19 xm_c1117 = xm_c1117_19 := xm_dr d_1117_18
theorem k_1117_19 : xm_gi xm_c1117 19 = some xm_e1117_19 := xm_gt d_1117_19
theorem d_1117_20 : List.drop 20 xm_c1117 = xm_c1117_20 := xm_dr d_1117_19
theorem k_1117_20 : xm_gi xm_c1117 20 = some xm_e1117_20 := xm_gt d_1117_20
theorem d_1117_21 : List.drop 21 xm_c1117 = xm_c1117_21 := xm_dr d_1117_20
theorem k_1117_21 : xm_gi xm_c1117 21 = some xm_e1117_21 := xm_gt d_1117_21
theorem d_1117_22 : List.drop 22 xm_c1117 = xm_c1117_22 := xm_dr d_1117_21
theorem k_1117_22 : xm_gi xm_c1117 22 = some xm_e1117_22 := xm_gt d_1117_22
theorem d_1117_23 : List.drop 23 xm_c1117 = xm_c1117_23 := xm_dr d_1117_22
theorem k_1117_23 : xm_gi xm_c1117 23 = some xm_e1117_23 := xm_gt d_1117_23
theorem d_1117_24 : List.drop 24 xm_c1117 = xm_c1117_24 := xm_dr d_1117_23
theorem k_1117_24 : xm_gi xm_c1117 24 = some xm_e1117_24 := xm_gt d_1117_24
theorem xb_1117_0 {sc : List Int} {f : Nat → List xm_V → xm_W → xm_R} {w : xm_W} {Q : Option xm_V × xm_W → Prop} {x0 : Nat} {x1 : Int} {x2 : Int}
  (h : xm_O (xm_fr (xm_old sc) w x0 9 10) (fun r1 => xm_O (xm_fi (xm_old sc) w x0 9 8) (fun z2 => xm_O (xm_seti w r1 (xm_w (2 * z2)) x1) (fun w3 => xm_O (xm_fr (xm_old sc) w3 x0 9 10) (fun r4 => xm_O (xm_fi (xm_old sc) w3 x0 9 8) (fun z5 => xm_O (xm_seti w3 r4 (xm_w ((xm_w (2 * z5)) + 1)) x2) (fun w6 => xm_O (xm_fi (xm_old sc) w6 x0 9 8) (fun z7 => xm_O (xm_setf w6 x0 9 8 0 (.inl (xm_w (z7 + 1)))) (fun w8 => Q (none, w8)))))))))) :
  xm_EQ (xm_old sc) xm_sta f xm_c1117 0 [some (.inr (.inl (some x0))), some (.inl x1), some (.inl x2)] [] w Q :=
  (xq_aload_n k_1117_0 rfl (xq_getr k_1117_1 rfl h (fun r1 h => (xq_iconst k_1117_2 (xq_aload_n k_1117_3 rfl (xq_geti0 k_1117_4 rfl h (fun z2 h => (xq_imul k_1117_5 (xq_iload_n k_1117_6 rfl (xq_iastore k_1117_7 h (fun w3 h => (xq_aload_n k_1117_8 rfl (xq_getr k_1117_9 rfl h (fun r4 h => (xq_iconst k_1117_10 (xq_aload_n k_1117_11 rfl (xq_geti0 k_1117_12 rfl h (fun z5 h => (xq_imul k_1117_13 (xq_iconst k_1117_14 (xq_iadd k_1117_15 (xq_iload_n k_1117_16 rfl (xq_iastore k_1117_17 h (fun w6 h => (xq_aload_n k_1117_18 rfl (xq_dupr k_1117_19 (xq_geti0 k_1117_20 rfl h (fun z7 h => (xq_iconst k_1117_21 (xq_iadd k_1117_22 (xq_put k_1117_23 rfl h (fun w8 h => (xq_return k_1117_24 h)))))))))))))))))))))))))))))))))
/-- ShodBackwardsModel.whole()Z -/
theorem d_1118_0 : List.drop 0 xm_c1118 = xm_c1118 := rfl
theorem k_1118_0 : xm_gi xm_c1118 0 = some xm_e1118_0 := xm_gt d_1118_0
theorem d_1118_1 : List.drop 1 xm_c1118 = xm_c1118_1 := xm_dr d_1118_0
theorem k_1118_1 : xm_gi xm_c1118 1 = some xm_e1118_1 := xm_gt d_1118_1
theorem d_1118_2 : List.drop 2 xm_c1118 = xm_c1118_2 := xm_dr d_1118_1
theorem k_1118_2 : xm_gi xm_c1118 2 = some xm_e1118_2 := xm_gt d_1118_2
theorem d_1118_3 : List.drop 3 xm_c1118 = xm_c1118_3 := xm_dr d_1118_2
theorem k_1118_3 : xm_gi xm_c1118 3 = some xm_e1118_3 := xm_gt d_1118_3
theorem d_1118_4 : List.drop 4 xm_c1118 = xm_c1118_4 := xm_dr d_1118_3
theorem k_1118_4 : xm_gi xm_c1118 4 = some xm_e1118_4 := xm_gt d_1118_4
theorem d_1118_5 : List.drop 5 xm_c1118 = xm_c1118_5 := xm_dr d_1118_4
theorem k_1118_5 : xm_gi xm_c1118 5 = some xm_e1118_5 := xm_gt d_1118_5
theorem d_1118_6 : List.drop 6 xm_c1118 = xm_c1118_6 := xm_dr d_1118_5
theorem k_1118_6 : xm_gi xm_c1118 6 = some xm_e1118_6 := xm_gt d_1118_6
theorem d_1118_7 : List.drop 7 xm_c1118 = xm_c1118_7 := xm_dr d_1118_6
theorem k_1118_7 : xm_gi xm_c1118 7 = some xm_e1118_7 := xm_gt d_1118_7
theorem d_1118_8 : List.drop 8 xm_c1118 = xm_c1118_8 := xm_dr d_1118_7
theorem k_1118_8 : xm_gi xm_c1118 8 = some xm_e1118_8 := xm_gt d_1118_8
theorem d_1118_9 : List.drop 9 xm_c1118 = xm_c1118_9 := xm_dr d_1118_8
theorem k_1118_9 : xm_gi xm_c1118 9 = some xm_e1118_9 := xm_gt d_1118_9
theorem d_1118_10 : List.drop 10 xm_c1118 = xm_c1118_10 := xm_dr d_1118_9
theorem k_1118_10 : xm_gi xm_c1118 10 = some xm_e1118_10 := xm_gt d_1118_10
theorem d_1118_11 : List.drop 11 xm_c1118 = xm_c1118_11 := xm_dr d_1118_10
theorem k_1118_11 : xm_gi xm_c1118 11 = some xm_e1118_11 := xm_gt d_1118_11
theorem d_1118_12 : List.drop 12 xm_c1118 = xm_c1118_12 := xm_dr d_1118_11
theorem k_1118_12 : xm_gi xm_c1118 12 = some xm_e1118_12 := xm_gt d_1118_12
theorem d_1118_13 : List.drop 13 xm_c1118 = xm_c1118_13 := xm_dr d_1118_12
theorem k_1118_13 : xm_gi xm_c1118 13 = some xm_e1118_13 := xm_gt d_1118_13
theorem d_1118_14 : List.drop 14 xm_c1118 = xm_c1118_14 := xm_dr d_1118_13
theorem k_1118_14 : xm_gi xm_c1118 14 = some xm_e1118_14 := xm_gt d_1118_14
theorem d_1118_15 : List.drop 15 xm_c1118 = xm_c1118_15 := xm_dr d_1118_14
theorem k_1118_15 : xm_gi xm_c1118 15 = some xm_e1118_15 := xm_gt d_1118_15
theorem d_1118_16 : List.drop 16 xm_c1118 = xm_c1118_16 := xm_dr d_1118_15
theorem k_1118_16 : xm_gi xm_c1118 16 = some xm_e1118_16 := xm_gt d_1118_16
theorem d_1118_17 : List.drop 17 xm_c1118 = xm_c1118_17 := xm_dr d_1118_16
theorem k_1118_17 : xm_gi xm_c1118 17 = some xm_e1118_17 := xm_gt d_1118_17
theorem d_1118_18 : List.drop 18 xm_c1118 = xm_c1118_18 := xm_dr d_1118_17
theorem k_1118_18 : xm_gi xm_c1118 18 = some xm_e1118_18 := xm_gt d_1118_18
theorem d_1118_19 : List.drop 19 xm_c1118 = xm_c1118_19 := xm_dr d_1118_18
theorem k_1118_19 : xm_gi xm_c1118 19 = some xm_e1118_19 := xm_gt d_1118_19
theorem d_1118_20 : List.drop 20 xm_c1118 = xm_c1118_20 := xm_dr d_1118_19
theorem k_1118_20 : xm_gi xm_c1118 20 = some xm_e1118_20 := xm_gt d_1118_20
theorem d_1118_21 : List.drop 21 xm_c1118 = xm_c1118_21 := xm_dr d_1118_20
theorem k_1118_21 : xm_gi xm_c1118 21 = some xm_e1118_21 := xm_gt d_1118_21
theorem d_1118_22 : List.drop 22 xm_c1118 = xm_c1118_22 := xm_dr d_1118_21
theorem k_1118_22 : xm_gi xm_c1118 22 = some xm_e1118_22 := xm_gt d_1118_22
theorem d_1118_23 : List.drop 23 xm_c1118 = xm_c1118_23 := xm_dr d_1118_22
theorem k_1118_23 : xm_gi xm_c1118 23 = some xm_e1118_23 := xm_gt d_1118_23
theorem d_1118_24 : List.drop 24 xm_c1118 = xm_c1118_24 := xm_dr d_1118_23
theorem k_1118_24 : xm_gi xm_c1118 24 = some xm_e1118_24 := xm_gt d_1118_24
theorem d_1118_25 : List.drop 25 xm_c1118 = xm_c1118_25 := xm_dr d_1118_24
theorem k_1118_25 : xm_gi xm_c1118 25 = some xm_e1118_25 := xm_gt d_1118_25
theorem d_1118_26 : List.drop 26 xm_c1118 = xm_c1118_26 := xm_dr d_1118_25
theorem k_1118_26 : xm_gi xm_c1118 26 = some xm_e1118_26 := xm_gt d_1118_26
theorem xb_1118_0 {sc : List Int} {f : Nat → List xm_V → xm_W → xm_R} {w : xm_W} {Q : Option xm_V × xm_W → Prop} {x0 : Nat}
  (h : xm_Oi (f 1119 [.inr (.inl (some x0))] w) (fun z2 w1 => if (z2 : Int) = 0 then (Q (some (.inl 0), w1)) else (xm_EQ (xm_old sc) xm_sta f xm_c1118 5 [some (.inr (.inl (some x0)))] [] w1 Q))) :
  xm_EQ (xm_old sc) xm_sta f xm_c1118 0 [some (.inr (.inl (some x0)))] [] w Q :=
  (xq_aload_n k_1118_0 rfl (xq_invv2 k_1118_1 xr_1119 rfl rfl rfl h (fun z2 w1 h => (xq_if_ne k_1118_2 h (fun h => (xq_iconst k_1118_3 (xq_ireturn k_1118_4 h))) (fun h => h)))))
theorem xb_1118_5 {sc : List Int} {f : Nat → List xm_V → xm_W → xm_R} {w : xm_W} {Q : Option xm_V × xm_W → Prop} {x0 : Nat}
  (h : xm_Oi (f 1115 [.inr (.inl (some x0))] w) (fun z2 w1 => if (z2 : Int) = 124 then (xm_O (xm_fi (xm_old sc) w1 x0 9 6) (fun z3 => xm_O (xm_setf w1 x0 9 6 0 (.inl (xm_w (z3 + 1)))) (fun w4 => xm_Oi (f 1119 [.inr (.inl (some x0))] w4) (fun z6 w5 => if (z6 : Int) = 0 then (Q (some (.inl 0), w5)) else (xm_Ov (f 1117 [.inr (.inl (some x0)), .inl 3, .inl 124] w5) (fun w7 => xm_EQ (xm_old sc) xm_sta f xm_c1118 5 [some (.inr (.inl (some x0)))] [] w7 Q)))))) else (Q (some (.inl 1), w1)))) :
  xm_EQ (xm_old sc) xm_sta f xm_c1118 5 [some (.inr (.inl (some x0)))] [] w Q :=
  (xq_aload_n k_1118_5 rfl (xq_invv1 k_1118_6 xr_1115 rfl rfl rfl h (fun z2 w1 h => (xq_bipush k_1118_7 (xq_ic_ne k_1118_8 h (fun h => (xq_aload_n k_1118_9 rfl (xq_dupr k_1118_10 (xq_geti0 k_1118_11 rfl h (fun z3 h => (xq_iconst k_1118_12 (xq_iadd k_1118_13 (xq_put k_1118_14 rfl h (fun w4 h => (xq_aload_n k_1118_15 rfl (xq_invv2 k_1118_16 xr_1119 rfl rfl rfl h (fun z6 w5 h => (xq_if_ne k_1118_17 h (fun h => (xq_iconst k_1118_18 (xq_ireturn k_1118_19 h))) (fun h => (xq_aload_n k_1118_20 rfl (xq_iconst k_1118_21 (xq_bipush k_1118_22 (xq_invv0 k_1118_23 xr_1117 rfl rfl rfl h (fun w7 h => (xq_goto k_1118_24 h)))))))))))))))))))) (fun h => (xq_iconst k_1118_25 (xq_ireturn k_1118_26 h))))))))
/-- ShodBackwardsModel.both()Z -/
theorem d_1119_0 : List.drop 0 xm_c1119 = xm_c1119 := rfl
theorem k_1119_0 : xm_gi xm_c1119 0 = some xm_e1119_0 := xm_gt d_1119_0
theorem d_1119_1 : List.drop 1 xm_c1119 = xm_c1119_1 := xm_dr d_1119_0
theorem k_1119_1 : xm_gi xm_c1119 1 = some xm_e1119_1 := xm_gt d_1119_1
theorem d_1119_2 : List.drop 2 xm_c1119 = xm_c1119_2 := xm_dr d_1119_1
theorem k_1119_2 : xm_gi xm_c1119 2 = some xm_e1119_2 := xm_gt d_1119_2
theorem d_1119_3 : List.drop 3 xm_c1119 = xm_c1119_3 := xm_dr d_1119_2
theorem k_1119_3 : xm_gi xm_c1119 3 = some xm_e1119_3 := xm_gt d_1119_3
theorem d_1119_4 : List.drop 4 xm_c1119 = xm_c1119_4 := xm_dr d_1119_3
theorem k_1119_4 : xm_gi xm_c1119 4 = some xm_e1119_4 := xm_gt d_1119_4
theorem d_1119_5 : List.drop 5 xm_c1119 = xm_c1119_5 := xm_dr d_1119_4
theorem k_1119_5 : xm_gi xm_c1119 5 = some xm_e1119_5 := xm_gt d_1119_5
theorem d_1119_6 : List.drop 6 xm_c1119 = xm_c1119_6 := xm_dr d_1119_5
theorem k_1119_6 : xm_gi xm_c1119 6 = some xm_e1119_6 := xm_gt d_1119_6
theorem d_1119_7 : List.drop 7 xm_c1119 = xm_c1119_7 := xm_dr d_1119_6
theorem k_1119_7 : xm_gi xm_c1119 7 = some xm_e1119_7 := xm_gt d_1119_7
theorem d_1119_8 : List.drop 8 xm_c1119 = xm_c1119_8 := xm_dr d_1119_7
theorem k_1119_8 : xm_gi xm_c1119 8 = some xm_e1119_8 := xm_gt d_1119_8
theorem d_1119_9 : List.drop 9 xm_c1119 = xm_c1119_9 := xm_dr d_1119_8
theorem k_1119_9 : xm_gi xm_c1119 9 = some xm_e1119_9 := xm_gt d_1119_9
theorem d_1119_10 : List.drop 10 xm_c1119 = xm_c1119_10 := xm_dr d_1119_9
theorem k_1119_10 : xm_gi xm_c1119 10 = some xm_e1119_10 := xm_gt d_1119_10
theorem d_1119_11 : List.drop 11 xm_c1119 = xm_c1119_11 := xm_dr d_1119_10
theorem k_1119_11 : xm_gi xm_c1119 11 = some xm_e1119_11 := xm_gt d_1119_11
theorem d_1119_12 : List.drop 12 xm_c1119 = xm_c1119_12 := xm_dr d_1119_11
theorem k_1119_12 : xm_gi xm_c1119 12 = some xm_e1119_12 := xm_gt d_1119_12
theorem d_1119_13 : List.drop 13 xm_c1119 = xm_c1119_13 := xm_dr d_1119_12
theorem k_1119_13 : xm_gi xm_c1119 13 = some xm_e1119_13 := xm_gt d_1119_13
theorem d_1119_14 : List.drop 14 xm_c1119 = xm_c1119_14 := xm_dr d_1119_13
theorem k_1119_14 : xm_gi xm_c1119 14 = some xm_e1119_14 := xm_gt d_1119_14
theorem d_1119_15 : List.drop 15 xm_c1119 = xm_c1119_15 := xm_dr d_1119_14
theorem k_1119_15 : xm_gi xm_c1119 15 = some xm_e1119_15 := xm_gt d_1119_15
theorem d_1119_16 : List.drop 16 xm_c1119 = xm_c1119_16 := xm_dr d_1119_15
theorem k_1119_16 : xm_gi xm_c1119 16 = some xm_e1119_16 := xm_gt d_1119_16
theorem d_1119_17 : List.drop 17 xm_c1119 = xm_c1119_17 := xm_dr d_1119_16
theorem k_1119_17 : xm_gi xm_c1119 17 = some xm_e1119_17 := xm_gt d_1119_17
theorem d_1119_18 : List.drop 18 xm_c1119 = xm_c1119_18 := xm_dr d_1119_17
theorem k_1119_18 : xm_gi xm_c1119 18 = some xm_e1119_18 := xm_gt d_1119_18
theorem d_1119_19 : List.drop 19 xm_c1119 = xm_c1119_19 := xm_dr d_1119_18
theorem k_1119_19 : xm_gi xm_c1119 19 = some xm_e1119_19 := xm_gt d_1119_19
theorem d_1119_20 : List.drop 20 xm_c1119 = xm_c1119_20 := xm_dr d_1119_19
theorem k_1119_20 : xm_gi xm_c1119 20 = some xm_e1119_20 := xm_gt d_1119_20
theorem d_1119_21 : List.drop 21 xm_c1119 = xm_c1119_21 := xm_dr d_1119_20
theorem k_1119_21 : xm_gi xm_c1119 21 = some xm_e1119_21 := xm_gt d_1119_21
theorem d_1119_22 : List.drop 22 xm_c1119 = xm_c1119_22 := xm_dr d_1119_21
theorem k_1119_22 : xm_gi xm_c1119 22 = some xm_e1119_22 := xm_gt d_1119_22
theorem d_1119_23 : List.drop 23 xm_c1119 = xm_c1119_23 := xm_dr d_1119_22
theorem k_1119_23 : xm_gi xm_c1119 23 = some xm_e1119_23 := xm_gt d_1119_23
theorem d_1119_24 : List.drop 24 xm_c1119 = xm_c1119_24 := xm_dr d_1119_23
theorem k_1119_24 : xm_gi xm_c1119 24 = some xm_e1119_24 := xm_gt d_1119_24
theorem d_1119_25 : List.drop 25 xm_c1119 = xm_c1119_25 := xm_dr d_1119_24
theorem k_1119_25 : xm_gi xm_c1119 25 = some xm_e1119_25 := xm_gt d_1119_25
theorem d_1119_26 : List.drop 26 xm_c1119 = xm_c1119_26 := xm_dr d_1119_25
theorem k_1119_26 : xm_gi xm_c1119 26 = some xm_e1119_26 := xm_gt d_1119_26
theorem xb_1119_0 {sc : List Int} {f : Nat → List xm_V → xm_W → xm_R} {w : xm_W} {Q : Option xm_V × xm_W → Prop} {x0 : Nat}
  (h : xm_Oi (f 1120 [.inr (.inl (some x0))] w) (fun z2 w1 => if (z2 : Int) = 0 then (Q (some (.inl 0), w1)) else (xm_EQ (xm_old sc) xm_sta f xm_c1119 5 [some (.inr (.inl (some x0)))] [] w1 Q))) :
  xm_EQ (xm_old sc) xm_sta f xm_c1119 0 [some (.inr (.inl (some x0)))] [] w Q :=
  (xq_aload_n k_1119_0 rfl (xq_invv2 k_1119_1 xr_1120 rfl rfl rfl h (fun z2 w1 h => (xq_if_ne k_1119_2 h (fun h => (xq_iconst k_1119_3 (xq_ireturn k_1119_4 h))) (fun h => h)))))
theorem xb_1119_5 {sc : List Int} {f : Nat → List xm_V → xm_W → xm_R} {w : xm_W} {Q : Option xm_V × xm_W → Prop} {x0 : Nat}
  (h : xm_Oi (f 1115 [.inr (.inl (some x0))] w) (fun z2 w1 => if (z2 : Int) = 38 then (xm_O (xm_fi (xm_old sc) w1 x0 9 6) (fun z3 => xm_O (xm_setf w1 x0 9 6 0 (.inl (xm_w (z3 + 1)))) (fun w4 => xm_Oi (f 1120 [.inr (.inl (some x0))] w4) (fun z6 w5 => if (z6 : Int) = 0 then (Q (some (.inl 0), w5)) else (xm_Ov (f 1117 [.inr (.inl (some x0)), .inl 3, .inl 38] w5) (fun w7 => xm_EQ (xm_old sc) xm_sta f xm_c1119 5 [some (.inr (.inl (some x0)))] [] w7 Q)))))) else (Q (some (.inl 1), w1)))) :
  xm_EQ (xm_old sc) xm_sta f xm_c1119 5 [some (.inr (.inl (some x0)))] [] w Q :=
  (xq_aload_n k_1119_5 rfl (xq_invv1 k_1119_6 xr_1115 rfl rfl rfl h (fun z2 w1 h => (xq_bipush k_1119_7 (xq_ic_ne k_1119_8 h (fun h => (xq_aload_n k_1119_9 rfl (xq_dupr k_1119_10 (xq_geti0 k_1119_11 rfl h (fun z3 h => (xq_iconst k_1119_12 (xq_iadd k_1119_13 (xq_put k_1119_14 rfl h (fun w4 h => (xq_aload_n k_1119_15 rfl (xq_invv2 k_1119_16 xr_1120 rfl rfl rfl h (fun z6 w5 h => (xq_if_ne k_1119_17 h (fun h => (xq_iconst k_1119_18 (xq_ireturn k_1119_19 h))) (fun h => (xq_aload_n k_1119_20 rfl (xq_iconst k_1119_21 (xq_bipush k_1119_22 (xq_invv0 k_1119_23 xr_1117 rfl rfl rfl h (fun w7 h => (xq_goto k_1119_24 h)))))))))))))))))))) (fun h => (xq_iconst k_1119_25 (xq_ireturn k_1119_26 h))))))))
/-- ShodBackwardsModel.compared()Z -/
theorem d_1120_0 : List.drop 0 xm_c1120 = xm_c1120 := rfl
theorem k_1120_0 : xm_gi xm_c1120 0 = some xm_e1120_0 := xm_gt d_1120_0
theorem d_1120_1 : List.drop 1 xm_c1120 = xm_c1120_1 := xm_dr d_1120_0
theorem k_1120_1 : xm_gi xm_c1120 1 = some xm_e1120_1 := xm_gt d_1120_1
theorem d_1120_2 : List.drop 2 xm_c1120 = xm_c1120_2 := xm_dr d_1120_1
theorem k_1120_2 : xm_gi xm_c1120 2 = some xm_e1120_2 := xm_gt d_1120_2
theorem d_1120_3 : List.drop 3 xm_c1120 = xm_c1120_3 := xm_dr d_1120_2
theorem k_1120_3 : xm_gi xm_c1120 3 = some xm_e1120_3 := xm_gt d_1120_3
theorem d_1120_4 : List.drop 4 xm_c1120 = xm_c1120_4 := xm_dr d_1120_3
theorem k_1120_4 : xm_gi xm_c1120 4 = some xm_e1120_4 := xm_gt d_1120_4
theorem d_1120_5 : List.drop 5 xm_c1120 = xm_c1120_5 := xm_dr d_1120_4
theorem k_1120_5 : xm_gi xm_c1120 5 = some xm_e1120_5 := xm_gt d_1120_5
theorem d_1120_6 : List.drop 6 xm_c1120 = xm_c1120_6 := xm_dr d_1120_5
theorem k_1120_6 : xm_gi xm_c1120 6 = some xm_e1120_6 := xm_gt d_1120_6
theorem d_1120_7 : List.drop 7 xm_c1120 = xm_c1120_7 := xm_dr d_1120_6
theorem k_1120_7 : xm_gi xm_c1120 7 = some xm_e1120_7 := xm_gt d_1120_7
theorem d_1120_8 : List.drop 8 xm_c1120 = xm_c1120_8 := xm_dr d_1120_7
theorem k_1120_8 : xm_gi xm_c1120 8 = some xm_e1120_8 := xm_gt d_1120_8
theorem d_1120_9 : List.drop 9 xm_c1120 = xm_c1120_9 := xm_dr d_1120_8
theorem k_1120_9 : xm_gi xm_c1120 9 = some xm_e1120_9 := xm_gt d_1120_9
theorem d_1120_10 : List.drop 10 xm_c1120 = xm_c1120_10 := xm_dr d_1120_9
theorem k_1120_10 : xm_gi xm_c1120 10 = some xm_e1120_10 := xm_gt d_1120_10
theorem d_1120_11 : List.drop 11 xm_c1120 = xm_c1120_11 := xm_dr d_1120_10
theorem k_1120_11 : xm_gi xm_c1120 11 = some xm_e1120_11 := xm_gt d_1120_11
theorem d_1120_12 : List.drop 12 xm_c1120 = xm_c1120_12 := xm_dr d_1120_11
theorem k_1120_12 : xm_gi xm_c1120 12 = some xm_e1120_12 := xm_gt d_1120_12
theorem d_1120_13 : List.drop 13 xm_c1120 = xm_c1120_13 := xm_dr d_1120_12
theorem k_1120_13 : xm_gi xm_c1120 13 = some xm_e1120_13 := xm_gt d_1120_13
theorem d_1120_14 : List.drop 14 xm_c1120 = xm_c1120_14 := xm_dr d_1120_13
theorem k_1120_14 : xm_gi xm_c1120 14 = some xm_e1120_14 := xm_gt d_1120_14
theorem d_1120_15 : List.drop 15 xm_c1120 = xm_c1120_15 := xm_dr d_1120_14
theorem k_1120_15 : xm_gi xm_c1120 15 = some xm_e1120_15 := xm_gt d_1120_15
theorem d_1120_16 : List.drop 16 xm_c1120 = xm_c1120_16 := xm_dr d_1120_15
theorem k_1120_16 : xm_gi xm_c1120 16 = some xm_e1120_16 := xm_gt d_1120_16
theorem d_1120_17 : List.drop 17 xm_c1120 = xm_c1120_17 := xm_dr d_1120_16
theorem k_1120_17 : xm_gi xm_c1120 17 = some xm_e1120_17 := xm_gt d_1120_17
theorem d_1120_18 : List.drop 18 xm_c1120 = xm_c1120_18 := xm_dr d_1120_17
theorem k_1120_18 : xm_gi xm_c1120 18 = some xm_e1120_18 := xm_gt d_1120_18
theorem d_1120_19 : List.drop 19 xm_c1120 = xm_c1120_19 := xm_dr d_1120_18
theorem k_1120_19 : xm_gi xm_c1120 19 = some xm_e1120_19 := xm_gt d_1120_19
theorem d_1120_20 : List.drop 20 xm_c1120 = xm_c1120_20 := xm_dr d_1120_19
theorem k_1120_20 : xm_gi xm_c1120 20 = some xm_e1120_20 := xm_gt d_1120_20
theorem d_1120_21 : List.drop 21 xm_c1120 = xm_c1120_21 := xm_dr d_1120_20
theorem k_1120_21 : xm_gi xm_c1120 21 = some xm_e1120_21 := xm_gt d_1120_21
theorem d_1120_22 : List.drop 22 xm_c1120 = xm_c1120_22 := xm_dr d_1120_21
theorem k_1120_22 : xm_gi xm_c1120 22 = some xm_e1120_22 := xm_gt d_1120_22
theorem d_1120_23 : List.drop 23 xm_c1120 = xm_c1120_23 := xm_dr d_1120_22
theorem k_1120_23 : xm_gi xm_c1120 23 = some xm_e1120_23 := xm_gt d_1120_23
theorem d_1120_24 : List.drop 24 xm_c1120 = xm_c1120_24 := xm_dr d_1120_23
theorem k_1120_24 : xm_gi xm_c1120 24 = some xm_e1120_24 := xm_gt d_1120_24
theorem d_1120_25 : List.drop 25 xm_c1120 = xm_c1120_25 := xm_dr d_1120_24
theorem k_1120_25 : xm_gi xm_c1120 25 = some xm_e1120_25 := xm_gt d_1120_25
theorem d_1120_26 : List.drop 26 xm_c1120 = xm_c1120_26 := xm_dr d_1120_25
theorem k_1120_26 : xm_gi xm_c1120 26 = some xm_e1120_26 := xm_gt d_1120_26
theorem d_1120_27 : List.drop 27 xm_c1120 = xm_c1120_27 := xm_dr d_1120_26
theorem k_1120_27 : xm_gi xm_c1120 27 = some xm_e1120_27 := xm_gt d_1120_27
theorem d_1120_28 : List.drop 28 xm_c1120 = xm_c1120_28 := xm_dr d_1120_27
theorem k_1120_28 : xm_gi xm_c1120 28 = some xm_e1120_28 := xm_gt d_1120_28
theorem d_1120_29 : List.drop 29 xm_c1120 = xm_c1120_29 := xm_dr d_1120_28
theorem k_1120_29 : xm_gi xm_c1120 29 = some xm_e1120_29 := xm_gt d_1120_29
theorem d_1120_30 : List.drop 30 xm_c1120 = xm_c1120_30 := xm_dr d_1120_29
theorem k_1120_30 : xm_gi xm_c1120 30 = some xm_e1120_30 := xm_gt d_1120_30
theorem d_1120_31 : List.drop 31 xm_c1120 = xm_c1120_31 := xm_dr d_1120_30
theorem k_1120_31 : xm_gi xm_c1120 31 = some xm_e1120_31 := xm_gt d_1120_31
theorem d_1120_32 : List.drop 32 xm_c1120 = xm_c1120_32 := xm_dr d_1120_31
theorem k_1120_32 : xm_gi xm_c1120 32 = some xm_e1120_32 := xm_gt d_1120_32
theorem d_1120_33 : List.drop 33 xm_c1120 = xm_c1120_33 := xm_dr d_1120_32
theorem k_1120_33 : xm_gi xm_c1120 33 = some xm_e1120_33 := xm_gt d_1120_33
theorem d_1120_34 : List.drop 34 xm_c1120 = xm_c1120_34 := xm_dr d_1120_33
theorem k_1120_34 : xm_gi xm_c1120 34 = some xm_e1120_34 := xm_gt d_1120_34
theorem d_1120_35 : List.drop 35 xm_c1120 = xm_c1120_35 := xm_dr d_1120_34
theorem k_1120_35 : xm_gi xm_c1120 35 = some xm_e1120_35 := xm_gt d_1120_35
theorem xb_1120_0 {sc : List Int} {f : Nat → List xm_V → xm_W → xm_R} {w : xm_W} {Q : Option xm_V × xm_W → Prop} {x0 : Nat}
  (h : xm_Oi (f 1121 [.inr (.inl (some x0))] w) (fun z2 w1 => if (z2 : Int) = 0 then (Q (some (.inl 0), w1)) else (xm_Oi (f 1115 [.inr (.inl (some x0))] w1) (fun z4 w3 => if (z4 : Int) = 60 then (xm_O (xm_fi (xm_old sc) w3 x0 9 6) (fun z5 => xm_O (xm_setf w3 x0 9 6 0 (.inl (xm_w (z5 + 1)))) (fun w6 => xm_Oi (f 1121 [.inr (.inl (some x0))] w6) (fun z8 w7 => if (z8 : Int) = 0 then (Q (some (.inl 0), w7)) else (xm_Ov (f 1117 [.inr (.inl (some x0)), .inl 3, .inl z4] w7) (fun w9 => Q (some (.inl 1), w9))))))) else (if (z4 : Int) = 61 then (xm_O (xm_fi (xm_old sc) w3 x0 9 6) (fun z10 => xm_O (xm_setf w3 x0 9 6 0 (.inl (xm_w (z10 + 1)))) (fun w11 => xm_Oi (f 1121 [.inr (.inl (some x0))] w11) (fun z13 w12 => if (z13 : Int) = 0 then (Q (some (.inl 0), w12)) else (xm_Ov (f 1117 [.inr (.inl (some x0)), .inl 3, .inl z4] w12) (fun w14 => Q (some (.inl 1), w14))))))) else (if (z4 : Int) = 62 then (xm_O (xm_fi (xm_old sc) w3 x0 9 6) (fun z15 => xm_O (xm_setf w3 x0 9 6 0 (.inl (xm_w (z15 + 1)))) (fun w16 => xm_Oi (f 1121 [.inr (.inl (some x0))] w16) (fun z18 w17 => if (z18 : Int) = 0 then (Q (some (.inl 0), w17)) else (xm_Ov (f 1117 [.inr (.inl (some x0)), .inl 3, .inl z4] w17) (fun w19 => Q (some (.inl 1), w19))))))) else (Q (some (.inl 1), w3)))))))) :
  xm_EQ (xm_old sc) xm_sta f xm_c1120 0 [some (.inr (.inl (some x0))), none] [] w Q :=
  (xq_aload_n k_1120_0 rfl (xq_invv2 k_1120_1 xr_1121 rfl rfl rfl h (fun z2 w1 h => (xq_if_ne k_1120_2 h (fun h => (xq_iconst k_1120_3 (xq_ireturn k_1120_4 h))) (fun h => (xq_aload_n k_1120_5 rfl (xq_invv1 k_1120_6 xr_1115 rfl rfl rfl h (fun z4 w3 h => (xq_istore_n k_1120_7 rfl (xq_iload_n k_1120_8 rfl (xq_bipush k_1120_9 (xq_ic_eq k_1120_10 h (fun h => (xq_aload_n k_1120_19 rfl (xq_dupr k_1120_20 (xq_geti0 k_1120_21 rfl h (fun z5 h => (xq_iconst k_1120_22 (xq_iadd k_1120_23 (xq_put k_1120_24 rfl h (fun w6 h => (xq_aload_n k_1120_25 rfl (xq_invv2 k_1120_26 xr_1121 rfl rfl rfl h (fun z8 w7 h => (xq_if_ne k_1120_27 h (fun h => (xq_iconst k_1120_28 (xq_ireturn k_1120_29 h))) (fun h => (xq_aload_n k_1120_30 rfl (xq_iconst k_1120_31 (xq_iload_n k_1120_32 rfl (xq_invv0 k_1120_33 xr_1117 rfl rfl rfl h (fun w9 h => (xq_iconst k_1120_34 (xq_ireturn k_1120_35 h))))))))))))))))))))) (fun h => (xq_iload_n k_1120_11 rfl (xq_bipush k_1120_12 (xq_ic_eq k_1120_13 h (fun h => (xq_aload_n k_1120_19 rfl (xq_dupr k_1120_20 (xq_geti0 k_1120_21 rfl h (fun z10 h => (xq_iconst k_1120_22 (xq_iadd k_1120_23 (xq_put k_1120_24 rfl h (fun w11 h => (xq_aload_n k_1120_25 rfl (xq_invv2 k_1120_26 xr_1121 rfl rfl rfl h (fun z13 w12 h => (xq_if_ne k_1120_27 h (fun h => (xq_iconst k_1120_28 (xq_ireturn k_1120_29 h))) (fun h => (xq_aload_n k_1120_30 rfl (xq_iconst k_1120_31 (xq_iload_n k_1120_32 rfl (xq_invv0 k_1120_33 xr_1117 rfl rfl rfl h (fun w14 h => (xq_iconst k_1120_34 (xq_ireturn k_1120_35 h))))))))))))))))))))) (fun h => (xq_iload_n k_1120_14 rfl (xq_bipush k_1120_15 (xq_ic_eq k_1120_16 h (fun h => (xq_aload_n k_1120_19 rfl (xq_dupr k_1120_20 (xq_geti0 k_1120_21 rfl h (fun z15 h => (xq_iconst k_1120_22 (xq_iadd k_1120_23 (xq_put k_1120_24 rfl h (fun w16 h => (xq_aload_n k_1120_25 rfl (xq_invv2 k_1120_26 xr_1121 rfl rfl rfl h (fun z18 w17 h => (xq_if_ne k_1120_27 h (fun h => (xq_iconst k_1120_28 (xq_ireturn k_1120_29 h))) (fun h => (xq_aload_n k_1120_30 rfl (xq_iconst k_1120_31 (xq_iload_n k_1120_32 rfl (xq_invv0 k_1120_33 xr_1117 rfl rfl rfl h (fun w19 h => (xq_iconst k_1120_34 (xq_ireturn k_1120_35 h))))))))))))))))))))) (fun h => (xq_iconst k_1120_17 (xq_ireturn k_1120_18 h)))))))))))))))))))))))
/-- ShodBackwardsModel.sum()Z -/
theorem d_1121_0 : List.drop 0 xm_c1121 = xm_c1121 := rfl
theorem k_1121_0 : xm_gi xm_c1121 0 = some xm_e1121_0 := xm_gt d_1121_0
theorem d_1121_1 : List.drop 1 xm_c1121 = xm_c1121_1 := xm_dr d_1121_0
theorem k_1121_1 : xm_gi xm_c1121 1 = some xm_e1121_1 := xm_gt d_1121_1
theorem d_1121_2 : List.drop 2 xm_c1121 = xm_c1121_2 := xm_dr d_1121_1
theorem k_1121_2 : xm_gi xm_c1121 2 = some xm_e1121_2 := xm_gt d_1121_2
theorem d_1121_3 : List.drop 3 xm_c1121 = xm_c1121_3 := xm_dr d_1121_2
theorem k_1121_3 : xm_gi xm_c1121 3 = some xm_e1121_3 := xm_gt d_1121_3
theorem d_1121_4 : List.drop 4 xm_c1121 = xm_c1121_4 := xm_dr d_1121_3
theorem k_1121_4 : xm_gi xm_c1121 4 = some xm_e1121_4 := xm_gt d_1121_4
theorem d_1121_5 : List.drop 5 xm_c1121 = xm_c1121_5 := xm_dr d_1121_4
theorem k_1121_5 : xm_gi xm_c1121 5 = some xm_e1121_5 := xm_gt d_1121_5
theorem d_1121_6 : List.drop 6 xm_c1121 = xm_c1121_6 := xm_dr d_1121_5
theorem k_1121_6 : xm_gi xm_c1121 6 = some xm_e1121_6 := xm_gt d_1121_6
theorem d_1121_7 : List.drop 7 xm_c1121 = xm_c1121_7 := xm_dr d_1121_6
theorem k_1121_7 : xm_gi xm_c1121 7 = some xm_e1121_7 := xm_gt d_1121_7
theorem d_1121_8 : List.drop 8 xm_c1121 = xm_c1121_8 := xm_dr d_1121_7
theorem k_1121_8 : xm_gi xm_c1121 8 = some xm_e1121_8 := xm_gt d_1121_8
theorem d_1121_9 : List.drop 9 xm_c1121 = xm_c1121_9 := xm_dr d_1121_8
theorem k_1121_9 : xm_gi xm_c1121 9 = some xm_e1121_9 := xm_gt d_1121_9
theorem d_1121_10 : List.drop 10 xm_c1121 = xm_c1121_10 := xm_dr d_1121_9
theorem k_1121_10 : xm_gi xm_c1121 10 = some xm_e1121_10 := xm_gt d_1121_10
theorem d_1121_11 : List.drop 11 xm_c1121 = xm_c1121_11 := xm_dr d_1121_10
theorem k_1121_11 : xm_gi xm_c1121 11 = some xm_e1121_11 := xm_gt d_1121_11
theorem d_1121_12 : List.drop 12 xm_c1121 = xm_c1121_12 := xm_dr d_1121_11
theorem k_1121_12 : xm_gi xm_c1121 12 = some xm_e1121_12 := xm_gt d_1121_12
theorem d_1121_13 : List.drop 13 xm_c1121 = xm_c1121_13 := xm_dr d_1121_12
theorem k_1121_13 : xm_gi xm_c1121 13 = some xm_e1121_13 := xm_gt d_1121_13
theorem d_1121_14 : List.drop 14 xm_c1121 = xm_c1121_14 := xm_dr d_1121_13
theorem k_1121_14 : xm_gi xm_c1121 14 = some xm_e1121_14 := xm_gt d_1121_14
theorem d_1121_15 : List.drop 15 xm_c1121 = xm_c1121_15 := xm_dr d_1121_14
theorem k_1121_15 : xm_gi xm_c1121 15 = some xm_e1121_15 := xm_gt d_1121_15
theorem d_1121_16 : List.drop 16 xm_c1121 = xm_c1121_16 := xm_dr d_1121_15
theorem k_1121_16 : xm_gi xm_c1121 16 = some xm_e1121_16 := xm_gt d_1121_16
theorem d_1121_17 : List.drop 17 xm_c1121 = xm_c1121_17 := xm_dr d_1121_16
theorem k_1121_17 : xm_gi xm_c1121 17 = some xm_e1121_17 := xm_gt d_1121_17
theorem d_1121_18 : List.drop 18 xm_c1121 = xm_c1121_18 := xm_dr d_1121_17
theorem k_1121_18 : xm_gi xm_c1121 18 = some xm_e1121_18 := xm_gt d_1121_18
theorem d_1121_19 : List.drop 19 xm_c1121 = xm_c1121_19 := xm_dr d_1121_18
theorem k_1121_19 : xm_gi xm_c1121 19 = some xm_e1121_19 := xm_gt d_1121_19
theorem d_1121_20 : List.drop 20 xm_c1121 = xm_c1121_20 := xm_dr d_1121_19
theorem k_1121_20 : xm_gi xm_c1121 20 = some xm_e1121_20 := xm_gt d_1121_20
theorem d_1121_21 : List.drop 21 xm_c1121 = xm_c1121_21 := xm_dr d_1121_20
theorem k_1121_21 : xm_gi xm_c1121 21 = some xm_e1121_21 := xm_gt d_1121_21
theorem d_1121_22 : List.drop 22 xm_c1121 = xm_c1121_22 := xm_dr d_1121_21
theorem k_1121_22 : xm_gi xm_c1121 22 = some xm_e1121_22 := xm_gt d_1121_22
theorem d_1121_23 : List.drop 23 xm_c1121 = xm_c1121_23 := xm_dr d_1121_22
theorem k_1121_23 : xm_gi xm_c1121 23 = some xm_e1121_23 := xm_gt d_1121_23
theorem d_1121_24 : List.drop 24 xm_c1121 = xm_c1121_24 := xm_dr d_1121_23
theorem k_1121_24 : xm_gi xm_c1121 24 = some xm_e1121_24 := xm_gt d_1121_24
theorem d_1121_25 : List.drop 25 xm_c1121 = xm_c1121_25 := xm_dr d_1121_24
theorem k_1121_25 : xm_gi xm_c1121 25 = some xm_e1121_25 := xm_gt d_1121_25
theorem d_1121_26 : List.drop 26 xm_c1121 = xm_c1121_26 := xm_dr d_1121_25
theorem k_1121_26 : xm_gi xm_c1121 26 = some xm_e1121_26 := xm_gt d_1121_26
theorem d_1121_27 : List.drop 27 xm_c1121 = xm_c1121_27 := xm_dr d_1121_26
theorem k_1121_27 : xm_gi xm_c1121 27 = some xm_e1121_27 := xm_gt d_1121_27
theorem d_1121_28 : List.drop 28 xm_c1121 = xm_c1121_28 := xm_dr d_1121_27
theorem k_1121_28 : xm_gi xm_c1121 28 = some xm_e1121_28 := xm_gt d_1121_28
theorem d_1121_29 : List.drop 29 xm_c1121 = xm_c1121_29 := xm_dr d_1121_28
theorem k_1121_29 : xm_gi xm_c1121 29 = some xm_e1121_29 := xm_gt d_1121_29
theorem d_1121_30 : List.drop 30 xm_c1121 = xm_c1121_30 := xm_dr d_1121_29
theorem k_1121_30 : xm_gi xm_c1121 30 = some xm_e1121_30 := xm_gt d_1121_30
theorem d_1121_31 : List.drop 31 xm_c1121 = xm_c1121_31 := xm_dr d_1121_30
theorem k_1121_31 : xm_gi xm_c1121 31 = some xm_e1121_31 := xm_gt d_1121_31
theorem d_1121_32 : List.drop 32 xm_c1121 = xm_c1121_32 := xm_dr d_1121_31
theorem k_1121_32 : xm_gi xm_c1121 32 = some xm_e1121_32 := xm_gt d_1121_32
theorem d_1121_33 : List.drop 33 xm_c1121 = xm_c1121_33 := xm_dr d_1121_32
theorem k_1121_33 : xm_gi xm_c1121 33 = some xm_e1121_33 := xm_gt d_1121_33
theorem xb_1121_0 {sc : List Int} {f : Nat → List xm_V → xm_W → xm_R} {w : xm_W} {Q : Option xm_V × xm_W → Prop} {x0 : Nat}
  (h : xm_Oi (f 1122 [.inr (.inl (some x0))] w) (fun z2 w1 => if (z2 : Int) = 0 then (Q (some (.inl 0), w1)) else (xm_EQ (xm_old sc) xm_sta f xm_c1121 5 [some (.inr (.inl (some x0))), none] [] w1 Q))) :
  xm_EQ (xm_old sc) xm_sta f xm_c1121 0 [some (.inr (.inl (some x0))), none] [] w Q :=
  (xq_aload_n k_1121_0 rfl (xq_invv2 k_1121_1 xr_1122 rfl rfl rfl h (fun z2 w1 h => (xq_if_ne k_1121_2 h (fun h => (xq_iconst k_1121_3 (xq_ireturn k_1121_4 h))) (fun h => h)))))
theorem xb_1121_5 {sc : List Int} {f : Nat → List xm_V → xm_W → xm_R} {w : xm_W} {Q : Option xm_V × xm_W → Prop} {x0 : Nat} {u1 : Option xm_V}
  (h : xm_Oi (f 1115 [.inr (.inl (some x0))] w) (fun z2 w1 => if (z2 : Int) = 43 then (xm_Oi (f 1115 [.inr (.inl (some x0))] w1) (fun z4 w3 => xm_O (xm_fi (xm_old sc) w3 x0 9 6) (fun z5 => xm_O (xm_setf w3 x0 9 6 0 (.inl (xm_w (z5 + 1)))) (fun w6 => xm_Oi (f 1122 [.inr (.inl (some x0))] w6) (fun z8 w7 => if (z8 : Int) = 0 then (Q (some (.inl 0), w7)) else (xm_Ov (f 1117 [.inr (.inl (some x0)), .inl 3, .inl z4] w7) (fun w9 => xm_EQ (xm_old sc) xm_sta f xm_c1121 5 [some (.inr (.inl (some x0))), some (.inl z4)] [] w9 Q))))))) else (xm_Oi (f 1115 [.inr (.inl (some x0))] w1) (fun z11 w10 => if (z11 : Int) = 45 then (xm_Oi (f 1115 [.inr (.inl (some x0))] w10) (fun z13 w12 => xm_O (xm_fi (xm_old sc) w12 x0 9 6) (fun z14 => xm_O (xm_setf w12 x0 9 6 0 (.inl (xm_w (z14 + 1)))) (fun w15 => xm_Oi (f 1122 [.inr (.inl (some x0))] w15) (fun z17 w16 => if (z17 : Int) = 0 then (Q (some (.inl 0), w16)) else (xm_Ov (f 1117 [.inr (.inl (some x0)), .inl 3, .inl z13] w16) (fun w18 => xm_EQ (xm_old sc) xm_sta f xm_c1121 5 [some (.inr (.inl (some x0))), some (.inl z13)] [] w18 Q))))))) else (Q (some (.inl 1), w10)))))) :
  xm_EQ (xm_old sc) xm_sta f xm_c1121 5 [some (.inr (.inl (some x0))), u1] [] w Q :=
  (xq_aload_n k_1121_5 rfl (xq_invv1 k_1121_6 xr_1115 rfl rfl rfl h (fun z2 w1 h => (xq_bipush k_1121_7 (xq_ic_eq k_1121_8 h (fun h => (xq_aload_n k_1121_13 rfl (xq_invv1 k_1121_14 xr_1115 rfl rfl rfl h (fun z4 w3 h => (xq_istore_n k_1121_15 rfl (xq_aload_n k_1121_16 rfl (xq_dupr k_1121_17 (xq_geti0 k_1121_18 rfl h (fun z5 h => (xq_iconst k_1121_19 (xq_iadd k_1121_20 (xq_put k_1121_21 rfl h (fun w6 h => (xq_aload_n k_1121_22 rfl (xq_invv2 k_1121_23 xr_1122 rfl rfl rfl h (fun z8 w7 h => (xq_if_ne k_1121_24 h (fun h => (xq_iconst k_1121_25 (xq_ireturn k_1121_26 h))) (fun h => (xq_aload_n k_1121_27 rfl (xq_iconst k_1121_28 (xq_iload_n k_1121_29 rfl (xq_invv0 k_1121_30 xr_1117 rfl rfl rfl h (fun w9 h => (xq_goto k_1121_31 h)))))))))))))))))))))))) (fun h => (xq_aload_n k_1121_9 rfl (xq_invv1 k_1121_10 xr_1115 rfl rfl rfl h (fun z11 w10 h => (xq_bipush k_1121_11 (xq_ic_ne k_1121_12 h (fun h => (xq_aload_n k_1121_13 rfl (xq_invv1 k_1121_14 xr_1115 rfl rfl rfl h (fun z13 w12 h => (xq_istore_n k_1121_15 rfl (xq_aload_n k_1121_16 rfl (xq_dupr k_1121_17 (xq_geti0 k_1121_18 rfl h (fun z14 h => (xq_iconst k_1121_19 (xq_iadd k_1121_20 (xq_put k_1121_21 rfl h (fun w15 h => (xq_aload_n k_1121_22 rfl (xq_invv2 k_1121_23 xr_1122 rfl rfl rfl h (fun z17 w16 h => (xq_if_ne k_1121_24 h (fun h => (xq_iconst k_1121_25 (xq_ireturn k_1121_26 h))) (fun h => (xq_aload_n k_1121_27 rfl (xq_iconst k_1121_28 (xq_iload_n k_1121_29 rfl (xq_invv0 k_1121_30 xr_1117 rfl rfl rfl h (fun w18 h => (xq_goto k_1121_31 h)))))))))))))))))))))))) (fun h => (xq_iconst k_1121_32 (xq_ireturn k_1121_33 h))))))))))))))
/-- ShodBackwardsModel.product()Z -/
theorem d_1122_0 : List.drop 0 xm_c1122 = xm_c1122 := rfl
theorem k_1122_0 : xm_gi xm_c1122 0 = some xm_e1122_0 := xm_gt d_1122_0
theorem d_1122_1 : List.drop 1 xm_c1122 = xm_c1122_1 := xm_dr d_1122_0
theorem k_1122_1 : xm_gi xm_c1122 1 = some xm_e1122_1 := xm_gt d_1122_1
theorem d_1122_2 : List.drop 2 xm_c1122 = xm_c1122_2 := xm_dr d_1122_1
theorem k_1122_2 : xm_gi xm_c1122 2 = some xm_e1122_2 := xm_gt d_1122_2
theorem d_1122_3 : List.drop 3 xm_c1122 = xm_c1122_3 := xm_dr d_1122_2
theorem k_1122_3 : xm_gi xm_c1122 3 = some xm_e1122_3 := xm_gt d_1122_3
theorem d_1122_4 : List.drop 4 xm_c1122 = xm_c1122_4 := xm_dr d_1122_3
theorem k_1122_4 : xm_gi xm_c1122 4 = some xm_e1122_4 := xm_gt d_1122_4
theorem d_1122_5 : List.drop 5 xm_c1122 = xm_c1122_5 := xm_dr d_1122_4
theorem k_1122_5 : xm_gi xm_c1122 5 = some xm_e1122_5 := xm_gt d_1122_5
theorem d_1122_6 : List.drop 6 xm_c1122 = xm_c1122_6 := xm_dr d_1122_5
theorem k_1122_6 : xm_gi xm_c1122 6 = some xm_e1122_6 := xm_gt d_1122_6
theorem d_1122_7 : List.drop 7 xm_c1122 = xm_c1122_7 := xm_dr d_1122_6
theorem k_1122_7 : xm_gi xm_c1122 7 = some xm_e1122_7 := xm_gt d_1122_7
theorem d_1122_8 : List.drop 8 xm_c1122 = xm_c1122_8 := xm_dr d_1122_7
theorem k_1122_8 : xm_gi xm_c1122 8 = some xm_e1122_8 := xm_gt d_1122_8
theorem d_1122_9 : List.drop 9 xm_c1122 = xm_c1122_9 := xm_dr d_1122_8
theorem k_1122_9 : xm_gi xm_c1122 9 = some xm_e1122_9 := xm_gt d_1122_9
theorem d_1122_10 : List.drop 10 xm_c1122 = xm_c1122_10 := xm_dr d_1122_9
theorem k_1122_10 : xm_gi xm_c1122 10 = some xm_e1122_10 := xm_gt d_1122_10
theorem d_1122_11 : List.drop 11 xm_c1122 = xm_c1122_11 := xm_dr d_1122_10
theorem k_1122_11 : xm_gi xm_c1122 11 = some xm_e1122_11 := xm_gt d_1122_11
theorem d_1122_12 : List.drop 12 xm_c1122 = xm_c1122_12 := xm_dr d_1122_11
theorem k_1122_12 : xm_gi xm_c1122 12 = some xm_e1122_12 := xm_gt d_1122_12
theorem d_1122_13 : List.drop 13 xm_c1122 = xm_c1122_13 := xm_dr d_1122_12
theorem k_1122_13 : xm_gi xm_c1122 13 = some xm_e1122_13 := xm_gt d_1122_13
theorem d_1122_14 : List.drop 14 xm_c1122 = xm_c1122_14 := xm_dr d_1122_13
theorem k_1122_14 : xm_gi xm_c1122 14 = some xm_e1122_14 := xm_gt d_1122_14
theorem d_1122_15 : List.drop 15 xm_c1122 = xm_c1122_15 := xm_dr d_1122_14
theorem k_1122_15 : xm_gi xm_c1122 15 = some xm_e1122_15 := xm_gt d_1122_15
theorem d_1122_16 : List.drop 16 xm_c1122 = xm_c1122_16 := xm_dr d_1122_15
theorem k_1122_16 : xm_gi xm_c1122 16 = some xm_e1122_16 := xm_gt d_1122_16
theorem d_1122_17 : List.drop 17 xm_c1122 = xm_c1122_17 := xm_dr d_1122_16
theorem k_1122_17 : xm_gi xm_c1122 17 = some xm_e1122_17 := xm_gt d_1122_17
theorem d_1122_18 : List.drop 18 xm_c1122 = xm_c1122_18 := xm_dr d_1122_17
theorem k_1122_18 : xm_gi xm_c1122 18 = some xm_e1122_18 := xm_gt d_1122_18
theorem d_1122_19 : List.drop 19 xm_c1122 = xm_c1122_19 := xm_dr d_1122_18
theorem k_1122_19 : xm_gi xm_c1122 19 = some xm_e1122_19 := xm_gt d_1122_19
theorem d_1122_20 : List.drop 20 xm_c1122 = xm_c1122_20 := xm_dr d_1122_19
theorem k_1122_20 : xm_gi xm_c1122 20 = some xm_e1122_20 := xm_gt d_1122_20
theorem d_1122_21 : List.drop 21 xm_c1122 = xm_c1122_21 := xm_dr d_1122_20
theorem k_1122_21 : xm_gi xm_c1122 21 = some xm_e1122_21 := xm_gt d_1122_21
theorem d_1122_22 : List.drop 22 xm_c1122 = xm_c1122_22 := xm_dr d_1122_21
theorem k_1122_22 : xm_gi xm_c1122 22 = some xm_e1122_22 := xm_gt d_1122_22
theorem d_1122_23 : List.drop 23 xm_c1122 = xm_c1122_23 := xm_dr d_1122_22
theorem k_1122_23 : xm_gi xm_c1122 23 = some xm_e1122_23 := xm_gt d_1122_23
theorem d_1122_24 : List.drop 24 xm_c1122 = xm_c1122_24 := xm_dr d_1122_23
theorem k_1122_24 : xm_gi xm_c1122 24 = some xm_e1122_24 := xm_gt d_1122_24
theorem d_1122_25 : List.drop 25 xm_c1122 = xm_c1122_25 := xm_dr d_1122_24
theorem k_1122_25 : xm_gi xm_c1122 25 = some xm_e1122_25 := xm_gt d_1122_25
theorem d_1122_26 : List.drop 26 xm_c1122 = xm_c1122_26 := xm_dr d_1122_25
theorem k_1122_26 : xm_gi xm_c1122 26 = some xm_e1122_26 := xm_gt d_1122_26
theorem d_1122_27 : List.drop 27 xm_c1122 = xm_c1122_27 := xm_dr d_1122_26
theorem k_1122_27 : xm_gi xm_c1122 27 = some xm_e1122_27 := xm_gt d_1122_27
theorem d_1122_28 : List.drop 28 xm_c1122 = xm_c1122_28 := xm_dr d_1122_27
theorem k_1122_28 : xm_gi xm_c1122 28 = some xm_e1122_28 := xm_gt d_1122_28
theorem d_1122_29 : List.drop 29 xm_c1122 = xm_c1122_29 := xm_dr d_1122_28
theorem k_1122_29 : xm_gi xm_c1122 29 = some xm_e1122_29 := xm_gt d_1122_29
theorem d_1122_30 : List.drop 30 xm_c1122 = xm_c1122_30 := xm_dr d_1122_29
theorem k_1122_30 : xm_gi xm_c1122 30 = some xm_e1122_30 := xm_gt d_1122_30
theorem d_1122_31 : List.drop 31 xm_c1122 = xm_c1122_31 := xm_dr d_1122_30
theorem k_1122_31 : xm_gi xm_c1122 31 = some xm_e1122_31 := xm_gt d_1122_31
theorem d_1122_32 : List.drop 32 xm_c1122 = xm_c1122_32 := xm_dr d_1122_31
theorem k_1122_32 : xm_gi xm_c1122 32 = some xm_e1122_32 := xm_gt d_1122_32
theorem d_1122_33 : List.drop 33 xm_c1122 = xm_c1122_33 := xm_dr d_1122_32
theorem k_1122_33 : xm_gi xm_c1122 33 = some xm_e1122_33 := xm_gt d_1122_33
theorem d_1122_34 : List.drop 34 xm_c1122 = xm_c1122_34 := xm_dr d_1122_33
theorem k_1122_34 : xm_gi xm_c1122 34 = some xm_e1122_34 := xm_gt d_1122_34
theorem d_1122_35 : List.drop 35 xm_c1122 = xm_c1122_35 := xm_dr d_1122_34
theorem k_1122_35 : xm_gi xm_c1122 35 = some xm_e1122_35 := xm_gt d_1122_35
theorem d_1122_36 : List.drop 36 xm_c1122 = xm_c1122_36 := xm_dr d_1122_35
theorem k_1122_36 : xm_gi xm_c1122 36 = some xm_e1122_36 := xm_gt d_1122_36
theorem d_1122_37 : List.drop 37 xm_c1122 = xm_c1122_37 := xm_dr d_1122_36
theorem k_1122_37 : xm_gi xm_c1122 37 = some xm_e1122_37 := xm_gt d_1122_37
theorem xb_1122_0 {sc : List Int} {f : Nat → List xm_V → xm_W → xm_R} {w : xm_W} {Q : Option xm_V × xm_W → Prop} {x0 : Nat}
  (h : xm_Oi (f 1124 [.inr (.inl (some x0))] w) (fun z2 w1 => if (z2 : Int) = 0 then (Q (some (.inl 0), w1)) else (xm_EQ (xm_old sc) xm_sta f xm_c1122 5 [some (.inr (.inl (some x0))), none] [] w1 Q))) :
  xm_EQ (xm_old sc) xm_sta f xm_c1122 0 [some (.inr (.inl (some x0))), none] [] w Q :=
  (xq_aload_n k_1122_0 rfl (xq_invv2 k_1122_1 xr_1124 rfl rfl rfl h (fun z2 w1 h => (xq_if_ne k_1122_2 h (fun h => (xq_iconst k_1122_3 (xq_ireturn k_1122_4 h))) (fun h => h)))))
theorem xb_1122_5 {sc : List Int} {f : Nat → List xm_V → xm_W → xm_R} {w : xm_W} {Q : Option xm_V × xm_W → Prop} {x0 : Nat} {u1 : Option xm_V}
  (h : xm_Oi (f 1115 [.inr (.inl (some x0))] w) (fun z2 w1 => if (z2 : Int) = 42 then (xm_Oi (f 1115 [.inr (.inl (some x0))] w1) (fun z4 w3 => xm_O (xm_fi (xm_old sc) w3 x0 9 6) (fun z5 => xm_O (xm_setf w3 x0 9 6 0 (.inl (xm_w (z5 + 1)))) (fun w6 => xm_Oi (f 1124 [.inr (.inl (some x0))] w6) (fun z8 w7 => if (z8 : Int) = 0 then (Q (some (.inl 0), w7)) else (xm_Ov (f 1117 [.inr (.inl (some x0)), .inl 3, .inl z4] w7) (fun w9 => xm_EQ (xm_old sc) xm_sta f xm_c1122 5 [some (.inr (.inl (some x0))), some (.inl z4)] [] w9 Q))))))) else (xm_Oi (f 1115 [.inr (.inl (some x0))] w1) (fun z11 w10 => if (z11 : Int) = 47 then (xm_Oi (f 1115 [.inr (.inl (some x0))] w10) (fun z13 w12 => xm_O (xm_fi (xm_old sc) w12 x0 9 6) (fun z14 => xm_O (xm_setf w12 x0 9 6 0 (.inl (xm_w (z14 + 1)))) (fun w15 => xm_Oi (f 1124 [.inr (.inl (some x0))] w15) (fun z17 w16 => if (z17 : Int) = 0 then (Q (some (.inl 0), w16)) else (xm_Ov (f 1117 [.inr (.inl (some x0)), .inl 3, .inl z13] w16) (fun w18 => xm_EQ (xm_old sc) xm_sta f xm_c1122 5 [some (.inr (.inl (some x0))), some (.inl z13)] [] w18 Q))))))) else (xm_Oi (f 1115 [.inr (.inl (some x0))] w10) (fun z20 w19 => if (z20 : Int) = 37 then (xm_Oi (f 1115 [.inr (.inl (some x0))] w19) (fun z22 w21 => xm_O (xm_fi (xm_old sc) w21 x0 9 6) (fun z23 => xm_O (xm_setf w21 x0 9 6 0 (.inl (xm_w (z23 + 1)))) (fun w24 => xm_Oi (f 1124 [.inr (.inl (some x0))] w24) (fun z26 w25 => if (z26 : Int) = 0 then (Q (some (.inl 0), w25)) else (xm_Ov (f 1117 [.inr (.inl (some x0)), .inl 3, .inl z22] w25) (fun w27 => xm_EQ (xm_old sc) xm_sta f xm_c1122 5 [some (.inr (.inl (some x0))), some (.inl z22)] [] w27 Q))))))) else (Q (some (.inl 1), w19)))))))) :
  xm_EQ (xm_old sc) xm_sta f xm_c1122 5 [some (.inr (.inl (some x0))), u1] [] w Q :=
  (xq_aload_n k_1122_5 rfl (xq_invv1 k_1122_6 xr_1115 rfl rfl rfl h (fun z2 w1 h => (xq_bipush k_1122_7 (xq_ic_eq k_1122_8 h (fun h => (xq_aload_n k_1122_17 rfl (xq_invv1 k_1122_18 xr_1115 rfl rfl rfl h (fun z4 w3 h => (xq_istore_n k_1122_19 rfl (xq_aload_n k_1122_20 rfl (xq_dupr k_1122_21 (xq_geti0 k_1122_22 rfl h (fun z5 h => (xq_iconst k_1122_23 (xq_iadd k_1122_24 (xq_put k_1122_25 rfl h (fun w6 h => (xq_aload_n k_1122_26 rfl (xq_invv2 k_1122_27 xr_1124 rfl rfl rfl h (fun z8 w7 h => (xq_if_ne k_1122_28 h (fun h => (xq_iconst k_1122_29 (xq_ireturn k_1122_30 h))) (fun h => (xq_aload_n k_1122_31 rfl (xq_iconst k_1122_32 (xq_iload_n k_1122_33 rfl (xq_invv0 k_1122_34 xr_1117 rfl rfl rfl h (fun w9 h => (xq_goto k_1122_35 h)))))))))))))))))))))))) (fun h => (xq_aload_n k_1122_9 rfl (xq_invv1 k_1122_10 xr_1115 rfl rfl rfl h (fun z11 w10 h => (xq_bipush k_1122_11 (xq_ic_eq k_1122_12 h (fun h => (xq_aload_n k_1122_17 rfl (xq_invv1 k_1122_18 xr_1115 rfl rfl rfl h (fun z13 w12 h => (xq_istore_n k_1122_19 rfl (xq_aload_n k_1122_20 rfl (xq_dupr k_1122_21 (xq_geti0 k_1122_22 rfl h (fun z14 h => (xq_iconst k_1122_23 (xq_iadd k_1122_24 (xq_put k_1122_25 rfl h (fun w15 h => (xq_aload_n k_1122_26 rfl (xq_invv2 k_1122_27 xr_1124 rfl rfl rfl h (fun z17 w16 h => (xq_if_ne k_1122_28 h (fun h => (xq_iconst k_1122_29 (xq_ireturn k_1122_30 h))) (fun h => (xq_aload_n k_1122_31 rfl (xq_iconst k_1122_32 (xq_iload_n k_1122_33 rfl (xq_invv0 k_1122_34 xr_1117 rfl rfl rfl h (fun w18 h => (xq_goto k_1122_35 h)))))))))))))))))))))))) (fun h => (xq_aload_n k_1122_13 rfl (xq_invv1 k_1122_14 xr_1115 rfl rfl rfl h (fun z20 w19 h => (xq_bipush k_1122_15 (xq_ic_ne k_1122_16 h (fun h => (xq_aload_n k_1122_17 rfl (xq_invv1 k_1122_18 xr_1115 rfl rfl rfl h (fun z22 w21 h => (xq_istore_n k_1122_19 rfl (xq_aload_n k_1122_20 rfl (xq_dupr k_1122_21 (xq_geti0 k_1122_22 rfl h (fun z23 h => (xq_iconst k_1122_23 (xq_iadd k_1122_24 (xq_put k_1122_25 rfl h (fun w24 h => (xq_aload_n k_1122_26 rfl (xq_invv2 k_1122_27 xr_1124 rfl rfl rfl h (fun z26 w25 h => (xq_if_ne k_1122_28 h (fun h => (xq_iconst k_1122_29 (xq_ireturn k_1122_30 h))) (fun h => (xq_aload_n k_1122_31 rfl (xq_iconst k_1122_32 (xq_iload_n k_1122_33 rfl (xq_invv0 k_1122_34 xr_1117 rfl rfl rfl h (fun w27 h => (xq_goto k_1122_35 h)))))))))))))))))))))))) (fun h => (xq_iconst k_1122_36 (xq_ireturn k_1122_37 h))))))))))))))))))))
/-- ShodBackwardsModel.opens()Z -/
theorem d_1123_0 : List.drop 0 xm_c1123 = xm_c1123 := rfl
theorem k_1123_0 : xm_gi xm_c1123 0 = some xm_e1123_0 := xm_gt d_1123_0
theorem d_1123_1 : List.drop 1 xm_c1123 = xm_c1123_1 := xm_dr d_1123_0
theorem k_1123_1 : xm_gi xm_c1123 1 = some xm_e1123_1 := xm_gt d_1123_1
theorem d_1123_2 : List.drop 2 xm_c1123 = xm_c1123_2 := xm_dr d_1123_1
theorem k_1123_2 : xm_gi xm_c1123 2 = some xm_e1123_2 := xm_gt d_1123_2
theorem d_1123_3 : List.drop 3 xm_c1123 = xm_c1123_3 := xm_dr d_1123_2
theorem k_1123_3 : xm_gi xm_c1123 3 = some xm_e1123_3 := xm_gt d_1123_3
theorem d_1123_4 : List.drop 4 xm_c1123 = xm_c1123_4 := xm_dr d_1123_3
theorem k_1123_4 : xm_gi xm_c1123 4 = some xm_e1123_4 := xm_gt d_1123_4
theorem d_1123_5 : List.drop 5 xm_c1123 = xm_c1123_5 := xm_dr d_1123_4
theorem k_1123_5 : xm_gi xm_c1123 5 = some xm_e1123_5 := xm_gt d_1123_5
theorem d_1123_6 : List.drop 6 xm_c1123 = xm_c1123_6 := xm_dr d_1123_5
theorem k_1123_6 : xm_gi xm_c1123 6 = some xm_e1123_6 := xm_gt d_1123_6
theorem d_1123_7 : List.drop 7 xm_c1123 = xm_c1123_7 := xm_dr d_1123_6
theorem k_1123_7 : xm_gi xm_c1123 7 = some xm_e1123_7 := xm_gt d_1123_7
theorem d_1123_8 : List.drop 8 xm_c1123 = xm_c1123_8 := xm_dr d_1123_7
theorem k_1123_8 : xm_gi xm_c1123 8 = some xm_e1123_8 := xm_gt d_1123_8
theorem d_1123_9 : List.drop 9 xm_c1123 = xm_c1123_9 := xm_dr d_1123_8
theorem k_1123_9 : xm_gi xm_c1123 9 = some xm_e1123_9 := xm_gt d_1123_9
theorem d_1123_10 : List.drop 10 xm_c1123 = xm_c1123_10 := xm_dr d_1123_9
theorem k_1123_10 : xm_gi xm_c1123 10 = some xm_e1123_10 := xm_gt d_1123_10
theorem d_1123_11 : List.drop 11 xm_c1123 = xm_c1123_11 := xm_dr d_1123_10
theorem k_1123_11 : xm_gi xm_c1123 11 = some xm_e1123_11 := xm_gt d_1123_11
theorem d_1123_12 : List.drop 12 xm_c1123 = xm_c1123_12 := xm_dr d_1123_11
theorem k_1123_12 : xm_gi xm_c1123 12 = some xm_e1123_12 := xm_gt d_1123_12
theorem d_1123_13 : List.drop 13 xm_c1123 = xm_c1123_13 := xm_dr d_1123_12
theorem k_1123_13 : xm_gi xm_c1123 13 = some xm_e1123_13 := xm_gt d_1123_13
theorem d_1123_14 : List.drop 14 xm_c1123 = xm_c1123_14 := xm_dr d_1123_13
theorem k_1123_14 : xm_gi xm_c1123 14 = some xm_e1123_14 := xm_gt d_1123_14
theorem d_1123_15 : List.drop 15 xm_c1123 = xm_c1123_15 := xm_dr d_1123_14
theorem k_1123_15 : xm_gi xm_c1123 15 = some xm_e1123_15 := xm_gt d_1123_15
theorem d_1123_16 : List.drop 16 xm_c1123 = xm_c1123_16 := xm_dr d_1123_15
theorem k_1123_16 : xm_gi xm_c1123 16 = some xm_e1123_16 := xm_gt d_1123_16
theorem d_1123_17 : List.drop 17 xm_c1123 = xm_c1123_17 := xm_dr d_1123_16
theorem k_1123_17 : xm_gi xm_c1123 17 = some xm_e1123_17 := xm_gt d_1123_17
theorem d_1123_18 : List.drop 18 xm_c1123 = xm_c1123_18 := xm_dr d_1123_17
theorem k_1123_18 : xm_gi xm_c1123 18 = some xm_e1123_18 := xm_gt d_1123_18
theorem d_1123_19 : List.drop 19 xm_c1123 = xm_c1123_19 := xm_dr d_1123_18
theorem k_1123_19 : xm_gi xm_c1123 19 = some xm_e1123_19 := xm_gt d_1123_19
theorem xb_1123_0 {sc : List Int} {f : Nat → List xm_V → xm_W → xm_R} {w : xm_W} {Q : Option xm_V × xm_W → Prop} {x0 : Nat}
  (h : xm_O (xm_fi (xm_old sc) w x0 9 7) (fun z1 => if (z1 : Int) = 5 then (Q (some (.inl 0), w)) else (xm_O (xm_fi (xm_old sc) w x0 9 7) (fun z2 => xm_O (xm_setf w x0 9 7 0 (.inl (xm_w (z2 + 1)))) (fun w3 => xm_O (xm_fi (xm_old sc) w3 x0 9 6) (fun z4 => xm_O (xm_setf w3 x0 9 6 0 (.inl (xm_w (z4 + 1)))) (fun w5 => Q (some (.inl 1), w5)))))))) :
  xm_EQ (xm_old sc) xm_sta f xm_c1123 0 [some (.inr (.inl (some x0)))] [] w Q :=
  (xq_aload_n k_1123_0 rfl (xq_geti0 k_1123_1 rfl h (fun z1 h => (xq_iconst k_1123_2 (xq_ic_ne k_1123_3 h (fun h => (xq_iconst k_1123_4 (xq_ireturn k_1123_5 h))) (fun h => (xq_aload_n k_1123_6 rfl (xq_dupr k_1123_7 (xq_geti0 k_1123_8 rfl h (fun z2 h => (xq_iconst k_1123_9 (xq_iadd k_1123_10 (xq_put k_1123_11 rfl h (fun w3 h => (xq_aload_n k_1123_12 rfl (xq_dupr k_1123_13 (xq_geti0 k_1123_14 rfl h (fun z4 h => (xq_iconst k_1123_15 (xq_iadd k_1123_16 (xq_put k_1123_17 rfl h (fun w5 h => (xq_iconst k_1123_18 (xq_ireturn k_1123_19 h))))))))))))))))))))))))
/-- ShodBackwardsModel.one()Z -/
theorem d_1124_0 : List.drop 0 xm_c1124 = xm_c1124 := rfl
theorem k_1124_0 : xm_gi xm_c1124 0 = some xm_e1124_0 := xm_gt d_1124_0
theorem d_1124_1 : List.drop 1 xm_c1124 = xm_c1124_1 := xm_dr d_1124_0
theorem k_1124_1 : xm_gi xm_c1124 1 = some xm_e1124_1 := xm_gt d_1124_1
theorem d_1124_2 : List.drop 2 xm_c1124 = xm_c1124_2 := xm_dr d_1124_1
theorem k_1124_2 : xm_gi xm_c1124 2 = some xm_e1124_2 := xm_gt d_1124_2
theorem d_1124_3 : List.drop 3 xm_c1124 = xm_c1124_3 := xm_dr d_1124_2
theorem k_1124_3 : xm_gi xm_c1124 3 = some xm_e1124_3 := xm_gt d_1124_3
theorem d_1124_4 : List.drop 4 xm_c1124 = xm_c1124_4 := xm_dr d_1124_3
theorem k_1124_4 : xm_gi xm_c1124 4 = some xm_e1124_4 := xm_gt d_1124_4
theorem d_1124_5 : List.drop 5 xm_c1124 = xm_c1124_5 := xm_dr d_1124_4
theorem k_1124_5 : xm_gi xm_c1124 5 = some xm_e1124_5 := xm_gt d_1124_5
theorem d_1124_6 : List.drop 6 xm_c1124 = xm_c1124_6 := xm_dr d_1124_5
theorem k_1124_6 : xm_gi xm_c1124 6 = some xm_e1124_6 := xm_gt d_1124_6
theorem d_1124_7 : List.drop 7 xm_c1124 = xm_c1124_7 := xm_dr d_1124_6
theorem k_1124_7 : xm_gi xm_c1124 7 = some xm_e1124_7 := xm_gt d_1124_7
theorem d_1124_8 : List.drop 8 xm_c1124 = xm_c1124_8 := xm_dr d_1124_7
theorem k_1124_8 : xm_gi xm_c1124 8 = some xm_e1124_8 := xm_gt d_1124_8
theorem d_1124_9 : List.drop 9 xm_c1124 = xm_c1124_9 := xm_dr d_1124_8
theorem k_1124_9 : xm_gi xm_c1124 9 = some xm_e1124_9 := xm_gt d_1124_9
theorem d_1124_10 : List.drop 10 xm_c1124 = xm_c1124_10 := xm_dr d_1124_9
theorem k_1124_10 : xm_gi xm_c1124 10 = some xm_e1124_10 := xm_gt d_1124_10
theorem d_1124_11 : List.drop 11 xm_c1124 = xm_c1124_11 := xm_dr d_1124_10
theorem k_1124_11 : xm_gi xm_c1124 11 = some xm_e1124_11 := xm_gt d_1124_11
theorem d_1124_12 : List.drop 12 xm_c1124 = xm_c1124_12 := xm_dr d_1124_11
theorem k_1124_12 : xm_gi xm_c1124 12 = some xm_e1124_12 := xm_gt d_1124_12
theorem d_1124_13 : List.drop 13 xm_c1124 = xm_c1124_13 := xm_dr d_1124_12
theorem k_1124_13 : xm_gi xm_c1124 13 = some xm_e1124_13 := xm_gt d_1124_13
theorem d_1124_14 : List.drop 14 xm_c1124 = xm_c1124_14 := xm_dr d_1124_13
theorem k_1124_14 : xm_gi xm_c1124 14 = some xm_e1124_14 := xm_gt d_1124_14
theorem d_1124_15 : List.drop 15 xm_c1124 = xm_c1124_15 := xm_dr d_1124_14
theorem k_1124_15 : xm_gi xm_c1124 15 = some xm_e1124_15 := xm_gt d_1124_15
theorem d_1124_16 : List.drop 16 xm_c1124 = xm_c1124_16 := xm_dr d_1124_15
theorem k_1124_16 : xm_gi xm_c1124 16 = some xm_e1124_16 := xm_gt d_1124_16
theorem d_1124_17 : List.drop 17 xm_c1124 = xm_c1124_17 := xm_dr d_1124_16
theorem k_1124_17 : xm_gi xm_c1124 17 = some xm_e1124_17 := xm_gt d_1124_17
theorem d_1124_18 : List.drop 18 xm_c1124 = xm_c1124_18 := xm_dr d_1124_17
theorem k_1124_18 : xm_gi xm_c1124 18 = some xm_e1124_18 := xm_gt d_1124_18
theorem d_1124_19 : List.drop 19 xm_c1124 = xm_c1124_19 := xm_dr d_1124_18
theorem k_1124_19 : xm_gi xm_c1124 19 = some xm_e1124_19 := xm_gt d_1124_19
theorem d_1124_20 : List.drop 20 xm_c1124 = xm_c1124_20 := xm_dr d_1124_19
theorem k_1124_20 : xm_gi xm_c1124 20 = some xm_e1124_20 := xm_gt d_1124_20
theorem d_1124_21 : List.drop 21 xm_c1124 = xm_c1124_21 := xm_dr d_1124_20
theorem k_1124_21 : xm_gi xm_c1124 21 = some xm_e1124_21 := xm_gt d_1124_21
theorem d_1124_22 : List.drop 22 xm_c1124 = xm_c1124_22 := xm_dr d_1124_21
theorem k_1124_22 : xm_gi xm_c1124 22 = some xm_e1124_22 := xm_gt d_1124_22
theorem d_1124_23 : List.drop 23 xm_c1124 = xm_c1124_23 := xm_dr d_1124_22
theorem k_1124_23 : xm_gi xm_c1124 23 = some xm_e1124_23 := xm_gt d_1124_23
theorem d_1124_24 : List.drop 24 xm_c1124 = xm_c1124_24 := xm_dr d_1124_23
theorem k_1124_24 : xm_gi xm_c1124 24 = some xm_e1124_24 := xm_gt d_1124_24
theorem d_1124_25 : List.drop 25 xm_c1124 = xm_c1124_25 := xm_dr d_1124_24
theorem k_1124_25 : xm_gi xm_c1124 25 = some xm_e1124_25 := xm_gt d_1124_25
theorem d_1124_26 : List.drop 26 xm_c1124 = xm_c1124_26 := xm_dr d_1124_25
theorem k_1124_26 : xm_gi xm_c1124 26 = some xm_e1124_26 := xm_gt d_1124_26
theorem d_1124_27 : List.drop 27 xm_c1124 = xm_c1124_27 := xm_dr d_1124_26
theorem k_1124_27 : xm_gi xm_c1124 27 = some xm_e1124_27 := xm_gt d_1124_27
theorem d_1124_28 : List.drop 28 xm_c1124 = xm_c1124_28 := xm_dr d_1124_27
theorem k_1124_28 : xm_gi xm_c1124 28 = some xm_e1124_28 := xm_gt d_1124_28
theorem d_1124_29 : List.drop 29 xm_c1124 = xm_c1124_29 := xm_dr d_1124_28
theorem k_1124_29 : xm_gi xm_c1124 29 = some xm_e1124_29 := xm_gt d_1124_29
theorem d_1124_30 : List.drop 30 xm_c1124 = xm_c1124_30 := xm_dr d_1124_29
theorem k_1124_30 : xm_gi xm_c1124 30 = some xm_e1124_30 := xm_gt d_1124_30
theorem d_1124_31 : List.drop 31 xm_c1124 = xm_c1124_31 := xm_dr d_1124_30
theorem k_1124_31 : xm_gi xm_c1124 31 = some xm_e1124_31 := xm_gt d_1124_31
theorem d_1124_32 : List.drop 32 xm_c1124 = xm_c1124_32 := xm_dr d_1124_31
theorem k_1124_32 : xm_gi xm_c1124 32 = some xm_e1124_32 := xm_gt d_1124_32
theorem d_1124_33 : List.drop 33 xm_c1124 = xm_c1124_33 := xm_dr d_1124_32
theorem k_1124_33 : xm_gi xm_c1124 33 = some xm_e1124_33 := xm_gt d_1124_33
theorem d_1124_34 : List.drop 34 xm_c1124 = xm_c1124_34 := xm_dr d_1124_33
theorem k_1124_34 : xm_gi xm_c1124 34 = some xm_e1124_34 := xm_gt d_1124_34
theorem d_1124_35 : List.drop 35 xm_c1124 = xm_c1124_35 := xm_dr d_1124_34
theorem k_1124_35 : xm_gi xm_c1124 35 = some xm_e1124_35 := xm_gt d_1124_35
theorem d_1124_36 : List.drop 36 xm_c1124 = xm_c1124_36 := xm_dr d_1124_35
theorem k_1124_36 : xm_gi xm_c1124 36 = some xm_e1124_36 := xm_gt d_1124_36
theorem d_1124_37 : List.drop 37 xm_c1124 = xm_c1124_37 := xm_dr d_1124_36
theorem k_1124_37 : xm_gi xm_c1124 37 = some xm_e1124_37 := xm_gt d_1124_37
theorem d_1124_38 : List.drop 38 xm_c1124 = xm_c1124_38 := xm_dr d_1124_37
theorem k_1124_38 : xm_gi xm_c1124 38 = some xm_e1124_38 := xm_gt d_1124_38
theorem d_1124_39 : List.drop 39 xm_c1124 = xm_c1124_39 := xm_dr d_1124_38
theorem k_1124_39 : xm_gi xm_c1124 39 = some xm_e1124_39 := xm_gt d_1124_39
theorem d_1124_40 : List.drop 40 xm_c1124 = xm_c1124_40 := xm_dr d_1124_39
theorem k_1124_40 : xm_gi xm_c1124 40 = some xm_e1124_40 := xm_gt d_1124_40
theorem d_1124_41 : List.drop 41 xm_c1124 = xm_c1124_41 := xm_dr d_1124_40
theorem k_1124_41 : xm_gi xm_c1124 41 = some xm_e1124_41 := xm_gt d_1124_41
theorem d_1124_42 : List.drop 42 xm_c1124 = xm_c1124_42 := xm_dr d_1124_41
theorem k_1124_42 : xm_gi xm_c1124 42 = some xm_e1124_42 := xm_gt d_1124_42
theorem d_1124_43 : List.drop 43 xm_c1124 = xm_c1124_43 := xm_dr d_1124_42
theorem k_1124_43 : xm_gi xm_c1124 43 = some xm_e1124_43 := xm_gt d_1124_43
theorem d_1124_44 : List.drop 44 xm_c1124 = xm_c1124_44 := xm_dr d_1124_43
theorem k_1124_44 : xm_gi xm_c1124 44 = some xm_e1124_44 := xm_gt d_1124_44
theorem d_1124_45 : List.drop 45 xm_c1124 = xm_c1124_45 := xm_dr d_1124_44
theorem k_1124_45 : xm_gi xm_c1124 45 = some xm_e1124_45 := xm_gt d_1124_45
theorem d_1124_46 : List.drop 46 xm_c1124 = xm_c1124_46 := xm_dr d_1124_45
theorem k_1124_46 : xm_gi xm_c1124 46 = some xm_e1124_46 := xm_gt d_1124_46
theorem d_1124_47 : List.drop 47 xm_c1124 = xm_c1124_47 := xm_dr d_1124_46
theorem k_1124_47 : xm_gi xm_c1124 47 = some xm_e1124_47 := xm_gt d_1124_47
theorem d_1124_48 : List.drop 48 xm_c1124 = xm_c1124_48 := xm_dr d_1124_47
theorem k_1124_48 : xm_gi xm_c1124 48 = some xm_e1124_48 := xm_gt d_1124_48
theorem d_1124_49 : List.drop 49 xm_c1124 = xm_c1124_49 := xm_dr d_1124_48
theorem k_1124_49 : xm_gi xm_c1124 49 = some xm_e1124_49 := xm_gt d_1124_49
theorem d_1124_50 : List.drop 50 xm_c1124 = xm_c1124_50 := xm_dr d_1124_49
theorem k_1124_50 : xm_gi xm_c1124 50 = some xm_e1124_50 := xm_gt d_1124_50
theorem d_1124_51 : List.drop 51 xm_c1124 = xm_c1124_51 := xm_dr d_1124_50
theorem k_1124_51 : xm_gi xm_c1124 51 = some xm_e1124_51 := xm_gt d_1124_51
theorem d_1124_52 : List.drop 52 xm_c1124 = xm_c1124_52 := xm_dr d_1124_51
theorem k_1124_52 : xm_gi xm_c1124 52 = some xm_e1124_52 := xm_gt d_1124_52
theorem d_1124_53 : List.drop 53 xm_c1124 = xm_c1124_53 := xm_dr d_1124_52
theorem k_1124_53 : xm_gi xm_c1124 53 = some xm_e1124_53 := xm_gt d_1124_53
theorem d_1124_54 : List.drop 54 xm_c1124 = xm_c1124_54 := xm_dr d_1124_53
theorem k_1124_54 : xm_gi xm_c1124 54 = some xm_e1124_54 := xm_gt d_1124_54
theorem d_1124_55 : List.drop 55 xm_c1124 = xm_c1124_55 := xm_dr d_1124_54
theorem k_1124_55 : xm_gi xm_c1124 55 = some xm_e1124_55 := xm_gt d_1124_55
theorem d_1124_56 : List.drop 56 xm_c1124 = xm_c1124_56 := xm_dr d_1124_55
theorem k_1124_56 : xm_gi xm_c1124 56 = some xm_e1124_56 := xm_gt d_1124_56
theorem d_1124_57 : List.drop 57 xm_c1124 = xm_c1124_57 := xm_dr d_1124_56
theorem k_1124_57 : xm_gi xm_c1124 57 = some xm_e1124_57 := xm_gt d_1124_57
theorem d_1124_58 : List.drop 58 xm_c1124 = xm_c1124_58 := xm_dr d_1124_57
theorem k_1124_58 : xm_gi xm_c1124 58 = some xm_e1124_58 := xm_gt d_1124_58
theorem d_1124_59 : List.drop 59 xm_c1124 = xm_c1124_59 := xm_dr d_1124_58
theorem k_1124_59 : xm_gi xm_c1124 59 = some xm_e1124_59 := xm_gt d_1124_59
theorem d_1124_60 : List.drop 60 xm_c1124 = xm_c1124_60 := xm_dr d_1124_59
theorem k_1124_60 : xm_gi xm_c1124 60 = some xm_e1124_60 := xm_gt d_1124_60
theorem d_1124_61 : List.drop 61 xm_c1124 = xm_c1124_61 := xm_dr d_1124_60
theorem k_1124_61 : xm_gi xm_c1124 61 = some xm_e1124_61 := xm_gt d_1124_61
theorem d_1124_62 : List.drop 62 xm_c1124 = xm_c1124_62 := xm_dr d_1124_61
theorem k_1124_62 : xm_gi xm_c1124 62 = some xm_e1124_62 := xm_gt d_1124_62
theorem d_1124_63 : List.drop 63 xm_c1124 = xm_c1124_63 := xm_dr d_1124_62
theorem k_1124_63 : xm_gi xm_c1124 63 = some xm_e1124_63 := xm_gt d_1124_63
theorem d_1124_64 : List.drop 64 xm_c1124 = xm_c1124_64 := xm_dr d_1124_63
theorem k_1124_64 : xm_gi xm_c1124 64 = some xm_e1124_64 := xm_gt d_1124_64
theorem d_1124_65 : List.drop 65 xm_c1124 = xm_c1124_65 := xm_dr d_1124_64
theorem k_1124_65 : xm_gi xm_c1124 65 = some xm_e1124_65 := xm_gt d_1124_65
theorem d_1124_66 : List.drop 66 xm_c1124 = xm_c1124_66 := xm_dr d_1124_65
theorem k_1124_66 : xm_gi xm_c1124 66 = some xm_e1124_66 := xm_gt d_1124_66
theorem d_1124_67 : List.drop 67 xm_c1124 = xm_c1124_67 := xm_dr d_1124_66
theorem k_1124_67 : xm_gi xm_c1124 67 = some xm_e1124_67 := xm_gt d_1124_67
theorem d_1124_68 : List.drop 68 xm_c1124 = xm_c1124_68 := xm_dr d_1124_67
theorem k_1124_68 : xm_gi xm_c1124 68 = some xm_e1124_68 := xm_gt d_1124_68
theorem d_1124_69 : List.drop 69 xm_c1124 = xm_c1124_69 := xm_dr d_1124_68
theorem k_1124_69 : xm_gi xm_c1124 69 = some xm_e1124_69 := xm_gt d_1124_69
theorem d_1124_70 : List.drop 70 xm_c1124 = xm_c1124_70 := xm_dr d_1124_69
theorem k_1124_70 : xm_gi xm_c1124 70 = some xm_e1124_70 := xm_gt d_1124_70
theorem d_1124_71 : List.drop 71 xm_c1124 = xm_c1124_71 := xm_dr d_1124_70
theorem k_1124_71 : xm_gi xm_c1124 71 = some xm_e1124_71 := xm_gt d_1124_71
theorem d_1124_72 : List.drop 72 xm_c1124 = xm_c1124_72 := xm_dr d_1124_71
theorem k_1124_72 : xm_gi xm_c1124 72 = some xm_e1124_72 := xm_gt d_1124_72
theorem d_1124_73 : List.drop 73 xm_c1124 = xm_c1124_73 := xm_dr d_1124_72
theorem k_1124_73 : xm_gi xm_c1124 73 = some xm_e1124_73 := xm_gt d_1124_73
theorem d_1124_74 : List.drop 74 xm_c1124 = xm_c1124_74 := xm_dr d_1124_73
theorem k_1124_74 : xm_gi xm_c1124 74 = some xm_e1124_74 := xm_gt d_1124_74
theorem d_1124_75 : List.drop 75 xm_c1124 = xm_c1124_75 := xm_dr d_1124_74
theorem k_1124_75 : xm_gi xm_c1124 75 = some xm_e1124_75 := xm_gt d_1124_75
theorem d_1124_76 : List.drop 76 xm_c1124 = xm_c1124_76 := xm_dr d_1124_75
theorem k_1124_76 : xm_gi xm_c1124 76 = some xm_e1124_76 := xm_gt d_1124_76
theorem d_1124_77 : List.drop 77 xm_c1124 = xm_c1124_77 := xm_dr d_1124_76
theorem k_1124_77 : xm_gi xm_c1124 77 = some xm_e1124_77 := xm_gt d_1124_77
theorem d_1124_78 : List.drop 78 xm_c1124 = xm_c1124_78 := xm_dr d_1124_77
theorem k_1124_78 : xm_gi xm_c1124 78 = some xm_e1124_78 := xm_gt d_1124_78
theorem d_1124_79 : List.drop 79 xm_c1124 = xm_c1124_79 := xm_dr d_1124_78
theorem k_1124_79 : xm_gi xm_c1124 79 = some xm_e1124_79 := xm_gt d_1124_79
theorem d_1124_80 : List.drop 80 xm_c1124 = xm_c1124_80 := xm_dr d_1124_79
theorem k_1124_80 : xm_gi xm_c1124 80 = some xm_e1124_80 := xm_gt d_1124_80
theorem d_1124_81 : List.drop 81 xm_c1124 = xm_c1124_81 := xm_dr d_1124_80
theorem k_1124_81 : xm_gi xm_c1124 81 = some xm_e1124_81 := xm_gt d_1124_81
theorem d_1124_82 : List.drop 82 xm_c1124 = xm_c1124_82 := xm_dr d_1124_81
theorem k_1124_82 : xm_gi xm_c1124 82 = some xm_e1124_82 := xm_gt d_1124_82
theorem d_1124_83 : List.drop 83 xm_c1124 = xm_c1124_83 := xm_dr d_1124_82
theorem k_1124_83 : xm_gi xm_c1124 83 = some xm_e1124_83 := xm_gt d_1124_83
theorem d_1124_84 : List.drop 84 xm_c1124 = xm_c1124_84 := xm_dr d_1124_83
theorem k_1124_84 : xm_gi xm_c1124 84 = some xm_e1124_84 := xm_gt d_1124_84
theorem d_1124_85 : List.drop 85 xm_c1124 = xm_c1124_85 := xm_dr d_1124_84
theorem k_1124_85 : xm_gi xm_c1124 85 = some xm_e1124_85 := xm_gt d_1124_85
theorem d_1124_86 : List.drop 86 xm_c1124 = xm_c1124_86 := xm_dr d_1124_85
theorem k_1124_86 : xm_gi xm_c1124 86 = some xm_e1124_86 := xm_gt d_1124_86
theorem d_1124_87 : List.drop 87 xm_c1124 = xm_c1124_87 := xm_dr d_1124_86
theorem k_1124_87 : xm_gi xm_c1124 87 = some xm_e1124_87 := xm_gt d_1124_87
theorem d_1124_88 : List.drop 88 xm_c1124 = xm_c1124_88 := xm_dr d_1124_87
theorem k_1124_88 : xm_gi xm_c1124 88 = some xm_e1124_88 := xm_gt d_1124_88
theorem d_1124_89 : List.drop 89 xm_c1124 = xm_c1124_89 := xm_dr d_1124_88
theorem k_1124_89 : xm_gi xm_c1124 89 = some xm_e1124_89 := xm_gt d_1124_89
theorem d_1124_90 : List.drop 90 xm_c1124 = xm_c1124_90 := xm_dr d_1124_89
theorem k_1124_90 : xm_gi xm_c1124 90 = some xm_e1124_90 := xm_gt d_1124_90
theorem d_1124_91 : List.drop 91 xm_c1124 = xm_c1124_91 := xm_dr d_1124_90
theorem k_1124_91 : xm_gi xm_c1124 91 = some xm_e1124_91 := xm_gt d_1124_91
theorem d_1124_92 : List.drop 92 xm_c1124 = xm_c1124_92 := xm_dr d_1124_91
theorem k_1124_92 : xm_gi xm_c1124 92 = some xm_e1124_92 := xm_gt d_1124_92
theorem d_1124_93 : List.drop 93 xm_c1124 = xm_c1124_93 := xm_dr d_1124_92
theorem k_1124_93 : xm_gi xm_c1124 93 = some xm_e1124_93 := xm_gt d_1124_93
theorem d_1124_94 : List.drop 94 xm_c1124 = xm_c1124_94 := xm_dr d_1124_93
theorem k_1124_94 : xm_gi xm_c1124 94 = some xm_e1124_94 := xm_gt d_1124_94
theorem d_1124_95 : List.drop 95 xm_c1124 = xm_c1124_95 := xm_dr d_1124_94
theorem k_1124_95 : xm_gi xm_c1124 95 = some xm_e1124_95 := xm_gt d_1124_95
theorem d_1124_96 : List.drop 96 xm_c1124 = xm_c1124_96 := xm_dr d_1124_95
theorem k_1124_96 : xm_gi xm_c1124 96 = some xm_e1124_96 := xm_gt d_1124_96
theorem d_1124_97 : List.drop 97 xm_c1124 = xm_c1124_97 := xm_dr d_1124_96
theorem k_1124_97 : xm_gi xm_c1124 97 = some xm_e1124_97 := xm_gt d_1124_97
theorem d_1124_98 : List.drop 98 xm_c1124 = xm_c1124_98 := xm_dr d_1124_97
theorem k_1124_98 : xm_gi xm_c1124 98 = some xm_e1124_98 := xm_gt d_1124_98
theorem d_1124_99 : List.drop 99 xm_c1124 = xm_c1124_99 := xm_dr d_1124_98
theorem k_1124_99 : xm_gi xm_c1124 99 = some xm_e1124_99 := xm_gt d_1124_99
theorem d_1124_100 : List.drop 100 xm_c1124 = xm_c1124_100 := xm_dr d_1124_99
theorem k_1124_100 : xm_gi xm_c1124 100 = some xm_e1124_100 := xm_gt d_1124_100
theorem d_1124_101 : List.drop 101 xm_c1124 = xm_c1124_101 := xm_dr d_1124_100
theorem k_1124_101 : xm_gi xm_c1124 101 = some xm_e1124_101 := xm_gt d_1124_101
theorem d_1124_102 : List.drop 102 xm_c1124 = xm_c1124_102 := xm_dr d_1124_101
theorem k_1124_102 : xm_gi xm_c1124 102 = some xm_e1124_102 := xm_gt d_1124_102
theorem d_1124_103 : List.drop 103 xm_c1124 = xm_c1124_103 := xm_dr d_1124_102
theorem k_1124_103 : xm_gi xm_c1124 103 = some xm_e1124_103 := xm_gt d_1124_103
theorem d_1124_104 : List.drop 104 xm_c1124 = xm_c1124_104 := xm_dr d_1124_103
theorem k_1124_104 : xm_gi xm_c1124 104 = some xm_e1124_104 := xm_gt d_1124_104
theorem d_1124_105 : List.drop 105 xm_c1124 = xm_c1124_105 := xm_dr d_1124_104
theorem k_1124_105 : xm_gi xm_c1124 105 = some xm_e1124_105 := xm_gt d_1124_105
theorem d_1124_106 : List.drop 106 xm_c1124 = xm_c1124_106 := xm_dr d_1124_105
theorem k_1124_106 : xm_gi xm_c1124 106 = some xm_e1124_106 := xm_gt d_1124_106
theorem d_1124_107 : List.drop 107 xm_c1124 = xm_c1124_107 := xm_dr d_1124_106
theorem k_1124_107 : xm_gi xm_c1124 107 = some xm_e1124_107 := xm_gt d_1124_107
theorem d_1124_108 : List.drop 108 xm_c1124 = xm_c1124_108 := xm_dr d_1124_107
theorem k_1124_108 : xm_gi xm_c1124 108 = some xm_e1124_108 := xm_gt d_1124_108
theorem d_1124_109 : List.drop 109 xm_c1124 = xm_c1124_109 := xm_dr d_1124_108
theorem k_1124_109 : xm_gi xm_c1124 109 = some xm_e1124_109 := xm_gt d_1124_109
theorem d_1124_110 : List.drop 110 xm_c1124 = xm_c1124_110 := xm_dr d_1124_109
theorem k_1124_110 : xm_gi xm_c1124 110 = some xm_e1124_110 := xm_gt d_1124_110
theorem d_1124_111 : List.drop 111 xm_c1124 = xm_c1124_111 := xm_dr d_1124_110
theorem k_1124_111 : xm_gi xm_c1124 111 = some xm_e1124_111 := xm_gt d_1124_111
theorem xb_1124_0 {sc : List Int} {f : Nat → List xm_V → xm_W → xm_R} {w : xm_W} {Q : Option xm_V × xm_W → Prop} {x0 : Nat}
  (h : xm_Oi (f 1115 [.inr (.inl (some x0))] w) (fun z2 w1 => xm_Oi (f 1116 [.inr (.inl (some x0)), .inl z2] w1) (fun z4 w3 => if (z4 : Int) = 0 then (xm_Oi (f 1103 [.inl z2, .inl 48, .inl 57] w3) (fun z6 w5 => if (z6 : Int) = 0 then (if (z2 : Int) = 33 then (xm_Oi (f 1123 [.inr (.inl (some x0))] w5) (fun z18 w17 => if (z18 : Int) = 0 then (Q (some (.inl 0), w17)) else (xm_Oi (f 1124 [.inr (.inl (some x0))] w17) (fun z20 w19 => if (z20 : Int) = 0 then (Q (some (.inl 0), w19)) else (xm_O (xm_fi (xm_old sc) w19 x0 9 7) (fun z21 => xm_O (xm_setf w19 x0 9 7 0 (.inl (xm_w (z21 - 1)))) (fun w22 => xm_Ov (f 1117 [.inr (.inl (some x0)), .inl 2, .inl 0] w22) (fun w23 => Q (some (.inl 1), w23))))))))) else (if (z2 : Int) = 40 then (xm_Oi (f 1123 [.inr (.inl (some x0))] w5) (fun z8 w7 => if (z8 : Int) = 0 then (Q (some (.inl 0), w7)) else (xm_Oi (f 1118 [.inr (.inl (some x0))] w7) (fun z10 w9 => if (z10 : Int) = 0 then (Q (some (.inl 0), w9)) else (xm_Oi (f 1115 [.inr (.inl (some x0))] w9) (fun z12 w11 => if (z12 : Int) = 41 then (xm_O (xm_fi (xm_old sc) w11 x0 9 6) (fun z13 => xm_O (xm_setf w11 x0 9 6 0 (.inl (xm_w (z13 + 1)))) (fun w14 => xm_O (xm_fi (xm_old sc) w14 x0 9 7) (fun z15 => xm_O (xm_setf w14 x0 9 7 0 (.inl (xm_w (z15 - 1)))) (fun w16 => Q (some (.inl 1), w16)))))) else (Q (some (.inl 0), w11)))))))) else (Q (some (.inl 0), w5)))) else (xm_EQ (xm_old sc) xm_sta f xm_c1124 28 [some (.inr (.inl (some x0))), some (.inl z2), some (.inl 0), some (.inl 0)] [] w5 Q))) else (xm_O (xm_fi (xm_old sc) w3 x0 9 6) (fun z24 => xm_O (xm_setf w3 x0 9 6 0 (.inl (xm_w (z24 + 1)))) (fun w25 => xm_Ov (f 1117 [.inr (.inl (some x0)), .inl 1, .inl z2] w25) (fun w26 => Q (some (.inl 1), w26)))))))) :
  xm_EQ (xm_old sc) xm_sta f xm_c1124 0 [some (.inr (.inl (some x0))), none, none, none] [] w Q :=
  (xq_aload_n k_1124_0 rfl (xq_invv1 k_1124_1 xr_1115 rfl rfl rfl h (fun z2 w1 h => (xq_istore_n k_1124_2 rfl (xq_aload_n k_1124_3 rfl (xq_iload_n k_1124_4 rfl (xq_invv2 k_1124_5 xr_1116 rfl rfl rfl h (fun z4 w3 h => (xq_if_eq k_1124_6 h (fun h => (xq_iload_n k_1124_19 rfl (xq_bipush k_1124_20 (xq_bipush k_1124_21 (xq_invs2 k_1124_22 xr_1103 rfl rfl rfl h (fun z6 w5 h => (xq_if_eq k_1124_23 h (fun h => (xq_iload_n k_1124_60 rfl (xq_bipush k_1124_61 (xq_ic_ne k_1124_62 h (fun h => (xq_aload_n k_1124_63 rfl (xq_invv2 k_1124_64 xr_1123 rfl rfl rfl h (fun z18 w17 h => (xq_if_eq k_1124_65 h (fun h => (xq_iconst k_1124_69 (xq_ireturn k_1124_70 h))) (fun h => (xq_aload_n k_1124_66 rfl (xq_invv2 k_1124_67 xr_1124 rfl rfl rfl h (fun z20 w19 h => (xq_if_ne k_1124_68 h (fun h => (xq_iconst k_1124_69 (xq_ireturn k_1124_70 h))) (fun h => (xq_aload_n k_1124_71 rfl (xq_dupr k_1124_72 (xq_geti0 k_1124_73 rfl h (fun z21 h => (xq_iconst k_1124_74 (xq_isub k_1124_75 (xq_put k_1124_76 rfl h (fun w22 h => (xq_aload_n k_1124_77 rfl (xq_iconst k_1124_78 (xq_iconst k_1124_79 (xq_invv0 k_1124_80 xr_1117 rfl rfl rfl h (fun w23 h => (xq_iconst k_1124_81 (xq_ireturn k_1124_82 h)))))))))))))))))))))))))) (fun h => (xq_iload_n k_1124_83 rfl (xq_bipush k_1124_84 (xq_ic_ne k_1124_85 h (fun h => (xq_aload_n k_1124_86 rfl (xq_invv2 k_1124_87 xr_1123 rfl rfl rfl h (fun z8 w7 h => (xq_if_eq k_1124_88 h (fun h => (xq_iconst k_1124_96 (xq_ireturn k_1124_97 h))) (fun h => (xq_aload_n k_1124_89 rfl (xq_invv2 k_1124_90 xr_1118 rfl rfl rfl h (fun z10 w9 h => (xq_if_eq k_1124_91 h (fun h => (xq_iconst k_1124_96 (xq_ireturn k_1124_97 h))) (fun h => (xq_aload_n k_1124_92 rfl (xq_invv1 k_1124_93 xr_1115 rfl rfl rfl h (fun z12 w11 h => (xq_bipush k_1124_94 (xq_ic_eq k_1124_95 h (fun h => (xq_aload_n k_1124_98 rfl (xq_dupr k_1124_99 (xq_geti0 k_1124_100 rfl h (fun z13 h => (xq_iconst k_1124_101 (xq_iadd k_1124_102 (xq_put k_1124_103 rfl h (fun w14 h => (xq_aload_n k_1124_104 rfl (xq_dupr k_1124_105 (xq_geti0 k_1124_106 rfl h (fun z15 h => (xq_iconst k_1124_107 (xq_isub k_1124_108 (xq_put k_1124_109 rfl h (fun w16 h => (xq_iconst k_1124_110 (xq_ireturn k_1124_111 h))))))))))))))))))) (fun h => (xq_iconst k_1124_96 (xq_ireturn k_1124_97 h))))))))))))))))))) (fun h => (xq_iconst k_1124_96 (xq_ireturn k_1124_97 h))))))))))) (fun h => (xq_iconst k_1124_24 (xq_istore_n k_1124_25 rfl (xq_iconst k_1124_26 (xq_istore_n k_1124_27 rfl h)))))))))))) (fun h => (xq_aload_n k_1124_7 rfl (xq_dupr k_1124_8 (xq_geti0 k_1124_9 rfl h (fun z24 h => (xq_iconst k_1124_10 (xq_iadd k_1124_11 (xq_put k_1124_12 rfl h (fun w25 h => (xq_aload_n k_1124_13 rfl (xq_iconst k_1124_14 (xq_iload_n k_1124_15 rfl (xq_invv0 k_1124_16 xr_1117 rfl rfl rfl h (fun w26 h => (xq_iconst k_1124_17 (xq_ireturn k_1124_18 h)))))))))))))))))))))))))
theorem xb_1124_28 {sc : List Int} {f : Nat → List xm_V → xm_W → xm_R} {w : xm_W} {Q : Option xm_V × xm_W → Prop} {x0 : Nat} {x1 : Int} {x2 : Int} {x3 : Int}
  (h : if (x3 : Int) < 4 then (xm_Oi (f 1115 [.inr (.inl (some x0))] w) (fun z3 w2 => xm_Oi (f 1103 [.inl z3, .inl 48, .inl 57] w2) (fun z5 w4 => if (z5 : Int) = 0 then (xm_Ov (f 1117 [.inr (.inl (some x0)), .inl 0, .inl x2] w4) (fun w6 => Q (some (.inl 1), w6))) else (xm_Oi (f 1115 [.inr (.inl (some x0))] w4) (fun z8 w7 => xm_O (xm_fi (xm_old sc) w7 x0 9 6) (fun z9 => xm_O (xm_setf w7 x0 9 6 0 (.inl (xm_w (z9 + 1)))) (fun w10 => xm_EQ (xm_old sc) xm_sta f xm_c1124 28 [some (.inr (.inl (some x0))), some (.inl x1), some (.inl (xm_w ((xm_w ((xm_w (10 * x2)) + z8)) - 48))), some (.inl (xm_w (x3 + 1)))] [] w10 Q))))))) else (xm_Ov (f 1117 [.inr (.inl (some x0)), .inl 0, .inl x2] w) (fun w1 => Q (some (.inl 1), w1)))) :
  xm_EQ (xm_old sc) xm_sta f xm_c1124 28 [some (.inr (.inl (some x0))), some (.inl x1), some (.inl x2), some (.inl x3)] [] w Q :=
  (xq_iload_n k_1124_28 rfl (xq_iconst k_1124_29 (xq_ic_ge k_1124_30 h (fun h => (xq_aload_n k_1124_31 rfl (xq_invv1 k_1124_32 xr_1115 rfl rfl rfl h (fun z3 w2 h => (xq_bipush k_1124_33 (xq_bipush k_1124_34 (xq_invs2 k_1124_35 xr_1103 rfl rfl rfl h (fun z5 w4 h => (xq_if_eq k_1124_36 h (fun h => (xq_aload_n k_1124_54 rfl (xq_iconst k_1124_55 (xq_iload_n k_1124_56 rfl (xq_invv0 k_1124_57 xr_1117 rfl rfl rfl h (fun w6 h => (xq_iconst k_1124_58 (xq_ireturn k_1124_59 h)))))))) (fun h => (xq_bipush k_1124_37 (xq_iload_n k_1124_38 rfl (xq_imul k_1124_39 (xq_aload_n k_1124_40 rfl (xq_invv1 k_1124_41 xr_1115 rfl rfl rfl h (fun z8 w7 h => (xq_iadd k_1124_42 (xq_bipush k_1124_43 (xq_isub k_1124_44 (xq_istore_n k_1124_45 rfl (xq_aload_n k_1124_46 rfl (xq_dupr k_1124_47 (xq_geti0 k_1124_48 rfl h (fun z9 h => (xq_iconst k_1124_49 (xq_iadd k_1124_50 (xq_put k_1124_51 rfl h (fun w10 h => (xq_iinc k_1124_52 rfl rfl (xq_goto k_1124_53 h)))))))))))))))))))))))))))))) (fun h => (xq_aload_n k_1124_54 rfl (xq_iconst k_1124_55 (xq_iload_n k_1124_56 rfl (xq_invv0 k_1124_57 xr_1117 rfl rfl rfl h (fun w1 h => (xq_iconst k_1124_58 (xq_ireturn k_1124_59 h)))))))))))
/-- ShodBackwardsModel.hasText(I)Z -/
theorem d_1125_0 : List.drop 0 xm_c1125 = xm_c1125 := rfl
theorem k_1125_0 : xm_gi xm_c1125 0 = some xm_e1125_0 := xm_gt d_1125_0
theorem d_1125_1 : List.drop 1 xm_c1125 = xm_c1125_1 := xm_dr d_1125_0
theorem k_1125_1 : xm_gi xm_c1125 1 = some xm_e1125_1 := xm_gt d_1125_1
theorem d_1125_2 : List.drop 2 xm_c1125 = xm_c1125_2 := xm_dr d_1125_1
theorem k_1125_2 : xm_gi xm_c1125 2 = some xm_e1125_2 := xm_gt d_1125_2
theorem d_1125_3 : List.drop 3 xm_c1125 = xm_c1125_3 := xm_dr d_1125_2
theorem k_1125_3 : xm_gi xm_c1125 3 = some xm_e1125_3 := xm_gt d_1125_3
theorem d_1125_4 : List.drop 4 xm_c1125 = xm_c1125_4 := xm_dr d_1125_3
theorem k_1125_4 : xm_gi xm_c1125 4 = some xm_e1125_4 := xm_gt d_1125_4
theorem d_1125_5 : List.drop 5 xm_c1125 = xm_c1125_5 := xm_dr d_1125_4
theorem k_1125_5 : xm_gi xm_c1125 5 = some xm_e1125_5 := xm_gt d_1125_5
theorem d_1125_6 : List.drop 6 xm_c1125 = xm_c1125_6 := xm_dr d_1125_5
theorem k_1125_6 : xm_gi xm_c1125 6 = some xm_e1125_6 := xm_gt d_1125_6
theorem d_1125_7 : List.drop 7 xm_c1125 = xm_c1125_7 := xm_dr d_1125_6
theorem k_1125_7 : xm_gi xm_c1125 7 = some xm_e1125_7 := xm_gt d_1125_7
theorem d_1125_8 : List.drop 8 xm_c1125 = xm_c1125_8 := xm_dr d_1125_7
theorem k_1125_8 : xm_gi xm_c1125 8 = some xm_e1125_8 := xm_gt d_1125_8
theorem d_1125_9 : List.drop 9 xm_c1125 = xm_c1125_9 := xm_dr d_1125_8
theorem k_1125_9 : xm_gi xm_c1125 9 = some xm_e1125_9 := xm_gt d_1125_9
theorem d_1125_10 : List.drop 10 xm_c1125 = xm_c1125_10 := xm_dr d_1125_9
theorem k_1125_10 : xm_gi xm_c1125 10 = some xm_e1125_10 := xm_gt d_1125_10
theorem d_1125_11 : List.drop 11 xm_c1125 = xm_c1125_11 := xm_dr d_1125_10
theorem k_1125_11 : xm_gi xm_c1125 11 = some xm_e1125_11 := xm_gt d_1125_11
theorem d_1125_12 : List.drop 12 xm_c1125 = xm_c1125_12 := xm_dr d_1125_11
theorem k_1125_12 : xm_gi xm_c1125 12 = some xm_e1125_12 := xm_gt d_1125_12
theorem xb_1125_0 {sc : List Int} {f : Nat → List xm_V → xm_W → xm_R} {w : xm_W} {Q : Option xm_V × xm_W → Prop} {x0 : Nat} {x1 : Int}
  (h : xm_O (xm_fr (xm_old sc) w x0 9 0) (fun r1 => xm_O (xm_ints (xm_old sc) w r1) (fun l2 => xm_O (xm_at l2 (xm_w (339 + (xm_w (125 * x1))))) (fun z3 => if (0 : Int) < z3 then (Q (some (.inl 1), w)) else (Q (some (.inl 0), w)))))) :
  xm_EQ (xm_old sc) xm_sta f xm_c1125 0 [some (.inr (.inl (some x0))), some (.inl x1)] [] w Q :=
  (xq_aload_n k_1125_0 rfl (xq_getr k_1125_1 rfl h (fun r1 h => (xq_sipush k_1125_2 (xq_bipush k_1125_3 (xq_iload_n k_1125_4 rfl (xq_imul k_1125_5 (xq_iadd k_1125_6 (xq_iaload k_1125_7 h (fun l2 h => h) (fun l2 z3 h => (xq_if_le k_1125_8 h (fun h => (xq_iconst k_1125_9 (xq_goto k_1125_10 (xq_ireturn k_1125_12 h)))) (fun h => (xq_iconst k_1125_11 (xq_ireturn k_1125_12 h))))))))))))))
/-- ShodBackwardsModel.text(I)I -/
theorem d_1126_0 : List.drop 0 xm_c1126 = xm_c1126 := rfl
theorem k_1126_0 : xm_gi xm_c1126 0 = some xm_e1126_0 := xm_gt d_1126_0
theorem d_1126_1 : List.drop 1 xm_c1126 = xm_c1126_1 := xm_dr d_1126_0
theorem k_1126_1 : xm_gi xm_c1126 1 = some xm_e1126_1 := xm_gt d_1126_1
theorem d_1126_2 : List.drop 2 xm_c1126 = xm_c1126_2 := xm_dr d_1126_1
theorem k_1126_2 : xm_gi xm_c1126 2 = some xm_e1126_2 := xm_gt d_1126_2
theorem d_1126_3 : List.drop 3 xm_c1126 = xm_c1126_3 := xm_dr d_1126_2
theorem k_1126_3 : xm_gi xm_c1126 3 = some xm_e1126_3 := xm_gt d_1126_3
theorem d_1126_4 : List.drop 4 xm_c1126 = xm_c1126_4 := xm_dr d_1126_3
theorem k_1126_4 : xm_gi xm_c1126 4 = some xm_e1126_4 := xm_gt d_1126_4
theorem d_1126_5 : List.drop 5 xm_c1126 = xm_c1126_5 := xm_dr d_1126_4
theorem k_1126_5 : xm_gi xm_c1126 5 = some xm_e1126_5 := xm_gt d_1126_5
theorem d_1126_6 : List.drop 6 xm_c1126 = xm_c1126_6 := xm_dr d_1126_5
theorem k_1126_6 : xm_gi xm_c1126 6 = some xm_e1126_6 := xm_gt d_1126_6
theorem d_1126_7 : List.drop 7 xm_c1126 = xm_c1126_7 := xm_dr d_1126_6
theorem k_1126_7 : xm_gi xm_c1126 7 = some xm_e1126_7 := xm_gt d_1126_7
theorem d_1126_8 : List.drop 8 xm_c1126 = xm_c1126_8 := xm_dr d_1126_7
theorem k_1126_8 : xm_gi xm_c1126 8 = some xm_e1126_8 := xm_gt d_1126_8
theorem d_1126_9 : List.drop 9 xm_c1126 = xm_c1126_9 := xm_dr d_1126_8
theorem k_1126_9 : xm_gi xm_c1126 9 = some xm_e1126_9 := xm_gt d_1126_9
theorem d_1126_10 : List.drop 10 xm_c1126 = xm_c1126_10 := xm_dr d_1126_9
theorem k_1126_10 : xm_gi xm_c1126 10 = some xm_e1126_10 := xm_gt d_1126_10
theorem d_1126_11 : List.drop 11 xm_c1126 = xm_c1126_11 := xm_dr d_1126_10
theorem k_1126_11 : xm_gi xm_c1126 11 = some xm_e1126_11 := xm_gt d_1126_11
theorem d_1126_12 : List.drop 12 xm_c1126 = xm_c1126_12 := xm_dr d_1126_11
theorem k_1126_12 : xm_gi xm_c1126 12 = some xm_e1126_12 := xm_gt d_1126_12
theorem d_1126_13 : List.drop 13 xm_c1126 = xm_c1126_13 := xm_dr d_1126_12
theorem k_1126_13 : xm_gi xm_c1126 13 = some xm_e1126_13 := xm_gt d_1126_13
theorem d_1126_14 : List.drop 14 xm_c1126 = xm_c1126_14 := xm_dr d_1126_13
theorem k_1126_14 : xm_gi xm_c1126 14 = some xm_e1126_14 := xm_gt d_1126_14
theorem d_1126_15 : List.drop 15 xm_c1126 = xm_c1126_15 := xm_dr d_1126_14
theorem k_1126_15 : xm_gi xm_c1126 15 = some xm_e1126_15 := xm_gt d_1126_15
theorem d_1126_16 : List.drop 16 xm_c1126 = xm_c1126_16 := xm_dr d_1126_15
theorem k_1126_16 : xm_gi xm_c1126 16 = some xm_e1126_16 := xm_gt d_1126_16
theorem d_1126_17 : List.drop 17 xm_c1126 = xm_c1126_17 := xm_dr d_1126_16
theorem k_1126_17 : xm_gi xm_c1126 17 = some xm_e1126_17 := xm_gt d_1126_17
theorem d_1126_18 : List.drop 18 xm_c1126 = xm_c1126_18 := xm_dr d_1126_17
theorem k_1126_18 : xm_gi xm_c1126 18 = some xm_e1126_18 := xm_gt d_1126_18
theorem d_1126_19 : List.drop 19 xm_c1126 = xm_c1126_19 := xm_dr d_1126_18
theorem k_1126_19 : xm_gi xm_c1126 19 = some xm_e1126_19 := xm_gt d_1126_19
theorem d_1126_20 : List.drop 20 xm_c1126 = xm_c1126_20 := xm_dr d_1126_19
theorem k_1126_20 : xm_gi xm_c1126 20 = some xm_e1126_20 := xm_gt d_1126_20
theorem d_1126_21 : List.drop 21 xm_c1126 = xm_c1126_21 := xm_dr d_1126_20
theorem k_1126_21 : xm_gi xm_c1126 21 = some xm_e1126_21 := xm_gt d_1126_21
theorem d_1126_22 : List.drop 22 xm_c1126 = xm_c1126_22 := xm_dr d_1126_21
theorem k_1126_22 : xm_gi xm_c1126 22 = some xm_e1126_22 := xm_gt d_1126_22
theorem d_1126_23 : List.drop 23 xm_c1126 = xm_c1126_23 := xm_dr d_1126_22
theorem k_1126_23 : xm_gi xm_c1126 23 = some xm_e1126_23 := xm_gt d_1126_23
theorem d_1126_24 : List.drop 24 xm_c1126 = xm_c1126_24 := xm_dr d_1126_23
theorem k_1126_24 : xm_gi xm_c1126 24 = some xm_e1126_24 := xm_gt d_1126_24
theorem d_1126_25 : List.drop 25 xm_c1126 = xm_c1126_25 := xm_dr d_1126_24
theorem k_1126_25 : xm_gi xm_c1126 25 = some xm_e1126_25 := xm_gt d_1126_25
theorem d_1126_26 : List.drop 26 xm_c1126 = xm_c1126_26 := xm_dr d_1126_25
theorem k_1126_26 : xm_gi xm_c1126 26 = some xm_e1126_26 := xm_gt d_1126_26
theorem d_1126_27 : List.drop 27 xm_c1126 = xm_c1126_27 := xm_dr d_1126_26
theorem k_1126_27 : xm_gi xm_c1126 27 = some xm_e1126_27 := xm_gt d_1126_27
theorem d_1126_28 : List.drop 28 xm_c1126 = xm_c1126_28 := xm_dr d_1126_27
theorem k_1126_28 : xm_gi xm_c1126 28 = some xm_e1126_28 := xm_gt d_1126_28
theorem d_1126_29 : List.drop 29 xm_c1126 = xm_c1126_29 := xm_dr d_1126_28
theorem k_1126_29 : xm_gi xm_c1126 29 = some xm_e1126_29 := xm_gt d_1126_29
theorem d_1126_30 : List.drop 30 xm_c1126 = xm_c1126_30 := xm_dr d_1126_29
theorem k_1126_30 : xm_gi xm_c1126 30 = some xm_e1126_30 := xm_gt d_1126_30
theorem d_1126_31 : List.drop 31 xm_c1126 = xm_c1126_31 := xm_dr d_1126_30
theorem k_1126_31 : xm_gi xm_c1126 31 = some xm_e1126_31 := xm_gt d_1126_31
theorem d_1126_32 : List.drop 32 xm_c1126 = xm_c1126_32 := xm_dr d_1126_31
theorem k_1126_32 : xm_gi xm_c1126 32 = some xm_e1126_32 := xm_gt d_1126_32
theorem d_1126_33 : List.drop 33 xm_c1126 = xm_c1126_33 := xm_dr d_1126_32
theorem k_1126_33 : xm_gi xm_c1126 33 = some xm_e1126_33 := xm_gt d_1126_33
theorem d_1126_34 : List.drop 34 xm_c1126 = xm_c1126_34 := xm_dr d_1126_33
theorem k_1126_34 : xm_gi xm_c1126 34 = some xm_e1126_34 := xm_gt d_1126_34
theorem d_1126_35 : List.drop 35 xm_c1126 = xm_c1126_35 := xm_dr d_1126_34
theorem k_1126_35 : xm_gi xm_c1126 35 = some xm_e1126_35 := xm_gt d_1126_35
theorem d_1126_36 : List.drop 36 xm_c1126 = xm_c1126_36 := xm_dr d_1126_35
theorem k_1126_36 : xm_gi xm_c1126 36 = some xm_e1126_36 := xm_gt d_1126_36
theorem d_1126_37 : List.drop 37 xm_c1126 = xm_c1126_37 := xm_dr d_1126_36
theorem k_1126_37 : xm_gi xm_c1126 37 = some xm_e1126_37 := xm_gt d_1126_37
theorem d_1126_38 : List.drop 38 xm_c1126 = xm_c1126_38 := xm_dr d_1126_37
theorem k_1126_38 : xm_gi xm_c1126 38 = some xm_e1126_38 := xm_gt d_1126_38
theorem d_1126_39 : List.drop 39 xm_c1126 = xm_c1126_39 := xm_dr d_1126_38
theorem k_1126_39 : xm_gi xm_c1126 39 = some xm_e1126_39 := xm_gt d_1126_39
theorem d_1126_40 : List.drop 40 xm_c1126 = xm_c1126_40 := xm_dr d_1126_39
theorem k_1126_40 : xm_gi xm_c1126 40 = some xm_e1126_40 := xm_gt d_1126_40
theorem d_1126_41 : List.drop 41 xm_c1126 = xm_c1126_41 := xm_dr d_1126_40
theorem k_1126_41 : xm_gi xm_c1126 41 = some xm_e1126_41 := xm_gt d_1126_41
theorem d_1126_42 : List.drop 42 xm_c1126 = xm_c1126_42 := xm_dr d_1126_41
theorem k_1126_42 : xm_gi xm_c1126 42 = some xm_e1126_42 := xm_gt d_1126_42
theorem d_1126_43 : List.drop 43 xm_c1126 = xm_c1126_43 := xm_dr d_1126_42
theorem k_1126_43 : xm_gi xm_c1126 43 = some xm_e1126_43 := xm_gt d_1126_43
theorem d_1126_44 : List.drop 44 xm_c1126 = xm_c1126_44 := xm_dr d_1126_43
theorem k_1126_44 : xm_gi xm_c1126 44 = some xm_e1126_44 := xm_gt d_1126_44
theorem d_1126_45 : List.drop 45 xm_c1126 = xm_c1126_45 := xm_dr d_1126_44
theorem k_1126_45 : xm_gi xm_c1126 45 = some xm_e1126_45 := xm_gt d_1126_45
theorem d_1126_46 : List.drop 46 xm_c1126 = xm_c1126_46 := xm_dr d_1126_45
theorem k_1126_46 : xm_gi xm_c1126 46 = some xm_e1126_46 := xm_gt d_1126_46
theorem d_1126_47 : List.drop 47 xm_c1126 = xm_c1126_47 := xm_dr d_1126_46
theorem k_1126_47 : xm_gi xm_c1126 47 = some xm_e1126_47 := xm_gt d_1126_47
theorem d_1126_48 : List.drop 48 xm_c1126 = xm_c1126_48 := xm_dr d_1126_47
theorem k_1126_48 : xm_gi xm_c1126 48 = some xm_e1126_48 := xm_gt d_1126_48
theorem d_1126_49 : List.drop 49 xm_c1126 = xm_c1126_49 := xm_dr d_1126_48
theorem k_1126_49 : xm_gi xm_c1126 49 = some xm_e1126_49 := xm_gt d_1126_49
theorem d_1126_50 : List.drop 50 xm_c1126 = xm_c1126_50 := xm_dr d_1126_49
theorem k_1126_50 : xm_gi xm_c1126 50 = some xm_e1126_50 := xm_gt d_1126_50
theorem d_1126_51 : List.drop 51 xm_c1126 = xm_c1126_51 := xm_dr d_1126_50
theorem k_1126_51 : xm_gi xm_c1126 51 = some xm_e1126_51 := xm_gt d_1126_51
theorem d_1126_52 : List.drop 52 xm_c1126 = xm_c1126_52 := xm_dr d_1126_51
theorem k_1126_52 : xm_gi xm_c1126 52 = some xm_e1126_52 := xm_gt d_1126_52
theorem d_1126_53 : List.drop 53 xm_c1126 = xm_c1126_53 := xm_dr d_1126_52
theorem k_1126_53 : xm_gi xm_c1126 53 = some xm_e1126_53 := xm_gt d_1126_53
theorem d_1126_54 : List.drop 54 xm_c1126 = xm_c1126_54 := xm_dr d_1126_53
theorem k_1126_54 : xm_gi xm_c1126 54 = some xm_e1126_54 := xm_gt d_1126_54
theorem d_1126_55 : List.drop 55 xm_c1126 = xm_c1126_55 := xm_dr d_1126_54
theorem k_1126_55 : xm_gi xm_c1126 55 = some xm_e1126_55 := xm_gt d_1126_55
theorem d_1126_56 : List.drop 56 xm_c1126 = xm_c1126_56 := xm_dr d_1126_55
theorem k_1126_56 : xm_gi xm_c1126 56 = some xm_e1126_56 := xm_gt d_1126_56
theorem d_1126_57 : List.drop 57 xm_c1126 = xm_c1126_57 := xm_dr d_1126_56
theorem k_1126_57 : xm_gi xm_c1126 57 = some xm_e1126_57 := xm_gt d_1126_57
theorem d_1126_58 : List.drop 58 xm_c1126 = xm_c1126_58 := xm_dr d_1126_57
theorem k_1126_58 : xm_gi xm_c1126 58 = some xm_e1126_58 := xm_gt d_1126_58
theorem d_1126_59 : List.drop 59 xm_c1126 = xm_c1126_59 := xm_dr d_1126_58
theorem k_1126_59 : xm_gi xm_c1126 59 = some xm_e1126_59 := xm_gt d_1126_59
theorem d_1126_60 : List.drop 60 xm_c1126 = xm_c1126_60 := xm_dr d_1126_59
theorem k_1126_60 : xm_gi xm_c1126 60 = some xm_e1126_60 := xm_gt d_1126_60
theorem d_1126_61 : List.drop 61 xm_c1126 = xm_c1126_61 := xm_dr d_1126_60
theorem k_1126_61 : xm_gi xm_c1126 61 = some xm_e1126_61 := xm_gt d_1126_61
theorem d_1126_62 : List.drop 62 xm_c1126 = xm_c1126_62 := xm_dr d_1126_61
theorem k_1126_62 : xm_gi xm_c1126 62 = some xm_e1126_62 := xm_gt d_1126_62
theorem d_1126_63 : List.drop 63 xm_c1126 = xm_c1126_63 := xm_dr d_1126_62
theorem k_1126_63 : xm_gi xm_c1126 63 = some xm_e1126_63 := xm_gt d_1126_63
theorem d_1126_64 : List.drop 64 xm_c1126 = xm_c1126_64 := xm_dr d_1126_63
theorem k_1126_64 : xm_gi xm_c1126 64 = some xm_e1126_64 := xm_gt d_1126_64
theorem d_1126_65 : List.drop 65 xm_c1126 = xm_c1126_65 := xm_dr d_1126_64
theorem k_1126_65 : xm_gi xm_c1126 65 = some xm_e1126_65 := xm_gt d_1126_65
theorem d_1126_66 : List.drop 66 xm_c1126 = xm_c1126_66 := xm_dr d_1126_65
theorem k_1126_66 : xm_gi xm_c1126 66 = some xm_e1126_66 := xm_gt d_1126_66
theorem d_1126_67 : List.drop 67 xm_c1126 = xm_c1126_67 := xm_dr d_1126_66
theorem k_1126_67 : xm_gi xm_c1126 67 = some xm_e1126_67 := xm_gt d_1126_67
theorem d_1126_68 : List.drop 68 xm_c1126 = xm_c1126_68 := xm_dr d_1126_67
theorem k_1126_68 : xm_gi xm_c1126 68 = some xm_e1126_68 := xm_gt d_1126_68
theorem d_1126_69 : List.drop 69 xm_c1126 = xm_c1126_69 := xm_dr d_1126_68
theorem k_1126_69 : xm_gi xm_c1126 69 = some xm_e1126_69 := xm_gt d_1126_69
theorem d_1126_70 : List.drop 70 xm_c1126 = xm_c1126_70 := xm_dr d_1126_69
theorem k_1126_70 : xm_gi xm_c1126 70 = some xm_e1126_70 := xm_gt d_1126_70
theorem d_1126_71 : List.drop 71 xm_c1126 = xm_c1126_71 := xm_dr d_1126_70
theorem k_1126_71 : xm_gi xm_c1126 71 = some xm_e1126_71 := xm_gt d_1126_71
theorem d_1126_72 : List.drop 72 xm_c1126 = xm_c1126_72 := xm_dr d_1126_71
theorem k_1126_72 : xm_gi xm_c1126 72 = some xm_e1126_72 := xm_gt d_1126_72
theorem d_1126_73 : List.drop 73 xm_c1126 = xm_c1126_73 := xm_dr d_1126_72
theorem k_1126_73 : xm_gi xm_c1126 73 = some xm_e1126_73 := xm_gt d_1126_73
theorem d_1126_74 : List.drop 74 xm_c1126 = xm_c1126_74 := xm_dr d_1126_73
theorem k_1126_74 : xm_gi xm_c1126 74 = some xm_e1126_74 := xm_gt d_1126_74
theorem d_1126_75 : List.drop 75 xm_c1126 = xm_c1126_75 := xm_dr d_1126_74
theorem k_1126_75 : xm_gi xm_c1126 75 = some xm_e1126_75 := xm_gt d_1126_75
theorem d_1126_76 : List.drop 76 xm_c1126 = xm_c1126_76 := xm_dr d_1126_75
theorem k_1126_76 : xm_gi xm_c1126 76 = some xm_e1126_76 := xm_gt d_1126_76
theorem d_1126_77 : List.drop 77 xm_c1126 = xm_c1126_77 := xm_dr d_1126_76
theorem k_1126_77 : xm_gi xm_c1126 77 = some xm_e1126_77 := xm_gt d_1126_77
theorem d_1126_78 : List.drop 78 xm_c1126 = xm_c1126_78 := xm_dr d_1126_77
theorem k_1126_78 : xm_gi xm_c1126 78 = some xm_e1126_78 := xm_gt d_1126_78
theorem d_1126_79 : List.drop 79 xm_c1126 = xm_c1126_79 := xm_dr d_1126_78
theorem k_1126_79 : xm_gi xm_c1126 79 = some xm_e1126_79 := xm_gt d_1126_79
theorem d_1126_80 : List.drop 80 xm_c1126 = xm_c1126_80 := xm_dr d_1126_79
theorem k_1126_80 : xm_gi xm_c1126 80 = some xm_e1126_80 := xm_gt d_1126_80
theorem d_1126_81 : List.drop 81 xm_c1126 = xm_c1126_81 := xm_dr d_1126_80
theorem k_1126_81 : xm_gi xm_c1126 81 = some xm_e1126_81 := xm_gt d_1126_81
theorem d_1126_82 : List.drop 82 xm_c1126 = xm_c1126_82 := xm_dr d_1126_81
theorem k_1126_82 : xm_gi xm_c1126 82 = some xm_e1126_82 := xm_gt d_1126_82
theorem xb_1126_0 {sc : List Int} {f : Nat → List xm_V → xm_W → xm_R} {w : xm_W} {Q : Option xm_V × xm_W → Prop} {x0 : Nat} {x1 : Int}
  (h : xm_Oi (f 1103 [.inl x1, .inl 0, .inl 1] w) (fun z2 w1 => if (z2 : Int) = 0 then (xm_Oi (f 1102 [.inr (.inl (some x0)), .inl 1] w1) (fun z32 w31 => Q (some (.inl z32), w31))) else (xm_O (xm_setf w1 x0 9 9 0 (.inl x1)) (fun w3 => xm_O (xm_setf w3 x0 9 6 0 (.inl 0)) (fun w4 => xm_O (xm_setf w4 x0 9 7 0 (.inl 0)) (fun w5 => xm_O (xm_setf w5 x0 9 8 0 (.inl 0)) (fun w6 => xm_Oi (f 1118 [.inr (.inl (some x0))] w6) (fun z8 w7 => if (z8 : Int) = 0 then (xm_O (xm_fr (xm_old sc) w7 x0 9 0) (fun r9 => xm_O (xm_seti w7 r9 4 0) (fun w10 => if (0 : Int) = 0 then (xm_O (xm_fi (xm_old sc) w10 x0 9 6) (fun z14 => Q (some (.inl (xm_w ((-10) - z14))), w10))) else (xm_O (xm_fr (xm_old sc) w10 x0 9 0) (fun r11 => xm_O (xm_fi (xm_old sc) w10 x0 9 8) (fun z12 => xm_O (xm_seti w10 r11 (xm_w (339 + (xm_w (125 * x1)))) z12) (fun w13 => xm_EQ (xm_old sc) xm_sta f xm_c1126 61 [some (.inr (.inl (some x0))), some (.inl x1), some (.inl 0), some (.inl (xm_w (339 + (xm_w (125 * x1))))), some (.inl 0)] [] w13 Q))))))) else (xm_O (xm_fi (xm_old sc) w7 x0 9 6) (fun z15 => xm_O (xm_fr (xm_old sc) w7 x0 9 0) (fun r16 => xm_O (xm_ints (xm_old sc) w7 r16) (fun l17 => xm_O (xm_at l17 4) (fun z18 => if (z15 : Int) = z18 then (xm_O (xm_fr (xm_old sc) w7 x0 9 0) (fun r25 => xm_O (xm_seti w7 r25 4 0) (fun w26 => if (1 : Int) = 0 then (xm_O (xm_fi (xm_old sc) w26 x0 9 6) (fun z30 => Q (some (.inl (xm_w ((-10) - z30))), w26))) else (xm_O (xm_fr (xm_old sc) w26 x0 9 0) (fun r27 => xm_O (xm_fi (xm_old sc) w26 x0 9 8) (fun z28 => xm_O (xm_seti w26 r27 (xm_w (339 + (xm_w (125 * x1)))) z28) (fun w29 => xm_EQ (xm_old sc) xm_sta f xm_c1126 61 [some (.inr (.inl (some x0))), some (.inl x1), some (.inl 1), some (.inl (xm_w (339 + (xm_w (125 * x1))))), some (.inl 0)] [] w29 Q))))))) else (xm_O (xm_fr (xm_old sc) w7 x0 9 0) (fun r19 => xm_O (xm_seti w7 r19 4 0) (fun w20 => if (0 : Int) = 0 then (xm_O (xm_fi (xm_old sc) w20 x0 9 6) (fun z24 => Q (some (.inl (xm_w ((-10) - z24))), w20))) else (xm_O (xm_fr (xm_old sc) w20 x0 9 0) (fun r21 => xm_O (xm_fi (xm_old sc) w20 x0 9 8) (fun z22 => xm_O (xm_seti w20 r21 (xm_w (339 + (xm_w (125 * x1)))) z22) (fun w23 => xm_EQ (xm_old sc) xm_sta f xm_c1126 61 [some (.inr (.inl (some x0))), some (.inl x1), some (.inl 0), some (.inl (xm_w (339 + (xm_w (125 * x1))))), some (.inl 0)] [] w23 Q)))))))))))))))))))) :
  xm_EQ (xm_old sc) xm_sta f xm_c1126 0 [some (.inr (.inl (some x0))), some (.inl x1), none, none, none] [] w Q :=
  (xq_iload_n k_1126_0 rfl (xq_iconst k_1126_1 (xq_iconst k_1126_2 (xq_invs2 k_1126_3 xr_1103 rfl rfl rfl h (fun z2 w1 h => (xq_if_ne k_1126_4 h (fun h => (xq_aload_n k_1126_5 rfl (xq_iconst k_1126_6 (xq_invv1 k_1126_7 xr_1102 rfl rfl rfl h (fun z32 w31 h => (xq_ireturn k_1126_8 h)))))) (fun h => (xq_aload_n k_1126_9 rfl (xq_iload_n k_1126_10 rfl (xq_put k_1126_11 rfl h (fun w3 h => (xq_aload_n k_1126_12 rfl (xq_iconst k_1126_13 (xq_put k_1126_14 rfl h (fun w4 h => (xq_aload_n k_1126_15 rfl (xq_iconst k_1126_16 (xq_put k_1126_17 rfl h (fun w5 h => (xq_aload_n k_1126_18 rfl (xq_iconst k_1126_19 (xq_put k_1126_20 rfl h (fun w6 h => (xq_aload_n k_1126_21 rfl (xq_invv2 k_1126_22 xr_1118 rfl rfl rfl h (fun z8 w7 h => (xq_if_eq k_1126_23 h (fun h => (xq_iconst k_1126_33 (xq_istore_n k_1126_34 rfl (xq_aload_n k_1126_35 rfl (xq_getr k_1126_36 rfl h (fun r9 h => (xq_iconst k_1126_37 (xq_iconst k_1126_38 (xq_iastore k_1126_39 h (fun w10 h => (xq_iload_n k_1126_40 rfl (xq_if_ne k_1126_41 h (fun h => (xq_bipush k_1126_42 (xq_aload_n k_1126_43 rfl (xq_geti0 k_1126_44 rfl h (fun z14 h => (xq_isub k_1126_45 (xq_ireturn k_1126_46 h))))))) (fun h => (xq_sipush k_1126_47 (xq_bipush k_1126_48 (xq_iload_n k_1126_49 rfl (xq_imul k_1126_50 (xq_iadd k_1126_51 (xq_istore_n k_1126_52 rfl (xq_aload_n k_1126_53 rfl (xq_getr k_1126_54 rfl h (fun r11 h => (xq_iload_n k_1126_55 rfl (xq_aload_n k_1126_56 rfl (xq_geti0 k_1126_57 rfl h (fun z12 h => (xq_iastore k_1126_58 h (fun w13 h => (xq_iconst k_1126_59 (xq_istore k_1126_60 rfl h)))))))))))))))))))))))))))))) (fun h => (xq_aload_n k_1126_24 rfl (xq_geti0 k_1126_25 rfl h (fun z15 h => (xq_aload_n k_1126_26 rfl (xq_getr k_1126_27 rfl h (fun r16 h => (xq_iconst k_1126_28 (xq_iaload k_1126_29 h (fun l17 h => h) (fun l17 z18 h => (xq_ic_ne k_1126_30 h (fun h => (xq_iconst k_1126_31 (xq_goto k_1126_32 (xq_istore_n k_1126_34 rfl (xq_aload_n k_1126_35 rfl (xq_getr k_1126_36 rfl h (fun r25 h => (xq_iconst k_1126_37 (xq_iconst k_1126_38 (xq_iastore k_1126_39 h (fun w26 h => (xq_iload_n k_1126_40 rfl (xq_if_ne k_1126_41 h (fun h => (xq_bipush k_1126_42 (xq_aload_n k_1126_43 rfl (xq_geti0 k_1126_44 rfl h (fun z30 h => (xq_isub k_1126_45 (xq_ireturn k_1126_46 h))))))) (fun h => (xq_sipush k_1126_47 (xq_bipush k_1126_48 (xq_iload_n k_1126_49 rfl (xq_imul k_1126_50 (xq_iadd k_1126_51 (xq_istore_n k_1126_52 rfl (xq_aload_n k_1126_53 rfl (xq_getr k_1126_54 rfl h (fun r27 h => (xq_iload_n k_1126_55 rfl (xq_aload_n k_1126_56 rfl (xq_geti0 k_1126_57 rfl h (fun z28 h => (xq_iastore k_1126_58 h (fun w29 h => (xq_iconst k_1126_59 (xq_istore k_1126_60 rfl h))))))))))))))))))))))))))))))) (fun h => (xq_iconst k_1126_33 (xq_istore_n k_1126_34 rfl (xq_aload_n k_1126_35 rfl (xq_getr k_1126_36 rfl h (fun r19 h => (xq_iconst k_1126_37 (xq_iconst k_1126_38 (xq_iastore k_1126_39 h (fun w20 h => (xq_iload_n k_1126_40 rfl (xq_if_ne k_1126_41 h (fun h => (xq_bipush k_1126_42 (xq_aload_n k_1126_43 rfl (xq_geti0 k_1126_44 rfl h (fun z24 h => (xq_isub k_1126_45 (xq_ireturn k_1126_46 h))))))) (fun h => (xq_sipush k_1126_47 (xq_bipush k_1126_48 (xq_iload_n k_1126_49 rfl (xq_imul k_1126_50 (xq_iadd k_1126_51 (xq_istore_n k_1126_52 rfl (xq_aload_n k_1126_53 rfl (xq_getr k_1126_54 rfl h (fun r21 h => (xq_iload_n k_1126_55 rfl (xq_aload_n k_1126_56 rfl (xq_geti0 k_1126_57 rfl h (fun z22 h => (xq_iastore k_1126_58 h (fun w23 h => (xq_iconst k_1126_59 (xq_istore k_1126_60 rfl h))))))))))))))))))))))))))))))))))))))))))))))))))))))))))))))))))))
theorem xb_1126_61 {sc : List Int} {f : Nat → List xm_V → xm_W → xm_R} {w : xm_W} {Q : Option xm_V × xm_W → Prop} {x0 : Nat} {x1 : Int} {x2 : Int} {x3 : Int} {x4 : Int}
  (h : xm_O (xm_fi (xm_old sc) w x0 9 8) (fun z1 => if (x4 : Int) < (xm_w (2 * z1)) then (xm_O (xm_fr (xm_old sc) w x0 9 0) (fun r2 => xm_O (xm_fr (xm_old sc) w x0 9 10) (fun r3 => xm_O (xm_ints (xm_old sc) w r3) (fun l4 => xm_O (xm_at l4 x4) (fun z5 => xm_O (xm_seti w r2 (xm_w ((xm_w (x3 + 1)) + x4)) z5) (fun w6 => xm_EQ (xm_old sc) xm_sta f xm_c1126 61 [some (.inr (.inl (some x0))), some (.inl x1), some (.inl x2), some (.inl x3), some (.inl (xm_w (x4 + 1)))] [] w6 Q)))))) else (Q (some (.inl 1), w)))) :
  xm_EQ (xm_old sc) xm_sta f xm_c1126 61 [some (.inr (.inl (some x0))), some (.inl x1), some (.inl x2), some (.inl x3), some (.inl x4)] [] w Q :=
  (xq_iload k_1126_61 rfl (xq_iconst k_1126_62 (xq_aload_n k_1126_63 rfl (xq_geti0 k_1126_64 rfl h (fun z1 h => (xq_imul k_1126_65 (xq_ic_ge k_1126_66 h (fun h => (xq_aload_n k_1126_67 rfl (xq_getr k_1126_68 rfl h (fun r2 h => (xq_iload_n k_1126_69 rfl (xq_iconst k_1126_70 (xq_iadd k_1126_71 (xq_iload k_1126_72 rfl (xq_iadd k_1126_73 (xq_aload_n k_1126_74 rfl (xq_getr k_1126_75 rfl h (fun r3 h => (xq_iload k_1126_76 rfl (xq_iaload k_1126_77 h (fun l4 h => h) (fun l4 z5 h => (xq_iastore k_1126_78 h (fun w6 h => (xq_iinc k_1126_79 rfl rfl (xq_goto k_1126_80 h))))))))))))))))))) (fun h => (xq_iconst k_1126_81 (xq_ireturn k_1126_82 h))))))))))
/-- ShodBackwardsModel.untell(I)I -/
theorem d_1127_0 : List.drop 0 xm_c1127 = xm_c1127 := rfl
theorem k_1127_0 : xm_gi xm_c1127 0 = some xm_e1127_0 := xm_gt d_1127_0
theorem d_1127_1 : List.drop 1 xm_c1127 = xm_c1127_1 := xm_dr d_1127_0
theorem k_1127_1 : xm_gi xm_c1127 1 = some xm_e1127_1 := xm_gt d_1127_1
theorem d_1127_2 : List.drop 2 xm_c1127 = xm_c1127_2 := xm_dr d_1127_1
theorem k_1127_2 : xm_gi xm_c1127 2 = some xm_e1127_2 := xm_gt d_1127_2
theorem d_1127_3 : List.drop 3 xm_c1127 = xm_c1127_3 := xm_dr d_1127_2
theorem k_1127_3 : xm_gi xm_c1127 3 = some xm_e1127_3 := xm_gt d_1127_3
theorem d_1127_4 : List.drop 4 xm_c1127 = xm_c1127_4 := xm_dr d_1127_3
theorem k_1127_4 : xm_gi xm_c1127 4 = some xm_e1127_4 := xm_gt d_1127_4
theorem d_1127_5 : List.drop 5 xm_c1127 = xm_c1127_5 := xm_dr d_1127_4
theorem k_1127_5 : xm_gi xm_c1127 5 = some xm_e1127_5 := xm_gt d_1127_5
theorem d_1127_6 : List.drop 6 xm_c1127 = xm_c1127_6 := xm_dr d_1127_5
theorem k_1127_6 : xm_gi xm_c1127 6 = some xm_e1127_6 := xm_gt d_1127_6
theorem d_1127_7 : List.drop 7 xm_c1127 = xm_c1127_7 := xm_dr d_1127_6
theorem k_1127_7 : xm_gi xm_c1127 7 = some xm_e1127_7 := xm_gt d_1127_7
theorem d_1127_8 : List.drop 8 xm_c1127 = xm_c1127_8 := xm_dr d_1127_7
theorem k_1127_8 : xm_gi xm_c1127 8 = some xm_e1127_8 := xm_gt d_1127_8
theorem d_1127_9 : List.drop 9 xm_c1127 = xm_c1127_9 := xm_dr d_1127_8
theorem k_1127_9 : xm_gi xm_c1127 9 = some xm_e1127_9 := xm_gt d_1127_9
theorem d_1127_10 : List.drop 10 xm_c1127 = xm_c1127_10 := xm_dr d_1127_9
theorem k_1127_10 : xm_gi xm_c1127 10 = some xm_e1127_10 := xm_gt d_1127_10
theorem d_1127_11 : List.drop 11 xm_c1127 = xm_c1127_11 := xm_dr d_1127_10
theorem k_1127_11 : xm_gi xm_c1127 11 = some xm_e1127_11 := xm_gt d_1127_11
theorem d_1127_12 : List.drop 12 xm_c1127 = xm_c1127_12 := xm_dr d_1127_11
theorem k_1127_12 : xm_gi xm_c1127 12 = some xm_e1127_12 := xm_gt d_1127_12
theorem d_1127_13 : List.drop 13 xm_c1127 = xm_c1127_13 := xm_dr d_1127_12
theorem k_1127_13 : xm_gi xm_c1127 13 = some xm_e1127_13 := xm_gt d_1127_13
theorem d_1127_14 : List.drop 14 xm_c1127 = xm_c1127_14 := xm_dr d_1127_13
theorem k_1127_14 : xm_gi xm_c1127 14 = some xm_e1127_14 := xm_gt d_1127_14
theorem d_1127_15 : List.drop 15 xm_c1127 = xm_c1127_15 := xm_dr d_1127_14
theorem k_1127_15 : xm_gi xm_c1127 15 = some xm_e1127_15 := xm_gt d_1127_15
theorem d_1127_16 : List.drop 16 xm_c1127 = xm_c1127_16 := xm_dr d_1127_15
theorem k_1127_16 : xm_gi xm_c1127 16 = some xm_e1127_16 := xm_gt d_1127_16
theorem d_1127_17 : List.drop 17 xm_c1127 = xm_c1127_17 := xm_dr d_1127_16
theorem k_1127_17 : xm_gi xm_c1127 17 = some xm_e1127_17 := xm_gt d_1127_17
theorem d_1127_18 : List.drop 18 xm_c1127 = xm_c1127_18 := xm_dr d_1127_17
theorem k_1127_18 : xm_gi xm_c1127 18 = some xm_e1127_18 := xm_gt d_1127_18
theorem d_1127_19 : List.drop 19 xm_c1127 = xm_c1127_19 := xm_dr d_1127_18
theorem k_1127_19 : xm_gi xm_c1127 19 = some xm_e1127_19 := xm_gt d_1127_19
theorem d_1127_20 : List.drop 20 xm_c1127 = xm_c1127_20 := xm_dr d_1127_19
theorem k_1127_20 : xm_gi xm_c1127 20 = some xm_e1127_20 := xm_gt d_1127_20
theorem d_1127_21 : List.drop 21 xm_c1127 = xm_c1127_21 := xm_dr d_1127_20
theorem k_1127_21 : xm_gi xm_c1127 21 = some xm_e1127_21 := xm_gt d_1127_21
theorem d_1127_22 : List.drop 22 xm_c1127 = xm_c1127_22 := xm_dr d_1127_21
theorem k_1127_22 : xm_gi xm_c1127 22 = some xm_e1127_22 := xm_gt d_1127_22
theorem d_1127_23 : List.drop 23 xm_c1127 = xm_c1127_23 := xm_dr d_1127_22
theorem k_1127_23 : xm_gi xm_c1127 23 = some xm_e1127_23 := xm_gt d_1127_23
theorem d_1127_24 : List.drop 24 xm_c1127 = xm_c1127_24 := xm_dr d_1127_23
theorem k_1127_24 : xm_gi xm_c1127 24 = some xm_e1127_24 := xm_gt d_1127_24
theorem d_1127_25 : List.drop 25 xm_c1127 = xm_c1127_25 := xm_dr d_1127_24
theorem k_1127_25 : xm_gi xm_c1127 25 = some xm_e1127_25 := xm_gt d_1127_25
theorem d_1127_26 : List.drop 26 xm_c1127 = xm_c1127_26 := xm_dr d_1127_25
theorem k_1127_26 : xm_gi xm_c1127 26 = some xm_e1127_26 := xm_gt d_1127_26
theorem d_1127_27 : List.drop 27 xm_c1127 = xm_c1127_27 := xm_dr d_1127_26
theorem k_1127_27 : xm_gi xm_c1127 27 = some xm_e1127_27 := xm_gt d_1127_27
theorem xb_1127_0 {sc : List Int} {f : Nat → List xm_V → xm_W → xm_R} {w : xm_W} {Q : Option xm_V × xm_W → Prop} {x0 : Nat} {x1 : Int}
  (h : xm_Oi (f 1103 [.inl x1, .inl 0, .inl 1] w) (fun z2 w1 => if (z2 : Int) = 0 then (xm_Oi (f 1102 [.inr (.inl (some x0)), .inl 1] w1) (fun z10 w9 => Q (some (.inl z10), w9))) else (xm_Oi (f 1125 [.inr (.inl (some x0)), .inl x1] w1) (fun z4 w3 => if (z4 : Int) = 0 then (xm_O (xm_fr (xm_old sc) w3 x0 9 0) (fun r5 => xm_O (xm_seti w3 r5 (xm_w (339 + (xm_w (125 * x1)))) 0) (fun w6 => Q (some (.inl 0), w6)))) else (xm_O (xm_fr (xm_old sc) w3 x0 9 0) (fun r7 => xm_O (xm_seti w3 r7 (xm_w (339 + (xm_w (125 * x1)))) 0) (fun w8 => Q (some (.inl 1), w8)))))))) :
  xm_EQ (xm_old sc) xm_sta f xm_c1127 0 [some (.inr (.inl (some x0))), some (.inl x1), none] [] w Q :=
  (xq_iload_n k_1127_0 rfl (xq_iconst k_1127_1 (xq_iconst k_1127_2 (xq_invs2 k_1127_3 xr_1103 rfl rfl rfl h (fun z2 w1 h => (xq_if_ne k_1127_4 h (fun h => (xq_aload_n k_1127_5 rfl (xq_iconst k_1127_6 (xq_invv1 k_1127_7 xr_1102 rfl rfl rfl h (fun z10 w9 h => (xq_ireturn k_1127_8 h)))))) (fun h => (xq_aload_n k_1127_9 rfl (xq_iload_n k_1127_10 rfl (xq_invv2 k_1127_11 xr_1125 rfl rfl rfl h (fun z4 w3 h => (xq_if_eq k_1127_12 h (fun h => (xq_iconst k_1127_15 (xq_istore_n k_1127_16 rfl (xq_aload_n k_1127_17 rfl (xq_getr k_1127_18 rfl h (fun r5 h => (xq_sipush k_1127_19 (xq_bipush k_1127_20 (xq_iload_n k_1127_21 rfl (xq_imul k_1127_22 (xq_iadd k_1127_23 (xq_iconst k_1127_24 (xq_iastore k_1127_25 h (fun w6 h => (xq_iload_n k_1127_26 rfl (xq_ireturn k_1127_27 h)))))))))))))))) (fun h => (xq_iconst k_1127_13 (xq_goto k_1127_14 (xq_istore_n k_1127_16 rfl (xq_aload_n k_1127_17 rfl (xq_getr k_1127_18 rfl h (fun r7 h => (xq_sipush k_1127_19 (xq_bipush k_1127_20 (xq_iload_n k_1127_21 rfl (xq_imul k_1127_22 (xq_iadd k_1127_23 (xq_iconst k_1127_24 (xq_iastore k_1127_25 h (fun w8 h => (xq_iload_n k_1127_26 rfl (xq_ireturn k_1127_27 h)))))))))))))))))))))))))))))
/-- ShodBackwardsModel.joined(III)I -/
theorem d_1128_0 : List.drop 0 xm_c1128 = xm_c1128 := rfl
theorem k_1128_0 : xm_gi xm_c1128 0 = some xm_e1128_0 := xm_gt d_1128_0
theorem d_1128_1 : List.drop 1 xm_c1128 = xm_c1128_1 := xm_dr d_1128_0
theorem k_1128_1 : xm_gi xm_c1128 1 = some xm_e1128_1 := xm_gt d_1128_1
theorem d_1128_2 : List.drop 2 xm_c1128 = xm_c1128_2 := xm_dr d_1128_1
theorem k_1128_2 : xm_gi xm_c1128 2 = some xm_e1128_2 := xm_gt d_1128_2
theorem d_1128_3 : List.drop 3 xm_c1128 = xm_c1128_3 := xm_dr d_1128_2
theorem k_1128_3 : xm_gi xm_c1128 3 = some xm_e1128_3 := xm_gt d_1128_3
theorem d_1128_4 : List.drop 4 xm_c1128 = xm_c1128_4 := xm_dr d_1128_3
theorem k_1128_4 : xm_gi xm_c1128 4 = some xm_e1128_4 := xm_gt d_1128_4
theorem d_1128_5 : List.drop 5 xm_c1128 = xm_c1128_5 := xm_dr d_1128_4
theorem k_1128_5 : xm_gi xm_c1128 5 = some xm_e1128_5 := xm_gt d_1128_5
theorem d_1128_6 : List.drop 6 xm_c1128 = xm_c1128_6 := xm_dr d_1128_5
theorem k_1128_6 : xm_gi xm_c1128 6 = some xm_e1128_6 := xm_gt d_1128_6
theorem d_1128_7 : List.drop 7 xm_c1128 = xm_c1128_7 := xm_dr d_1128_6
theorem k_1128_7 : xm_gi xm_c1128 7 = some xm_e1128_7 := xm_gt d_1128_7
theorem d_1128_8 : List.drop 8 xm_c1128 = xm_c1128_8 := xm_dr d_1128_7
theorem k_1128_8 : xm_gi xm_c1128 8 = some xm_e1128_8 := xm_gt d_1128_8
theorem d_1128_9 : List.drop 9 xm_c1128 = xm_c1128_9 := xm_dr d_1128_8
theorem k_1128_9 : xm_gi xm_c1128 9 = some xm_e1128_9 := xm_gt d_1128_9
theorem d_1128_10 : List.drop 10 xm_c1128 = xm_c1128_10 := xm_dr d_1128_9
theorem k_1128_10 : xm_gi xm_c1128 10 = some xm_e1128_10 := xm_gt d_1128_10
theorem d_1128_11 : List.drop 11 xm_c1128 = xm_c1128_11 := xm_dr d_1128_10
theorem k_1128_11 : xm_gi xm_c1128 11 = some xm_e1128_11 := xm_gt d_1128_11
theorem d_1128_12 : List.drop 12 xm_c1128 = xm_c1128_12 := xm_dr d_1128_11
theorem k_1128_12 : xm_gi xm_c1128 12 = some xm_e1128_12 := xm_gt d_1128_12
theorem d_1128_13 : List.drop 13 xm_c1128 = xm_c1128_13 := xm_dr d_1128_12
theorem k_1128_13 : xm_gi xm_c1128 13 = some xm_e1128_13 := xm_gt d_1128_13
theorem d_1128_14 : List.drop 14 xm_c1128 = xm_c1128_14 := xm_dr d_1128_13
theorem k_1128_14 : xm_gi xm_c1128 14 = some xm_e1128_14 := xm_gt d_1128_14
theorem d_1128_15 : List.drop 15 xm_c1128 = xm_c1128_15 := xm_dr d_1128_14
theorem k_1128_15 : xm_gi xm_c1128 15 = some xm_e1128_15 := xm_gt d_1128_15
theorem d_1128_16 : List.drop 16 xm_c1128 = xm_c1128_16 := xm_dr d_1128_15
theorem k_1128_16 : xm_gi xm_c1128 16 = some xm_e1128_16 := xm_gt d_1128_16
theorem d_1128_17 : List.drop 17 xm_c1128 = xm_c1128_17 := xm_dr d_1128_16
theorem k_1128_17 : xm_gi xm_c1128 17 = some xm_e1128_17 := xm_gt d_1128_17
theorem d_1128_18 : List.drop 18 xm_c1128 = xm_c1128_18 := xm_dr d_1128_17
theorem k_1128_18 : xm_gi xm_c1128 18 = some xm_e1128_18 := xm_gt d_1128_18
theorem d_1128_19 : List.drop 19 xm_c1128 = xm_c1128_19 := xm_dr d_1128_18
theorem k_1128_19 : xm_gi xm_c1128 19 = some xm_e1128_19 := xm_gt d_1128_19
theorem d_1128_20 : List.drop 20 xm_c1128 = xm_c1128_20 := xm_dr d_1128_19
theorem k_1128_20 : xm_gi xm_c1128 20 = some xm_e1128_20 := xm_gt d_1128_20
theorem d_1128_21 : List.drop 21 xm_c1128 = xm_c1128_21 := xm_dr d_1128_20
theorem k_1128_21 : xm_gi xm_c1128 21 = some xm_e1128_21 := xm_gt d_1128_21
theorem d_1128_22 : List.drop 22 xm_c1128 = xm_c1128_22 := xm_dr d_1128_21
theorem k_1128_22 : xm_gi xm_c1128 22 = some xm_e1128_22 := xm_gt d_1128_22
theorem d_1128_23 : List.drop 23 xm_c1128 = xm_c1128_23 := xm_dr d_1128_22
theorem k_1128_23 : xm_gi xm_c1128 23 = some xm_e1128_23 := xm_gt d_1128_23
theorem d_1128_24 : List.drop 24 xm_c1128 = xm_c1128_24 := xm_dr d_1128_23
theorem k_1128_24 : xm_gi xm_c1128 24 = some xm_e1128_24 := xm_gt d_1128_24
theorem d_1128_25 : List.drop 25 xm_c1128 = xm_c1128_25 := xm_dr d_1128_24
theorem k_1128_25 : xm_gi xm_c1128 25 = some xm_e1128_25 := xm_gt d_1128_25
theorem d_1128_26 : List.drop 26 xm_c1128 = xm_c1128_26 := xm_dr d_1128_25
theorem k_1128_26 : xm_gi xm_c1128 26 = some xm_e1128_26 := xm_gt d_1128_26
theorem d_1128_27 : List.drop 27 xm_c1128 = xm_c1128_27 := xm_dr d_1128_26
theorem k_1128_27 : xm_gi xm_c1128 27 = some xm_e1128_27 := xm_gt d_1128_27
theorem d_1128_28 : List.drop 28 xm_c1128 = xm_c1128_28 := xm_dr d_1128_27
theorem k_1128_28 : xm_gi xm_c1128 28 = some xm_e1128_28 := xm_gt d_1128_28
theorem d_1128_29 : List.drop 29 xm_c1128 = xm_c1128_29 := xm_dr d_1128_28
theorem k_1128_29 : xm_gi xm_c1128 29 = some xm_e1128_29 := xm_gt d_1128_29
theorem d_1128_30 : List.drop 30 xm_c1128 = xm_c1128_30 := xm_dr d_1128_29
theorem k_1128_30 : xm_gi xm_c1128 30 = some xm_e1128_30 := xm_gt d_1128_30
theorem d_1128_31 : List.drop 31 xm_c1128 = xm_c1128_31 := xm_dr d_1128_30
theorem k_1128_31 : xm_gi xm_c1128 31 = some xm_e1128_31 := xm_gt d_1128_31
theorem d_1128_32 : List.drop 32 xm_c1128 = xm_c1128_32 := xm_dr d_1128_31
theorem k_1128_32 : xm_gi xm_c1128 32 = some xm_e1128_32 := xm_gt d_1128_32
theorem d_1128_33 : List.drop 33 xm_c1128 = xm_c1128_33 := xm_dr d_1128_32
theorem k_1128_33 : xm_gi xm_c1128 33 = some xm_e1128_33 := xm_gt d_1128_33
theorem d_1128_34 : List.drop 34 xm_c1128 = xm_c1128_34 := xm_dr d_1128_33
theorem k_1128_34 : xm_gi xm_c1128 34 = some xm_e1128_34 := xm_gt d_1128_34
theorem d_1128_35 : List.drop 35 xm_c1128 = xm_c1128_35 := xm_dr d_1128_34
theorem k_1128_35 : xm_gi xm_c1128 35 = some xm_e1128_35 := xm_gt d_1128_35
theorem d_1128_36 : List.drop 36 xm_c1128 = xm_c1128_36 := xm_dr d_1128_35
theorem k_1128_36 : xm_gi xm_c1128 36 = some xm_e1128_36 := xm_gt d_1128_36
theorem d_1128_37 : List.drop 37 xm_c1128 = xm_c1128_37 := xm_dr d_1128_36
theorem k_1128_37 : xm_gi xm_c1128 37 = some xm_e1128_37 := xm_gt d_1128_37
theorem d_1128_38 : List.drop 38 xm_c1128 = xm_c1128_38 := xm_dr d_1128_37
theorem k_1128_38 : xm_gi xm_c1128 38 = some xm_e1128_38 := xm_gt d_1128_38
theorem d_1128_39 : List.drop 39 xm_c1128 = xm_c1128_39 := xm_dr d_1128_38
theorem k_1128_39 : xm_gi xm_c1128 39 = some xm_e1128_39 := xm_gt d_1128_39
theorem d_1128_40 : List.drop 40 xm_c1128 = xm_c1128_40 := xm_dr d_1128_39
theorem k_1128_40 : xm_gi xm_c1128 40 = some xm_e1128_40 := xm_gt d_1128_40
theorem d_1128_41 : List.drop 41 xm_c1128 = xm_c1128_41 := xm_dr d_1128_40
theorem k_1128_41 : xm_gi xm_c1128 41 = some xm_e1128_41 := xm_gt d_1128_41
theorem d_1128_42 : List.drop 42 xm_c1128 = xm_c1128_42 := xm_dr d_1128_41
theorem k_1128_42 : xm_gi xm_c1128 42 = some xm_e1128_42 := xm_gt d_1128_42
theorem d_1128_43 : List.drop 43 xm_c1128 = xm_c1128_43 := xm_dr d_1128_42
theorem k_1128_43 : xm_gi xm_c1128 43 = some xm_e1128_43 := xm_gt d_1128_43
theorem d_1128_44 : List.drop 44 xm_c1128 = xm_c1128_44 := xm_dr d_1128_43
theorem k_1128_44 : xm_gi xm_c1128 44 = some xm_e1128_44 := xm_gt d_1128_44
theorem d_1128_45 : List.drop 45 xm_c1128 = xm_c1128_45 := xm_dr d_1128_44
theorem k_1128_45 : xm_gi xm_c1128 45 = some xm_e1128_45 := xm_gt d_1128_45
theorem d_1128_46 : List.drop 46 xm_c1128 = xm_c1128_46 := xm_dr d_1128_45
theorem k_1128_46 : xm_gi xm_c1128 46 = some xm_e1128_46 := xm_gt d_1128_46
theorem d_1128_47 : List.drop 47 xm_c1128 = xm_c1128_47 := xm_dr d_1128_46
theorem k_1128_47 : xm_gi xm_c1128 47 = some xm_e1128_47 := xm_gt d_1128_47
theorem d_1128_48 : List.drop 48 xm_c1128 = xm_c1128_48 := xm_dr d_1128_47
theorem k_1128_48 : xm_gi xm_c1128 48 = some xm_e1128_48 := xm_gt d_1128_48
theorem d_1128_49 : List.drop 49 xm_c1128 = xm_c1128_49 := xm_dr d_1128_48
theorem k_1128_49 : xm_gi xm_c1128 49 = some xm_e1128_49 := xm_gt d_1128_49
theorem d_1128_50 : List.drop 50 xm_c1128 = xm_c1128_50 := xm_dr d_1128_49
theorem k_1128_50 : xm_gi xm_c1128 50 = some xm_e1128_50 := xm_gt d_1128_50
theorem d_1128_51 : List.drop 51 xm_c1128 = xm_c1128_51 := xm_dr d_1128_50
theorem k_1128_51 : xm_gi xm_c1128 51 = some xm_e1128_51 := xm_gt d_1128_51
theorem d_1128_52 : List.drop 52 xm_c1128 = xm_c1128_52 := xm_dr d_1128_51
theorem k_1128_52 : xm_gi xm_c1128 52 = some xm_e1128_52 := xm_gt d_1128_52
theorem d_1128_53 : List.drop 53 xm_c1128 = xm_c1128_53 := xm_dr d_1128_52
theorem k_1128_53 : xm_gi xm_c1128 53 = some xm_e1128_53 := xm_gt d_1128_53
theorem d_1128_54 : List.drop 54 xm_c1128 = xm_c1128_54 := xm_dr d_1128_53
theorem k_1128_54 : xm_gi xm_c1128 54 = some xm_e1128_54 := xm_gt d_1128_54
theorem d_1128_55 : List.drop 55 xm_c1128 = xm_c1128_55 := xm_dr d_1128_54
theorem k_1128_55 : xm_gi xm_c1128 55 = some xm_e1128_55 := xm_gt d_1128_55
theorem d_1128_56 : List.drop 56 xm_c1128 = xm_c1128_56 := xm_dr d_1128_55
theorem k_1128_56 : xm_gi xm_c1128 56 = some xm_e1128_56 := xm_gt d_1128_56
theorem d_1128_57 : List.drop 57 xm_c1128 = xm_c1128_57 := xm_dr d_1128_56
theorem k_1128_57 : xm_gi xm_c1128 57 = some xm_e1128_57 := xm_gt d_1128_57
theorem d_1128_58 : List.drop 58 xm_c1128 = xm_c1128_58 := xm_dr d_1128_57
theorem k_1128_58 : xm_gi xm_c1128 58 = some xm_e1128_58 := xm_gt d_1128_58
theorem d_1128_59 : List.drop 59 xm_c1128 = xm_c1128_59 := xm_dr d_1128_58
theorem k_1128_59 : xm_gi xm_c1128 59 = some xm_e1128_59 := xm_gt d_1128_59
theorem d_1128_60 : List.drop 60 xm_c1128 = xm_c1128_60 := xm_dr d_1128_59
theorem k_1128_60 : xm_gi xm_c1128 60 = some xm_e1128_60 := xm_gt d_1128_60
theorem d_1128_61 : List.drop 61 xm_c1128 = xm_c1128_61 := xm_dr d_1128_60
theorem k_1128_61 : xm_gi xm_c1128 61 = some xm_e1128_61 := xm_gt d_1128_61
theorem d_1128_62 : List.drop 62 xm_c1128 = xm_c1128_62 := xm_dr d_1128_61
theorem k_1128_62 : xm_gi xm_c1128 62 = some xm_e1128_62 := xm_gt d_1128_62
theorem d_1128_63 : List.drop 63 xm_c1128 = xm_c1128_63 := xm_dr d_1128_62
theorem k_1128_63 : xm_gi xm_c1128 63 = some xm_e1128_63 := xm_gt d_1128_63
theorem d_1128_64 : List.drop 64 xm_c1128 = xm_c1128_64 := xm_dr d_1128_63
theorem k_1128_64 : xm_gi xm_c1128 64 = some xm_e1128_64 := xm_gt d_1128_64
theorem d_1128_65 : List.drop 65 xm_c1128 = xm_c1128_65 := xm_dr d_1128_64
theorem k_1128_65 : xm_gi xm_c1128 65 = some xm_e1128_65 := xm_gt d_1128_65
theorem d_1128_66 : List.drop 66 xm_c1128 = xm_c1128_66 := xm_dr d_1128_65
theorem k_1128_66 : xm_gi xm_c1128 66 = some xm_e1128_66 := xm_gt d_1128_66
theorem d_1128_67 : List.drop 67 xm_c1128 = xm_c1128_67 := xm_dr d_1128_66
theorem k_1128_67 : xm_gi xm_c1128 67 = some xm_e1128_67 := xm_gt d_1128_67
theorem d_1128_68 : List.drop 68 xm_c1128 = xm_c1128_68 := xm_dr d_1128_67
theorem k_1128_68 : xm_gi xm_c1128 68 = some xm_e1128_68 := xm_gt d_1128_68
theorem d_1128_69 : List.drop 69 xm_c1128 = xm_c1128_69 := xm_dr d_1128_68
theorem k_1128_69 : xm_gi xm_c1128 69 = some xm_e1128_69 := xm_gt d_1128_69
theorem d_1128_70 : List.drop 70 xm_c1128 = xm_c1128_70 := xm_dr d_1128_69
theorem k_1128_70 : xm_gi xm_c1128 70 = some xm_e1128_70 := xm_gt d_1128_70
theorem d_1128_71 : List.drop 71 xm_c1128 = xm_c1128_71 := xm_dr d_1128_70
theorem k_1128_71 : xm_gi xm_c1128 71 = some xm_e1128_71 := xm_gt d_1128_71
theorem d_1128_72 : List.drop 72 xm_c1128 = xm_c1128_72 := xm_dr d_1128_71
theorem k_1128_72 : xm_gi xm_c1128 72 = some xm_e1128_72 := xm_gt d_1128_72
theorem d_1128_73 : List.drop 73 xm_c1128 = xm_c1128_73 := xm_dr d_1128_72
theorem k_1128_73 : xm_gi xm_c1128 73 = some xm_e1128_73 := xm_gt d_1128_73
theorem d_1128_74 : List.drop 74 xm_c1128 = xm_c1128_74 := xm_dr d_1128_73
theorem k_1128_74 : xm_gi xm_c1128 74 = some xm_e1128_74 := xm_gt d_1128_74
theorem d_1128_75 : List.drop 75 xm_c1128 = xm_c1128_75 := xm_dr d_1128_74
theorem k_1128_75 : xm_gi xm_c1128 75 = some xm_e1128_75 := xm_gt d_1128_75
theorem xb_1128_0 {sc : List Int} {f : Nat → List xm_V → xm_W → xm_R} {w : xm_W} {Q : Option xm_V × xm_W → Prop} {x0 : Int} {x1 : Int} {x2 : Int}
  (h : if (x0 : Int) = 37 then (if (x2 : Int) = 0 then (Q (some (.inl 0), w)) else (if (x2 : Int) = (-1) then (Q (some (.inl 0), w)) else ((x2 : Int) ≠ 0 ∧ (Q (some (.inl (Int.tmod x1 x2)), w))))) else (if (x0 : Int) = 38 then (if (x1 : Int) = 0 then (Q (some (.inl 0), w)) else (if (x2 : Int) = 0 then (Q (some (.inl 0), w)) else (Q (some (.inl 1), w)))) else (if (x0 : Int) = 39 then (if (x1 : Int) = 0 then (if (x2 : Int) = 0 then (Q (some (.inl 0), w)) else (Q (some (.inl 1), w))) else (Q (some (.inl 1), w))) else (if (x0 : Int) = 40 then (if (x1 : Int) = 0 then (if (x2 : Int) = 0 then (Q (some (.inl 0), w)) else (Q (some (.inl 1), w))) else (Q (some (.inl 1), w))) else (if (x0 : Int) = 41 then (if (x1 : Int) = 0 then (if (x2 : Int) = 0 then (Q (some (.inl 0), w)) else (Q (some (.inl 1), w))) else (Q (some (.inl 1), w))) else (if (x0 : Int) = 42 then (Q (some (.inl (xm_w (x1 * x2))), w)) else (if (x0 : Int) = 43 then (Q (some (.inl (xm_w (x1 + x2))), w)) else (if (x0 : Int) = 44 then (if (x1 : Int) = 0 then (if (x2 : Int) = 0 then (Q (some (.inl 0), w)) else (Q (some (.inl 1), w))) else (Q (some (.inl 1), w))) else (if (x0 : Int) = 45 then (Q (some (.inl (xm_w (x1 - x2))), w)) else (if (x0 : Int) = 46 then (if (x1 : Int) = 0 then (if (x2 : Int) = 0 then (Q (some (.inl 0), w)) else (Q (some (.inl 1), w))) else (Q (some (.inl 1), w))) else (if (x0 : Int) = 47 then (if (x2 : Int) = 0 then (Q (some (.inl 0), w)) else (if (x2 : Int) = (-1) then (Q (some (.inl (xm_w (-x1))), w)) else ((x2 : Int) ≠ 0 ∧ (Q (some (.inl (xm_w (Int.tdiv x1 x2))), w))))) else (if (x0 : Int) = 48 then (if (x1 : Int) = 0 then (if (x2 : Int) = 0 then (Q (some (.inl 0), w)) else (Q (some (.inl 1), w))) else (Q (some (.inl 1), w))) else (if (x0 : Int) = 49 then (if (x1 : Int) = 0 then (if (x2 : Int) = 0 then (Q (some (.inl 0), w)) else (Q (some (.inl 1), w))) else (Q (some (.inl 1), w))) else (if (x0 : Int) = 50 then (if (x1 : Int) = 0 then (if (x2 : Int) = 0 then (Q (some (.inl 0), w)) else (Q (some (.inl 1), w))) else (Q (some (.inl 1), w))) else (if (x0 : Int) = 51 then (if (x1 : Int) = 0 then (if (x2 : Int) = 0 then (Q (some (.inl 0), w)) else (Q (some (.inl 1), w))) else (Q (some (.inl 1), w))) else (if (x0 : Int) = 52 then (if (x1 : Int) = 0 then (if (x2 : Int) = 0 then (Q (some (.inl 0), w)) else (Q (some (.inl 1), w))) else (Q (some (.inl 1), w))) else (if (x0 : Int) = 53 then (if (x1 : Int) = 0 then (if (x2 : Int) = 0 then (Q (some (.inl 0), w)) else (Q (some (.inl 1), w))) else (Q (some (.inl 1), w))) else (if (x0 : Int) = 54 then (if (x1 : Int) = 0 then (if (x2 : Int) = 0 then (Q (some (.inl 0), w)) else (Q (some (.inl 1), w))) else (Q (some (.inl 1), w))) else (if (x0 : Int) = 55 then (if (x1 : Int) = 0 then (if (x2 : Int) = 0 then (Q (some (.inl 0), w)) else (Q (some (.inl 1), w))) else (Q (some (.inl 1), w))) else (if (x0 : Int) = 56 then (if (x1 : Int) = 0 then (if (x2 : Int) = 0 then (Q (some (.inl 0), w)) else (Q (some (.inl 1), w))) else (Q (some (.inl 1), w))) else (if (x0 : Int) = 57 then (if (x1 : Int) = 0 then (if (x2 : Int) = 0 then (Q (some (.inl 0), w)) else (Q (some (.inl 1), w))) else (Q (some (.inl 1), w))) else (if (x0 : Int) = 58 then (if (x1 : Int) = 0 then (if (x2 : Int) = 0 then (Q (some (.inl 0), w)) else (Q (some (.inl 1), w))) else (Q (some (.inl 1), w))) else (if (x0 : Int) = 59 then (if (x1 : Int) = 0 then (if (x2 : Int) = 0 then (Q (some (.inl 0), w)) else (Q (some (.inl 1), w))) else (Q (some (.inl 1), w))) else (if (x0 : Int) = 60 then (if (x1 : Int) < x2 then (Q (some (.inl 1), w)) else (Q (some (.inl 0), w))) else (if (x0 : Int) = 61 then (if (x1 : Int) = x2 then (Q (some (.inl 1), w)) else (Q (some (.inl 0), w))) else (if (x0 : Int) = 62 then (if (x2 : Int) < x1 then (Q (some (.inl 1), w)) else (Q (some (.inl 0), w))) else (if (x1 : Int) = 0 then (if (x2 : Int) = 0 then (Q (some (.inl 0), w)) else (Q (some (.inl 1), w))) else (Q (some (.inl 1), w))))))))))))))))))))))))))))) :
  xm_EQ (xm_old sc) xm_sta f xm_c1128 0 [some (.inl x0), some (.inl x1), some (.inl x2)] [] w Q :=
  (xq_iload_n k_1128_0 rfl (xq_tsw k_1128_1 (xs_swc h (fun h => (xq_iload_n k_1128_28 rfl (xq_if_eq k_1128_29 h (fun h => (xq_iconst k_1128_33 (xq_goto k_1128_34 (xq_ireturn k_1128_38 h)))) (fun h => (xq_iload_n k_1128_30 rfl (xq_iconst k_1128_31 (xq_ic_ne k_1128_32 h (fun h => (xq_iconst k_1128_33 (xq_goto k_1128_34 (xq_ireturn k_1128_38 h)))) (fun h => (xq_iload_n k_1128_35 rfl (xq_iload_n k_1128_36 rfl (xq_irem k_1128_37 h (fun h => (xq_ireturn k_1128_38 h))))))))))))) (fun h => (xs_swc h (fun h => (xq_iload_n k_1128_60 rfl (xq_if_eq k_1128_61 h (fun h => (xq_iconst k_1128_66 (xq_ireturn k_1128_67 h))) (fun h => (xq_iload_n k_1128_62 rfl (xq_if_eq k_1128_63 h (fun h => (xq_iconst k_1128_66 (xq_ireturn k_1128_67 h))) (fun h => (xq_iconst k_1128_64 (xq_goto k_1128_65 (xq_ireturn k_1128_67 h)))))))))) (fun h => (xs_swc h (fun h => (xq_iload_n k_1128_68 rfl (xq_if_ne k_1128_69 h (fun h => (xq_iload_n k_1128_70 rfl (xq_if_eq k_1128_71 h (fun h => (xq_iconst k_1128_74 (xq_ireturn k_1128_75 h))) (fun h => (xq_iconst k_1128_72 (xq_goto k_1128_73 (xq_ireturn k_1128_75 h))))))) (fun h => (xq_iconst k_1128_72 (xq_goto k_1128_73 (xq_ireturn k_1128_75 h))))))) (fun h => (xs_swc h (fun h => (xq_iload_n k_1128_68 rfl (xq_if_ne k_1128_69 h (fun h => (xq_iload_n k_1128_70 rfl (xq_if_eq k_1128_71 h (fun h => (xq_iconst k_1128_74 (xq_ireturn k_1128_75 h))) (fun h => (xq_iconst k_1128_72 (xq_goto k_1128_73 (xq_ireturn k_1128_75 h))))))) (fun h => (xq_iconst k_1128_72 (xq_goto k_1128_73 (xq_ireturn k_1128_75 h))))))) (fun h => (xs_swc h (fun h => (xq_iload_n k_1128_68 rfl (xq_if_ne k_1128_69 h (fun h => (xq_iload_n k_1128_70 rfl (xq_if_eq k_1128_71 h (fun h => (xq_iconst k_1128_74 (xq_ireturn k_1128_75 h))) (fun h => (xq_iconst k_1128_72 (xq_goto k_1128_73 (xq_ireturn k_1128_75 h))))))) (fun h => (xq_iconst k_1128_72 (xq_goto k_1128_73 (xq_ireturn k_1128_75 h))))))) (fun h => (xs_swc h (fun h => (xq_iload_n k_1128_10 rfl (xq_iload_n k_1128_11 rfl (xq_imul k_1128_12 (xq_ireturn k_1128_13 h))))) (fun h => (xs_swc h (fun h => (xq_iload_n k_1128_2 rfl (xq_iload_n k_1128_3 rfl (xq_iadd k_1128_4 (xq_ireturn k_1128_5 h))))) (fun h => (xs_swc h (fun h => (xq_iload_n k_1128_68 rfl (xq_if_ne k_1128_69 h (fun h => (xq_iload_n k_1128_70 rfl (xq_if_eq k_1128_71 h (fun h => (xq_iconst k_1128_74 (xq_ireturn k_1128_75 h))) (fun h => (xq_iconst k_1128_72 (xq_goto k_1128_73 (xq_ireturn k_1128_75 h))))))) (fun h => (xq_iconst k_1128_72 (xq_goto k_1128_73 (xq_ireturn k_1128_75 h))))))) (fun h => (xs_swc h (fun h => (xq_iload_n k_1128_6 rfl (xq_iload_n k_1128_7 rfl (xq_isub k_1128_8 (xq_ireturn k_1128_9 h))))) (fun h => (xs_swc h (fun h => (xq_iload_n k_1128_68 rfl (xq_if_ne k_1128_69 h (fun h => (xq_iload_n k_1128_70 rfl (xq_if_eq k_1128_71 h (fun h => (xq_iconst k_1128_74 (xq_ireturn k_1128_75 h))) (fun h => (xq_iconst k_1128_72 (xq_goto k_1128_73 (xq_ireturn k_1128_75 h))))))) (fun h => (xq_iconst k_1128_72 (xq_goto k_1128_73 (xq_ireturn k_1128_75 h))))))) (fun h => (xs_swc h (fun h => (xq_iload_n k_1128_14 rfl (xq_if_ne k_1128_15 h (fun h => (xq_iconst k_1128_16 (xq_goto k_1128_17 (xq_ireturn k_1128_27 h)))) (fun h => (xq_iload_n k_1128_18 rfl (xq_iconst k_1128_19 (xq_ic_ne k_1128_20 h (fun h => (xq_iload_n k_1128_21 rfl (xq_ineg k_1128_22 (xq_goto k_1128_23 (xq_ireturn k_1128_27 h))))) (fun h => (xq_iload_n k_1128_24 rfl (xq_iload_n k_1128_25 rfl (xq_idiv k_1128_26 h (fun h => (xq_ireturn k_1128_27 h))))))))))))) (fun h => (xs_swc h (fun h => (xq_iload_n k_1128_68 rfl (xq_if_ne k_1128_69 h (fun h => (xq_iload_n k_1128_70 rfl (xq_if_eq k_1128_71 h (fun h => (xq_iconst k_1128_74 (xq_ireturn k_1128_75 h))) (fun h => (xq_iconst k_1128_72 (xq_goto k_1128_73 (xq_ireturn k_1128_75 h))))))) (fun h => (xq_iconst k_1128_72 (xq_goto k_1128_73 (xq_ireturn k_1128_75 h))))))) (fun h => (xs_swc h (fun h => (xq_iload_n k_1128_68 rfl (xq_if_ne k_1128_69 h (fun h => (xq_iload_n k_1128_70 rfl (xq_if_eq k_1128_71 h (fun h => (xq_iconst k_1128_74 (xq_ireturn k_1128_75 h))) (fun h => (xq_iconst k_1128_72 (xq_goto k_1128_73 (xq_ireturn k_1128_75 h))))))) (fun h => (xq_iconst k_1128_72 (xq_goto k_1128_73 (xq_ireturn k_1128_75 h))))))) (fun h => (xs_swc h (fun h => (xq_iload_n k_1128_68 rfl (xq_if_ne k_1128_69 h (fun h => (xq_iload_n k_1128_70 rfl (xq_if_eq k_1128_71 h (fun h => (xq_iconst k_1128_74 (xq_ireturn k_1128_75 h))) (fun h => (xq_iconst k_1128_72 (xq_goto k_1128_73 (xq_ireturn k_1128_75 h))))))) (fun h => (xq_iconst k_1128_72 (xq_goto k_1128_73 (xq_ireturn k_1128_75 h))))))) (fun h => (xs_swc h (fun h => (xq_iload_n k_1128_68 rfl (xq_if_ne k_1128_69 h (fun h => (xq_iload_n k_1128_70 rfl (xq_if_eq k_1128_71 h (fun h => (xq_iconst k_1128_74 (xq_ireturn k_1128_75 h))) (fun h => (xq_iconst k_1128_72 (xq_goto k_1128_73 (xq_ireturn k_1128_75 h))))))) (fun h => (xq_iconst k_1128_72 (xq_goto k_1128_73 (xq_ireturn k_1128_75 h))))))) (fun h => (xs_swc h (fun h => (xq_iload_n k_1128_68 rfl (xq_if_ne k_1128_69 h (fun h => (xq_iload_n k_1128_70 rfl (xq_if_eq k_1128_71 h (fun h => (xq_iconst k_1128_74 (xq_ireturn k_1128_75 h))) (fun h => (xq_iconst k_1128_72 (xq_goto k_1128_73 (xq_ireturn k_1128_75 h))))))) (fun h => (xq_iconst k_1128_72 (xq_goto k_1128_73 (xq_ireturn k_1128_75 h))))))) (fun h => (xs_swc h (fun h => (xq_iload_n k_1128_68 rfl (xq_if_ne k_1128_69 h (fun h => (xq_iload_n k_1128_70 rfl (xq_if_eq k_1128_71 h (fun h => (xq_iconst k_1128_74 (xq_ireturn k_1128_75 h))) (fun h => (xq_iconst k_1128_72 (xq_goto k_1128_73 (xq_ireturn k_1128_75 h))))))) (fun h => (xq_iconst k_1128_72 (xq_goto k_1128_73 (xq_ireturn k_1128_75 h))))))) (fun h => (xs_swc h (fun h => (xq_iload_n k_1128_68 rfl (xq_if_ne k_1128_69 h (fun h => (xq_iload_n k_1128_70 rfl (xq_if_eq k_1128_71 h (fun h => (xq_iconst k_1128_74 (xq_ireturn k_1128_75 h))) (fun h => (xq_iconst k_1128_72 (xq_goto k_1128_73 (xq_ireturn k_1128_75 h))))))) (fun h => (xq_iconst k_1128_72 (xq_goto k_1128_73 (xq_ireturn k_1128_75 h))))))) (fun h => (xs_swc h (fun h => (xq_iload_n k_1128_68 rfl (xq_if_ne k_1128_69 h (fun h => (xq_iload_n k_1128_70 rfl (xq_if_eq k_1128_71 h (fun h => (xq_iconst k_1128_74 (xq_ireturn k_1128_75 h))) (fun h => (xq_iconst k_1128_72 (xq_goto k_1128_73 (xq_ireturn k_1128_75 h))))))) (fun h => (xq_iconst k_1128_72 (xq_goto k_1128_73 (xq_ireturn k_1128_75 h))))))) (fun h => (xs_swc h (fun h => (xq_iload_n k_1128_68 rfl (xq_if_ne k_1128_69 h (fun h => (xq_iload_n k_1128_70 rfl (xq_if_eq k_1128_71 h (fun h => (xq_iconst k_1128_74 (xq_ireturn k_1128_75 h))) (fun h => (xq_iconst k_1128_72 (xq_goto k_1128_73 (xq_ireturn k_1128_75 h))))))) (fun h => (xq_iconst k_1128_72 (xq_goto k_1128_73 (xq_ireturn k_1128_75 h))))))) (fun h => (xs_swc h (fun h => (xq_iload_n k_1128_68 rfl (xq_if_ne k_1128_69 h (fun h => (xq_iload_n k_1128_70 rfl (xq_if_eq k_1128_71 h (fun h => (xq_iconst k_1128_74 (xq_ireturn k_1128_75 h))) (fun h => (xq_iconst k_1128_72 (xq_goto k_1128_73 (xq_ireturn k_1128_75 h))))))) (fun h => (xq_iconst k_1128_72 (xq_goto k_1128_73 (xq_ireturn k_1128_75 h))))))) (fun h => (xs_swc h (fun h => (xq_iload_n k_1128_68 rfl (xq_if_ne k_1128_69 h (fun h => (xq_iload_n k_1128_70 rfl (xq_if_eq k_1128_71 h (fun h => (xq_iconst k_1128_74 (xq_ireturn k_1128_75 h))) (fun h => (xq_iconst k_1128_72 (xq_goto k_1128_73 (xq_ireturn k_1128_75 h))))))) (fun h => (xq_iconst k_1128_72 (xq_goto k_1128_73 (xq_ireturn k_1128_75 h))))))) (fun h => (xs_swc h (fun h => (xq_iload_n k_1128_68 rfl (xq_if_ne k_1128_69 h (fun h => (xq_iload_n k_1128_70 rfl (xq_if_eq k_1128_71 h (fun h => (xq_iconst k_1128_74 (xq_ireturn k_1128_75 h))) (fun h => (xq_iconst k_1128_72 (xq_goto k_1128_73 (xq_ireturn k_1128_75 h))))))) (fun h => (xq_iconst k_1128_72 (xq_goto k_1128_73 (xq_ireturn k_1128_75 h))))))) (fun h => (xs_swc h (fun h => (xq_iload_n k_1128_39 rfl (xq_iload_n k_1128_40 rfl (xq_ic_ge k_1128_41 h (fun h => (xq_iconst k_1128_42 (xq_goto k_1128_43 (xq_ireturn k_1128_45 h)))) (fun h => (xq_iconst k_1128_44 (xq_ireturn k_1128_45 h))))))) (fun h => (xs_swc h (fun h => (xq_iload_n k_1128_53 rfl (xq_iload_n k_1128_54 rfl (xq_ic_ne k_1128_55 h (fun h => (xq_iconst k_1128_56 (xq_goto k_1128_57 (xq_ireturn k_1128_59 h)))) (fun h => (xq_iconst k_1128_58 (xq_ireturn k_1128_59 h))))))) (fun h => (xs_swc h (fun h => (xq_iload_n k_1128_46 rfl (xq_iload_n k_1128_47 rfl (xq_ic_le k_1128_48 h (fun h => (xq_iconst k_1128_49 (xq_goto k_1128_50 (xq_ireturn k_1128_52 h)))) (fun h => (xq_iconst k_1128_51 (xq_ireturn k_1128_52 h))))))) (fun h => (xq_iload_n k_1128_68 rfl (xq_if_ne k_1128_69 h (fun h => (xq_iload_n k_1128_70 rfl (xq_if_eq k_1128_71 h (fun h => (xq_iconst k_1128_74 (xq_ireturn k_1128_75 h))) (fun h => (xq_iconst k_1128_72 (xq_goto k_1128_73 (xq_ireturn k_1128_75 h))))))) (fun h => (xq_iconst k_1128_72 (xq_goto k_1128_73 (xq_ireturn k_1128_75 h))))))))))))))))))))))))))))))))))))))))))))))))))))))))))))
/-- ShodBackwardsModel.worked(I)I -/
theorem d_1129_0 : List.drop 0 xm_c1129 = xm_c1129 := rfl
theorem k_1129_0 : xm_gi xm_c1129 0 = some xm_e1129_0 := xm_gt d_1129_0
theorem d_1129_1 : List.drop 1 xm_c1129 = xm_c1129_1 := xm_dr d_1129_0
theorem k_1129_1 : xm_gi xm_c1129 1 = some xm_e1129_1 := xm_gt d_1129_1
theorem d_1129_2 : List.drop 2 xm_c1129 = xm_c1129_2 := xm_dr d_1129_1
theorem k_1129_2 : xm_gi xm_c1129 2 = some xm_e1129_2 := xm_gt d_1129_2
theorem d_1129_3 : List.drop 3 xm_c1129 = xm_c1129_3 := xm_dr d_1129_2
theorem k_1129_3 : xm_gi xm_c1129 3 = some xm_e1129_3 := xm_gt d_1129_3
theorem d_1129_4 : List.drop 4 xm_c1129 = xm_c1129_4 := xm_dr d_1129_3
theorem k_1129_4 : xm_gi xm_c1129 4 = some xm_e1129_4 := xm_gt d_1129_4
theorem d_1129_5 : List.drop 5 xm_c1129 = xm_c1129_5 := xm_dr d_1129_4
theorem k_1129_5 : xm_gi xm_c1129 5 = some xm_e1129_5 := xm_gt d_1129_5
theorem d_1129_6 : List.drop 6 xm_c1129 = xm_c1129_6 := xm_dr d_1129_5
theorem k_1129_6 : xm_gi xm_c1129 6 = some xm_e1129_6 := xm_gt d_1129_6
theorem d_1129_7 : List.drop 7 xm_c1129 = xm_c1129_7 := xm_dr d_1129_6
theorem k_1129_7 : xm_gi xm_c1129 7 = some xm_e1129_7 := xm_gt d_1129_7
theorem d_1129_8 : List.drop 8 xm_c1129 = xm_c1129_8 := xm_dr d_1129_7
theorem k_1129_8 : xm_gi xm_c1129 8 = some xm_e1129_8 := xm_gt d_1129_8
theorem d_1129_9 : List.drop 9 xm_c1129 = xm_c1129_9 := xm_dr d_1129_8
theorem k_1129_9 : xm_gi xm_c1129 9 = some xm_e1129_9 := xm_gt d_1129_9
theorem d_1129_10 : List.drop 10 xm_c1129 = xm_c1129_10 := xm_dr d_1129_9
theorem k_1129_10 : xm_gi xm_c1129 10 = some xm_e1129_10 := xm_gt d_1129_10
theorem d_1129_11 : List.drop 11 xm_c1129 = xm_c1129_11 := xm_dr d_1129_10
theorem k_1129_11 : xm_gi xm_c1129 11 = some xm_e1129_11 := xm_gt d_1129_11
theorem d_1129_12 : List.drop 12 xm_c1129 = xm_c1129_12 := xm_dr d_1129_11
theorem k_1129_12 : xm_gi xm_c1129 12 = some xm_e1129_12 := xm_gt d_1129_12
theorem d_1129_13 : List.drop 13 xm_c1129 = xm_c1129_13 := xm_dr d_1129_12
theorem k_1129_13 : xm_gi xm_c1129 13 = some xm_e1129_13 := xm_gt d_1129_13
theorem d_1129_14 : List.drop 14 xm_c1129 = xm_c1129_14 := xm_dr d_1129_13
theorem k_1129_14 : xm_gi xm_c1129 14 = some xm_e1129_14 := xm_gt d_1129_14
theorem d_1129_15 : List.drop 15 xm_c1129 = xm_c1129_15 := xm_dr d_1129_14
theorem k_1129_15 : xm_gi xm_c1129 15 = some xm_e1129_15 := xm_gt d_1129_15
theorem d_1129_16 : List.drop 16 xm_c1129 = xm_c1129_16 := xm_dr d_1129_15
theorem k_1129_16 : xm_gi xm_c1129 16 = some xm_e1129_16 := xm_gt d_1129_16
theorem d_1129_17 : List.drop 17 xm_c1129 = xm_c1129_17 := xm_dr d_1129_16
theorem k_1129_17 : xm_gi xm_c1129 17 = some xm_e1129_17 := xm_gt d_1129_17
theorem d_1129_18 : List.drop 18 xm_c1129 = xm_c1129_18 := xm_dr d_1129_17
theorem k_1129_18 : xm_gi xm_c1129 18 = some xm_e1129_18 := xm_gt d_1129_18
theorem d_1129_19 : List.drop 19 xm_c1129 = xm_c1129_19 := xm_dr d_1129_18
theorem k_1129_19 : xm_gi xm_c1129 19 = some xm_e1129_19 := xm_gt d_1129_19
theorem d_1129_20 : List.drop 20 xm_c1129 = xm_c1129_20 := xm_dr d_1129_19
theorem k_1129_20 : xm_gi xm_c1129 20 = some xm_e1129_20 := xm_gt d_1129_20
theorem d_1129_21 : List.drop 21 xm_c1129 = xm_c1129_21 := xm_dr d_1129_20
theorem k_1129_21 : xm_gi xm_c1129 21 = some xm_e1129_21 := xm_gt d_1129_21
theorem d_1129_22 : List.drop 22 xm_c1129 = xm_c1129_22 := xm_dr d_1129_21
theorem k_1129_22 : xm_gi xm_c1129 22 = some xm_e1129_22 := xm_gt d_1129_22
theorem d_1129_23 : List.drop 23 xm_c1129 = xm_c1129_23 := xm_dr d_1129_22
theorem k_1129_23 : xm_gi xm_c1129 23 = some xm_e1129_23 := xm_gt d_1129_23
theorem d_1129_24 : List.drop 24 xm_c1129 = xm_c1129_24 := xm_dr d_1129_23
theorem k_1129_24 : xm_gi xm_c1129 24 = some xm_e1129_24 := xm_gt d_1129_24
theorem d_1129_25 : List.drop 25 xm_c1129 = xm_c1129_25 := xm_dr d_1129_24
theorem k_1129_25 : xm_gi xm_c1129 25 = some xm_e1129_25 := xm_gt d_1129_25
theorem d_1129_26 : List.drop 26 xm_c1129 = xm_c1129_26 := xm_dr d_1129_25
theorem k_1129_26 : xm_gi xm_c1129 26 = some xm_e1129_26 := xm_gt d_1129_26
theorem d_1129_27 : List.drop 27 xm_c1129 = xm_c1129_27 := xm_dr d_1129_26
theorem k_1129_27 : xm_gi xm_c1129 27 = some xm_e1129_27 := xm_gt d_1129_27
theorem d_1129_28 : List.drop 28 xm_c1129 = xm_c1129_28 := xm_dr d_1129_27
theorem k_1129_28 : xm_gi xm_c1129 28 = some xm_e1129_28 := xm_gt d_1129_28
theorem d_1129_29 : List.drop 29 xm_c1129 = xm_c1129_29 := xm_dr d_1129_28
theorem k_1129_29 : xm_gi xm_c1129 29 = some xm_e1129_29 := xm_gt d_1129_29
theorem d_1129_30 : List.drop 30 xm_c1129 = xm_c1129_30 := xm_dr d_1129_29
theorem k_1129_30 : xm_gi xm_c1129 30 = some xm_e1129_30 := xm_gt d_1129_30
theorem d_1129_31 : List.drop 31 xm_c1129 = xm_c1129_31 := xm_dr d_1129_30
theorem k_1129_31 : xm_gi xm_c1129 31 = some xm_e1129_31 := xm_gt d_1129_31
theorem d_1129_32 : List.drop 32 xm_c1129 = xm_c1129_32 := xm_dr d_1129_31
theorem k_1129_32 : xm_gi xm_c1129 32 = some xm_e1129_32 := xm_gt d_1129_32
theorem d_1129_33 : List.drop 33 xm_c1129 = xm_c1129_33 := xm_dr d_1129_32
theorem k_1129_33 : xm_gi xm_c1129 33 = some xm_e1129_33 := xm_gt d_1129_33
theorem d_1129_34 : List.drop 34 xm_c1129 = xm_c1129_34 := xm_dr d_1129_33
theorem k_1129_34 : xm_gi xm_c1129 34 = some xm_e1129_34 := xm_gt d_1129_34
theorem d_1129_35 : List.drop 35 xm_c1129 = xm_c1129_35 := xm_dr d_1129_34
theorem k_1129_35 : xm_gi xm_c1129 35 = some xm_e1129_35 := xm_gt d_1129_35
theorem d_1129_36 : List.drop 36 xm_c1129 = xm_c1129_36 := xm_dr d_1129_35
theorem k_1129_36 : xm_gi xm_c1129 36 = some xm_e1129_36 := xm_gt d_1129_36
theorem d_1129_37 : List.drop 37 xm_c1129 = xm_c1129_37 := xm_dr d_1129_36
theorem k_1129_37 : xm_gi xm_c1129 37 = some xm_e1129_37 := xm_gt d_1129_37
theorem d_1129_38 : List.drop 38 xm_c1129 = xm_c1129_38 := xm_dr d_1129_37
theorem k_1129_38 : xm_gi xm_c1129 38 = some xm_e1129_38 := xm_gt d_1129_38
theorem d_1129_39 : List.drop 39 xm_c1129 = xm_c1129_39 := xm_dr d_1129_38
theorem k_1129_39 : xm_gi xm_c1129 39 = some xm_e1129_39 := xm_gt d_1129_39
theorem d_1129_40 : List.drop 40 xm_c1129 = xm_c1129_40 := xm_dr d_1129_39
theorem k_1129_40 : xm_gi xm_c1129 40 = some xm_e1129_40 := xm_gt d_1129_40
theorem d_1129_41 : List.drop 41 xm_c1129 = xm_c1129_41 := xm_dr d_1129_40
theorem k_1129_41 : xm_gi xm_c1129 41 = some xm_e1129_41 := xm_gt d_1129_41
theorem d_1129_42 : List.drop 42 xm_c1129 = xm_c1129_42 := xm_dr d_1129_41
theorem k_1129_42 : xm_gi xm_c1129 42 = some xm_e1129_42 := xm_gt d_1129_42
theorem d_1129_43 : List.drop 43 xm_c1129 = xm_c1129_43 := xm_dr d_1129_42
theorem k_1129_43 : xm_gi xm_c1129 43 = some xm_e1129_43 := xm_gt d_1129_43
theorem d_1129_44 : List.drop 44 xm_c1129 = xm_c1129_44 := xm_dr d_1129_43
theorem k_1129_44 : xm_gi xm_c1129 44 = some xm_e1129_44 := xm_gt d_1129_44
theorem d_1129_45 : List.drop 45 xm_c1129 = xm_c1129_45 := xm_dr d_1129_44
theorem k_1129_45 : xm_gi xm_c1129 45 = some xm_e1129_45 := xm_gt d_1129_45
theorem d_1129_46 : List.drop 46 xm_c1129 = xm_c1129_46 := xm_dr d_1129_45
theorem k_1129_46 : xm_gi xm_c1129 46 = some xm_e1129_46 := xm_gt d_1129_46
theorem d_1129_47 : List.drop 47 xm_c1129 = xm_c1129_47 := xm_dr d_1129_46
theorem k_1129_47 : xm_gi xm_c1129 47 = some xm_e1129_47 := xm_gt d_1129_47
theorem d_1129_48 : List.drop 48 xm_c1129 = xm_c1129_48 := xm_dr d_1129_47
theorem k_1129_48 : xm_gi xm_c1129 48 = some xm_e1129_48 := xm_gt d_1129_48
theorem d_1129_49 : List.drop 49 xm_c1129 = xm_c1129_49 := xm_dr d_1129_48
theorem k_1129_49 : xm_gi xm_c1129 49 = some xm_e1129_49 := xm_gt d_1129_49
theorem d_1129_50 : List.drop 50 xm_c1129 = xm_c1129_50 := xm_dr d_1129_49
theorem k_1129_50 : xm_gi xm_c1129 50 = some xm_e1129_50 := xm_gt d_1129_50
theorem d_1129_51 : List.drop 51 xm_c1129 = xm_c1129_51 := xm_dr d_1129_50
theorem k_1129_51 : xm_gi xm_c1129 51 = some xm_e1129_51 := xm_gt d_1129_51
theorem d_1129_52 : List.drop 52 xm_c1129 = xm_c1129_52 := xm_dr d_1129_51
theorem k_1129_52 : xm_gi xm_c1129 52 = some xm_e1129_52 := xm_gt d_1129_52
theorem d_1129_53 : List.drop 53 xm_c1129 = xm_c1129_53 := xm_dr d_1129_52
theorem k_1129_53 : xm_gi xm_c1129 53 = some xm_e1129_53 := xm_gt d_1129_53
theorem d_1129_54 : List.drop 54 xm_c1129 = xm_c1129_54 := xm_dr d_1129_53
theorem k_1129_54 : xm_gi xm_c1129 54 = some xm_e1129_54 := xm_gt d_1129_54
theorem d_1129_55 : List.drop 55 xm_c1129 = xm_c1129_55 := xm_dr d_1129_54
theorem k_1129_55 : xm_gi xm_c1129 55 = some xm_e1129_55 := xm_gt d_1129_55
theorem d_1129_56 : List.drop 56 xm_c1129 = xm_c1129_56 := xm_dr d_1129_55
theorem k_1129_56 : xm_gi xm_c1129 56 = some xm_e1129_56 := xm_gt d_1129_56
theorem d_1129_57 : List.drop 57 xm_c1129 = xm_c1129_57 := xm_dr d_1129_56
theorem k_1129_57 : xm_gi xm_c1129 57 = some xm_e1129_57 := xm_gt d_1129_57
theorem d_1129_58 : List.drop 58 xm_c1129 = xm_c1129_58 := xm_dr d_1129_57
theorem k_1129_58 : xm_gi xm_c1129 58 = some xm_e1129_58 := xm_gt d_1129_58
theorem d_1129_59 : List.drop 59 xm_c1129 = xm_c1129_59 := xm_dr d_1129_58
theorem k_1129_59 : xm_gi xm_c1129 59 = some xm_e1129_59 := xm_gt d_1129_59
theorem d_1129_60 : List.drop 60 xm_c1129 = xm_c1129_60 := xm_dr d_1129_59
theorem k_1129_60 : xm_gi xm_c1129 60 = some xm_e1129_60 := xm_gt d_1129_60
theorem d_1129_61 : List.drop 61 xm_c1129 = xm_c1129_61 := xm_dr d_1129_60
theorem k_1129_61 : xm_gi xm_c1129 61 = some xm_e1129_61 := xm_gt d_1129_61
theorem d_1129_62 : List.drop 62 xm_c1129 = xm_c1129_62 := xm_dr d_1129_61
theorem k_1129_62 : xm_gi xm_c1129 62 = some xm_e1129_62 := xm_gt d_1129_62
theorem d_1129_63 : List.drop 63 xm_c1129 = xm_c1129_63 := xm_dr d_1129_62
theorem k_1129_63 : xm_gi xm_c1129 63 = some xm_e1129_63 := xm_gt d_1129_63
theorem d_1129_64 : List.drop 64 xm_c1129 = xm_c1129_64 := xm_dr d_1129_63
theorem k_1129_64 : xm_gi xm_c1129 64 = some xm_e1129_64 := xm_gt d_1129_64
theorem d_1129_65 : List.drop 65 xm_c1129 = xm_c1129_65 := xm_dr d_1129_64
theorem k_1129_65 : xm_gi xm_c1129 65 = some xm_e1129_65 := xm_gt d_1129_65
theorem d_1129_66 : List.drop 66 xm_c1129 = xm_c1129_66 := xm_dr d_1129_65
theorem k_1129_66 : xm_gi xm_c1129 66 = some xm_e1129_66 := xm_gt d_1129_66
theorem d_1129_67 : List.drop 67 xm_c1129 = xm_c1129_67 := xm_dr d_1129_66
theorem k_1129_67 : xm_gi xm_c1129 67 = some xm_e1129_67 := xm_gt d_1129_67
theorem d_1129_68 : List.drop 68 xm_c1129 = xm_c1129_68 := xm_dr d_1129_67
theorem k_1129_68 : xm_gi xm_c1129 68 = some xm_e1129_68 := xm_gt d_1129_68
theorem d_1129_69 : List.drop 69 xm_c1129 = xm_c1129_69 := xm_dr d_1129_68
theorem k_1129_69 : xm_gi xm_c1129 69 = some xm_e1129_69 := xm_gt d_1129_69
theorem d_1129_70 : List.drop 70 xm_c1129 = xm_c1129_70 := xm_dr d_1129_69
theorem k_1129_70 : xm_gi xm_c1129 70 = some xm_e1129_70 := xm_gt d_1129_70
theorem d_1129_71 : List.drop 71 xm_c1129 = xm_c1129_71 := xm_dr d_1129_70
theorem k_1129_71 : xm_gi xm_c1129 71 = some xm_e1129_71 := xm_gt d_1129_71
theorem d_1129_72 : List.drop 72 xm_c1129 = xm_c1129_72 := xm_dr d_1129_71
theorem k_1129_72 : xm_gi xm_c1129 72 = some xm_e1129_72 := xm_gt d_1129_72
theorem d_1129_73 : List.drop 73 xm_c1129 = xm_c1129_73 := xm_dr d_1129_72
theorem k_1129_73 : xm_gi xm_c1129 73 = some xm_e1129_73 := xm_gt d_1129_73
theorem d_1129_74 : List.drop 74 xm_c1129 = xm_c1129_74 := xm_dr d_1129_73
theorem k_1129_74 : xm_gi xm_c1129 74 = some xm_e1129_74 := xm_gt d_1129_74
theorem d_1129_75 : List.drop 75 xm_c1129 = xm_c1129_75 := xm_dr d_1129_74
theorem k_1129_75 : xm_gi xm_c1129 75 = some xm_e1129_75 := xm_gt d_1129_75
theorem d_1129_76 : List.drop 76 xm_c1129 = xm_c1129_76 := xm_dr d_1129_75
theorem k_1129_76 : xm_gi xm_c1129 76 = some xm_e1129_76 := xm_gt d_1129_76
theorem d_1129_77 : List.drop 77 xm_c1129 = xm_c1129_77 := xm_dr d_1129_76
theorem k_1129_77 : xm_gi xm_c1129 77 = some xm_e1129_77 := xm_gt d_1129_77
theorem d_1129_78 : List.drop 78 xm_c1129 = xm_c1129_78 := xm_dr d_1129_77
theorem k_1129_78 : xm_gi xm_c1129 78 = some xm_e1129_78 := xm_gt d_1129_78
theorem d_1129_79 : List.drop 79 xm_c1129 = xm_c1129_79 := xm_dr d_1129_78
theorem k_1129_79 : xm_gi xm_c1129 79 = some xm_e1129_79 := xm_gt d_1129_79
theorem d_1129_80 : List.drop 80 xm_c1129 = xm_c1129_80 := xm_dr d_1129_79
theorem k_1129_80 : xm_gi xm_c1129 80 = some xm_e1129_80 := xm_gt d_1129_80
theorem d_1129_81 : List.drop 81 xm_c1129 = xm_c1129_81 := xm_dr d_1129_80
theorem k_1129_81 : xm_gi xm_c1129 81 = some xm_e1129_81 := xm_gt d_1129_81
theorem d_1129_82 : List.drop 82 xm_c1129 = xm_c1129_82 := xm_dr d_1129_81
theorem k_1129_82 : xm_gi xm_c1129 82 = some xm_e1129_82 := xm_gt d_1129_82
theorem d_1129_83 : List.drop 83 xm_c1129 = xm_c1129_83 := xm_dr d_1129_82
theorem k_1129_83 : xm_gi xm_c1129 83 = some xm_e1129_83 := xm_gt d_1129_83
theorem d_1129_84 : List.drop 84 xm_c1129 = xm_c1129_84 := xm_dr d_1129_83
theorem k_1129_84 : xm_gi xm_c1129 84 = some xm_e1129_84 := xm_gt d_1129_84
theorem d_1129_85 : List.drop 85 xm_c1129 = xm_c1129_85 := xm_dr d_1129_84
theorem k_1129_85 : xm_gi xm_c1129 85 = some xm_e1129_85 := xm_gt d_1129_85
theorem d_1129_86 : List.drop 86 xm_c1129 = xm_c1129_86 := xm_dr d_1129_85
theorem k_1129_86 : xm_gi xm_c1129 86 = some xm_e1129_86 := xm_gt d_1129_86
theorem d_1129_87 : List.drop 87 xm_c1129 = xm_c1129_87 := xm_dr d_1129_86
theorem k_1129_87 : xm_gi xm_c1129 87 = some xm_e1129_87 := xm_gt d_1129_87
theorem d_1129_88 : List.drop 88 xm_c1129 = xm_c1129_88 := xm_dr d_1129_87
theorem k_1129_88 : xm_gi xm_c1129 88 = some xm_e1129_88 := xm_gt d_1129_88
theorem d_1129_89 : List.drop 89 xm_c1129 = xm_c1129_89 := xm_dr d_1129_88
theorem k_1129_89 : xm_gi xm_c1129 89 = some xm_e1129_89 := xm_gt d_1129_89
theorem d_1129_90 : List.drop 90 xm_c1129 = xm_c1129_90 := xm_dr d_1129_89
theorem k_1129_90 : xm_gi xm_c1129 90 = some xm_e1129_90 := xm_gt d_1129_90
theorem d_1129_91 : List.drop 91 xm_c1129 = xm_c1129_91 := xm_dr d_1129_90
theorem k_1129_91 : xm_gi xm_c1129 91 = some xm_e1129_91 := xm_gt d_1129_91
theorem d_1129_92 : List.drop 92 xm_c1129 = xm_c1129_92 := xm_dr d_1129_91
theorem k_1129_92 : xm_gi xm_c1129 92 = some xm_e1129_92 := xm_gt d_1129_92
theorem d_1129_93 : List.drop 93 xm_c1129 = xm_c1129_93 := xm_dr d_1129_92
theorem k_1129_93 : xm_gi xm_c1129 93 = some xm_e1129_93 := xm_gt d_1129_93
theorem d_1129_94 : List.drop 94 xm_c1129 = xm_c1129_94 := xm_dr d_1129_93
theorem k_1129_94 : xm_gi xm_c1129 94 = some xm_e1129_94 := xm_gt d_1129_94
theorem d_1129_95 : List.drop 95 xm_c1129 = xm_c1129_95 := xm_dr d_1129_94
theorem k_1129_95 : xm_gi xm_c1129 95 = some xm_e1129_95 := xm_gt d_1129_95
theorem d_1129_96 : List.drop 96 xm_c1129 = xm_c1129_96 := xm_dr d_1129_95
theorem k_1129_96 : xm_gi xm_c1129 96 = some xm_e1129_96 := xm_gt d_1129_96
theorem d_1129_97 : List.drop 97 xm_c1129 = xm_c1129_97 := xm_dr d_1129_96
theorem k_1129_97 : xm_gi xm_c1129 97 = some xm_e1129_97 := xm_gt d_1129_97
theorem d_1129_98 : List.drop 98 xm_c1129 = xm_c1129_98 := xm_dr d_1129_97
theorem k_1129_98 : xm_gi xm_c1129 98 = some xm_e1129_98 := xm_gt d_1129_98
theorem d_1129_99 : List.drop 99 xm_c1129 = xm_c1129_99 := xm_dr d_1129_98
theorem k_1129_99 : xm_gi xm_c1129 99 = some xm_e1129_99 := xm_gt d_1129_99
theorem d_1129_100 : List.drop 100 xm_c1129 = xm_c1129_100 := xm_dr d_1129_99
theorem k_1129_100 : xm_gi xm_c1129 100 = some xm_e1129_100 := xm_gt d_1129_100
theorem d_1129_101 : List.drop 101 xm_c1129 = xm_c1129_101 := xm_dr d_1129_100
theorem k_1129_101 : xm_gi xm_c1129 101 = some xm_e1129_101 := xm_gt d_1129_101
theorem d_1129_102 : List.drop 102 xm_c1129 = xm_c1129_102 := xm_dr d_1129_101
theorem k_1129_102 : xm_gi xm_c1129 102 = some xm_e1129_102 := xm_gt d_1129_102
theorem xb_1129_0 {sc : List Int} {f : Nat → List xm_V → xm_W → xm_R} {w : xm_W} {Q : Option xm_V × xm_W → Prop} {x0 : Nat} {x1 : Int}
  (h : xm_EQ (xm_old sc) xm_sta f xm_c1129 10 [some (.inr (.inl (some x0))), some (.inl x1), some (.inl (xm_w (339 + (xm_w (125 * x1))))), some (.inl 0), some (.inl 0), none, none] [] w Q) :
  xm_EQ (xm_old sc) xm_sta f xm_c1129 0 [some (.inr (.inl (some x0))), some (.inl x1), none, none, none, none, none] [] w Q :=
  (xq_sipush k_1129_0 (xq_bipush k_1129_1 (xq_iload_n k_1129_2 rfl (xq_imul k_1129_3 (xq_iadd k_1129_4 (xq_istore_n k_1129_5 rfl (xq_iconst k_1129_6 (xq_istore_n k_1129_7 rfl (xq_iconst k_1129_8 (xq_istore k_1129_9 rfl h))))))))))
theorem xb_1129_10 {sc : List Int} {f : Nat → List xm_V → xm_W → xm_R} {w : xm_W} {Q : Option xm_V × xm_W → Prop} {x0 : Nat} {x1 : Int} {x2 : Int} {x3 : Int} {x4 : Int} {u5 : Option xm_V} {u6 : Option xm_V}
  (h : xm_O (xm_fr (xm_old sc) w x0 9 0) (fun r1 => xm_O (xm_ints (xm_old sc) w r1) (fun l2 => xm_O (xm_at l2 x2) (fun z3 => if (x4 : Int) < z3 then (xm_O (xm_fr (xm_old sc) w x0 9 0) (fun r7 => xm_O (xm_ints (xm_old sc) w r7) (fun l8 => xm_O (xm_at l8 (xm_w ((xm_w (x2 + 1)) + (xm_w (2 * x4))))) (fun z9 => xm_O (xm_fr (xm_old sc) w x0 9 0) (fun r10 => xm_O (xm_ints (xm_old sc) w r10) (fun l11 => xm_O (xm_at l11 (xm_w ((xm_w (x2 + 2)) + (xm_w (2 * x4))))) (fun z12 => if (z9 : Int) = 0 then (xm_O (xm_fr (xm_old sc) w x0 9 12) (fun r13 => if (z9 : Int) = 0 then (xm_O (xm_seti w r13 x3 z12) (fun w18 => xm_EQ (xm_old sc) xm_sta f xm_c1129 10 [some (.inr (.inl (some x0))), some (.inl x1), some (.inl x2), some (.inl (xm_w (x3 + 1))), some (.inl (xm_w (x4 + 1))), some (.inl z9), some (.inl z12)] [] w18 Q)) else (xm_O (xm_fr (xm_old sc) w x0 9 11) (fun r14 => xm_O (xm_ints (xm_old sc) w r14) (fun l15 => xm_O (xm_at l15 z12) (fun z16 => xm_O (xm_seti w r13 x3 z16) (fun w17 => xm_EQ (xm_old sc) xm_sta f xm_c1129 10 [some (.inr (.inl (some x0))), some (.inl x1), some (.inl x2), some (.inl (xm_w (x3 + 1))), some (.inl (xm_w (x4 + 1))), some (.inl z9), some (.inl z12)] [] w17 Q))))))) else (if (z9 : Int) = 1 then (xm_O (xm_fr (xm_old sc) w x0 9 12) (fun r35 => if (z9 : Int) = 0 then (xm_O (xm_seti w r35 x3 z12) (fun w40 => xm_EQ (xm_old sc) xm_sta f xm_c1129 10 [some (.inr (.inl (some x0))), some (.inl x1), some (.inl x2), some (.inl (xm_w (x3 + 1))), some (.inl (xm_w (x4 + 1))), some (.inl z9), some (.inl z12)] [] w40 Q)) else (xm_O (xm_fr (xm_old sc) w x0 9 11) (fun r36 => xm_O (xm_ints (xm_old sc) w r36) (fun l37 => xm_O (xm_at l37 z12) (fun z38 => xm_O (xm_seti w r35 x3 z38) (fun w39 => xm_EQ (xm_old sc) xm_sta f xm_c1129 10 [some (.inr (.inl (some x0))), some (.inl x1), some (.inl x2), some (.inl (xm_w (x3 + 1))), some (.inl (xm_w (x4 + 1))), some (.inl z9), some (.inl z12)] [] w39 Q))))))) else (if (z9 : Int) = 2 then (xm_O (xm_fr (xm_old sc) w x0 9 12) (fun r29 => xm_O (xm_fr (xm_old sc) w x0 9 12) (fun r30 => xm_O (xm_ints (xm_old sc) w r30) (fun l31 => xm_O (xm_at l31 (xm_w (x3 - 1))) (fun z32 => if (z32 : Int) = 0 then (xm_O (xm_seti w r29 (xm_w (x3 - 1)) 1) (fun w34 => xm_EQ (xm_old sc) xm_sta f xm_c1129 10 [some (.inr (.inl (some x0))), some (.inl x1), some (.inl x2), some (.inl x3), some (.inl (xm_w (x4 + 1))), some (.inl z9), some (.inl z12)] [] w34 Q)) else (xm_O (xm_seti w r29 (xm_w (x3 - 1)) 0) (fun w33 => xm_EQ (xm_old sc) xm_sta f xm_c1129 10 [some (.inr (.inl (some x0))), some (.inl x1), some (.inl x2), some (.inl x3), some (.inl (xm_w (x4 + 1))), some (.inl z9), some (.inl z12)] [] w33 Q))))))) else (xm_O (xm_fr (xm_old sc) w x0 9 12) (fun r19 => xm_O (xm_fr (xm_old sc) w x0 9 12) (fun r20 => xm_O (xm_ints (xm_old sc) w r20) (fun l21 => xm_O (xm_at l21 (xm_w ((xm_w (x3 + (-1))) - 1))) (fun z22 => xm_O (xm_fr (xm_old sc) w x0 9 12) (fun r23 => xm_O (xm_ints (xm_old sc) w r23) (fun l24 => xm_O (xm_at l24 (xm_w (x3 + (-1)))) (fun z25 => xm_Oi (f 1128 [.inl z12, .inl z22, .inl z25] w) (fun z27 w26 => xm_O (xm_seti w26 r19 (xm_w ((xm_w (x3 + (-1))) - 1)) z27) (fun w28 => xm_EQ (xm_old sc) xm_sta f xm_c1129 10 [some (.inr (.inl (some x0))), some (.inl x1), some (.inl x2), some (.inl (xm_w (x3 + (-1)))), some (.inl (xm_w (x4 + 1))), some (.inl z9), some (.inl z12)] [] w28 Q))))))))))))))))))) else (xm_O (xm_fr (xm_old sc) w x0 9 12) (fun r4 => xm_O (xm_ints (xm_old sc) w r4) (fun l5 => xm_O (xm_at l5 0) (fun z6 => Q (some (.inl z6), w))))))))) :
  xm_EQ (xm_old sc) xm_sta f xm_c1129 10 [some (.inr (.inl (some x0))), some (.inl x1), some (.inl x2), some (.inl x3), some (.inl x4), u5, u6] [] w Q :=
  (xq_iload k_1129_10 rfl (xq_aload_n k_1129_11 rfl (xq_getr k_1129_12 rfl h (fun r1 h => (xq_iload_n k_1129_13 rfl (xq_iaload k_1129_14 h (fun l2 h => h) (fun l2 z3 h => (xq_ic_ge k_1129_15 h (fun h => (xq_aload_n k_1129_16 rfl (xq_getr k_1129_17 rfl h (fun r7 h => (xq_iload_n k_1129_18 rfl (xq_iconst k_1129_19 (xq_iadd k_1129_20 (xq_iconst k_1129_21 (xq_iload k_1129_22 rfl (xq_imul k_1129_23 (xq_iadd k_1129_24 (xq_iaload k_1129_25 h (fun l8 h => h) (fun l8 z9 h => (xq_istore k_1129_26 rfl (xq_aload_n k_1129_27 rfl (xq_getr k_1129_28 rfl h (fun r10 h => (xq_iload_n k_1129_29 rfl (xq_iconst k_1129_30 (xq_iadd k_1129_31 (xq_iconst k_1129_32 (xq_iload k_1129_33 rfl (xq_imul k_1129_34 (xq_iadd k_1129_35 (xq_iaload k_1129_36 h (fun l11 h => h) (fun l11 z12 h => (xq_istore k_1129_37 rfl (xq_iload k_1129_38 rfl (xq_if_eq k_1129_39 h (fun h => (xq_aload_n k_1129_43 rfl (xq_getr k_1129_44 rfl h (fun r13 h => (xq_iload_n k_1129_45 rfl (xq_iload k_1129_46 rfl (xq_if_ne k_1129_47 h (fun h => (xq_iload k_1129_48 rfl (xq_goto k_1129_49 (xq_iastore k_1129_54 h (fun w18 h => (xq_iinc k_1129_55 rfl rfl (xq_goto k_1129_56 (xq_iinc k_1129_96 rfl rfl (xq_goto k_1129_97 h))))))))) (fun h => (xq_aload_n k_1129_50 rfl (xq_getr k_1129_51 rfl h (fun r14 h => (xq_iload k_1129_52 rfl (xq_iaload k_1129_53 h (fun l15 h => h) (fun l15 z16 h => (xq_iastore k_1129_54 h (fun w17 h => (xq_iinc k_1129_55 rfl rfl (xq_goto k_1129_56 (xq_iinc k_1129_96 rfl rfl (xq_goto k_1129_97 h)))))))))))))))))))) (fun h => (xq_iload k_1129_40 rfl (xq_iconst k_1129_41 (xq_ic_ne k_1129_42 h (fun h => (xq_aload_n k_1129_43 rfl (xq_getr k_1129_44 rfl h (fun r35 h => (xq_iload_n k_1129_45 rfl (xq_iload k_1129_46 rfl (xq_if_ne k_1129_47 h (fun h => (xq_iload k_1129_48 rfl (xq_goto k_1129_49 (xq_iastore k_1129_54 h (fun w40 h => (xq_iinc k_1129_55 rfl rfl (xq_goto k_1129_56 (xq_iinc k_1129_96 rfl rfl (xq_goto k_1129_97 h))))))))) (fun h => (xq_aload_n k_1129_50 rfl (xq_getr k_1129_51 rfl h (fun r36 h => (xq_iload k_1129_52 rfl (xq_iaload k_1129_53 h (fun l37 h => h) (fun l37 z38 h => (xq_iastore k_1129_54 h (fun w39 h => (xq_iinc k_1129_55 rfl rfl (xq_goto k_1129_56 (xq_iinc k_1129_96 rfl rfl (xq_goto k_1129_97 h)))))))))))))))))))) (fun h => (xq_iload k_1129_57 rfl (xq_iconst k_1129_58 (xq_ic_ne k_1129_59 h (fun h => (xq_aload_n k_1129_60 rfl (xq_getr k_1129_61 rfl h (fun r29 h => (xq_iload_n k_1129_62 rfl (xq_iconst k_1129_63 (xq_isub k_1129_64 (xq_aload_n k_1129_65 rfl (xq_getr k_1129_66 rfl h (fun r30 h => (xq_iload_n k_1129_67 rfl (xq_iconst k_1129_68 (xq_isub k_1129_69 (xq_iaload k_1129_70 h (fun l31 h => h) (fun l31 z32 h => (xq_if_ne k_1129_71 h (fun h => (xq_iconst k_1129_72 (xq_goto k_1129_73 (xq_iastore k_1129_75 h (fun w34 h => (xq_goto k_1129_76 (xq_iinc k_1129_96 rfl rfl (xq_goto k_1129_97 h)))))))) (fun h => (xq_iconst k_1129_74 (xq_iastore k_1129_75 h (fun w33 h => (xq_goto k_1129_76 (xq_iinc k_1129_96 rfl rfl (xq_goto k_1129_97 h))))))))))))))))))))))) (fun h => (xq_iinc k_1129_77 rfl rfl (xq_aload_n k_1129_78 rfl (xq_getr k_1129_79 rfl h (fun r19 h => (xq_iload_n k_1129_80 rfl (xq_iconst k_1129_81 (xq_isub k_1129_82 (xq_iload k_1129_83 rfl (xq_aload_n k_1129_84 rfl (xq_getr k_1129_85 rfl h (fun r20 h => (xq_iload_n k_1129_86 rfl (xq_iconst k_1129_87 (xq_isub k_1129_88 (xq_iaload k_1129_89 h (fun l21 h => h) (fun l21 z22 h => (xq_aload_n k_1129_90 rfl (xq_getr k_1129_91 rfl h (fun r23 h => (xq_iload_n k_1129_92 rfl (xq_iaload k_1129_93 h (fun l24 h => h) (fun l24 z25 h => (xq_invs1 k_1129_94 xr_1128 rfl rfl rfl h (fun z27 w26 h => (xq_iastore k_1129_95 h (fun w28 h => (xq_iinc k_1129_96 rfl rfl (xq_goto k_1129_97 h)))))))))))))))))))))))))))))))))))))))))))))))))))))))))))))))))) (fun h => (xq_aload_n k_1129_98 rfl (xq_getr k_1129_99 rfl h (fun r4 h => (xq_iconst k_1129_100 (xq_iaload k_1129_101 h (fun l5 h => h) (fun l5 z6 h => (xq_ireturn k_1129_102 h))))))))))))))))
/-- ShodBackwardsModel.keeps(I)I -/
theorem d_1130_0 : List.drop 0 xm_c1130 = xm_c1130 := rfl
theorem k_1130_0 : xm_gi xm_c1130 0 = some xm_e1130_0 := xm_gt d_1130_0
theorem d_1130_1 : List.drop 1 xm_c1130 = xm_c1130_1 := xm_dr d_1130_0
theorem k_1130_1 : xm_gi xm_c1130 1 = some xm_e1130_1 := xm_gt d_1130_1
theorem d_1130_2 : List.drop 2 xm_c1130 = xm_c1130_2 := xm_dr d_1130_1
theorem k_1130_2 : xm_gi xm_c1130 2 = some xm_e1130_2 := xm_gt d_1130_2
theorem d_1130_3 : List.drop 3 xm_c1130 = xm_c1130_3 := xm_dr d_1130_2
theorem k_1130_3 : xm_gi xm_c1130 3 = some xm_e1130_3 := xm_gt d_1130_3
theorem d_1130_4 : List.drop 4 xm_c1130 = xm_c1130_4 := xm_dr d_1130_3
theorem k_1130_4 : xm_gi xm_c1130 4 = some xm_e1130_4 := xm_gt d_1130_4
theorem d_1130_5 : List.drop 5 xm_c1130 = xm_c1130_5 := xm_dr d_1130_4
theorem k_1130_5 : xm_gi xm_c1130 5 = some xm_e1130_5 := xm_gt d_1130_5
theorem d_1130_6 : List.drop 6 xm_c1130 = xm_c1130_6 := xm_dr d_1130_5
theorem k_1130_6 : xm_gi xm_c1130 6 = some xm_e1130_6 := xm_gt d_1130_6
theorem d_1130_7 : List.drop 7 xm_c1130 = xm_c1130_7 := xm_dr d_1130_6
theorem k_1130_7 : xm_gi xm_c1130 7 = some xm_e1130_7 := xm_gt d_1130_7
theorem d_1130_8 : List.drop 8 xm_c1130 = xm_c1130_8 := xm_dr d_1130_7
theorem k_1130_8 : xm_gi xm_c1130 8 = some xm_e1130_8 := xm_gt d_1130_8
theorem d_1130_9 : List.drop 9 xm_c1130 = xm_c1130_9 := xm_dr d_1130_8
theorem k_1130_9 : xm_gi xm_c1130 9 = some xm_e1130_9 := xm_gt d_1130_9
theorem d_1130_10 : List.drop 10 xm_c1130 = xm_c1130_10 := xm_dr d_1130_9
theorem k_1130_10 : xm_gi xm_c1130 10 = some xm_e1130_10 := xm_gt d_1130_10
theorem d_1130_11 : List.drop 11 xm_c1130 = xm_c1130_11 := xm_dr d_1130_10
theorem k_1130_11 : xm_gi xm_c1130 11 = some xm_e1130_11 := xm_gt d_1130_11
theorem d_1130_12 : List.drop 12 xm_c1130 = xm_c1130_12 := xm_dr d_1130_11
theorem k_1130_12 : xm_gi xm_c1130 12 = some xm_e1130_12 := xm_gt d_1130_12
theorem d_1130_13 : List.drop 13 xm_c1130 = xm_c1130_13 := xm_dr d_1130_12
theorem k_1130_13 : xm_gi xm_c1130 13 = some xm_e1130_13 := xm_gt d_1130_13
theorem d_1130_14 : List.drop 14 xm_c1130 = xm_c1130_14 := xm_dr d_1130_13
theorem k_1130_14 : xm_gi xm_c1130 14 = some xm_e1130_14 := xm_gt d_1130_14
theorem d_1130_15 : List.drop 15 xm_c1130 = xm_c1130_15 := xm_dr d_1130_14
theorem k_1130_15 : xm_gi xm_c1130 15 = some xm_e1130_15 := xm_gt d_1130_15
theorem d_1130_16 : List.drop 16 xm_c1130 = xm_c1130_16 := xm_dr d_1130_15
theorem k_1130_16 : xm_gi xm_c1130 16 = some xm_e1130_16 := xm_gt d_1130_16
theorem d_1130_17 : List.drop 17 xm_c1130 = xm_c1130_17 := xm_dr d_1130_16
theorem k_1130_17 : xm_gi xm_c1130 17 = some xm_e1130_17 := xm_gt d_1130_17
theorem d_1130_18 : List.drop 18 xm_c1130 = xm_c1130_18 := xm_dr d_1130_17
theorem k_1130_18 : xm_gi xm_c1130 18 = some xm_e1130_18 := xm_gt d_1130_18
theorem d_1130_19 : List.drop 19 xm_c1130 = xm_c1130_19 := xm_dr d_1130_18
theorem k_1130_19 : xm_gi xm_c1130 19 = some xm_e1130_19 := xm_gt d_1130_19
theorem d_1130_20 : List.drop 20 xm_c1130 = xm_c1130_20 := xm_dr d_1130_19
theorem k_1130_20 : xm_gi xm_c1130 20 = some xm_e1130_20 := xm_gt d_1130_20
theorem d_1130_21 : List.drop 21 xm_c1130 = xm_c1130_21 := xm_dr d_1130_20
theorem k_1130_21 : xm_gi xm_c1130 21 = some xm_e1130_21 := xm_gt d_1130_21
theorem d_1130_22 : List.drop 22 xm_c1130 = xm_c1130_22 := xm_dr d_1130_21
theorem k_1130_22 : xm_gi xm_c1130 22 = some xm_e1130_22 := xm_gt d_1130_22
theorem d_1130_23 : List.drop 23 xm_c1130 = xm_c1130_23 := xm_dr d_1130_22
theorem k_1130_23 : xm_gi xm_c1130 23 = some xm_e1130_23 := xm_gt d_1130_23
theorem d_1130_24 : List.drop 24 xm_c1130 = xm_c1130_24 := xm_dr d_1130_23
theorem k_1130_24 : xm_gi xm_c1130 24 = some xm_e1130_24 := xm_gt d_1130_24
theorem d_1130_25 : List.drop 25 xm_c1130 = xm_c1130_25 := xm_dr d_1130_24
theorem k_1130_25 : xm_gi xm_c1130 25 = some xm_e1130_25 := xm_gt d_1130_25
theorem d_1130_26 : List.drop 26 xm_c1130 = xm_c1130_26 := xm_dr d_1130_25
theorem k_1130_26 : xm_gi xm_c1130 26 = some xm_e1130_26 := xm_gt d_1130_26
theorem d_1130_27 : List.drop 27 xm_c1130 = xm_c1130_27 := xm_dr d_1130_26
theorem k_1130_27 : xm_gi xm_c1130 27 = some xm_e1130_27 := xm_gt d_1130_27
theorem d_1130_28 : List.drop 28 xm_c1130 = xm_c1130_28 := xm_dr d_1130_27
theorem k_1130_28 : xm_gi xm_c1130 28 = some xm_e1130_28 := xm_gt d_1130_28
theorem d_1130_29 : List.drop 29 xm_c1130 = xm_c1130_29 := xm_dr d_1130_28
theorem k_1130_29 : xm_gi xm_c1130 29 = some xm_e1130_29 := xm_gt d_1130_29
theorem d_1130_30 : List.drop 30 xm_c1130 = xm_c1130_30 := xm_dr d_1130_29
theorem k_1130_30 : xm_gi xm_c1130 30 = some xm_e1130_30 := xm_gt d_1130_30
theorem d_1130_31 : List.drop 31 xm_c1130 = xm_c1130_31 := xm_dr d_1130_30
theorem k_1130_31 : xm_gi xm_c1130 31 = some xm_e1130_31 := xm_gt d_1130_31
theorem d_1130_32 : List.drop 32 xm_c1130 = xm_c1130_32 := xm_dr d_1130_31
theorem k_1130_32 : xm_gi xm_c1130 32 = some xm_e1130_32 := xm_gt d_1130_32
theorem xb_1130_0 {sc : List Int} {f : Nat → List xm_V → xm_W → xm_R} {w : xm_W} {Q : Option xm_V × xm_W → Prop} {x0 : Nat} {x1 : Int}
  (h : xm_O (xm_fr (xm_old sc) w x0 9 0) (fun r1 => xm_O (xm_ints (xm_old sc) w r1) (fun l2 => xm_O (xm_at l2 (xm_w (8 + x1))) (fun z3 => if (z3 : Int) = 0 then (xm_O (xm_fr (xm_old sc) w x0 9 0) (fun r7 => xm_O (xm_ints (xm_old sc) w r7) (fun l8 => xm_O (xm_at l8 2) (fun z9 => Q (some (.inl (xm_w (9 + z9))), w))))) else (if (z3 : Int) = 1 then (xm_O (xm_fr (xm_old sc) w x0 9 0) (fun r4 => xm_O (xm_ints (xm_old sc) w r4) (fun l5 => xm_O (xm_at l5 2) (fun z6 => Q (some (.inl (xm_w (4 + z6))), w))))) else (if (z3 : Int) = 2 then (Q (some (.inl 1), w)) else (Q (some (.inl 0), w)))))))) :
  xm_EQ (xm_old sc) xm_sta f xm_c1130 0 [some (.inr (.inl (some x0))), some (.inl x1), none] [] w Q :=
  (xq_aload_n k_1130_0 rfl (xq_getr k_1130_1 rfl h (fun r1 h => (xq_bipush k_1130_2 (xq_iload_n k_1130_3 rfl (xq_iadd k_1130_4 (xq_iaload k_1130_5 h (fun l2 h => h) (fun l2 z3 h => (xq_istore_n k_1130_6 rfl (xq_iload_n k_1130_7 rfl (xq_if_ne k_1130_8 h (fun h => (xq_bipush k_1130_9 (xq_aload_n k_1130_10 rfl (xq_getr k_1130_11 rfl h (fun r7 h => (xq_iconst k_1130_12 (xq_iaload k_1130_13 h (fun l8 h => h) (fun l8 z9 h => (xq_iadd k_1130_14 (xq_goto k_1130_15 (xq_ireturn k_1130_32 h))))))))))) (fun h => (xq_iload_n k_1130_16 rfl (xq_iconst k_1130_17 (xq_ic_ne k_1130_18 h (fun h => (xq_iconst k_1130_19 (xq_aload_n k_1130_20 rfl (xq_getr k_1130_21 rfl h (fun r4 h => (xq_iconst k_1130_22 (xq_iaload k_1130_23 h (fun l5 h => h) (fun l5 z6 h => (xq_iadd k_1130_24 (xq_goto k_1130_25 (xq_ireturn k_1130_32 h))))))))))) (fun h => (xq_iload_n k_1130_26 rfl (xq_iconst k_1130_27 (xq_ic_ne k_1130_28 h (fun h => (xq_iconst k_1130_29 (xq_goto k_1130_30 (xq_ireturn k_1130_32 h)))) (fun h => (xq_iconst k_1130_31 (xq_ireturn k_1130_32 h))))))))))))))))))))))
/-- ShodBackwardsModel.isSeen(II)Z -/
theorem d_1131_0 : List.drop 0 xm_c1131 = xm_c1131 := rfl
theorem k_1131_0 : xm_gi xm_c1131 0 = some xm_e1131_0 := xm_gt d_1131_0
theorem d_1131_1 : List.drop 1 xm_c1131 = xm_c1131_1 := xm_dr d_1131_0
theorem k_1131_1 : xm_gi xm_c1131 1 = some xm_e1131_1 := xm_gt d_1131_1
theorem d_1131_2 : List.drop 2 xm_c1131 = xm_c1131_2 := xm_dr d_1131_1
theorem k_1131_2 : xm_gi xm_c1131 2 = some xm_e1131_2 := xm_gt d_1131_2
theorem d_1131_3 : List.drop 3 xm_c1131 = xm_c1131_3 := xm_dr d_1131_2
theorem k_1131_3 : xm_gi xm_c1131 3 = some xm_e1131_3 := xm_gt d_1131_3
theorem d_1131_4 : List.drop 4 xm_c1131 = xm_c1131_4 := xm_dr d_1131_3
theorem k_1131_4 : xm_gi xm_c1131 4 = some xm_e1131_4 := xm_gt d_1131_4
theorem d_1131_5 : List.drop 5 xm_c1131 = xm_c1131_5 := xm_dr d_1131_4
theorem k_1131_5 : xm_gi xm_c1131 5 = some xm_e1131_5 := xm_gt d_1131_5
theorem d_1131_6 : List.drop 6 xm_c1131 = xm_c1131_6 := xm_dr d_1131_5
theorem k_1131_6 : xm_gi xm_c1131 6 = some xm_e1131_6 := xm_gt d_1131_6
theorem d_1131_7 : List.drop 7 xm_c1131 = xm_c1131_7 := xm_dr d_1131_6
theorem k_1131_7 : xm_gi xm_c1131 7 = some xm_e1131_7 := xm_gt d_1131_7
theorem d_1131_8 : List.drop 8 xm_c1131 = xm_c1131_8 := xm_dr d_1131_7
theorem k_1131_8 : xm_gi xm_c1131 8 = some xm_e1131_8 := xm_gt d_1131_8
theorem d_1131_9 : List.drop 9 xm_c1131 = xm_c1131_9 := xm_dr d_1131_8
theorem k_1131_9 : xm_gi xm_c1131 9 = some xm_e1131_9 := xm_gt d_1131_9
theorem d_1131_10 : List.drop 10 xm_c1131 = xm_c1131_10 := xm_dr d_1131_9
theorem k_1131_10 : xm_gi xm_c1131 10 = some xm_e1131_10 := xm_gt d_1131_10
theorem d_1131_11 : List.drop 11 xm_c1131 = xm_c1131_11 := xm_dr d_1131_10
theorem k_1131_11 : xm_gi xm_c1131 11 = some xm_e1131_11 := xm_gt d_1131_11
theorem d_1131_12 : List.drop 12 xm_c1131 = xm_c1131_12 := xm_dr d_1131_11
theorem k_1131_12 : xm_gi xm_c1131 12 = some xm_e1131_12 := xm_gt d_1131_12
theorem d_1131_13 : List.drop 13 xm_c1131 = xm_c1131_13 := xm_dr d_1131_12
theorem k_1131_13 : xm_gi xm_c1131 13 = some xm_e1131_13 := xm_gt d_1131_13
theorem xb_1131_0 {sc : List Int} {f : Nat → List xm_V → xm_W → xm_R} {w : xm_W} {Q : Option xm_V × xm_W → Prop} {x0 : Nat} {x1 : Int} {x2 : Int}
  (h : xm_O (xm_fr (xm_old sc) w x0 9 0) (fun r1 => xm_O (xm_ints (xm_old sc) w r1) (fun l2 => xm_O (xm_at l2 1) (fun z3 => xm_Oi (f 1130 [.inr (.inl (some x0)), .inl x1] w) (fun z5 w4 => if ((xm_w (x2 + z5)) : Int) < z3 then (Q (some (.inl 0), w4)) else (Q (some (.inl 1), w4))))))) :
  xm_EQ (xm_old sc) xm_sta f xm_c1131 0 [some (.inr (.inl (some x0))), some (.inl x1), some (.inl x2)] [] w Q :=
  (xq_aload_n k_1131_0 rfl (xq_getr k_1131_1 rfl h (fun r1 h => (xq_iconst k_1131_2 (xq_iaload k_1131_3 h (fun l2 h => h) (fun l2 z3 h => (xq_iload_n k_1131_4 rfl (xq_aload_n k_1131_5 rfl (xq_iload_n k_1131_6 rfl (xq_invv1 k_1131_7 xr_1130 rfl rfl rfl h (fun z5 w4 h => (xq_iadd k_1131_8 (xq_ic_gt k_1131_9 h (fun h => (xq_iconst k_1131_12 (xq_ireturn k_1131_13 h))) (fun h => (xq_iconst k_1131_10 (xq_goto k_1131_11 (xq_ireturn k_1131_13 h)))))))))))))))))
/-- ShodBackwardsModel.clears(II)V -/
theorem d_1132_0 : List.drop 0 xm_c1132 = xm_c1132 := rfl
theorem k_1132_0 : xm_gi xm_c1132 0 = some xm_e1132_0 := xm_gt d_1132_0
theorem d_1132_1 : List.drop 1 xm_c1132 = xm_c1132_1 := xm_dr d_1132_0
theorem k_1132_1 : xm_gi xm_c1132 1 = some xm_e1132_1 := xm_gt d_1132_1
theorem d_1132_2 : List.drop 2 xm_c1132 = xm_c1132_2 := xm_dr d_1132_1
theorem k_1132_2 : xm_gi xm_c1132 2 = some xm_e1132_2 := xm_gt d_1132_2
theorem d_1132_3 : List.drop 3 xm_c1132 = xm_c1132_3 := xm_dr d_1132_2
theorem k_1132_3 : xm_gi xm_c1132 3 = some xm_e1132_3 := xm_gt d_1132_3
theorem d_1132_4 : List.drop 4 xm_c1132 = xm_c1132_4 := xm_dr d_1132_3
theorem k_1132_4 : xm_gi xm_c1132 4 = some xm_e1132_4 := xm_gt d_1132_4
theorem d_1132_5 : List.drop 5 xm_c1132 = xm_c1132_5 := xm_dr d_1132_4
theorem k_1132_5 : xm_gi xm_c1132 5 = some xm_e1132_5 := xm_gt d_1132_5
theorem d_1132_6 : List.drop 6 xm_c1132 = xm_c1132_6 := xm_dr d_1132_5
theorem k_1132_6 : xm_gi xm_c1132 6 = some xm_e1132_6 := xm_gt d_1132_6
theorem d_1132_7 : List.drop 7 xm_c1132 = xm_c1132_7 := xm_dr d_1132_6
theorem k_1132_7 : xm_gi xm_c1132 7 = some xm_e1132_7 := xm_gt d_1132_7
theorem d_1132_8 : List.drop 8 xm_c1132 = xm_c1132_8 := xm_dr d_1132_7
theorem k_1132_8 : xm_gi xm_c1132 8 = some xm_e1132_8 := xm_gt d_1132_8
theorem d_1132_9 : List.drop 9 xm_c1132 = xm_c1132_9 := xm_dr d_1132_8
theorem k_1132_9 : xm_gi xm_c1132 9 = some xm_e1132_9 := xm_gt d_1132_9
theorem d_1132_10 : List.drop 10 xm_c1132 = xm_c1132_10 := xm_dr d_1132_9
theorem k_1132_10 : xm_gi xm_c1132 10 = some xm_e1132_10 := xm_gt d_1132_10
theorem d_1132_11 : List.drop 11 xm_c1132 = xm_c1132_11 := xm_dr d_1132_10
theorem k_1132_11 : xm_gi xm_c1132 11 = some xm_e1132_11 := xm_gt d_1132_11
theorem d_1132_12 : List.drop 12 xm_c1132 = xm_c1132_12 := xm_dr d_1132_11
theorem k_1132_12 : xm_gi xm_c1132 12 = some xm_e1132_12 := xm_gt d_1132_12
theorem d_1132_13 : List.drop 13 xm_c1132 = xm_c1132_13 := xm_dr d_1132_12
theorem k_1132_13 : xm_gi xm_c1132 13 = some xm_e1132_13 := xm_gt d_1132_13
theorem d_1132_14 : List.drop 14 xm_c1132 = xm_c1132_14 := xm_dr d_1132_13
theorem k_1132_14 : xm_gi xm_c1132 14 = some xm_e1132_14 := xm_gt d_1132_14
theorem d_1132_15 : List.drop 15 xm_c1132 = xm_c1132_15 := xm_dr d_1132_14
theorem k_1132_15 : xm_gi xm_c1132 15 = some xm_e1132_15 := xm_gt d_1132_15
theorem d_1132_16 : List.drop 16 xm_c1132 = xm_c1132_16 := xm_dr d_1132_15
theorem k_1132_16 : xm_gi xm_c1132 16 = some xm_e1132_16 := xm_gt d_1132_16
theorem d_1132_17 : List.drop 17 xm_c1132 = xm_c1132_17 := xm_dr d_1132_16
theorem k_1132_17 : xm_gi xm_c1132 17 = some xm_e1132_17 := xm_gt d_1132_17
theorem d_1132_18 : List.drop 18 xm_c1132 = xm_c1132_18 := xm_dr d_1132_17
theorem k_1132_18 : xm_gi xm_c1132 18 = some xm_e1132_18 := xm_gt d_1132_18
theorem d_1132_19 : List.drop 19 xm_c1132 = xm_c1132_19 := xm_dr d_1132_18
theorem k_1132_19 : xm_gi xm_c1132 19 = some xm_e1132_19 := xm_gt d_1132_19
theorem d_1132_20 : List.drop 20 xm_c1132 = xm_c1132_20 := xm_dr d_1132_19
theorem k_1132_20 : xm_gi xm_c1132 20 = some xm_e1132_20 := xm_gt d_1132_20
theorem d_1132_21 : List.drop 21 xm_c1132 = xm_c1132_21 := xm_dr d_1132_20
theorem k_1132_21 : xm_gi xm_c1132 21 = some xm_e1132_21 := xm_gt d_1132_21
theorem d_1132_22 : List.drop 22 xm_c1132 = xm_c1132_22 := xm_dr d_1132_21
theorem k_1132_22 : xm_gi xm_c1132 22 = some xm_e1132_22 := xm_gt d_1132_22
theorem d_1132_23 : List.drop 23 xm_c1132 = xm_c1132_23 := xm_dr d_1132_22
theorem k_1132_23 : xm_gi xm_c1132 23 = some xm_e1132_23 := xm_gt d_1132_23
theorem d_1132_24 : List.drop 24 xm_c1132 = xm_c1132_24 := xm_dr d_1132_23
theorem k_1132_24 : xm_gi xm_c1132 24 = some xm_e1132_24 := xm_gt d_1132_24
theorem d_1132_25 : List.drop 25 xm_c1132 = xm_c1132_25 := xm_dr d_1132_24
theorem k_1132_25 : xm_gi xm_c1132 25 = some xm_e1132_25 := xm_gt d_1132_25
theorem d_1132_26 : List.drop 26 xm_c1132 = xm_c1132_26 := xm_dr d_1132_25
theorem k_1132_26 : xm_gi xm_c1132 26 = some xm_e1132_26 := xm_gt d_1132_26
theorem d_1132_27 : List.drop 27 xm_c1132 = xm_c1132_27 := xm_dr d_1132_26
theorem k_1132_27 : xm_gi xm_c1132 27 = some xm_e1132_27 := xm_gt d_1132_27
theorem d_1132_28 : List.drop 28 xm_c1132 = xm_c1132_28 := xm_dr d_1132_27
theorem k_1132_28 : xm_gi xm_c1132 28 = some xm_e1132_28 := xm_gt d_1132_28
theorem d_1132_29 : List.drop 29 xm_c1132 = xm_c1132_29 := xm_dr d_1132_28
theorem k_1132_29 : xm_gi xm_c1132 29 = some xm_e1132_29 := xm_gt d_1132_29
theorem d_1132_30 : List.drop 30 xm_c1132 = xm_c1132_30 := xm_dr d_1132_29
theorem k_1132_30 : xm_gi xm_c1132 30 = some xm_e1132_30 := xm_gt d_1132_30
theorem d_1132_31 : List.drop 31 xm_c1132 = xm_c1132_31 := xm_dr d_1132_30
theorem k_1132_31 : xm_gi xm_c1132 31 = some xm_e1132_31 := xm_gt d_1132_31
theorem d_1132_32 : List.drop 32 xm_c1132 = xm_c1132_32 := xm_dr d_1132_31
theorem k_1132_32 : xm_gi xm_c1132 32 = some xm_e1132_32 := xm_gt d_1132_32
theorem d_1132_33 : List.drop 33 xm_c1132 = xm_c1132_33 := xm_dr d_1132_32
theorem k_1132_33 : xm_gi xm_c1132 33 = some xm_e1132_33 := xm_gt d_1132_33
theorem d_1132_34 : List.drop 34 xm_c1132 = xm_c1132_34 := xm_dr d_1132_33
theorem k_1132_34 : xm_gi xm_c1132 34 = some xm_e1132_34 := xm_gt d_1132_34
theorem d_1132_35 : List.drop 35 xm_c1132 = xm_c1132_35 := xm_dr d_1132_34
theorem k_1132_35 : xm_gi xm_c1132 35 = some xm_e1132_35 := xm_gt d_1132_35
theorem d_1132_36 : List.drop 36 xm_c1132 = xm_c1132_36 := xm_dr d_1132_35
theorem k_1132_36 : xm_gi xm_c1132 36 = some xm_e1132_36 := xm_gt d_1132_36
theorem d_1132_37 : List.drop 37 xm_c1132 = xm_c1132_37 := xm_dr d_1132_36
theorem k_1132_37 : xm_gi xm_c1132 37 = some xm_e1132_37 := xm_gt d_1132_37
theorem d_1132_38 : List.drop 38 xm_c1132 = xm_c1132_38 := xm_dr d_1132_37
theorem k_1132_38 : xm_gi xm_c1132 38 = some xm_e1132_38 := xm_gt d_1132_38
theorem d_1132_39 : List.drop 39 xm_c1132 = xm_c1132_39 := xm_dr d_1132_38
theorem k_1132_39 : xm_gi xm_c1132 39 = some xm_e1132_39 := xm_gt d_1132_39
theorem d_1132_40 : List.drop 40 xm_c1132 = xm_c1132_40 := xm_dr d_1132_39
theorem k_1132_40 : xm_gi xm_c1132 40 = some xm_e1132_40 := xm_gt d_1132_40
theorem d_1132_41 : List.drop 41 xm_c1132 = xm_c1132_41 := xm_dr d_1132_40
theorem k_1132_41 : xm_gi xm_c1132 41 = some xm_e1132_41 := xm_gt d_1132_41
theorem d_1132_42 : List.drop 42 xm_c1132 = xm_c1132_42 := xm_dr d_1132_41
theorem k_1132_42 : xm_gi xm_c1132 42 = some xm_e1132_42 := xm_gt d_1132_42
theorem d_1132_43 : List.drop 43 xm_c1132 = xm_c1132_43 := xm_dr d_1132_42
theorem k_1132_43 : xm_gi xm_c1132 43 = some xm_e1132_43 := xm_gt d_1132_43
theorem d_1132_44 : List.drop 44 xm_c1132 = xm_c1132_44 := xm_dr d_1132_43
theorem k_1132_44 : xm_gi xm_c1132 44 = some xm_e1132_44 := xm_gt d_1132_44
theorem d_1132_45 : List.drop 45 xm_c1132 = xm_c1132_45 := xm_dr d_1132_44
theorem k_1132_45 : xm_gi xm_c1132 45 = some xm_e1132_45 := xm_gt d_1132_45
theorem d_1132_46 : List.drop 46 xm_c1132 = xm_c1132_46 := xm_dr d_1132_45
theorem k_1132_46 : xm_gi xm_c1132 46 = some xm_e1132_46 := xm_gt d_1132_46
theorem d_1132_47 : List.drop 47 xm_c1132 = xm_c1132_47 := xm_dr d_1132_46
theorem k_1132_47 : xm_gi xm_c1132 47 = some xm_e1132_47 := xm_gt d_1132_47
theorem d_1132_48 : List.drop 48 xm_c1132 = xm_c1132_48 := xm_dr d_1132_47
theorem k_1132_48 : xm_gi xm_c1132 48 = some xm_e1132_48 := xm_gt d_1132_48
theorem d_1132_49 : List.drop 49 xm_c1132 = xm_c1132_49 := xm_dr d_1132_48
theorem k_1132_49 : xm_gi xm_c1132 49 = some xm_e1132_49 := xm_gt d_1132_49
theorem d_1132_50 : List.drop 50 xm_c1132 = xm_c1132_50 := xm_dr d_1132_49
theorem k_1132_50 : xm_gi xm_c1132 50 = some xm_e1132_50 := xm_gt d_1132_50
theorem d_1132_51 : List.drop 51 xm_c1132 = xm_c1132_51 := xm_dr d_1132_50
theorem k_1132_51 : xm_gi xm_c1132 51 = some xm_e1132_51 := xm_gt d_1132_51
theorem d_1132_52 : List.drop 52 xm_c1132 = xm_c1132_52 := xm_dr d_1132_51
theorem k_1132_52 : xm_gi xm_c1132 52 = some xm_e1132_52 := xm_gt d_1132_52
theorem d_1132_53 : List.drop 53 xm_c1132 = xm_c1132_53 := xm_dr d_1132_52
theorem k_1132_53 : xm_gi xm_c1132 53 = some xm_e1132_53 := xm_gt d_1132_53
theorem d_1132_54 : List.drop 54 xm_c1132 = xm_c1132_54 := xm_dr d_1132_53
theorem k_1132_54 : xm_gi xm_c1132 54 = some xm_e1132_54 := xm_gt d_1132_54
theorem d_1132_55 : List.drop 55 xm_c1132 = xm_c1132_55 := xm_dr d_1132_54
theorem k_1132_55 : xm_gi xm_c1132 55 = some xm_e1132_55 := xm_gt d_1132_55
theorem d_1132_56 : List.drop 56 xm_c1132 = xm_c1132_56 := xm_dr d_1132_55
theorem k_1132_56 : xm_gi xm_c1132 56 = some xm_e1132_56 := xm_gt d_1132_56
theorem d_1132_57 : List.drop 57 xm_c1132 = xm_c1132_57 := xm_dr d_1132_56
theorem k_1132_57 : xm_gi xm_c1132 57 = some xm_e1132_57 := xm_gt d_1132_57
theorem d_1132_58 : List.drop 58 xm_c1132 = xm_c1132_58 := xm_dr d_1132_57
theorem k_1132_58 : xm_gi xm_c1132 58 = some xm_e1132_58 := xm_gt d_1132_58
theorem d_1132_59 : List.drop 59 xm_c1132 = xm_c1132_59 := xm_dr d_1132_58
theorem k_1132_59 : xm_gi xm_c1132 59 = some xm_e1132_59 := xm_gt d_1132_59
theorem d_1132_60 : List.drop 60 xm_c1132 = xm_c1132_60 := xm_dr d_1132_59
theorem k_1132_60 : xm_gi xm_c1132 60 = some xm_e1132_60 := xm_gt d_1132_60
theorem d_1132_61 : List.drop 61 xm_c1132 = xm_c1132_61 := xm_dr d_1132_60
theorem k_1132_61 : xm_gi xm_c1132 61 = some xm_e1132_61 := xm_gt d_1132_61
theorem xb_1132_0 {sc : List Int} {f : Nat → List xm_V → xm_W → xm_R} {w : xm_W} {Q : Option xm_V × xm_W → Prop} {x0 : Nat} {x1 : Int} {x2 : Int}
  (h : xm_O (xm_fr (xm_old sc) w x0 9 0) (fun r1 => xm_O (xm_ints (xm_old sc) w r1) (fun l2 => xm_O (xm_at l2 3) (fun z3 => xm_EQ (xm_old sc) xm_sta f xm_c1132 9 [some (.inr (.inl (some x0))), some (.inl x1), some (.inl x2), some (.inl 0), some (.inl z3), some (.inl 0), none] [] w Q)))) :
  xm_EQ (xm_old sc) xm_sta f xm_c1132 0 [some (.inr (.inl (some x0))), some (.inl x1), some (.inl x2), none, none, none, none] [] w Q :=
  (xq_iconst k_1132_0 (xq_istore_n k_1132_1 rfl (xq_aload_n k_1132_2 rfl (xq_getr k_1132_3 rfl h (fun r1 h => (xq_iconst k_1132_4 (xq_iaload k_1132_5 h (fun l2 h => h) (fun l2 z3 h => (xq_istore k_1132_6 rfl (xq_iconst k_1132_7 (xq_istore k_1132_8 rfl h)))))))))))
theorem xb_1132_9 {sc : List Int} {f : Nat → List xm_V → xm_W → xm_R} {w : xm_W} {Q : Option xm_V × xm_W → Prop} {x0 : Nat} {x1 : Int} {x2 : Int} {x3 : Int} {x4 : Int} {x5 : Int} {u6 : Option xm_V}
  (h : if (x5 : Int) < x4 then (if (x5 : Int) < x1 then (xm_EQ (xm_old sc) xm_sta f xm_c1132 9 [some (.inr (.inl (some x0))), some (.inl x1), some (.inl x2), some (.inl x3), some (.inl x4), some (.inl (xm_w (x5 + 1))), u6] [] w Q) else (xm_Oi (f 1112 [.inr (.inl (some x0)), .inl x5, .inl 0] w) (fun z4 w3 => if (z4 : Int) = x2 then (xm_EQ (xm_old sc) xm_sta f xm_c1132 9 [some (.inr (.inl (some x0))), some (.inl x1), some (.inl x2), some (.inl x3), some (.inl x4), some (.inl (xm_w (x5 + 1))), u6] [] w3 Q) else (xm_Oi (f 1112 [.inr (.inl (some x0)), .inl x5, .inl 0] w3) (fun z6 w5 => xm_Oi (f 1112 [.inr (.inl (some x0)), .inl x5, .inl 3] w5) (fun z8 w7 => xm_Oi (f 1131 [.inr (.inl (some x0)), .inl z6, .inl z8] w7) (fun z10 w9 => if (z10 : Int) = 0 then (xm_EQ (xm_old sc) xm_sta f xm_c1132 9 [some (.inr (.inl (some x0))), some (.inl x1), some (.inl x2), some (.inl x3), some (.inl x4), some (.inl (xm_w (x5 + 1))), u6] [] w9 Q) else (xm_EQ (xm_old sc) xm_sta f xm_c1132 34 [some (.inr (.inl (some x0))), some (.inl x1), some (.inl x2), some (.inl x3), some (.inl x4), some (.inl x5), some (.inl 0)] [] w9 Q)))))))) else (xm_O (xm_fr (xm_old sc) w x0 9 0) (fun r1 => xm_O (xm_seti w r1 3 x3) (fun w2 => Q (none, w2))))) :
  xm_EQ (xm_old sc) xm_sta f xm_c1132 9 [some (.inr (.inl (some x0))), some (.inl x1), some (.inl x2), some (.inl x3), some (.inl x4), some (.inl x5), u6] [] w Q :=
  (xq_iload k_1132_9 rfl (xq_iload k_1132_10 rfl (xq_ic_ge k_1132_11 h (fun h => (xq_iload k_1132_12 rfl (xq_iload_n k_1132_13 rfl (xq_ic_lt k_1132_14 h (fun h => (xq_iinc k_1132_54 rfl rfl (xq_goto k_1132_55 h))) (fun h => (xq_aload_n k_1132_15 rfl (xq_iload k_1132_16 rfl (xq_iconst k_1132_17 (xq_invv1 k_1132_18 xr_1112 rfl rfl rfl h (fun z4 w3 h => (xq_iload_n k_1132_19 rfl (xq_ic_eq k_1132_20 h (fun h => (xq_iinc k_1132_54 rfl rfl (xq_goto k_1132_55 h))) (fun h => (xq_aload_n k_1132_21 rfl (xq_aload_n k_1132_22 rfl (xq_iload k_1132_23 rfl (xq_iconst k_1132_24 (xq_invv1 k_1132_25 xr_1112 rfl rfl rfl h (fun z6 w5 h => (xq_aload_n k_1132_26 rfl (xq_iload k_1132_27 rfl (xq_iconst k_1132_28 (xq_invv1 k_1132_29 xr_1112 rfl rfl rfl h (fun z8 w7 h => (xq_invv2 k_1132_30 xr_1131 rfl rfl rfl h (fun z10 w9 h => (xq_if_eq k_1132_31 h (fun h => (xq_iinc k_1132_54 rfl rfl (xq_goto k_1132_55 h))) (fun h => (xq_iconst k_1132_32 (xq_istore k_1132_33 rfl h)))))))))))))))))))))))))))))) (fun h => (xq_aload_n k_1132_56 rfl (xq_getr k_1132_57 rfl h (fun r1 h => (xq_iconst k_1132_58 (xq_iload_n k_1132_59 rfl (xq_iastore k_1132_60 h (fun w2 h => (xq_return k_1132_61 h))))))))))))
theorem xb_1132_34 {sc : List Int} {f : Nat → List xm_V → xm_W → xm_R} {w : xm_W} {Q : Option xm_V × xm_W → Prop} {x0 : Nat} {x1 : Int} {x2 : Int} {x3 : Int} {x4 : Int} {x5 : Int} {x6 : Int}
  (h : if (x6 : Int) < 5 then (xm_O (xm_fr (xm_old sc) w x0 9 0) (fun r1 => xm_Oi (f 1112 [.inr (.inl (some x0)), .inl x5, .inl x6] w) (fun z3 w2 => xm_O (xm_seti w2 r1 (xm_w ((xm_w (134 + (xm_w (5 * x3)))) + x6)) z3) (fun w4 => xm_EQ (xm_old sc) xm_sta f xm_c1132 34 [some (.inr (.inl (some x0))), some (.inl x1), some (.inl x2), some (.inl x3), some (.inl x4), some (.inl x5), some (.inl (xm_w (x6 + 1)))] [] w4 Q)))) else (xm_EQ (xm_old sc) xm_sta f xm_c1132 9 [some (.inr (.inl (some x0))), some (.inl x1), some (.inl x2), some (.inl (xm_w (x3 + 1))), some (.inl x4), some (.inl (xm_w (x5 + 1))), some (.inl x6)] [] w Q)) :
  xm_EQ (xm_old sc) xm_sta f xm_c1132 34 [some (.inr (.inl (some x0))), some (.inl x1), some (.inl x2), some (.inl x3), some (.inl x4), some (.inl x5), some (.inl x6)] [] w Q :=
  (xq_iload k_1132_34 rfl (xq_iconst k_1132_35 (xq_ic_ge k_1132_36 h (fun h => (xq_aload_n k_1132_37 rfl (xq_getr k_1132_38 rfl h (fun r1 h => (xq_sipush k_1132_39 (xq_iconst k_1132_40 (xq_iload_n k_1132_41 rfl (xq_imul k_1132_42 (xq_iadd k_1132_43 (xq_iload k_1132_44 rfl (xq_iadd k_1132_45 (xq_aload_n k_1132_46 rfl (xq_iload k_1132_47 rfl (xq_iload k_1132_48 rfl (xq_invv1 k_1132_49 xr_1112 rfl rfl rfl h (fun z3 w2 h => (xq_iastore k_1132_50 h (fun w4 h => (xq_iinc k_1132_51 rfl rfl (xq_goto k_1132_52 h)))))))))))))))))))) (fun h => (xq_iinc k_1132_53 rfl rfl (xq_iinc k_1132_54 rfl rfl (xq_goto k_1132_55 h)))))))
/-- ShodBackwardsModel.turned(I)I -/
theorem d_1133_0 : List.drop 0 xm_c1133 = xm_c1133 := rfl
theorem k_1133_0 : xm_gi xm_c1133 0 = some xm_e1133_0 := xm_gt d_1133_0
theorem d_1133_1 : List.drop 1 xm_c1133 = xm_c1133_1 := xm_dr d_1133_0
theorem k_1133_1 : xm_gi xm_c1133 1 = some xm_e1133_1 := xm_gt d_1133_1
theorem d_1133_2 : List.drop 2 xm_c1133 = xm_c1133_2 := xm_dr d_1133_1
theorem k_1133_2 : xm_gi xm_c1133 2 = some xm_e1133_2 := xm_gt d_1133_2
theorem d_1133_3 : List.drop 3 xm_c1133 = xm_c1133_3 := xm_dr d_1133_2
theorem k_1133_3 : xm_gi xm_c1133 3 = some xm_e1133_3 := xm_gt d_1133_3
theorem d_1133_4 : List.drop 4 xm_c1133 = xm_c1133_4 := xm_dr d_1133_3
theorem k_1133_4 : xm_gi xm_c1133 4 = some xm_e1133_4 := xm_gt d_1133_4
theorem d_1133_5 : List.drop 5 xm_c1133 = xm_c1133_5 := xm_dr d_1133_4
theorem k_1133_5 : xm_gi xm_c1133 5 = some xm_e1133_5 := xm_gt d_1133_5
theorem xb_1133_0 {sc : List Int} {f : Nat → List xm_V → xm_W → xm_R} {w : xm_W} {Q : Option xm_V × xm_W → Prop} {x0 : Int}
  (h : (4 : Int) ≠ 0 ∧ (Q (some (.inl (Int.tmod (xm_w (x0 + 2)) 4)), w))) :
  xm_EQ (xm_old sc) xm_sta f xm_c1133 0 [some (.inl x0)] [] w Q :=
  (xq_iload_n k_1133_0 rfl (xq_iconst k_1133_1 (xq_iadd k_1133_2 (xq_iconst k_1133_3 (xq_irem k_1133_4 h (fun h => (xq_ireturn k_1133_5 h)))))))
/-- ShodBackwardsModel.showsTold(III)I -/
theorem d_1134_0 : List.drop 0 xm_c1134 = xm_c1134 := rfl
theorem k_1134_0 : xm_gi xm_c1134 0 = some xm_e1134_0 := xm_gt d_1134_0
theorem d_1134_1 : List.drop 1 xm_c1134 = xm_c1134_1 := xm_dr d_1134_0
theorem k_1134_1 : xm_gi xm_c1134 1 = some xm_e1134_1 := xm_gt d_1134_1
theorem d_1134_2 : List.drop 2 xm_c1134 = xm_c1134_2 := xm_dr d_1134_1
theorem k_1134_2 : xm_gi xm_c1134 2 = some xm_e1134_2 := xm_gt d_1134_2
theorem d_1134_3 : List.drop 3 xm_c1134 = xm_c1134_3 := xm_dr d_1134_2
theorem k_1134_3 : xm_gi xm_c1134 3 = some xm_e1134_3 := xm_gt d_1134_3
theorem d_1134_4 : List.drop 4 xm_c1134 = xm_c1134_4 := xm_dr d_1134_3
theorem k_1134_4 : xm_gi xm_c1134 4 = some xm_e1134_4 := xm_gt d_1134_4
theorem d_1134_5 : List.drop 5 xm_c1134 = xm_c1134_5 := xm_dr d_1134_4
theorem k_1134_5 : xm_gi xm_c1134 5 = some xm_e1134_5 := xm_gt d_1134_5
theorem d_1134_6 : List.drop 6 xm_c1134 = xm_c1134_6 := xm_dr d_1134_5
theorem k_1134_6 : xm_gi xm_c1134 6 = some xm_e1134_6 := xm_gt d_1134_6
theorem d_1134_7 : List.drop 7 xm_c1134 = xm_c1134_7 := xm_dr d_1134_6
theorem k_1134_7 : xm_gi xm_c1134 7 = some xm_e1134_7 := xm_gt d_1134_7
theorem d_1134_8 : List.drop 8 xm_c1134 = xm_c1134_8 := xm_dr d_1134_7
theorem k_1134_8 : xm_gi xm_c1134 8 = some xm_e1134_8 := xm_gt d_1134_8
theorem d_1134_9 : List.drop 9 xm_c1134 = xm_c1134_9 := xm_dr d_1134_8
theorem k_1134_9 : xm_gi xm_c1134 9 = some xm_e1134_9 := xm_gt d_1134_9
theorem d_1134_10 : List.drop 10 xm_c1134 = xm_c1134_10 := xm_dr d_1134_9
theorem k_1134_10 : xm_gi xm_c1134 10 = some xm_e1134_10 := xm_gt d_1134_10
theorem d_1134_11 : List.drop 11 xm_c1134 = xm_c1134_11 := xm_dr d_1134_10
theorem k_1134_11 : xm_gi xm_c1134 11 = some xm_e1134_11 := xm_gt d_1134_11
theorem d_1134_12 : List.drop 12 xm_c1134 = xm_c1134_12 := xm_dr d_1134_11
theorem k_1134_12 : xm_gi xm_c1134 12 = some xm_e1134_12 := xm_gt d_1134_12
theorem d_1134_13 : List.drop 13 xm_c1134 = xm_c1134_13 := xm_dr d_1134_12
theorem k_1134_13 : xm_gi xm_c1134 13 = some xm_e1134_13 := xm_gt d_1134_13
theorem d_1134_14 : List.drop 14 xm_c1134 = xm_c1134_14 := xm_dr d_1134_13
theorem k_1134_14 : xm_gi xm_c1134 14 = some xm_e1134_14 := xm_gt d_1134_14
theorem d_1134_15 : List.drop 15 xm_c1134 = xm_c1134_15 := xm_dr d_1134_14
theorem k_1134_15 : xm_gi xm_c1134 15 = some xm_e1134_15 := xm_gt d_1134_15
theorem d_1134_16 : List.drop 16 xm_c1134 = xm_c1134_16 := xm_dr d_1134_15
theorem k_1134_16 : xm_gi xm_c1134 16 = some xm_e1134_16 := xm_gt d_1134_16
theorem d_1134_17 : List.drop 17 xm_c1134 = xm_c1134_17 := xm_dr d_1134_16
theorem k_1134_17 : xm_gi xm_c1134 17 = some xm_e1134_17 := xm_gt d_1134_17
theorem d_1134_18 : List.drop 18 xm_c1134 = xm_c1134_18 := xm_dr d_1134_17
theorem k_1134_18 : xm_gi xm_c1134 18 = some xm_e1134_18 := xm_gt d_1134_18
theorem d_1134_19 : List.drop 19 xm_c1134 = xm_c1134_19 := xm_dr d_1134_18
theorem k_1134_19 : xm_gi xm_c1134 19 = some xm_e1134_19 := xm_gt d_1134_19
theorem d_1134_20 : List.drop 20 xm_c1134 = xm_c1134_20 := xm_dr d_1134_19
theorem k_1134_20 : xm_gi xm_c1134 20 = some xm_e1134_20 := xm_gt d_1134_20
theorem d_1134_21 : List.drop 21 xm_c1134 = xm_c1134_21 := xm_dr d_1134_20
theorem k_1134_21 : xm_gi xm_c1134 21 = some xm_e1134_21 := xm_gt d_1134_21
theorem d_1134_22 : List.drop 22 xm_c1134 = xm_c1134_22 := xm_dr d_1134_21
theorem k_1134_22 : xm_gi xm_c1134 22 = some xm_e1134_22 := xm_gt d_1134_22
theorem d_1134_23 : List.drop 23 xm_c1134 = xm_c1134_23 := xm_dr d_1134_22
theorem k_1134_23 : xm_gi xm_c1134 23 = some xm_e1134_23 := xm_gt d_1134_23
theorem d_1134_24 : List.drop 24 xm_c1134 = xm_c1134_24 := xm_dr d_1134_23
theorem k_1134_24 : xm_gi xm_c1134 24 = some xm_e1134_24 := xm_gt d_1134_24
theorem d_1134_25 : List.drop 25 xm_c1134 = xm_c1134_25 := xm_dr d_1134_24
theorem k_1134_25 : xm_gi xm_c1134 25 = some xm_e1134_25 := xm_gt d_1134_25
theorem d_1134_26 : List.drop 26 xm_c1134 = xm_c1134_26 := xm_dr d_1134_25
theorem k_1134_26 : xm_gi xm_c1134 26 = some xm_e1134_26 := xm_gt d_1134_26
theorem d_1134_27 : List.drop 27 xm_c1134 = xm_c1134_27 := xm_dr d_1134_26
theorem k_1134_27 : xm_gi xm_c1134 27 = some xm_e1134_27 := xm_gt d_1134_27
theorem d_1134_28 : List.drop 28 xm_c1134 = xm_c1134_28 := xm_dr d_1134_27
theorem k_1134_28 : xm_gi xm_c1134 28 = some xm_e1134_28 := xm_gt d_1134_28
theorem d_1134_29 : List.drop 29 xm_c1134 = xm_c1134_29 := xm_dr d_1134_28
theorem k_1134_29 : xm_gi xm_c1134 29 = some xm_e1134_29 := xm_gt d_1134_29
theorem d_1134_30 : List.drop 30 xm_c1134 = xm_c1134_30 := xm_dr d_1134_29
theorem k_1134_30 : xm_gi xm_c1134 30 = some xm_e1134_30 := xm_gt d_1134_30
theorem d_1134_31 : List.drop 31 xm_c1134 = xm_c1134_31 := xm_dr d_1134_30
theorem k_1134_31 : xm_gi xm_c1134 31 = some xm_e1134_31 := xm_gt d_1134_31
theorem d_1134_32 : List.drop 32 xm_c1134 = xm_c1134_32 := xm_dr d_1134_31
theorem k_1134_32 : xm_gi xm_c1134 32 = some xm_e1134_32 := xm_gt d_1134_32
theorem d_1134_33 : List.drop 33 xm_c1134 = xm_c1134_33 := xm_dr d_1134_32
theorem k_1134_33 : xm_gi xm_c1134 33 = some xm_e1134_33 := xm_gt d_1134_33
theorem d_1134_34 : List.drop 34 xm_c1134 = xm_c1134_34 := xm_dr d_1134_33
theorem k_1134_34 : xm_gi xm_c1134 34 = some xm_e1134_34 := xm_gt d_1134_34
theorem d_1134_35 : List.drop 35 xm_c1134 = xm_c1134_35 := xm_dr d_1134_34
theorem k_1134_35 : xm_gi xm_c1134 35 = some xm_e1134_35 := xm_gt d_1134_35
theorem d_1134_36 : List.drop 36 xm_c1134 = xm_c1134_36 := xm_dr d_1134_35
theorem k_1134_36 : xm_gi xm_c1134 36 = some xm_e1134_36 := xm_gt d_1134_36
theorem d_1134_37 : List.drop 37 xm_c1134 = xm_c1134_37 := xm_dr d_1134_36
theorem k_1134_37 : xm_gi xm_c1134 37 = some xm_e1134_37 := xm_gt d_1134_37
theorem d_1134_38 : List.drop 38 xm_c1134 = xm_c1134_38 := xm_dr d_1134_37
theorem k_1134_38 : xm_gi xm_c1134 38 = some xm_e1134_38 := xm_gt d_1134_38
theorem d_1134_39 : List.drop 39 xm_c1134 = xm_c1134_39 := xm_dr d_1134_38
theorem k_1134_39 : xm_gi xm_c1134 39 = some xm_e1134_39 := xm_gt d_1134_39
theorem d_1134_40 : List.drop 40 xm_c1134 = xm_c1134_40 := xm_dr d_1134_39
theorem k_1134_40 : xm_gi xm_c1134 40 = some xm_e1134_40 := xm_gt d_1134_40
theorem d_1134_41 : List.drop 41 xm_c1134 = xm_c1134_41 := xm_dr d_1134_40
theorem k_1134_41 : xm_gi xm_c1134 41 = some xm_e1134_41 := xm_gt d_1134_41
theorem d_1134_42 : List.drop 42 xm_c1134 = xm_c1134_42 := xm_dr d_1134_41
theorem k_1134_42 : xm_gi xm_c1134 42 = some xm_e1134_42 := xm_gt d_1134_42
theorem d_1134_43 : List.drop 43 xm_c1134 = xm_c1134_43 := xm_dr d_1134_42
theorem k_1134_43 : xm_gi xm_c1134 43 = some xm_e1134_43 := xm_gt d_1134_43
theorem d_1134_44 : List.drop 44 xm_c1134 = xm_c1134_44 := xm_dr d_1134_43
theorem k_1134_44 : xm_gi xm_c1134 44 = some xm_e1134_44 := xm_gt d_1134_44
theorem d_1134_45 : List.drop 45 xm_c1134 = xm_c1134_45 := xm_dr d_1134_44
theorem k_1134_45 : xm_gi xm_c1134 45 = some xm_e1134_45 := xm_gt d_1134_45
theorem d_1134_46 : List.drop 46 xm_c1134 = xm_c1134_46 := xm_dr d_1134_45
theorem k_1134_46 : xm_gi xm_c1134 46 = some xm_e1134_46 := xm_gt d_1134_46
theorem d_1134_47 : List.drop 47 xm_c1134 = xm_c1134_47 := xm_dr d_1134_46
theorem k_1134_47 : xm_gi xm_c1134 47 = some xm_e1134_47 := xm_gt d_1134_47
theorem d_1134_48 : List.drop 48 xm_c1134 = xm_c1134_48 := xm_dr d_1134_47
theorem k_1134_48 : xm_gi xm_c1134 48 = some xm_e1134_48 := xm_gt d_1134_48
theorem d_1134_49 : List.drop 49 xm_c1134 = xm_c1134_49 := xm_dr d_1134_48
theorem k_1134_49 : xm_gi xm_c1134 49 = some xm_e1134_49 := xm_gt d_1134_49
theorem d_1134_50 : List.drop 50 xm_c1134 = xm_c1134_50 := xm_dr d_1134_49
theorem k_1134_50 : xm_gi xm_c1134 50 = some xm_e1134_50 := xm_gt d_1134_50
theorem d_1134_51 : List.drop 51 xm_c1134 = xm_c1134_51 := xm_dr d_1134_50
theorem k_1134_51 : xm_gi xm_c1134 51 = some xm_e1134_51 := xm_gt d_1134_51
theorem d_1134_52 : List.drop 52 xm_c1134 = xm_c1134_52 := xm_dr d_1134_51
theorem k_1134_52 : xm_gi xm_c1134 52 = some xm_e1134_52 := xm_gt d_1134_52
theorem d_1134_53 : List.drop 53 xm_c1134 = xm_c1134_53 := xm_dr d_1134_52
theorem k_1134_53 : xm_gi xm_c1134 53 = some xm_e1134_53 := xm_gt d_1134_53
theorem xb_1134_0 {sc : List Int} {f : Nat → List xm_V → xm_W → xm_R} {w : xm_W} {Q : Option xm_V × xm_W → Prop} {x0 : Nat} {x1 : Int} {x2 : Int} {x3 : Int}
  (h : xm_Oi (f 1110 [.inr (.inl (some x0)), .inl x1, .inl 1] w) (fun z2 w1 => xm_Oi (f 1125 [.inr (.inl (some x0)), .inl 0] w1) (fun z4 w3 => if (z4 : Int) = 0 then (if ((xm_w (x2 + z2)) : Int) < 0 then (Q (some (.inl (-1)), w3)) else ((4 : Int) ≠ 0 ∧ (Q (some (.inl (Int.tmod (xm_w (x2 + z2)) 4)), w3)))) else (xm_O (xm_fr (xm_old sc) w3 x0 9 11) (fun r5 => xm_O (xm_seti w3 r5 119 x2) (fun w6 => xm_O (xm_fr (xm_old sc) w6 x0 9 11) (fun r7 => xm_O (xm_seti w6 r7 115 x3) (fun w8 => xm_O (xm_fr (xm_old sc) w8 x0 9 11) (fun r9 => xm_Oi (f 1110 [.inr (.inl (some x0)), .inl x1, .inl 1] w8) (fun z11 w10 => xm_O (xm_seti w10 r9 109 z11) (fun w12 => xm_O (xm_fr (xm_old sc) w12 x0 9 11) (fun r13 => xm_O (xm_fr (xm_old sc) w12 x0 9 0) (fun r14 => xm_Oi (f 1110 [.inr (.inl (some x0)), .inl x1, .inl 2] w12) (fun z16 w15 => xm_O (xm_ints (xm_old sc) w15 r14) (fun l17 => xm_O (xm_at l17 (xm_w (8 + z16))) (fun z18 => xm_O (xm_seti w15 r13 103 z18) (fun w19 => xm_Oi (f 1129 [.inr (.inl (some x0)), .inl 0] w19) (fun z21 w20 => if (z21 : Int) < 0 then (Q (some (.inl (-1)), w20)) else ((4 : Int) ≠ 0 ∧ (Q (some (.inl (Int.tmod z21 4)), w20))))))))))))))))))))) :
  xm_EQ (xm_old sc) xm_sta f xm_c1134 0 [some (.inr (.inl (some x0))), some (.inl x1), some (.inl x2), some (.inl x3), none] [] w Q :=
  (xq_iload_n k_1134_0 rfl (xq_aload_n k_1134_1 rfl (xq_iload_n k_1134_2 rfl (xq_iconst k_1134_3 (xq_invv1 k_1134_4 xr_1110 rfl rfl rfl h (fun z2 w1 h => (xq_iadd k_1134_5 (xq_istore k_1134_6 rfl (xq_aload_n k_1134_7 rfl (xq_iconst k_1134_8 (xq_invv2 k_1134_9 xr_1125 rfl rfl rfl h (fun z4 w3 h => (xq_if_eq k_1134_10 h (fun h => (xq_iload k_1134_46 rfl (xq_if_ge k_1134_47 h (fun h => (xq_iconst k_1134_48 (xq_goto k_1134_49 (xq_ireturn k_1134_53 h)))) (fun h => (xq_iload k_1134_50 rfl (xq_iconst k_1134_51 (xq_irem k_1134_52 h (fun h => (xq_ireturn k_1134_53 h))))))))) (fun h => (xq_aload_n k_1134_11 rfl (xq_getr k_1134_12 rfl h (fun r5 h => (xq_bipush k_1134_13 (xq_iload_n k_1134_14 rfl (xq_iastore k_1134_15 h (fun w6 h => (xq_aload_n k_1134_16 rfl (xq_getr k_1134_17 rfl h (fun r7 h => (xq_bipush k_1134_18 (xq_iload_n k_1134_19 rfl (xq_iastore k_1134_20 h (fun w8 h => (xq_aload_n k_1134_21 rfl (xq_getr k_1134_22 rfl h (fun r9 h => (xq_bipush k_1134_23 (xq_aload_n k_1134_24 rfl (xq_iload_n k_1134_25 rfl (xq_iconst k_1134_26 (xq_invv1 k_1134_27 xr_1110 rfl rfl rfl h (fun z11 w10 h => (xq_iastore k_1134_28 h (fun w12 h => (xq_aload_n k_1134_29 rfl (xq_getr k_1134_30 rfl h (fun r13 h => (xq_bipush k_1134_31 (xq_aload_n k_1134_32 rfl (xq_getr k_1134_33 rfl h (fun r14 h => (xq_bipush k_1134_34 (xq_aload_n k_1134_35 rfl (xq_iload_n k_1134_36 rfl (xq_iconst k_1134_37 (xq_invv1 k_1134_38 xr_1110 rfl rfl rfl h (fun z16 w15 h => (xq_iadd k_1134_39 (xq_iaload k_1134_40 h (fun l17 h => h) (fun l17 z18 h => (xq_iastore k_1134_41 h (fun w19 h => (xq_aload_n k_1134_42 rfl (xq_iconst k_1134_43 (xq_invv1 k_1134_44 xr_1129 rfl rfl rfl h (fun z21 w20 h => (xq_istore k_1134_45 rfl (xq_iload k_1134_46 rfl (xq_if_ge k_1134_47 h (fun h => (xq_iconst k_1134_48 (xq_goto k_1134_49 (xq_ireturn k_1134_53 h)))) (fun h => (xq_iload k_1134_50 rfl (xq_iconst k_1134_51 (xq_irem k_1134_52 h (fun h => (xq_ireturn k_1134_53 h))))))))))))))))))))))))))))))))))))))))))))))))))))))))))))))))))))))
/-- ShodBackwardsModel.lamely(II)I -/
theorem d_1135_0 : List.drop 0 xm_c1135 = xm_c1135 := rfl
theorem k_1135_0 : xm_gi xm_c1135 0 = some xm_e1135_0 := xm_gt d_1135_0
theorem d_1135_1 : List.drop 1 xm_c1135 = xm_c1135_1 := xm_dr d_1135_0
theorem k_1135_1 : xm_gi xm_c1135 1 = some xm_e1135_1 := xm_gt d_1135_1
theorem d_1135_2 : List.drop 2 xm_c1135 = xm_c1135_2 := xm_dr d_1135_1
theorem k_1135_2 : xm_gi xm_c1135 2 = some xm_e1135_2 := xm_gt d_1135_2
theorem d_1135_3 : List.drop 3 xm_c1135 = xm_c1135_3 := xm_dr d_1135_2
theorem k_1135_3 : xm_gi xm_c1135 3 = some xm_e1135_3 := xm_gt d_1135_3
theorem d_1135_4 : List.drop 4 xm_c1135 = xm_c1135_4 := xm_dr d_1135_3
theorem k_1135_4 : xm_gi xm_c1135 4 = some xm_e1135_4 := xm_gt d_1135_4
theorem d_1135_5 : List.drop 5 xm_c1135 = xm_c1135_5 := xm_dr d_1135_4
theorem k_1135_5 : xm_gi xm_c1135 5 = some xm_e1135_5 := xm_gt d_1135_5
theorem d_1135_6 : List.drop 6 xm_c1135 = xm_c1135_6 := xm_dr d_1135_5
theorem k_1135_6 : xm_gi xm_c1135 6 = some xm_e1135_6 := xm_gt d_1135_6
theorem d_1135_7 : List.drop 7 xm_c1135 = xm_c1135_7 := xm_dr d_1135_6
theorem k_1135_7 : xm_gi xm_c1135 7 = some xm_e1135_7 := xm_gt d_1135_7
theorem d_1135_8 : List.drop 8 xm_c1135 = xm_c1135_8 := xm_dr d_1135_7
theorem k_1135_8 : xm_gi xm_c1135 8 = some xm_e1135_8 := xm_gt d_1135_8
theorem xb_1135_0 {sc : List Int} {f : Nat → List xm_V → xm_W → xm_R} {w : xm_W} {Q : Option xm_V × xm_W → Prop} {x0 : Int} {x1 : Int}
  (h : (4 : Int) ≠ 0 ∧ (if ((Int.tmod x1 4) : Int) = 0 then (xm_Oi (f 1133 [.inl x0] w) (fun z2 w1 => Q (some (.inl z2), w1))) else (Q (some (.inl x0), w)))) :
  xm_EQ (xm_old sc) xm_sta f xm_c1135 0 [some (.inl x0), some (.inl x1)] [] w Q :=
  (xq_iload_n k_1135_0 rfl (xq_iconst k_1135_1 (xq_irem k_1135_2 h (fun h => (xq_if_ne k_1135_3 h (fun h => (xq_iload_n k_1135_4 rfl (xq_invs1 k_1135_5 xr_1133 rfl rfl rfl h (fun z2 w1 h => (xq_goto k_1135_6 (xq_ireturn k_1135_8 h)))))) (fun h => (xq_iload_n k_1135_7 rfl (xq_ireturn k_1135_8 h))))))))
/-- ShodBackwardsModel.shows(III)I -/
theorem d_1136_0 : List.drop 0 xm_c1136 = xm_c1136 := rfl
theorem k_1136_0 : xm_gi xm_c1136 0 = some xm_e1136_0 := xm_gt d_1136_0
theorem d_1136_1 : List.drop 1 xm_c1136 = xm_c1136_1 := xm_dr d_1136_0
theorem k_1136_1 : xm_gi xm_c1136 1 = some xm_e1136_1 := xm_gt d_1136_1
theorem d_1136_2 : List.drop 2 xm_c1136 = xm_c1136_2 := xm_dr d_1136_1
theorem k_1136_2 : xm_gi xm_c1136 2 = some xm_e1136_2 := xm_gt d_1136_2
theorem d_1136_3 : List.drop 3 xm_c1136 = xm_c1136_3 := xm_dr d_1136_2
theorem k_1136_3 : xm_gi xm_c1136 3 = some xm_e1136_3 := xm_gt d_1136_3
theorem d_1136_4 : List.drop 4 xm_c1136 = xm_c1136_4 := xm_dr d_1136_3
theorem k_1136_4 : xm_gi xm_c1136 4 = some xm_e1136_4 := xm_gt d_1136_4
theorem d_1136_5 : List.drop 5 xm_c1136 = xm_c1136_5 := xm_dr d_1136_4
theorem k_1136_5 : xm_gi xm_c1136 5 = some xm_e1136_5 := xm_gt d_1136_5
theorem d_1136_6 : List.drop 6 xm_c1136 = xm_c1136_6 := xm_dr d_1136_5
theorem k_1136_6 : xm_gi xm_c1136 6 = some xm_e1136_6 := xm_gt d_1136_6
theorem d_1136_7 : List.drop 7 xm_c1136 = xm_c1136_7 := xm_dr d_1136_6
theorem k_1136_7 : xm_gi xm_c1136 7 = some xm_e1136_7 := xm_gt d_1136_7
theorem d_1136_8 : List.drop 8 xm_c1136 = xm_c1136_8 := xm_dr d_1136_7
theorem k_1136_8 : xm_gi xm_c1136 8 = some xm_e1136_8 := xm_gt d_1136_8
theorem d_1136_9 : List.drop 9 xm_c1136 = xm_c1136_9 := xm_dr d_1136_8
theorem k_1136_9 : xm_gi xm_c1136 9 = some xm_e1136_9 := xm_gt d_1136_9
theorem d_1136_10 : List.drop 10 xm_c1136 = xm_c1136_10 := xm_dr d_1136_9
theorem k_1136_10 : xm_gi xm_c1136 10 = some xm_e1136_10 := xm_gt d_1136_10
theorem d_1136_11 : List.drop 11 xm_c1136 = xm_c1136_11 := xm_dr d_1136_10
theorem k_1136_11 : xm_gi xm_c1136 11 = some xm_e1136_11 := xm_gt d_1136_11
theorem d_1136_12 : List.drop 12 xm_c1136 = xm_c1136_12 := xm_dr d_1136_11
theorem k_1136_12 : xm_gi xm_c1136 12 = some xm_e1136_12 := xm_gt d_1136_12
theorem d_1136_13 : List.drop 13 xm_c1136 = xm_c1136_13 := xm_dr d_1136_12
theorem k_1136_13 : xm_gi xm_c1136 13 = some xm_e1136_13 := xm_gt d_1136_13
theorem d_1136_14 : List.drop 14 xm_c1136 = xm_c1136_14 := xm_dr d_1136_13
theorem k_1136_14 : xm_gi xm_c1136 14 = some xm_e1136_14 := xm_gt d_1136_14
theorem d_1136_15 : List.drop 15 xm_c1136 = xm_c1136_15 := xm_dr d_1136_14
theorem k_1136_15 : xm_gi xm_c1136 15 = some xm_e1136_15 := xm_gt d_1136_15
theorem d_1136_16 : List.drop 16 xm_c1136 = xm_c1136_16 := xm_dr d_1136_15
theorem k_1136_16 : xm_gi xm_c1136 16 = some xm_e1136_16 := xm_gt d_1136_16
theorem d_1136_17 : List.drop 17 xm_c1136 = xm_c1136_17 := xm_dr d_1136_16
theorem k_1136_17 : xm_gi xm_c1136 17 = some xm_e1136_17 := xm_gt d_1136_17
theorem d_1136_18 : List.drop 18 xm_c1136 = xm_c1136_18 := xm_dr d_1136_17
theorem k_1136_18 : xm_gi xm_c1136 18 = some xm_e1136_18 := xm_gt d_1136_18
theorem d_1136_19 : List.drop 19 xm_c1136 = xm_c1136_19 := xm_dr d_1136_18
theorem k_1136_19 : xm_gi xm_c1136 19 = some xm_e1136_19 := xm_gt d_1136_19
theorem d_1136_20 : List.drop 20 xm_c1136 = xm_c1136_20 := xm_dr d_1136_19
theorem k_1136_20 : xm_gi xm_c1136 20 = some xm_e1136_20 := xm_gt d_1136_20
theorem d_1136_21 : List.drop 21 xm_c1136 = xm_c1136_21 := xm_dr d_1136_20
theorem k_1136_21 : xm_gi xm_c1136 21 = some xm_e1136_21 := xm_gt d_1136_21
theorem d_1136_22 : List.drop 22 xm_c1136 = xm_c1136_22 := xm_dr d_1136_21
theorem k_1136_22 : xm_gi xm_c1136 22 = some xm_e1136_22 := xm_gt d_1136_22
theorem d_1136_23 : List.drop 23 xm_c1136 = xm_c1136_23 := xm_dr d_1136_22
theorem k_1136_23 : xm_gi xm_c1136 23 = some xm_e1136_23 := xm_gt d_1136_23
theorem d_1136_24 : List.drop 24 xm_c1136 = xm_c1136_24 := xm_dr d_1136_23
theorem k_1136_24 : xm_gi xm_c1136 24 = some xm_e1136_24 := xm_gt d_1136_24
theorem d_1136_25 : List.drop 25 xm_c1136 = xm_c1136_25 := xm_dr d_1136_24
theorem k_1136_25 : xm_gi xm_c1136 25 = some xm_e1136_25 := xm_gt d_1136_25
theorem d_1136_26 : List.drop 26 xm_c1136 = xm_c1136_26 := xm_dr d_1136_25
theorem k_1136_26 : xm_gi xm_c1136 26 = some xm_e1136_26 := xm_gt d_1136_26
theorem d_1136_27 : List.drop 27 xm_c1136 = xm_c1136_27 := xm_dr d_1136_26
theorem k_1136_27 : xm_gi xm_c1136 27 = some xm_e1136_27 := xm_gt d_1136_27
theorem d_1136_28 : List.drop 28 xm_c1136 = xm_c1136_28 := xm_dr d_1136_27
theorem k_1136_28 : xm_gi xm_c1136 28 = some xm_e1136_28 := xm_gt d_1136_28
theorem d_1136_29 : List.drop 29 xm_c1136 = xm_c1136_29 := xm_dr d_1136_28
theorem k_1136_29 : xm_gi xm_c1136 29 = some xm_e1136_29 := xm_gt d_1136_29
theorem d_1136_30 : List.drop 30 xm_c1136 = xm_c1136_30 := xm_dr d_1136_29
theorem k_1136_30 : xm_gi xm_c1136 30 = some xm_e1136_30 := xm_gt d_1136_30
theorem d_1136_31 : List.drop 31 xm_c1136 = xm_c1136_31 := xm_dr d_1136_30
theorem k_1136_31 : xm_gi xm_c1136 31 = some xm_e1136_31 := xm_gt d_1136_31
theorem d_1136_32 : List.drop 32 xm_c1136 = xm_c1136_32 := xm_dr d_1136_31
theorem k_1136_32 : xm_gi xm_c1136 32 = some xm_e1136_32 := xm_gt d_1136_32
theorem d_1136_33 : List.drop 33 xm_c1136 = xm_c1136_33 := xm_dr d_1136_32
theorem k_1136_33 : xm_gi xm_c1136 33 = some xm_e1136_33 := xm_gt d_1136_33
theorem d_1136_34 : List.drop 34 xm_c1136 = xm_c1136_34 := xm_dr d_1136_33
theorem k_1136_34 : xm_gi xm_c1136 34 = some xm_e1136_34 := xm_gt d_1136_34
theorem d_1136_35 : List.drop 35 xm_c1136 = xm_c1136_35 := xm_dr d_1136_34
theorem k_1136_35 : xm_gi xm_c1136 35 = some xm_e1136_35 := xm_gt d_1136_35
theorem d_1136_36 : List.drop 36 xm_c1136 = xm_c1136_36 := xm_dr d_1136_35
theorem k_1136_36 : xm_gi xm_c1136 36 = some xm_e1136_36 := xm_gt d_1136_36
theorem d_1136_37 : List.drop 37 xm_c1136 = xm_c1136_37 := xm_dr d_1136_36
theorem k_1136_37 : xm_gi xm_c1136 37 = some xm_e1136_37 := xm_gt d_1136_37
theorem d_1136_38 : List.drop 38 xm_c1136 = xm_c1136_38 := xm_dr d_1136_37
theorem k_1136_38 : xm_gi xm_c1136 38 = some xm_e1136_38 := xm_gt d_1136_38
theorem d_1136_39 : List.drop 39 xm_c1136 = xm_c1136_39 := xm_dr d_1136_38
theorem k_1136_39 : xm_gi xm_c1136 39 = some xm_e1136_39 := xm_gt d_1136_39
theorem d_1136_40 : List.drop 40 xm_c1136 = xm_c1136_40 := xm_dr d_1136_39
theorem k_1136_40 : xm_gi xm_c1136 40 = some xm_e1136_40 := xm_gt d_1136_40
theorem d_1136_41 : List.drop 41 xm_c1136 = xm_c1136_41 := xm_dr d_1136_40
theorem k_1136_41 : xm_gi xm_c1136 41 = some xm_e1136_41 := xm_gt d_1136_41
theorem d_1136_42 : List.drop 42 xm_c1136 = xm_c1136_42 := xm_dr d_1136_41
theorem k_1136_42 : xm_gi xm_c1136 42 = some xm_e1136_42 := xm_gt d_1136_42
theorem d_1136_43 : List.drop 43 xm_c1136 = xm_c1136_43 := xm_dr d_1136_42
theorem k_1136_43 : xm_gi xm_c1136 43 = some xm_e1136_43 := xm_gt d_1136_43
theorem d_1136_44 : List.drop 44 xm_c1136 = xm_c1136_44 := xm_dr d_1136_43
theorem k_1136_44 : xm_gi xm_c1136 44 = some xm_e1136_44 := xm_gt d_1136_44
theorem xb_1136_0 {sc : List Int} {f : Nat → List xm_V → xm_W → xm_R} {w : xm_W} {Q : Option xm_V × xm_W → Prop} {x0 : Nat} {x1 : Int} {x2 : Int} {x3 : Int}
  (h : xm_Oi (f 1110 [.inr (.inl (some x0)), .inl x1, .inl 0] w) (fun z2 w1 => if (z2 : Int) = 1 then (xm_Oi (f 1133 [.inl x2] w1) (fun z14 w13 => Q (some (.inl z14), w13))) else (if (z2 : Int) = 2 then (xm_Oi (f 1135 [.inl x2, .inl x3] w1) (fun z12 w11 => Q (some (.inl z12), w11))) else (if (z2 : Int) = 3 then (Q (some (.inl (-1)), w1)) else (if (z2 : Int) = 4 then ((2 : Int) ≠ 0 ∧ (if ((Int.tmod x3 2) : Int) = 0 then (xm_Oi (f 1133 [.inl x2] w1) (fun z10 w9 => Q (some (.inl z10), w9))) else (Q (some (.inl x2), w1)))) else (if (z2 : Int) = 5 then (xm_Oi (f 1135 [.inl x2, .inl x3] w1) (fun z6 w5 => (2 : Int) ≠ 0 ∧ (if ((Int.tmod z6 2) : Int) = 1 then (xm_Oi (f 1133 [.inl z6] w5) (fun z8 w7 => Q (some (.inl z8), w7))) else (Q (some (.inl z6), w5))))) else (if (z2 : Int) = 6 then (xm_Oi (f 1134 [.inr (.inl (some x0)), .inl x1, .inl x2, .inl x3] w1) (fun z4 w3 => Q (some (.inl z4), w3))) else (Q (some (.inl x2), w1))))))))) :
  xm_EQ (xm_old sc) xm_sta f xm_c1136 0 [some (.inr (.inl (some x0))), some (.inl x1), some (.inl x2), some (.inl x3), none] [] w Q :=
  (xq_aload_n k_1136_0 rfl (xq_iload_n k_1136_1 rfl (xq_iconst k_1136_2 (xq_invv1 k_1136_3 xr_1110 rfl rfl rfl h (fun z2 w1 h => (xq_tsw k_1136_4 (xs_swc h (fun h => (xq_iload_n k_1136_5 rfl (xq_invs1 k_1136_6 xr_1133 rfl rfl rfl h (fun z14 w13 h => (xq_ireturn k_1136_7 h))))) (fun h => (xs_swc h (fun h => (xq_iload_n k_1136_8 rfl (xq_iload_n k_1136_9 rfl (xq_invs1 k_1136_10 xr_1135 rfl rfl rfl h (fun z12 w11 h => (xq_ireturn k_1136_11 h)))))) (fun h => (xs_swc h (fun h => (xq_iconst k_1136_12 (xq_ireturn k_1136_13 h))) (fun h => (xs_swc h (fun h => (xq_iload_n k_1136_14 rfl (xq_iconst k_1136_15 (xq_irem k_1136_16 h (fun h => (xq_if_ne k_1136_17 h (fun h => (xq_iload_n k_1136_18 rfl (xq_invs1 k_1136_19 xr_1133 rfl rfl rfl h (fun z10 w9 h => (xq_goto k_1136_20 (xq_ireturn k_1136_22 h)))))) (fun h => (xq_iload_n k_1136_21 rfl (xq_ireturn k_1136_22 h))))))))) (fun h => (xs_swc h (fun h => (xq_iload_n k_1136_23 rfl (xq_iload_n k_1136_24 rfl (xq_invs1 k_1136_25 xr_1135 rfl rfl rfl h (fun z6 w5 h => (xq_istore k_1136_26 rfl (xq_iload k_1136_27 rfl (xq_iconst k_1136_28 (xq_irem k_1136_29 h (fun h => (xq_iconst k_1136_30 (xq_ic_ne k_1136_31 h (fun h => (xq_iload k_1136_32 rfl (xq_invs1 k_1136_33 xr_1133 rfl rfl rfl h (fun z8 w7 h => (xq_goto k_1136_34 (xq_ireturn k_1136_36 h)))))) (fun h => (xq_iload k_1136_35 rfl (xq_ireturn k_1136_36 h))))))))))))))) (fun h => (xs_swc h (fun h => (xq_aload_n k_1136_37 rfl (xq_iload_n k_1136_38 rfl (xq_iload_n k_1136_39 rfl (xq_iload_n k_1136_40 rfl (xq_invv1 k_1136_41 xr_1134 rfl rfl rfl h (fun z4 w3 h => (xq_ireturn k_1136_42 h)))))))) (fun h => (xq_iload_n k_1136_43 rfl (xq_ireturn k_1136_44 h))))))))))))))))))))
/-- ShodBackwardsModel.depthBy(III)I -/
theorem d_1137_0 : List.drop 0 xm_c1137 = xm_c1137 := rfl
theorem k_1137_0 : xm_gi xm_c1137 0 = some xm_e1137_0 := xm_gt d_1137_0
theorem d_1137_1 : List.drop 1 xm_c1137 = xm_c1137_1 := xm_dr d_1137_0
theorem k_1137_1 : xm_gi xm_c1137 1 = some xm_e1137_1 := xm_gt d_1137_1
theorem d_1137_2 : List.drop 2 xm_c1137 = xm_c1137_2 := xm_dr d_1137_1
theorem k_1137_2 : xm_gi xm_c1137 2 = some xm_e1137_2 := xm_gt d_1137_2
theorem d_1137_3 : List.drop 3 xm_c1137 = xm_c1137_3 := xm_dr d_1137_2
theorem k_1137_3 : xm_gi xm_c1137 3 = some xm_e1137_3 := xm_gt d_1137_3
theorem d_1137_4 : List.drop 4 xm_c1137 = xm_c1137_4 := xm_dr d_1137_3
theorem k_1137_4 : xm_gi xm_c1137 4 = some xm_e1137_4 := xm_gt d_1137_4
theorem d_1137_5 : List.drop 5 xm_c1137 = xm_c1137_5 := xm_dr d_1137_4
theorem k_1137_5 : xm_gi xm_c1137 5 = some xm_e1137_5 := xm_gt d_1137_5
theorem d_1137_6 : List.drop 6 xm_c1137 = xm_c1137_6 := xm_dr d_1137_5
theorem k_1137_6 : xm_gi xm_c1137 6 = some xm_e1137_6 := xm_gt d_1137_6
theorem d_1137_7 : List.drop 7 xm_c1137 = xm_c1137_7 := xm_dr d_1137_6
theorem k_1137_7 : xm_gi xm_c1137 7 = some xm_e1137_7 := xm_gt d_1137_7
theorem d_1137_8 : List.drop 8 xm_c1137 = xm_c1137_8 := xm_dr d_1137_7
theorem k_1137_8 : xm_gi xm_c1137 8 = some xm_e1137_8 := xm_gt d_1137_8
theorem d_1137_9 : List.drop 9 xm_c1137 = xm_c1137_9 := xm_dr d_1137_8
theorem k_1137_9 : xm_gi xm_c1137 9 = some xm_e1137_9 := xm_gt d_1137_9
theorem d_1137_10 : List.drop 10 xm_c1137 = xm_c1137_10 := xm_dr d_1137_9
theorem k_1137_10 : xm_gi xm_c1137 10 = some xm_e1137_10 := xm_gt d_1137_10
theorem d_1137_11 : List.drop 11 xm_c1137 = xm_c1137_11 := xm_dr d_1137_10
theorem k_1137_11 : xm_gi xm_c1137 11 = some xm_e1137_11 := xm_gt d_1137_11
theorem d_1137_12 : List.drop 12 xm_c1137 = xm_c1137_12 := xm_dr d_1137_11
theorem k_1137_12 : xm_gi xm_c1137 12 = some xm_e1137_12 := xm_gt d_1137_12
theorem d_1137_13 : List.drop 13 xm_c1137 = xm_c1137_13 := xm_dr d_1137_12
theorem k_1137_13 : xm_gi xm_c1137 13 = some xm_e1137_13 := xm_gt d_1137_13
theorem d_1137_14 : List.drop 14 xm_c1137 = xm_c1137_14 := xm_dr d_1137_13
theorem k_1137_14 : xm_gi xm_c1137 14 = some xm_e1137_14 := xm_gt d_1137_14
theorem d_1137_15 : List.drop 15 xm_c1137 = xm_c1137_15 := xm_dr d_1137_14
theorem k_1137_15 : xm_gi xm_c1137 15 = some xm_e1137_15 := xm_gt d_1137_15
theorem d_1137_16 : List.drop 16 xm_c1137 = xm_c1137_16 := xm_dr d_1137_15
theorem k_1137_16 : xm_gi xm_c1137 16 = some xm_e1137_16 := xm_gt d_1137_16
theorem d_1137_17 : List.drop 17 xm_c1137 = xm_c1137_17 := xm_dr d_1137_16
theorem k_1137_17 : xm_gi xm_c1137 17 = some xm_e1137_17 := xm_gt d_1137_17
theorem d_1137_18 : List.drop 18 xm_c1137 = xm_c1137_18 := xm_dr d_1137_17
theorem k_1137_18 : xm_gi xm_c1137 18 = some xm_e1137_18 := xm_gt d_1137_18
theorem d_1137_19 : List.drop 19 xm_c1137 = xm_c1137_19 := xm_dr d_1137_18
theorem k_1137_19 : xm_gi xm_c1137 19 = some xm_e1137_19 := xm_gt d_1137_19
theorem d_1137_20 : List.drop 20 xm_c1137 = xm_c1137_20 := xm_dr d_1137_19
theorem k_1137_20 : xm_gi xm_c1137 20 = some xm_e1137_20 := xm_gt d_1137_20
theorem d_1137_21 : List.drop 21 xm_c1137 = xm_c1137_21 := xm_dr d_1137_20
theorem k_1137_21 : xm_gi xm_c1137 21 = some xm_e1137_21 := xm_gt d_1137_21
theorem d_1137_22 : List.drop 22 xm_c1137 = xm_c1137_22 := xm_dr d_1137_21
theorem k_1137_22 : xm_gi xm_c1137 22 = some xm_e1137_22 := xm_gt d_1137_22
theorem d_1137_23 : List.drop 23 xm_c1137 = xm_c1137_23 := xm_dr d_1137_22
theorem k_1137_23 : xm_gi xm_c1137 23 = some xm_e1137_23 := xm_gt d_1137_23
theorem d_1137_24 : List.drop 24 xm_c1137 = xm_c1137_24 := xm_dr d_1137_23
theorem k_1137_24 : xm_gi xm_c1137 24 = some xm_e1137_24 := xm_gt d_1137_24
theorem d_1137_25 : List.drop 25 xm_c1137 = xm_c1137_25 := xm_dr d_1137_24
theorem k_1137_25 : xm_gi xm_c1137 25 = some xm_e1137_25 := xm_gt d_1137_25
theorem xb_1137_0 {sc : List Int} {f : Nat → List xm_V → xm_W → xm_R} {w : xm_W} {Q : Option xm_V × xm_W → Prop} {x0 : Int} {x1 : Int} {x2 : Int}
  (h : (10 : Int) ≠ 0 ∧ (if (x0 : Int) = 2 then (Q (some (.inl (xm_w ((xm_w ((xm_w (Int.tdiv x2 10)) + 1)) + x1))), w)) else (if (x0 : Int) = 3 then (Q (some (.inl 0), w)) else (if (x0 : Int) = 4 then (Q (some (.inl (xm_w (2 * (xm_w ((xm_w (Int.tdiv x2 10)) + 1))))), w)) else (if (x0 : Int) = 5 then ((2 : Int) ≠ 0 ∧ (Q (some (.inl (xm_w (Int.tdiv (xm_w ((xm_w ((xm_w (Int.tdiv x2 10)) + 1)) + x1)) 2))), w))) else (Q (some (.inl (xm_w ((xm_w (Int.tdiv x2 10)) + 1))), w))))))) :
  xm_EQ (xm_old sc) xm_sta f xm_c1137 0 [some (.inl x0), some (.inl x1), some (.inl x2), none] [] w Q :=
  (xq_iload_n k_1137_0 rfl (xq_bipush k_1137_1 (xq_idiv k_1137_2 h (fun h => (xq_iconst k_1137_3 (xq_iadd k_1137_4 (xq_istore_n k_1137_5 rfl (xq_iload_n k_1137_6 rfl (xq_tsw k_1137_7 (xs_swc h (fun h => (xq_iload_n k_1137_8 rfl (xq_iload_n k_1137_9 rfl (xq_iadd k_1137_10 (xq_ireturn k_1137_11 h))))) (fun h => (xs_swc h (fun h => (xq_iconst k_1137_12 (xq_ireturn k_1137_13 h))) (fun h => (xs_swc h (fun h => (xq_iconst k_1137_14 (xq_iload_n k_1137_15 rfl (xq_imul k_1137_16 (xq_ireturn k_1137_17 h))))) (fun h => (xs_swc h (fun h => (xq_iload_n k_1137_18 rfl (xq_iload_n k_1137_19 rfl (xq_iadd k_1137_20 (xq_iconst k_1137_21 (xq_idiv k_1137_22 h (fun h => (xq_ireturn k_1137_23 h)))))))) (fun h => (xq_iload_n k_1137_24 rfl (xq_ireturn k_1137_25 h)))))))))))))))))))
/-- ShodBackwardsModel.depth(I)I -/
theorem d_1138_0 : List.drop 0 xm_c1138 = xm_c1138 := rfl
theorem k_1138_0 : xm_gi xm_c1138 0 = some xm_e1138_0 := xm_gt d_1138_0
theorem d_1138_1 : List.drop 1 xm_c1138 = xm_c1138_1 := xm_dr d_1138_0
theorem k_1138_1 : xm_gi xm_c1138 1 = some xm_e1138_1 := xm_gt d_1138_1
theorem d_1138_2 : List.drop 2 xm_c1138 = xm_c1138_2 := xm_dr d_1138_1
theorem k_1138_2 : xm_gi xm_c1138 2 = some xm_e1138_2 := xm_gt d_1138_2
theorem d_1138_3 : List.drop 3 xm_c1138 = xm_c1138_3 := xm_dr d_1138_2
theorem k_1138_3 : xm_gi xm_c1138 3 = some xm_e1138_3 := xm_gt d_1138_3
theorem d_1138_4 : List.drop 4 xm_c1138 = xm_c1138_4 := xm_dr d_1138_3
theorem k_1138_4 : xm_gi xm_c1138 4 = some xm_e1138_4 := xm_gt d_1138_4
theorem d_1138_5 : List.drop 5 xm_c1138 = xm_c1138_5 := xm_dr d_1138_4
theorem k_1138_5 : xm_gi xm_c1138 5 = some xm_e1138_5 := xm_gt d_1138_5
theorem d_1138_6 : List.drop 6 xm_c1138 = xm_c1138_6 := xm_dr d_1138_5
theorem k_1138_6 : xm_gi xm_c1138 6 = some xm_e1138_6 := xm_gt d_1138_6
theorem d_1138_7 : List.drop 7 xm_c1138 = xm_c1138_7 := xm_dr d_1138_6
theorem k_1138_7 : xm_gi xm_c1138 7 = some xm_e1138_7 := xm_gt d_1138_7
theorem d_1138_8 : List.drop 8 xm_c1138 = xm_c1138_8 := xm_dr d_1138_7
theorem k_1138_8 : xm_gi xm_c1138 8 = some xm_e1138_8 := xm_gt d_1138_8
theorem d_1138_9 : List.drop 9 xm_c1138 = xm_c1138_9 := xm_dr d_1138_8
theorem k_1138_9 : xm_gi xm_c1138 9 = some xm_e1138_9 := xm_gt d_1138_9
theorem d_1138_10 : List.drop 10 xm_c1138 = xm_c1138_10 := xm_dr d_1138_9
theorem k_1138_10 : xm_gi xm_c1138 10 = some xm_e1138_10 := xm_gt d_1138_10
theorem d_1138_11 : List.drop 11 xm_c1138 = xm_c1138_11 := xm_dr d_1138_10
theorem k_1138_11 : xm_gi xm_c1138 11 = some xm_e1138_11 := xm_gt d_1138_11
theorem d_1138_12 : List.drop 12 xm_c1138 = xm_c1138_12 := xm_dr d_1138_11
theorem k_1138_12 : xm_gi xm_c1138 12 = some xm_e1138_12 := xm_gt d_1138_12
theorem d_1138_13 : List.drop 13 xm_c1138 = xm_c1138_13 := xm_dr d_1138_12
theorem k_1138_13 : xm_gi xm_c1138 13 = some xm_e1138_13 := xm_gt d_1138_13
theorem xb_1138_0 {sc : List Int} {f : Nat → List xm_V → xm_W → xm_R} {w : xm_W} {Q : Option xm_V × xm_W → Prop} {x0 : Nat} {x1 : Int}
  (h : xm_Oi (f 1110 [.inr (.inl (some x0)), .inl x1, .inl 0] w) (fun z2 w1 => xm_Oi (f 1110 [.inr (.inl (some x0)), .inl x1, .inl 1] w1) (fun z4 w3 => xm_Oi (f 1110 [.inr (.inl (some x0)), .inl x1, .inl 3] w3) (fun z6 w5 => xm_Oi (f 1137 [.inl z2, .inl z4, .inl z6] w5) (fun z8 w7 => Q (some (.inl z8), w7)))))) :
  xm_EQ (xm_old sc) xm_sta f xm_c1138 0 [some (.inr (.inl (some x0))), some (.inl x1)] [] w Q :=
  (xq_aload_n k_1138_0 rfl (xq_iload_n k_1138_1 rfl (xq_iconst k_1138_2 (xq_invv1 k_1138_3 xr_1110 rfl rfl rfl h (fun z2 w1 h => (xq_aload_n k_1138_4 rfl (xq_iload_n k_1138_5 rfl (xq_iconst k_1138_6 (xq_invv1 k_1138_7 xr_1110 rfl rfl rfl h (fun z4 w3 h => (xq_aload_n k_1138_8 rfl (xq_iload_n k_1138_9 rfl (xq_iconst k_1138_10 (xq_invv1 k_1138_11 xr_1110 rfl rfl rfl h (fun z6 w5 h => (xq_invs1 k_1138_12 xr_1137 rfl rfl rfl h (fun z8 w7 h => (xq_ireturn k_1138_13 h))))))))))))))))))
/-- ShodBackwardsModel.next(II)I -/
theorem d_1139_0 : List.drop 0 xm_c1139 = xm_c1139 := rfl
theorem k_1139_0 : xm_gi xm_c1139 0 = some xm_e1139_0 := xm_gt d_1139_0
theorem d_1139_1 : List.drop 1 xm_c1139 = xm_c1139_1 := xm_dr d_1139_0
theorem k_1139_1 : xm_gi xm_c1139 1 = some xm_e1139_1 := xm_gt d_1139_1
theorem d_1139_2 : List.drop 2 xm_c1139 = xm_c1139_2 := xm_dr d_1139_1
theorem k_1139_2 : xm_gi xm_c1139 2 = some xm_e1139_2 := xm_gt d_1139_2
theorem d_1139_3 : List.drop 3 xm_c1139 = xm_c1139_3 := xm_dr d_1139_2
theorem k_1139_3 : xm_gi xm_c1139 3 = some xm_e1139_3 := xm_gt d_1139_3
theorem d_1139_4 : List.drop 4 xm_c1139 = xm_c1139_4 := xm_dr d_1139_3
theorem k_1139_4 : xm_gi xm_c1139 4 = some xm_e1139_4 := xm_gt d_1139_4
theorem d_1139_5 : List.drop 5 xm_c1139 = xm_c1139_5 := xm_dr d_1139_4
theorem k_1139_5 : xm_gi xm_c1139 5 = some xm_e1139_5 := xm_gt d_1139_5
theorem d_1139_6 : List.drop 6 xm_c1139 = xm_c1139_6 := xm_dr d_1139_5
theorem k_1139_6 : xm_gi xm_c1139 6 = some xm_e1139_6 := xm_gt d_1139_6
theorem d_1139_7 : List.drop 7 xm_c1139 = xm_c1139_7 := xm_dr d_1139_6
theorem k_1139_7 : xm_gi xm_c1139 7 = some xm_e1139_7 := xm_gt d_1139_7
theorem d_1139_8 : List.drop 8 xm_c1139 = xm_c1139_8 := xm_dr d_1139_7
theorem k_1139_8 : xm_gi xm_c1139 8 = some xm_e1139_8 := xm_gt d_1139_8
theorem d_1139_9 : List.drop 9 xm_c1139 = xm_c1139_9 := xm_dr d_1139_8
theorem k_1139_9 : xm_gi xm_c1139 9 = some xm_e1139_9 := xm_gt d_1139_9
theorem d_1139_10 : List.drop 10 xm_c1139 = xm_c1139_10 := xm_dr d_1139_9
theorem k_1139_10 : xm_gi xm_c1139 10 = some xm_e1139_10 := xm_gt d_1139_10
theorem d_1139_11 : List.drop 11 xm_c1139 = xm_c1139_11 := xm_dr d_1139_10
theorem k_1139_11 : xm_gi xm_c1139 11 = some xm_e1139_11 := xm_gt d_1139_11
theorem d_1139_12 : List.drop 12 xm_c1139 = xm_c1139_12 := xm_dr d_1139_11
theorem k_1139_12 : xm_gi xm_c1139 12 = some xm_e1139_12 := xm_gt d_1139_12
theorem d_1139_13 : List.drop 13 xm_c1139 = xm_c1139_13 := xm_dr d_1139_12
theorem k_1139_13 : xm_gi xm_c1139 13 = some xm_e1139_13 := xm_gt d_1139_13
theorem d_1139_14 : List.drop 14 xm_c1139 = xm_c1139_14 := xm_dr d_1139_13
theorem k_1139_14 : xm_gi xm_c1139 14 = some xm_e1139_14 := xm_gt d_1139_14
theorem d_1139_15 : List.drop 15 xm_c1139 = xm_c1139_15 := xm_dr d_1139_14
theorem k_1139_15 : xm_gi xm_c1139 15 = some xm_e1139_15 := xm_gt d_1139_15
theorem d_1139_16 : List.drop 16 xm_c1139 = xm_c1139_16 := xm_dr d_1139_15
theorem k_1139_16 : xm_gi xm_c1139 16 = some xm_e1139_16 := xm_gt d_1139_16
theorem d_1139_17 : List.drop 17 xm_c1139 = xm_c1139_17 := xm_dr d_1139_16
theorem k_1139_17 : xm_gi xm_c1139 17 = some xm_e1139_17 := xm_gt d_1139_17
theorem d_1139_18 : List.drop 18 xm_c1139 = xm_c1139_18 := xm_dr d_1139_17
theorem k_1139_18 : xm_gi xm_c1139 18 = some xm_e1139_18 := xm_gt d_1139_18
theorem d_1139_19 : List.drop 19 xm_c1139 = xm_c1139_19 := xm_dr d_1139_18
theorem k_1139_19 : xm_gi xm_c1139 19 = some xm_e1139_19 := xm_gt d_1139_19
theorem d_1139_20 : List.drop 20 xm_c1139 = xm_c1139_20 := xm_dr d_1139_19
theorem k_1139_20 : xm_gi xm_c1139 20 = some xm_e1139_20 := xm_gt d_1139_20
theorem d_1139_21 : List.drop 21 xm_c1139 = xm_c1139_21 := xm_dr d_1139_20
theorem k_1139_21 : xm_gi xm_c1139 21 = some xm_e1139_21 := xm_gt d_1139_21
theorem d_1139_22 : List.drop 22 xm_c1139 = xm_c1139_22 := xm_dr d_1139_21
theorem k_1139_22 : xm_gi xm_c1139 22 = some xm_e1139_22 := xm_gt d_1139_22
theorem d_1139_23 : List.drop 23 xm_c1139 = xm_c1139_23 := xm_dr d_1139_22
theorem k_1139_23 : xm_gi xm_c1139 23 = some xm_e1139_23 := xm_gt d_1139_23
theorem d_1139_24 : List.drop 24 xm_c1139 = xm_c1139_24 := xm_dr d_1139_23
theorem k_1139_24 : xm_gi xm_c1139 24 = some xm_e1139_24 := xm_gt d_1139_24
theorem d_1139_25 : List.drop 25 xm_c1139 = xm_c1139_25 := xm_dr d_1139_24
theorem k_1139_25 : xm_gi xm_c1139 25 = some xm_e1139_25 := xm_gt d_1139_25
theorem d_1139_26 : List.drop 26 xm_c1139 = xm_c1139_26 := xm_dr d_1139_25
theorem k_1139_26 : xm_gi xm_c1139 26 = some xm_e1139_26 := xm_gt d_1139_26
theorem d_1139_27 : List.drop 27 xm_c1139 = xm_c1139_27 := xm_dr d_1139_26
theorem k_1139_27 : xm_gi xm_c1139 27 = some xm_e1139_27 := xm_gt d_1139_27
theorem d_1139_28 : List.drop 28 xm_c1139 = xm_c1139_28 := xm_dr d_1139_27
theorem k_1139_28 : xm_gi xm_c1139 28 = some xm_e1139_28 := xm_gt d_1139_28
theorem d_1139_29 : List.drop 29 xm_c1139 = xm_c1139_29 := xm_dr d_1139_28
theorem k_1139_29 : xm_gi xm_c1139 29 = some xm_e1139_29 := xm_gt d_1139_29
theorem d_1139_30 : List.drop 30 xm_c1139 = xm_c1139_30 := xm_dr d_1139_29
theorem k_1139_30 : xm_gi xm_c1139 30 = some xm_e1139_30 := xm_gt d_1139_30
theorem d_1139_31 : List.drop 31 xm_c1139 = xm_c1139_31 := xm_dr d_1139_30
theorem k_1139_31 : xm_gi xm_c1139 31 = some xm_e1139_31 := xm_gt d_1139_31
theorem d_1139_32 : List.drop 32 xm_c1139 = xm_c1139_32 := xm_dr d_1139_31
theorem k_1139_32 : xm_gi xm_c1139 32 = some xm_e1139_32 := xm_gt d_1139_32
theorem d_1139_33 : List.drop 33 xm_c1139 = xm_c1139_33 := xm_dr d_1139_32
theorem k_1139_33 : xm_gi xm_c1139 33 = some xm_e1139_33 := xm_gt d_1139_33
theorem d_1139_34 : List.drop 34 xm_c1139 = xm_c1139_34 := xm_dr d_1139_33
theorem k_1139_34 : xm_gi xm_c1139 34 = some xm_e1139_34 := xm_gt d_1139_34
theorem d_1139_35 : List.drop 35 xm_c1139 = xm_c1139_35 := xm_dr d_1139_34
theorem k_1139_35 : xm_gi xm_c1139 35 = some xm_e1139_35 := xm_gt d_1139_35
theorem d_1139_36 : List.drop 36 xm_c1139 = xm_c1139_36 := xm_dr d_1139_35
theorem k_1139_36 : xm_gi xm_c1139 36 = some xm_e1139_36 := xm_gt d_1139_36
theorem d_1139_37 : List.drop 37 xm_c1139 = xm_c1139_37 := xm_dr d_1139_36
theorem k_1139_37 : xm_gi xm_c1139 37 = some xm_e1139_37 := xm_gt d_1139_37
theorem d_1139_38 : List.drop 38 xm_c1139 = xm_c1139_38 := xm_dr d_1139_37
theorem k_1139_38 : xm_gi xm_c1139 38 = some xm_e1139_38 := xm_gt d_1139_38
theorem d_1139_39 : List.drop 39 xm_c1139 = xm_c1139_39 := xm_dr d_1139_38
theorem k_1139_39 : xm_gi xm_c1139 39 = some xm_e1139_39 := xm_gt d_1139_39
theorem d_1139_40 : List.drop 40 xm_c1139 = xm_c1139_40 := xm_dr d_1139_39
theorem k_1139_40 : xm_gi xm_c1139 40 = some xm_e1139_40 := xm_gt d_1139_40
theorem d_1139_41 : List.drop 41 xm_c1139 = xm_c1139_41 := xm_dr d_1139_40
theorem k_1139_41 : xm_gi xm_c1139 41 = some xm_e1139_41 := xm_gt d_1139_41
theorem d_1139_42 : List.drop 42 xm_c1139 = xm_c1139_42 := xm_dr d_1139_41
theorem k_1139_42 : xm_gi xm_c1139 42 = some xm_e1139_42 := xm_gt d_1139_42
theorem xb_1139_0 {sc : List Int} {f : Nat → List xm_V → xm_W → xm_R} {w : xm_W} {Q : Option xm_V × xm_W → Prop} {x0 : Int} {x1 : Int}
  (h : if (x1 : Int) = 0 then (if (x0 : Int) < 6 then (Q (some (.inl (-1)), w)) else (Q (some (.inl (xm_w (x0 - 6))), w))) else (if (x1 : Int) = 1 then ((6 : Int) ≠ 0 ∧ (if ((Int.tmod x0 6) : Int) = 5 then (Q (some (.inl (-1)), w)) else (Q (some (.inl (xm_w (x0 + 1))), w)))) else (if (x1 : Int) = 2 then (if ((xm_w (x0 + 6)) : Int) < 36 then (Q (some (.inl (xm_w (x0 + 6))), w)) else (Q (some (.inl (-1)), w))) else ((6 : Int) ≠ 0 ∧ (if ((Int.tmod x0 6) : Int) = 0 then (Q (some (.inl (-1)), w)) else (Q (some (.inl (xm_w (x0 - 1))), w))))))) :
  xm_EQ (xm_old sc) xm_sta f xm_c1139 0 [some (.inl x0), some (.inl x1)] [] w Q :=
  (xq_iload_n k_1139_0 rfl (xq_tsw k_1139_1 (xs_swc h (fun h => (xq_iload_n k_1139_2 rfl (xq_bipush k_1139_3 (xq_ic_ge k_1139_4 h (fun h => (xq_iconst k_1139_5 (xq_goto k_1139_6 (xq_ireturn k_1139_10 h)))) (fun h => (xq_iload_n k_1139_7 rfl (xq_bipush k_1139_8 (xq_isub k_1139_9 (xq_ireturn k_1139_10 h))))))))) (fun h => (xs_swc h (fun h => (xq_iload_n k_1139_11 rfl (xq_bipush k_1139_12 (xq_irem k_1139_13 h (fun h => (xq_iconst k_1139_14 (xq_ic_ne k_1139_15 h (fun h => (xq_iconst k_1139_16 (xq_goto k_1139_17 (xq_ireturn k_1139_21 h)))) (fun h => (xq_iload_n k_1139_18 rfl (xq_iconst k_1139_19 (xq_iadd k_1139_20 (xq_ireturn k_1139_21 h)))))))))))) (fun h => (xs_swc h (fun h => (xq_iload_n k_1139_22 rfl (xq_bipush k_1139_23 (xq_iadd k_1139_24 (xq_bipush k_1139_25 (xq_ic_ge k_1139_26 h (fun h => (xq_iload_n k_1139_27 rfl (xq_bipush k_1139_28 (xq_iadd k_1139_29 (xq_goto k_1139_30 (xq_ireturn k_1139_32 h)))))) (fun h => (xq_iconst k_1139_31 (xq_ireturn k_1139_32 h))))))))) (fun h => (xq_iload_n k_1139_33 rfl (xq_bipush k_1139_34 (xq_irem k_1139_35 h (fun h => (xq_if_ne k_1139_36 h (fun h => (xq_iconst k_1139_37 (xq_goto k_1139_38 (xq_ireturn k_1139_42 h)))) (fun h => (xq_iload_n k_1139_39 rfl (xq_iconst k_1139_40 (xq_isub k_1139_41 (xq_ireturn k_1139_42 h))))))))))))))))))
/-- ShodBackwardsModel.ground(II)I -/
theorem d_1140_0 : List.drop 0 xm_c1140 = xm_c1140 := rfl
theorem k_1140_0 : xm_gi xm_c1140 0 = some xm_e1140_0 := xm_gt d_1140_0
theorem d_1140_1 : List.drop 1 xm_c1140 = xm_c1140_1 := xm_dr d_1140_0
theorem k_1140_1 : xm_gi xm_c1140 1 = some xm_e1140_1 := xm_gt d_1140_1
theorem d_1140_2 : List.drop 2 xm_c1140 = xm_c1140_2 := xm_dr d_1140_1
theorem k_1140_2 : xm_gi xm_c1140 2 = some xm_e1140_2 := xm_gt d_1140_2
theorem d_1140_3 : List.drop 3 xm_c1140 = xm_c1140_3 := xm_dr d_1140_2
theorem k_1140_3 : xm_gi xm_c1140 3 = some xm_e1140_3 := xm_gt d_1140_3
theorem d_1140_4 : List.drop 4 xm_c1140 = xm_c1140_4 := xm_dr d_1140_3
theorem k_1140_4 : xm_gi xm_c1140 4 = some xm_e1140_4 := xm_gt d_1140_4
theorem d_1140_5 : List.drop 5 xm_c1140 = xm_c1140_5 := xm_dr d_1140_4
theorem k_1140_5 : xm_gi xm_c1140 5 = some xm_e1140_5 := xm_gt d_1140_5
theorem d_1140_6 : List.drop 6 xm_c1140 = xm_c1140_6 := xm_dr d_1140_5
theorem k_1140_6 : xm_gi xm_c1140 6 = some xm_e1140_6 := xm_gt d_1140_6
theorem d_1140_7 : List.drop 7 xm_c1140 = xm_c1140_7 := xm_dr d_1140_6
theorem k_1140_7 : xm_gi xm_c1140 7 = some xm_e1140_7 := xm_gt d_1140_7
theorem d_1140_8 : List.drop 8 xm_c1140 = xm_c1140_8 := xm_dr d_1140_7
theorem k_1140_8 : xm_gi xm_c1140 8 = some xm_e1140_8 := xm_gt d_1140_8
theorem d_1140_9 : List.drop 9 xm_c1140 = xm_c1140_9 := xm_dr d_1140_8
theorem k_1140_9 : xm_gi xm_c1140 9 = some xm_e1140_9 := xm_gt d_1140_9
theorem d_1140_10 : List.drop 10 xm_c1140 = xm_c1140_10 := xm_dr d_1140_9
theorem k_1140_10 : xm_gi xm_c1140 10 = some xm_e1140_10 := xm_gt d_1140_10
theorem d_1140_11 : List.drop 11 xm_c1140 = xm_c1140_11 := xm_dr d_1140_10
theorem k_1140_11 : xm_gi xm_c1140 11 = some xm_e1140_11 := xm_gt d_1140_11
theorem d_1140_12 : List.drop 12 xm_c1140 = xm_c1140_12 := xm_dr d_1140_11
theorem k_1140_12 : xm_gi xm_c1140 12 = some xm_e1140_12 := xm_gt d_1140_12
theorem d_1140_13 : List.drop 13 xm_c1140 = xm_c1140_13 := xm_dr d_1140_12
theorem k_1140_13 : xm_gi xm_c1140 13 = some xm_e1140_13 := xm_gt d_1140_13
theorem d_1140_14 : List.drop 14 xm_c1140 = xm_c1140_14 := xm_dr d_1140_13
theorem k_1140_14 : xm_gi xm_c1140 14 = some xm_e1140_14 := xm_gt d_1140_14
theorem d_1140_15 : List.drop 15 xm_c1140 = xm_c1140_15 := xm_dr d_1140_14
theorem k_1140_15 : xm_gi xm_c1140 15 = some xm_e1140_15 := xm_gt d_1140_15
theorem d_1140_16 : List.drop 16 xm_c1140 = xm_c1140_16 := xm_dr d_1140_15
theorem k_1140_16 : xm_gi xm_c1140 16 = some xm_e1140_16 := xm_gt d_1140_16
theorem d_1140_17 : List.drop 17 xm_c1140 = xm_c1140_17 := xm_dr d_1140_16
theorem k_1140_17 : xm_gi xm_c1140 17 = some xm_e1140_17 := xm_gt d_1140_17
theorem d_1140_18 : List.drop 18 xm_c1140 = xm_c1140_18 := xm_dr d_1140_17
theorem k_1140_18 : xm_gi xm_c1140 18 = some xm_e1140_18 := xm_gt d_1140_18
theorem d_1140_19 : List.drop 19 xm_c1140 = xm_c1140_19 := xm_dr d_1140_18
theorem k_1140_19 : xm_gi xm_c1140 19 = some xm_e1140_19 := xm_gt d_1140_19
theorem d_1140_20 : List.drop 20 xm_c1140 = xm_c1140_20 := xm_dr d_1140_19
theorem k_1140_20 : xm_gi xm_c1140 20 = some xm_e1140_20 := xm_gt d_1140_20
theorem d_1140_21 : List.drop 21 xm_c1140 = xm_c1140_21 := xm_dr d_1140_20
theorem k_1140_21 : xm_gi xm_c1140 21 = some xm_e1140_21 := xm_gt d_1140_21
theorem d_1140_22 : List.drop 22 xm_c1140 = xm_c1140_22 := xm_dr d_1140_21
theorem k_1140_22 : xm_gi xm_c1140 22 = some xm_e1140_22 := xm_gt d_1140_22
theorem d_1140_23 : List.drop 23 xm_c1140 = xm_c1140_23 := xm_dr d_1140_22
theorem k_1140_23 : xm_gi xm_c1140 23 = some xm_e1140_23 := xm_gt d_1140_23
theorem d_1140_24 : List.drop 24 xm_c1140 = xm_c1140_24 := xm_dr d_1140_23
theorem k_1140_24 : xm_gi xm_c1140 24 = some xm_e1140_24 := xm_gt d_1140_24
theorem xb_1140_0 {sc : List Int} {f : Nat → List xm_V → xm_W → xm_R} {w : xm_W} {Q : Option xm_V × xm_W → Prop} {x0 : Nat} {x1 : Int} {x2 : Int}
  (h : xm_Oi (f 1108 [.inl x1] w) (fun z2 w1 => if (z2 : Int) = 0 then (xm_Oi (f 1102 [.inr (.inl (some x0)), .inl 1] w1) (fun z4 w3 => Q (some (.inl z4), w3))) else (xm_Oi (f 1103 [.inl x2, .inl 0, .inl 3] w1) (fun z6 w5 => if (z6 : Int) = 0 then (xm_Oi (f 1102 [.inr (.inl (some x0)), .inl 1] w5) (fun z11 w10 => Q (some (.inl z11), w10))) else (xm_Oi (f 1113 [.inr (.inl (some x0)), .inl (xm_w (8 + x1)), .inl x2] w5) (fun z8 w7 => xm_Ov (f 1132 [.inr (.inl (some x0)), .inl 0, .inl (-1)] w7) (fun w9 => Q (some (.inl z8), w9)))))))) :
  xm_EQ (xm_old sc) xm_sta f xm_c1140 0 [some (.inr (.inl (some x0))), some (.inl x1), some (.inl x2), none] [] w Q :=
  (xq_iload_n k_1140_0 rfl (xq_invs2 k_1140_1 xr_1108 rfl rfl rfl h (fun z2 w1 h => (xq_if_eq k_1140_2 h (fun h => (xq_aload_n k_1140_8 rfl (xq_iconst k_1140_9 (xq_invv1 k_1140_10 xr_1102 rfl rfl rfl h (fun z4 w3 h => (xq_ireturn k_1140_11 h)))))) (fun h => (xq_iload_n k_1140_3 rfl (xq_iconst k_1140_4 (xq_iconst k_1140_5 (xq_invs2 k_1140_6 xr_1103 rfl rfl rfl h (fun z6 w5 h => (xq_if_ne k_1140_7 h (fun h => (xq_aload_n k_1140_8 rfl (xq_iconst k_1140_9 (xq_invv1 k_1140_10 xr_1102 rfl rfl rfl h (fun z11 w10 h => (xq_ireturn k_1140_11 h)))))) (fun h => (xq_aload_n k_1140_12 rfl (xq_bipush k_1140_13 (xq_iload_n k_1140_14 rfl (xq_iadd k_1140_15 (xq_iload_n k_1140_16 rfl (xq_invv1 k_1140_17 xr_1113 rfl rfl rfl h (fun z8 w7 h => (xq_istore_n k_1140_18 rfl (xq_aload_n k_1140_19 rfl (xq_iconst k_1140_20 (xq_iconst k_1140_21 (xq_invv0 k_1140_22 xr_1132 rfl rfl rfl h (fun w9 h => (xq_iload_n k_1140_23 rfl (xq_ireturn k_1140_24 h)))))))))))))))))))))))))))
/-- ShodBackwardsModel.frost(I)I -/
theorem d_1141_0 : List.drop 0 xm_c1141 = xm_c1141 := rfl
theorem k_1141_0 : xm_gi xm_c1141 0 = some xm_e1141_0 := xm_gt d_1141_0
theorem d_1141_1 : List.drop 1 xm_c1141 = xm_c1141_1 := xm_dr d_1141_0
theorem k_1141_1 : xm_gi xm_c1141 1 = some xm_e1141_1 := xm_gt d_1141_1
theorem d_1141_2 : List.drop 2 xm_c1141 = xm_c1141_2 := xm_dr d_1141_1
theorem k_1141_2 : xm_gi xm_c1141 2 = some xm_e1141_2 := xm_gt d_1141_2
theorem d_1141_3 : List.drop 3 xm_c1141 = xm_c1141_3 := xm_dr d_1141_2
theorem k_1141_3 : xm_gi xm_c1141 3 = some xm_e1141_3 := xm_gt d_1141_3
theorem d_1141_4 : List.drop 4 xm_c1141 = xm_c1141_4 := xm_dr d_1141_3
theorem k_1141_4 : xm_gi xm_c1141 4 = some xm_e1141_4 := xm_gt d_1141_4
theorem d_1141_5 : List.drop 5 xm_c1141 = xm_c1141_5 := xm_dr d_1141_4
theorem k_1141_5 : xm_gi xm_c1141 5 = some xm_e1141_5 := xm_gt d_1141_5
theorem d_1141_6 : List.drop 6 xm_c1141 = xm_c1141_6 := xm_dr d_1141_5
theorem k_1141_6 : xm_gi xm_c1141 6 = some xm_e1141_6 := xm_gt d_1141_6
theorem d_1141_7 : List.drop 7 xm_c1141 = xm_c1141_7 := xm_dr d_1141_6
theorem k_1141_7 : xm_gi xm_c1141 7 = some xm_e1141_7 := xm_gt d_1141_7
theorem d_1141_8 : List.drop 8 xm_c1141 = xm_c1141_8 := xm_dr d_1141_7
theorem k_1141_8 : xm_gi xm_c1141 8 = some xm_e1141_8 := xm_gt d_1141_8
theorem d_1141_9 : List.drop 9 xm_c1141 = xm_c1141_9 := xm_dr d_1141_8
theorem k_1141_9 : xm_gi xm_c1141 9 = some xm_e1141_9 := xm_gt d_1141_9
theorem d_1141_10 : List.drop 10 xm_c1141 = xm_c1141_10 := xm_dr d_1141_9
theorem k_1141_10 : xm_gi xm_c1141 10 = some xm_e1141_10 := xm_gt d_1141_10
theorem d_1141_11 : List.drop 11 xm_c1141 = xm_c1141_11 := xm_dr d_1141_10
theorem k_1141_11 : xm_gi xm_c1141 11 = some xm_e1141_11 := xm_gt d_1141_11
theorem d_1141_12 : List.drop 12 xm_c1141 = xm_c1141_12 := xm_dr d_1141_11
theorem k_1141_12 : xm_gi xm_c1141 12 = some xm_e1141_12 := xm_gt d_1141_12
theorem d_1141_13 : List.drop 13 xm_c1141 = xm_c1141_13 := xm_dr d_1141_12
theorem k_1141_13 : xm_gi xm_c1141 13 = some xm_e1141_13 := xm_gt d_1141_13
theorem d_1141_14 : List.drop 14 xm_c1141 = xm_c1141_14 := xm_dr d_1141_13
theorem k_1141_14 : xm_gi xm_c1141 14 = some xm_e1141_14 := xm_gt d_1141_14
theorem d_1141_15 : List.drop 15 xm_c1141 = xm_c1141_15 := xm_dr d_1141_14
theorem k_1141_15 : xm_gi xm_c1141 15 = some xm_e1141_15 := xm_gt d_1141_15
theorem d_1141_16 : List.drop 16 xm_c1141 = xm_c1141_16 := xm_dr d_1141_15
theorem k_1141_16 : xm_gi xm_c1141 16 = some xm_e1141_16 := xm_gt d_1141_16
theorem d_1141_17 : List.drop 17 xm_c1141 = xm_c1141_17 := xm_dr d_1141_16
theorem k_1141_17 : xm_gi xm_c1141 17 = some xm_e1141_17 := xm_gt d_1141_17
theorem d_1141_18 : List.drop 18 xm_c1141 = xm_c1141_18 := xm_dr d_1141_17
theorem k_1141_18 : xm_gi xm_c1141 18 = some xm_e1141_18 := xm_gt d_1141_18
theorem d_1141_19 : List.drop 19 xm_c1141 = xm_c1141_19 := xm_dr d_1141_18
theorem k_1141_19 : xm_gi xm_c1141 19 = some xm_e1141_19 := xm_gt d_1141_19
theorem xb_1141_0 {sc : List Int} {f : Nat → List xm_V → xm_W → xm_R} {w : xm_W} {Q : Option xm_V × xm_W → Prop} {x0 : Nat} {x1 : Int}
  (h : xm_Oi (f 1103 [.inl x1, .inl 0, .inl 9] w) (fun z2 w1 => if (z2 : Int) = 0 then (xm_Oi (f 1102 [.inr (.inl (some x0)), .inl 1] w1) (fun z7 w6 => Q (some (.inl z7), w6))) else (xm_Oi (f 1113 [.inr (.inl (some x0)), .inl 2, .inl x1] w1) (fun z4 w3 => xm_Ov (f 1132 [.inr (.inl (some x0)), .inl 0, .inl (-1)] w3) (fun w5 => Q (some (.inl z4), w5)))))) :
  xm_EQ (xm_old sc) xm_sta f xm_c1141 0 [some (.inr (.inl (some x0))), some (.inl x1), none] [] w Q :=
  (xq_iload_n k_1141_0 rfl (xq_iconst k_1141_1 (xq_bipush k_1141_2 (xq_invs2 k_1141_3 xr_1103 rfl rfl rfl h (fun z2 w1 h => (xq_if_ne k_1141_4 h (fun h => (xq_aload_n k_1141_5 rfl (xq_iconst k_1141_6 (xq_invv1 k_1141_7 xr_1102 rfl rfl rfl h (fun z7 w6 h => (xq_ireturn k_1141_8 h)))))) (fun h => (xq_aload_n k_1141_9 rfl (xq_iconst k_1141_10 (xq_iload_n k_1141_11 rfl (xq_invv1 k_1141_12 xr_1113 rfl rfl rfl h (fun z4 w3 h => (xq_istore_n k_1141_13 rfl (xq_aload_n k_1141_14 rfl (xq_iconst k_1141_15 (xq_iconst k_1141_16 (xq_invv0 k_1141_17 xr_1132 rfl rfl rfl h (fun w5 h => (xq_iload_n k_1141_18 rfl (xq_ireturn k_1141_19 h))))))))))))))))))))
/-- ShodBackwardsModel.rider(II)I -/
theorem d_1142_0 : List.drop 0 xm_c1142 = xm_c1142 := rfl
theorem k_1142_0 : xm_gi xm_c1142 0 = some xm_e1142_0 := xm_gt d_1142_0
theorem d_1142_1 : List.drop 1 xm_c1142 = xm_c1142_1 := xm_dr d_1142_0
theorem k_1142_1 : xm_gi xm_c1142 1 = some xm_e1142_1 := xm_gt d_1142_1
theorem d_1142_2 : List.drop 2 xm_c1142 = xm_c1142_2 := xm_dr d_1142_1
theorem k_1142_2 : xm_gi xm_c1142 2 = some xm_e1142_2 := xm_gt d_1142_2
theorem d_1142_3 : List.drop 3 xm_c1142 = xm_c1142_3 := xm_dr d_1142_2
theorem k_1142_3 : xm_gi xm_c1142 3 = some xm_e1142_3 := xm_gt d_1142_3
theorem d_1142_4 : List.drop 4 xm_c1142 = xm_c1142_4 := xm_dr d_1142_3
theorem k_1142_4 : xm_gi xm_c1142 4 = some xm_e1142_4 := xm_gt d_1142_4
theorem d_1142_5 : List.drop 5 xm_c1142 = xm_c1142_5 := xm_dr d_1142_4
theorem k_1142_5 : xm_gi xm_c1142 5 = some xm_e1142_5 := xm_gt d_1142_5
theorem d_1142_6 : List.drop 6 xm_c1142 = xm_c1142_6 := xm_dr d_1142_5
theorem k_1142_6 : xm_gi xm_c1142 6 = some xm_e1142_6 := xm_gt d_1142_6
theorem d_1142_7 : List.drop 7 xm_c1142 = xm_c1142_7 := xm_dr d_1142_6
theorem k_1142_7 : xm_gi xm_c1142 7 = some xm_e1142_7 := xm_gt d_1142_7
theorem d_1142_8 : List.drop 8 xm_c1142 = xm_c1142_8 := xm_dr d_1142_7
theorem k_1142_8 : xm_gi xm_c1142 8 = some xm_e1142_8 := xm_gt d_1142_8
theorem d_1142_9 : List.drop 9 xm_c1142 = xm_c1142_9 := xm_dr d_1142_8
theorem k_1142_9 : xm_gi xm_c1142 9 = some xm_e1142_9 := xm_gt d_1142_9
theorem d_1142_10 : List.drop 10 xm_c1142 = xm_c1142_10 := xm_dr d_1142_9
theorem k_1142_10 : xm_gi xm_c1142 10 = some xm_e1142_10 := xm_gt d_1142_10
theorem d_1142_11 : List.drop 11 xm_c1142 = xm_c1142_11 := xm_dr d_1142_10
theorem k_1142_11 : xm_gi xm_c1142 11 = some xm_e1142_11 := xm_gt d_1142_11
theorem d_1142_12 : List.drop 12 xm_c1142 = xm_c1142_12 := xm_dr d_1142_11
theorem k_1142_12 : xm_gi xm_c1142 12 = some xm_e1142_12 := xm_gt d_1142_12
theorem d_1142_13 : List.drop 13 xm_c1142 = xm_c1142_13 := xm_dr d_1142_12
theorem k_1142_13 : xm_gi xm_c1142 13 = some xm_e1142_13 := xm_gt d_1142_13
theorem d_1142_14 : List.drop 14 xm_c1142 = xm_c1142_14 := xm_dr d_1142_13
theorem k_1142_14 : xm_gi xm_c1142 14 = some xm_e1142_14 := xm_gt d_1142_14
theorem d_1142_15 : List.drop 15 xm_c1142 = xm_c1142_15 := xm_dr d_1142_14
theorem k_1142_15 : xm_gi xm_c1142 15 = some xm_e1142_15 := xm_gt d_1142_15
theorem d_1142_16 : List.drop 16 xm_c1142 = xm_c1142_16 := xm_dr d_1142_15
theorem k_1142_16 : xm_gi xm_c1142 16 = some xm_e1142_16 := xm_gt d_1142_16
theorem d_1142_17 : List.drop 17 xm_c1142 = xm_c1142_17 := xm_dr d_1142_16
theorem k_1142_17 : xm_gi xm_c1142 17 = some xm_e1142_17 := xm_gt d_1142_17
theorem d_1142_18 : List.drop 18 xm_c1142 = xm_c1142_18 := xm_dr d_1142_17
theorem k_1142_18 : xm_gi xm_c1142 18 = some xm_e1142_18 := xm_gt d_1142_18
theorem d_1142_19 : List.drop 19 xm_c1142 = xm_c1142_19 := xm_dr d_1142_18
theorem k_1142_19 : xm_gi xm_c1142 19 = some xm_e1142_19 := xm_gt d_1142_19
theorem d_1142_20 : List.drop 20 xm_c1142 = xm_c1142_20 := xm_dr d_1142_19
theorem k_1142_20 : xm_gi xm_c1142 20 = some xm_e1142_20 := xm_gt d_1142_20
theorem d_1142_21 : List.drop 21 xm_c1142 = xm_c1142_21 := xm_dr d_1142_20
theorem k_1142_21 : xm_gi xm_c1142 21 = some xm_e1142_21 := xm_gt d_1142_21
theorem d_1142_22 : List.drop 22 xm_c1142 = xm_c1142_22 := xm_dr d_1142_21
theorem k_1142_22 : xm_gi xm_c1142 22 = some xm_e1142_22 := xm_gt d_1142_22
theorem d_1142_23 : List.drop 23 xm_c1142 = xm_c1142_23 := xm_dr d_1142_22
theorem k_1142_23 : xm_gi xm_c1142 23 = some xm_e1142_23 := xm_gt d_1142_23
theorem d_1142_24 : List.drop 24 xm_c1142 = xm_c1142_24 := xm_dr d_1142_23
theorem k_1142_24 : xm_gi xm_c1142 24 = some xm_e1142_24 := xm_gt d_1142_24
theorem d_1142_25 : List.drop 25 xm_c1142 = xm_c1142_25 := xm_dr d_1142_24
theorem k_1142_25 : xm_gi xm_c1142 25 = some xm_e1142_25 := xm_gt d_1142_25
theorem d_1142_26 : List.drop 26 xm_c1142 = xm_c1142_26 := xm_dr d_1142_25
theorem k_1142_26 : xm_gi xm_c1142 26 = some xm_e1142_26 := xm_gt d_1142_26
theorem d_1142_27 : List.drop 27 xm_c1142 = xm_c1142_27 := xm_dr d_1142_26
theorem k_1142_27 : xm_gi xm_c1142 27 = some xm_e1142_27 := xm_gt d_1142_27
theorem d_1142_28 : List.drop 28 xm_c1142 = xm_c1142_28 := xm_dr d_1142_27
theorem k_1142_28 : xm_gi xm_c1142 28 = some xm_e1142_28 := xm_gt d_1142_28
theorem d_1142_29 : List.drop 29 xm_c1142 = xm_c1142_29 := xm_dr d_1142_28
theorem k_1142_29 : xm_gi xm_c1142 29 = some xm_e1142_29 := xm_gt d_1142_29
theorem d_1142_30 : List.drop 30 xm_c1142 = xm_c1142_30 := xm_dr d_1142_29
theorem k_1142_30 : xm_gi xm_c1142 30 = some xm_e1142_30 := xm_gt d_1142_30
theorem d_1142_31 : List.drop 31 xm_c1142 = xm_c1142_31 := xm_dr d_1142_30
theorem k_1142_31 : xm_gi xm_c1142 31 = some xm_e1142_31 := xm_gt d_1142_31
theorem d_1142_32 : List.drop 32 xm_c1142 = xm_c1142_32 := xm_dr d_1142_31
theorem k_1142_32 : xm_gi xm_c1142 32 = some xm_e1142_32 := xm_gt d_1142_32
theorem d_1142_33 : List.drop 33 xm_c1142 = xm_c1142_33 := xm_dr d_1142_32
theorem k_1142_33 : xm_gi xm_c1142 33 = some xm_e1142_33 := xm_gt d_1142_33
theorem d_1142_34 : List.drop 34 xm_c1142 = xm_c1142_34 := xm_dr d_1142_33
theorem k_1142_34 : xm_gi xm_c1142 34 = some xm_e1142_34 := xm_gt d_1142_34
theorem d_1142_35 : List.drop 35 xm_c1142 = xm_c1142_35 := xm_dr d_1142_34
theorem k_1142_35 : xm_gi xm_c1142 35 = some xm_e1142_35 := xm_gt d_1142_35
theorem d_1142_36 : List.drop 36 xm_c1142 = xm_c1142_36 := xm_dr d_1142_35
theorem k_1142_36 : xm_gi xm_c1142 36 = some xm_e1142_36 := xm_gt d_1142_36
theorem d_1142_37 : List.drop 37 xm_c1142 = xm_c1142_37 := xm_dr d_1142_36
theorem k_1142_37 : xm_gi xm_c1142 37 = some xm_e1142_37 := xm_gt d_1142_37
theorem d_1142_38 : List.drop 38 xm_c1142 = xm_c1142_38 := xm_dr d_1142_37
theorem k_1142_38 : xm_gi xm_c1142 38 = some xm_e1142_38 := xm_gt d_1142_38
theorem d_1142_39 : List.drop 39 xm_c1142 = xm_c1142_39 := xm_dr d_1142_38
theorem k_1142_39 : xm_gi xm_c1142 39 = some xm_e1142_39 := xm_gt d_1142_39
theorem d_1142_40 : List.drop 40 xm_c1142 = xm_c1142_40 := xm_dr d_1142_39
theorem k_1142_40 : xm_gi xm_c1142 40 = some xm_e1142_40 := xm_gt d_1142_40
theorem d_1142_41 : List.drop 41 xm_c1142 = xm_c1142_41 := xm_dr d_1142_40
theorem k_1142_41 : xm_gi xm_c1142 41 = some xm_e1142_41 := xm_gt d_1142_41
theorem d_1142_42 : List.drop 42 xm_c1142 = xm_c1142_42 := xm_dr d_1142_41
theorem k_1142_42 : xm_gi xm_c1142 42 = some xm_e1142_42 := xm_gt d_1142_42
theorem d_1142_43 : List.drop 43 xm_c1142 = xm_c1142_43 := xm_dr d_1142_42
theorem k_1142_43 : xm_gi xm_c1142 43 = some xm_e1142_43 := xm_gt d_1142_43
theorem d_1142_44 : List.drop 44 xm_c1142 = xm_c1142_44 := xm_dr d_1142_43
theorem k_1142_44 : xm_gi xm_c1142 44 = some xm_e1142_44 := xm_gt d_1142_44
theorem d_1142_45 : List.drop 45 xm_c1142 = xm_c1142_45 := xm_dr d_1142_44
theorem k_1142_45 : xm_gi xm_c1142 45 = some xm_e1142_45 := xm_gt d_1142_45
theorem d_1142_46 : List.drop 46 xm_c1142 = xm_c1142_46 := xm_dr d_1142_45
theorem k_1142_46 : xm_gi xm_c1142 46 = some xm_e1142_46 := xm_gt d_1142_46
theorem d_1142_47 : List.drop 47 xm_c1142 = xm_c1142_47 := xm_dr d_1142_46
theorem k_1142_47 : xm_gi xm_c1142 47 = some xm_e1142_47 := xm_gt d_1142_47
theorem d_1142_48 : List.drop 48 xm_c1142 = xm_c1142_48 := xm_dr d_1142_47
theorem k_1142_48 : xm_gi xm_c1142 48 = some xm_e1142_48 := xm_gt d_1142_48
theorem d_1142_49 : List.drop 49 xm_c1142 = xm_c1142_49 := xm_dr d_1142_48
theorem k_1142_49 : xm_gi xm_c1142 49 = some xm_e1142_49 := xm_gt d_1142_49
theorem d_1142_50 : List.drop 50 xm_c1142 = xm_c1142_50 := xm_dr d_1142_49
theorem k_1142_50 : xm_gi xm_c1142 50 = some xm_e1142_50 := xm_gt d_1142_50
theorem d_1142_51 : List.drop 51 xm_c1142 = xm_c1142_51 := xm_dr d_1142_50
theorem k_1142_51 : xm_gi xm_c1142 51 = some xm_e1142_51 := xm_gt d_1142_51
theorem d_1142_52 : List.drop 52 xm_c1142 = xm_c1142_52 := xm_dr d_1142_51
theorem k_1142_52 : xm_gi xm_c1142 52 = some xm_e1142_52 := xm_gt d_1142_52
theorem d_1142_53 : List.drop 53 xm_c1142 = xm_c1142_53 := xm_dr d_1142_52
theorem k_1142_53 : xm_gi xm_c1142 53 = some xm_e1142_53 := xm_gt d_1142_53
theorem d_1142_54 : List.drop 54 xm_c1142 = xm_c1142_54 := xm_dr d_1142_53
theorem k_1142_54 : xm_gi xm_c1142 54 = some xm_e1142_54 := xm_gt d_1142_54
theorem d_1142_55 : List.drop 55 xm_c1142 = xm_c1142_55 := xm_dr d_1142_54
theorem k_1142_55 : xm_gi xm_c1142 55 = some xm_e1142_55 := xm_gt d_1142_55
theorem d_1142_56 : List.drop 56 xm_c1142 = xm_c1142_56 := xm_dr d_1142_55
theorem k_1142_56 : xm_gi xm_c1142 56 = some xm_e1142_56 := xm_gt d_1142_56
theorem d_1142_57 : List.drop 57 xm_c1142 = xm_c1142_57 := xm_dr d_1142_56
theorem k_1142_57 : xm_gi xm_c1142 57 = some xm_e1142_57 := xm_gt d_1142_57
theorem d_1142_58 : List.drop 58 xm_c1142 = xm_c1142_58 := xm_dr d_1142_57
theorem k_1142_58 : xm_gi xm_c1142 58 = some xm_e1142_58 := xm_gt d_1142_58
theorem d_1142_59 : List.drop 59 xm_c1142 = xm_c1142_59 := xm_dr d_1142_58
theorem k_1142_59 : xm_gi xm_c1142 59 = some xm_e1142_59 := xm_gt d_1142_59
theorem d_1142_60 : List.drop 60 xm_c1142 = xm_c1142_60 := xm_dr d_1142_59
theorem k_1142_60 : xm_gi xm_c1142 60 = some xm_e1142_60 := xm_gt d_1142_60
theorem d_1142_61 : List.drop 61 xm_c1142 = xm_c1142_61 := xm_dr d_1142_60
theorem k_1142_61 : xm_gi xm_c1142 61 = some xm_e1142_61 := xm_gt d_1142_61
theorem d_1142_62 : List.drop 62 xm_c1142 = xm_c1142_62 := xm_dr d_1142_61
theorem k_1142_62 : xm_gi xm_c1142 62 = some xm_e1142_62 := xm_gt d_1142_62
theorem d_1142_63 : List.drop 63 xm_c1142 = xm_c1142_63 := xm_dr d_1142_62
theorem k_1142_63 : xm_gi xm_c1142 63 = some xm_e1142_63 := xm_gt d_1142_63
theorem d_1142_64 : List.drop 64 xm_c1142 = xm_c1142_64 := xm_dr d_1142_63
theorem k_1142_64 : xm_gi xm_c1142 64 = some xm_e1142_64 := xm_gt d_1142_64
theorem d_1142_65 : List.drop 65 xm_c1142 = xm_c1142_65 := xm_dr d_1142_64
theorem k_1142_65 : xm_gi xm_c1142 65 = some xm_e1142_65 := xm_gt d_1142_65
theorem d_1142_66 : List.drop 66 xm_c1142 = xm_c1142_66 := xm_dr d_1142_65
theorem k_1142_66 : xm_gi xm_c1142 66 = some xm_e1142_66 := xm_gt d_1142_66
theorem d_1142_67 : List.drop 67 xm_c1142 = xm_c1142_67 := xm_dr d_1142_66
theorem k_1142_67 : xm_gi xm_c1142 67 = some xm_e1142_67 := xm_gt d_1142_67
theorem d_1142_68 : List.drop 68 xm_c1142 = xm_c1142_68 := xm_dr d_1142_67
theorem k_1142_68 : xm_gi xm_c1142 68 = some xm_e1142_68 := xm_gt d_1142_68
theorem d_1142_69 : List.drop 69 xm_c1142 = xm_c1142_69 := xm_dr d_1142_68
theorem k_1142_69 : xm_gi xm_c1142 69 = some xm_e1142_69 := xm_gt d_1142_69
theorem d_1142_70 : List.drop 70 xm_c1142 = xm_c1142_70 := xm_dr d_1142_69
theorem k_1142_70 : xm_gi xm_c1142 70 = some xm_e1142_70 := xm_gt d_1142_70
theorem xb_1142_0 {sc : List Int} {f : Nat → List xm_V → xm_W → xm_R} {w : xm_W} {Q : Option xm_V × xm_W → Prop} {x0 : Nat} {x1 : Int} {x2 : Int}
  (h : xm_Oi (f 1103 [.inl x1, .inl 0, .inl 69] w) (fun z2 w1 => if (z2 : Int) = 0 then (xm_Oi (f 1102 [.inr (.inl (some x0)), .inl 1] w1) (fun z4 w3 => Q (some (.inl z4), w3))) else (xm_Oi (f 1108 [.inl x2] w1) (fun z6 w5 => if (z6 : Int) = 0 then (xm_Oi (f 1102 [.inr (.inl (some x0)), .inl 1] w5) (fun z26 w25 => Q (some (.inl z26), w25))) else (xm_O (xm_fr (xm_old sc) w5 x0 9 0) (fun r7 => xm_O (xm_ints (xm_old sc) w5 r7) (fun l8 => xm_O (xm_at l8 0) (fun z9 => if (z9 : Int) = 5 then (xm_Oi (f 1102 [.inr (.inl (some x0)), .inl 4] w5) (fun z24 w23 => Q (some (.inl z24), w23))) else (xm_O (xm_fr (xm_old sc) w5 x0 9 0) (fun r10 => xm_O (xm_ints (xm_old sc) w5 r10) (fun l11 => xm_O (xm_at l11 0) (fun z12 => (10 : Int) ≠ 0 ∧ (xm_Ov (f 1111 [.inr (.inl (some x0)), .inl z12, .inl 0, .inl (xm_w (Int.tdiv x1 10))] w5) (fun w13 => (10 : Int) ≠ 0 ∧ (xm_Ov (f 1111 [.inr (.inl (some x0)), .inl z12, .inl 1, .inl (Int.tmod x1 10)] w13) (fun w14 => xm_Ov (f 1111 [.inr (.inl (some x0)), .inl z12, .inl 2, .inl x2] w14) (fun w15 => xm_Ov (f 1111 [.inr (.inl (some x0)), .inl z12, .inl 3, .inl 0] w15) (fun w16 => xm_Ov (f 1111 [.inr (.inl (some x0)), .inl z12, .inl 4, .inl 0] w16) (fun w17 => xm_Ov (f 1111 [.inr (.inl (some x0)), .inl z12, .inl 5, .inl 0] w17) (fun w18 => xm_O (xm_fr (xm_old sc) w18 x0 9 0) (fun r19 => xm_O (xm_ints (xm_old sc) w18 r19) (fun l20 => xm_O (xm_at l20 0) (fun z21 => xm_O (xm_seti w18 r19 0 (xm_w (z21 + 1))) (fun w22 => Q (some (.inl z12), w22))))))))))))))))))))))))) :
  xm_EQ (xm_old sc) xm_sta f xm_c1142 0 [some (.inr (.inl (some x0))), some (.inl x1), some (.inl x2), none] [] w Q :=
  (xq_iload_n k_1142_0 rfl (xq_iconst k_1142_1 (xq_bipush k_1142_2 (xq_invs2 k_1142_3 xr_1103 rfl rfl rfl h (fun z2 w1 h => (xq_if_eq k_1142_4 h (fun h => (xq_aload_n k_1142_8 rfl (xq_iconst k_1142_9 (xq_invv1 k_1142_10 xr_1102 rfl rfl rfl h (fun z4 w3 h => (xq_ireturn k_1142_11 h)))))) (fun h => (xq_iload_n k_1142_5 rfl (xq_invs2 k_1142_6 xr_1108 rfl rfl rfl h (fun z6 w5 h => (xq_if_ne k_1142_7 h (fun h => (xq_aload_n k_1142_8 rfl (xq_iconst k_1142_9 (xq_invv1 k_1142_10 xr_1102 rfl rfl rfl h (fun z26 w25 h => (xq_ireturn k_1142_11 h)))))) (fun h => (xq_aload_n k_1142_12 rfl (xq_getr k_1142_13 rfl h (fun r7 h => (xq_iconst k_1142_14 (xq_iaload k_1142_15 h (fun l8 h => h) (fun l8 z9 h => (xq_iconst k_1142_16 (xq_ic_ne k_1142_17 h (fun h => (xq_aload_n k_1142_18 rfl (xq_iconst k_1142_19 (xq_invv1 k_1142_20 xr_1102 rfl rfl rfl h (fun z24 w23 h => (xq_ireturn k_1142_21 h)))))) (fun h => (xq_aload_n k_1142_22 rfl (xq_getr k_1142_23 rfl h (fun r10 h => (xq_iconst k_1142_24 (xq_iaload k_1142_25 h (fun l11 h => h) (fun l11 z12 h => (xq_istore_n k_1142_26 rfl (xq_aload_n k_1142_27 rfl (xq_iload_n k_1142_28 rfl (xq_iconst k_1142_29 (xq_iload_n k_1142_30 rfl (xq_bipush k_1142_31 (xq_idiv k_1142_32 h (fun h => (xq_invv0 k_1142_33 xr_1111 rfl rfl rfl h (fun w13 h => (xq_aload_n k_1142_34 rfl (xq_iload_n k_1142_35 rfl (xq_iconst k_1142_36 (xq_iload_n k_1142_37 rfl (xq_bipush k_1142_38 (xq_irem k_1142_39 h (fun h => (xq_invv0 k_1142_40 xr_1111 rfl rfl rfl h (fun w14 h => (xq_aload_n k_1142_41 rfl (xq_iload_n k_1142_42 rfl (xq_iconst k_1142_43 (xq_iload_n k_1142_44 rfl (xq_invv0 k_1142_45 xr_1111 rfl rfl rfl h (fun w15 h => (xq_aload_n k_1142_46 rfl (xq_iload_n k_1142_47 rfl (xq_iconst k_1142_48 (xq_iconst k_1142_49 (xq_invv0 k_1142_50 xr_1111 rfl rfl rfl h (fun w16 h => (xq_aload_n k_1142_51 rfl (xq_iload_n k_1142_52 rfl (xq_iconst k_1142_53 (xq_iconst k_1142_54 (xq_invv0 k_1142_55 xr_1111 rfl rfl rfl h (fun w17 h => (xq_aload_n k_1142_56 rfl (xq_iload_n k_1142_57 rfl (xq_iconst k_1142_58 (xq_iconst k_1142_59 (xq_invv0 k_1142_60 xr_1111 rfl rfl rfl h (fun w18 h => (xq_aload_n k_1142_61 rfl (xq_getr k_1142_62 rfl h (fun r19 h => (xq_iconst k_1142_63 (xq_dup2 k_1142_64 (xq_iaload k_1142_65 h (fun l20 h => h) (fun l20 z21 h => (xq_iconst k_1142_66 (xq_iadd k_1142_67 (xq_iastore k_1142_68 h (fun w22 h => (xq_iload_n k_1142_69 rfl (xq_ireturn k_1142_70 h)))))))))))))))))))))))))))))))))))))))))))))))))))))))))))))))))))))))))))))))))))
/-- ShodBackwardsModel.printsOf(I)I -/
theorem d_1143_0 : List.drop 0 xm_c1143 = xm_c1143 := rfl
theorem k_1143_0 : xm_gi xm_c1143 0 = some xm_e1143_0 := xm_gt d_1143_0
theorem d_1143_1 : List.drop 1 xm_c1143 = xm_c1143_1 := xm_dr d_1143_0
theorem k_1143_1 : xm_gi xm_c1143 1 = some xm_e1143_1 := xm_gt d_1143_1
theorem d_1143_2 : List.drop 2 xm_c1143 = xm_c1143_2 := xm_dr d_1143_1
theorem k_1143_2 : xm_gi xm_c1143 2 = some xm_e1143_2 := xm_gt d_1143_2
theorem d_1143_3 : List.drop 3 xm_c1143 = xm_c1143_3 := xm_dr d_1143_2
theorem k_1143_3 : xm_gi xm_c1143 3 = some xm_e1143_3 := xm_gt d_1143_3
theorem d_1143_4 : List.drop 4 xm_c1143 = xm_c1143_4 := xm_dr d_1143_3
theorem k_1143_4 : xm_gi xm_c1143 4 = some xm_e1143_4 := xm_gt d_1143_4
theorem d_1143_5 : List.drop 5 xm_c1143 = xm_c1143_5 := xm_dr d_1143_4
theorem k_1143_5 : xm_gi xm_c1143 5 = some xm_e1143_5 := xm_gt d_1143_5
theorem d_1143_6 : List.drop 6 xm_c1143 = xm_c1143_6 := xm_dr d_1143_5
theorem k_1143_6 : xm_gi xm_c1143 6 = some xm_e1143_6 := xm_gt d_1143_6
theorem d_1143_7 : List.drop 7 xm_c1143 = xm_c1143_7 := xm_dr d_1143_6
theorem k_1143_7 : xm_gi xm_c1143 7 = some xm_e1143_7 := xm_gt d_1143_7
theorem d_1143_8 : List.drop 8 xm_c1143 = xm_c1143_8 := xm_dr d_1143_7
theorem k_1143_8 : xm_gi xm_c1143 8 = some xm_e1143_8 := xm_gt d_1143_8
theorem d_1143_9 : List.drop 9 xm_c1143 = xm_c1143_9 := xm_dr d_1143_8
theorem k_1143_9 : xm_gi xm_c1143 9 = some xm_e1143_9 := xm_gt d_1143_9
theorem d_1143_10 : List.drop 10 xm_c1143 = xm_c1143_10 := xm_dr d_1143_9
theorem k_1143_10 : xm_gi xm_c1143 10 = some xm_e1143_10 := xm_gt d_1143_10
theorem d_1143_11 : List.drop 11 xm_c1143 = xm_c1143_11 := xm_dr d_1143_10
theorem k_1143_11 : xm_gi xm_c1143 11 = some xm_e1143_11 := xm_gt d_1143_11
theorem d_1143_12 : List.drop 12 xm_c1143 = xm_c1143_12 := xm_dr d_1143_11
theorem k_1143_12 : xm_gi xm_c1143 12 = some xm_e1143_12 := xm_gt d_1143_12
theorem d_1143_13 : List.drop 13 xm_c1143 = xm_c1143_13 := xm_dr d_1143_12
theorem k_1143_13 : xm_gi xm_c1143 13 = some xm_e1143_13 := xm_gt d_1143_13
theorem d_1143_14 : List.drop 14 xm_c1143 = xm_c1143_14 := xm_dr d_1143_13
theorem k_1143_14 : xm_gi xm_c1143 14 = some xm_e1143_14 := xm_gt d_1143_14
theorem d_1143_15 : List.drop 15 xm_c1143 = xm_c1143_15 := xm_dr d_1143_14
theorem k_1143_15 : xm_gi xm_c1143 15 = some xm_e1143_15 := xm_gt d_1143_15
theorem d_1143_16 : List.drop 16 xm_c1143 = xm_c1143_16 := xm_dr d_1143_15
theorem k_1143_16 : xm_gi xm_c1143 16 = some xm_e1143_16 := xm_gt d_1143_16
theorem d_1143_17 : List.drop 17 xm_c1143 = xm_c1143_17 := xm_dr d_1143_16
theorem k_1143_17 : xm_gi xm_c1143 17 = some xm_e1143_17 := xm_gt d_1143_17
theorem d_1143_18 : List.drop 18 xm_c1143 = xm_c1143_18 := xm_dr d_1143_17
theorem k_1143_18 : xm_gi xm_c1143 18 = some xm_e1143_18 := xm_gt d_1143_18
theorem d_1143_19 : List.drop 19 xm_c1143 = xm_c1143_19 := xm_dr d_1143_18
theorem k_1143_19 : xm_gi xm_c1143 19 = some xm_e1143_19 := xm_gt d_1143_19
theorem d_1143_20 : List.drop 20 xm_c1143 = xm_c1143_20 := xm_dr d_1143_19
theorem k_1143_20 : xm_gi xm_c1143 20 = some xm_e1143_20 := xm_gt d_1143_20
theorem d_1143_21 : List.drop 21 xm_c1143 = xm_c1143_21 := xm_dr d_1143_20
theorem k_1143_21 : xm_gi xm_c1143 21 = some xm_e1143_21 := xm_gt d_1143_21
theorem d_1143_22 : List.drop 22 xm_c1143 = xm_c1143_22 := xm_dr d_1143_21
theorem k_1143_22 : xm_gi xm_c1143 22 = some xm_e1143_22 := xm_gt d_1143_22
theorem d_1143_23 : List.drop 23 xm_c1143 = xm_c1143_23 := xm_dr d_1143_22
theorem k_1143_23 : xm_gi xm_c1143 23 = some xm_e1143_23 := xm_gt d_1143_23
theorem d_1143_24 : List.drop 24 xm_c1143 = xm_c1143_24 := xm_dr d_1143_23
theorem k_1143_24 : xm_gi xm_c1143 24 = some xm_e1143_24 := xm_gt d_1143_24
theorem d_1143_25 : List.drop 25 xm_c1143 = xm_c1143_25 := xm_dr d_1143_24
theorem k_1143_25 : xm_gi xm_c1143 25 = some xm_e1143_25 := xm_gt d_1143_25
theorem xb_1143_0 {sc : List Int} {f : Nat → List xm_V → xm_W → xm_R} {w : xm_W} {Q : Option xm_V × xm_W → Prop} {x0 : Nat} {x1 : Int}
  (h : xm_EQ (xm_old sc) xm_sta f xm_c1143 4 [some (.inr (.inl (some x0))), some (.inl x1), some (.inl 0), some (.inl 0)] [] w Q) :
  xm_EQ (xm_old sc) xm_sta f xm_c1143 0 [some (.inr (.inl (some x0))), some (.inl x1), none, none] [] w Q :=
  (xq_iconst k_1143_0 (xq_istore_n k_1143_1 rfl (xq_iconst k_1143_2 (xq_istore_n k_1143_3 rfl h))))
theorem xb_1143_4 {sc : List Int} {f : Nat → List xm_V → xm_W → xm_R} {w : xm_W} {Q : Option xm_V × xm_W → Prop} {x0 : Nat} {x1 : Int} {x2 : Int} {x3 : Int}
  (h : xm_O (xm_fr (xm_old sc) w x0 9 0) (fun r1 => xm_O (xm_ints (xm_old sc) w r1) (fun l2 => xm_O (xm_at l2 3) (fun z3 => if (x3 : Int) < z3 then (xm_Oi (f 1112 [.inr (.inl (some x0)), .inl x3, .inl 4] w) (fun z5 w4 => if (z5 : Int) = x1 then (xm_EQ (xm_old sc) xm_sta f xm_c1143 4 [some (.inr (.inl (some x0))), some (.inl x1), some (.inl (xm_w (x2 + 1))), some (.inl (xm_w (x3 + 1)))] [] w4 Q) else (xm_EQ (xm_old sc) xm_sta f xm_c1143 4 [some (.inr (.inl (some x0))), some (.inl x1), some (.inl (xm_w (x2 + 0))), some (.inl (xm_w (x3 + 1)))] [] w4 Q))) else (Q (some (.inl x2), w)))))) :
  xm_EQ (xm_old sc) xm_sta f xm_c1143 4 [some (.inr (.inl (some x0))), some (.inl x1), some (.inl x2), some (.inl x3)] [] w Q :=
  (xq_iload_n k_1143_4 rfl (xq_aload_n k_1143_5 rfl (xq_getr k_1143_6 rfl h (fun r1 h => (xq_iconst k_1143_7 (xq_iaload k_1143_8 h (fun l2 h => h) (fun l2 z3 h => (xq_ic_ge k_1143_9 h (fun h => (xq_iload_n k_1143_10 rfl (xq_aload_n k_1143_11 rfl (xq_iload_n k_1143_12 rfl (xq_iconst k_1143_13 (xq_invv1 k_1143_14 xr_1112 rfl rfl rfl h (fun z5 w4 h => (xq_iload_n k_1143_15 rfl (xq_ic_ne k_1143_16 h (fun h => (xq_iconst k_1143_17 (xq_goto k_1143_18 (xq_iadd k_1143_20 (xq_istore_n k_1143_21 rfl (xq_iinc k_1143_22 rfl rfl (xq_goto k_1143_23 h))))))) (fun h => (xq_iconst k_1143_19 (xq_iadd k_1143_20 (xq_istore_n k_1143_21 rfl (xq_iinc k_1143_22 rfl rfl (xq_goto k_1143_23 h))))))))))))))) (fun h => (xq_iload_n k_1143_24 rfl (xq_ireturn k_1143_25 h)))))))))))
/-- ShodBackwardsModel.toldRider(II)I -/
theorem d_1144_0 : List.drop 0 xm_c1144 = xm_c1144 := rfl
theorem k_1144_0 : xm_gi xm_c1144 0 = some xm_e1144_0 := xm_gt d_1144_0
theorem d_1144_1 : List.drop 1 xm_c1144 = xm_c1144_1 := xm_dr d_1144_0
theorem k_1144_1 : xm_gi xm_c1144 1 = some xm_e1144_1 := xm_gt d_1144_1
theorem d_1144_2 : List.drop 2 xm_c1144 = xm_c1144_2 := xm_dr d_1144_1
theorem k_1144_2 : xm_gi xm_c1144 2 = some xm_e1144_2 := xm_gt d_1144_2
theorem d_1144_3 : List.drop 3 xm_c1144 = xm_c1144_3 := xm_dr d_1144_2
theorem k_1144_3 : xm_gi xm_c1144 3 = some xm_e1144_3 := xm_gt d_1144_3
theorem d_1144_4 : List.drop 4 xm_c1144 = xm_c1144_4 := xm_dr d_1144_3
theorem k_1144_4 : xm_gi xm_c1144 4 = some xm_e1144_4 := xm_gt d_1144_4
theorem d_1144_5 : List.drop 5 xm_c1144 = xm_c1144_5 := xm_dr d_1144_4
theorem k_1144_5 : xm_gi xm_c1144 5 = some xm_e1144_5 := xm_gt d_1144_5
theorem d_1144_6 : List.drop 6 xm_c1144 = xm_c1144_6 := xm_dr d_1144_5
theorem k_1144_6 : xm_gi xm_c1144 6 = some xm_e1144_6 := xm_gt d_1144_6
theorem d_1144_7 : List.drop 7 xm_c1144 = xm_c1144_7 := xm_dr d_1144_6
theorem k_1144_7 : xm_gi xm_c1144 7 = some xm_e1144_7 := xm_gt d_1144_7
theorem d_1144_8 : List.drop 8 xm_c1144 = xm_c1144_8 := xm_dr d_1144_7
theorem k_1144_8 : xm_gi xm_c1144 8 = some xm_e1144_8 := xm_gt d_1144_8
theorem d_1144_9 : List.drop 9 xm_c1144 = xm_c1144_9 := xm_dr d_1144_8
theorem k_1144_9 : xm_gi xm_c1144 9 = some xm_e1144_9 := xm_gt d_1144_9
theorem d_1144_10 : List.drop 10 xm_c1144 = xm_c1144_10 := xm_dr d_1144_9
theorem k_1144_10 : xm_gi xm_c1144 10 = some xm_e1144_10 := xm_gt d_1144_10
theorem d_1144_11 : List.drop 11 xm_c1144 = xm_c1144_11 := xm_dr d_1144_10
theorem k_1144_11 : xm_gi xm_c1144 11 = some xm_e1144_11 := xm_gt d_1144_11
theorem d_1144_12 : List.drop 12 xm_c1144 = xm_c1144_12 := xm_dr d_1144_11
theorem k_1144_12 : xm_gi xm_c1144 12 = some xm_e1144_12 := xm_gt d_1144_12
theorem d_1144_13 : List.drop 13 xm_c1144 = xm_c1144_13 := xm_dr d_1144_12
theorem k_1144_13 : xm_gi xm_c1144 13 = some xm_e1144_13 := xm_gt d_1144_13
theorem d_1144_14 : List.drop 14 xm_c1144 = xm_c1144_14 := xm_dr d_1144_13
theorem k_1144_14 : xm_gi xm_c1144 14 = some xm_e1144_14 := xm_gt d_1144_14
theorem d_1144_15 : List.drop 15 xm_c1144 = xm_c1144_15 := xm_dr d_1144_14
theorem k_1144_15 : xm_gi xm_c1144 15 = some xm_e1144_15 := xm_gt d_1144_15
theorem d_1144_16 : List.drop 16 xm_c1144 = xm_c1144_16 := xm_dr d_1144_15
theorem k_1144_16 : xm_gi xm_c1144 16 = some xm_e1144_16 := xm_gt d_1144_16
theorem d_1144_17 : List.drop 17 xm_c1144 = xm_c1144_17 := xm_dr d_1144_16
theorem k_1144_17 : xm_gi xm_c1144 17 = some xm_e1144_17 := xm_gt d_1144_17
theorem d_1144_18 : List.drop 18 xm_c1144 = xm_c1144_18 := xm_dr d_1144_17
theorem k_1144_18 : xm_gi xm_c1144 18 = some xm_e1144_18 := xm_gt d_1144_18
theorem d_1144_19 : List.drop 19 xm_c1144 = xm_c1144_19 := xm_dr d_1144_18
theorem k_1144_19 : xm_gi xm_c1144 19 = some xm_e1144_19 := xm_gt d_1144_19
theorem d_1144_20 : List.drop 20 xm_c1144 = xm_c1144_20 := xm_dr d_1144_19
theorem k_1144_20 : xm_gi xm_c1144 20 = some xm_e1144_20 := xm_gt d_1144_20
theorem d_1144_21 : List.drop 21 xm_c1144 = xm_c1144_21 := xm_dr d_1144_20
theorem k_1144_21 : xm_gi xm_c1144 21 = some xm_e1144_21 := xm_gt d_1144_21
theorem d_1144_22 : List.drop 22 xm_c1144 = xm_c1144_22 := xm_dr d_1144_21
theorem k_1144_22 : xm_gi xm_c1144 22 = some xm_e1144_22 := xm_gt d_1144_22
theorem d_1144_23 : List.drop 23 xm_c1144 = xm_c1144_23 := xm_dr d_1144_22
theorem k_1144_23 : xm_gi xm_c1144 23 = some xm_e1144_23 := xm_gt d_1144_23
theorem d_1144_24 : List.drop 24 xm_c1144 = xm_c1144_24 := xm_dr d_1144_23
theorem k_1144_24 : xm_gi xm_c1144 24 = some xm_e1144_24 := xm_gt d_1144_24
theorem d_1144_25 : List.drop 25 xm_c1144 = xm_c1144_25 := xm_dr d_1144_24
theorem k_1144_25 : xm_gi xm_c1144 25 = some xm_e1144_25 := xm_gt d_1144_25
theorem d_1144_26 : List.drop 26 xm_c1144 = xm_c1144_26 := xm_dr d_1144_25
theorem k_1144_26 : xm_gi xm_c1144 26 = some xm_e1144_26 := xm_gt d_1144_26
theorem d_1144_27 : List.drop 27 xm_c1144 = xm_c1144_27 := xm_dr d_1144_26
theorem k_1144_27 : xm_gi xm_c1144 27 = some xm_e1144_27 := xm_gt d_1144_27
theorem d_1144_28 : List.drop 28 xm_c1144 = xm_c1144_28 := xm_dr d_1144_27
theorem k_1144_28 : xm_gi xm_c1144 28 = some xm_e1144_28 := xm_gt d_1144_28
theorem d_1144_29 : List.drop 29 xm_c1144 = xm_c1144_29 := xm_dr d_1144_28
theorem k_1144_29 : xm_gi xm_c1144 29 = some xm_e1144_29 := xm_gt d_1144_29
theorem d_1144_30 : List.drop 30 xm_c1144 = xm_c1144_30 := xm_dr d_1144_29
theorem k_1144_30 : xm_gi xm_c1144 30 = some xm_e1144_30 := xm_gt d_1144_30
theorem d_1144_31 : List.drop 31 xm_c1144 = xm_c1144_31 := xm_dr d_1144_30
theorem k_1144_31 : xm_gi xm_c1144 31 = some xm_e1144_31 := xm_gt d_1144_31
theorem d_1144_32 : List.drop 32 xm_c1144 = xm_c1144_32 := xm_dr d_1144_31
theorem k_1144_32 : xm_gi xm_c1144 32 = some xm_e1144_32 := xm_gt d_1144_32
theorem d_1144_33 : List.drop 33 xm_c1144 = xm_c1144_33 := xm_dr d_1144_32
theorem k_1144_33 : xm_gi xm_c1144 33 = some xm_e1144_33 := xm_gt d_1144_33
theorem d_1144_34 : List.drop 34 xm_c1144 = xm_c1144_34 := xm_dr d_1144_33
theorem k_1144_34 : xm_gi xm_c1144 34 = some xm_e1144_34 := xm_gt d_1144_34
theorem d_1144_35 : List.drop 35 xm_c1144 = xm_c1144_35 := xm_dr d_1144_34
theorem k_1144_35 : xm_gi xm_c1144 35 = some xm_e1144_35 := xm_gt d_1144_35
theorem d_1144_36 : List.drop 36 xm_c1144 = xm_c1144_36 := xm_dr d_1144_35
theorem k_1144_36 : xm_gi xm_c1144 36 = some xm_e1144_36 := xm_gt d_1144_36
theorem d_1144_37 : List.drop 37 xm_c1144 = xm_c1144_37 := xm_dr d_1144_36
theorem k_1144_37 : xm_gi xm_c1144 37 = some xm_e1144_37 := xm_gt d_1144_37
theorem d_1144_38 : List.drop 38 xm_c1144 = xm_c1144_38 := xm_dr d_1144_37
theorem k_1144_38 : xm_gi xm_c1144 38 = some xm_e1144_38 := xm_gt d_1144_38
theorem d_1144_39 : List.drop 39 xm_c1144 = xm_c1144_39 := xm_dr d_1144_38
theorem k_1144_39 : xm_gi xm_c1144 39 = some xm_e1144_39 := xm_gt d_1144_39
theorem d_1144_40 : List.drop 40 xm_c1144 = xm_c1144_40 := xm_dr d_1144_39
theorem k_1144_40 : xm_gi xm_c1144 40 = some xm_e1144_40 := xm_gt d_1144_40
theorem xb_1144_0 {sc : List Int} {f : Nat → List xm_V → xm_W → xm_R} {w : xm_W} {Q : Option xm_V × xm_W → Prop} {x0 : Nat} {x1 : Int} {x2 : Int}
  (h : if (7 : Int) < x2 then (xm_Oi (f 1110 [.inr (.inl (some x0)), .inl x1, .inl 4] w) (fun z8 w7 => if ((xm_w (x2 - 8)) : Int) < z8 then (xm_Oi (f 1110 [.inr (.inl (some x0)), .inl x1, .inl (xm_w ((xm_w (6 + x2)) - 8))] w7) (fun z10 w9 => Q (some (.inl z10), w9))) else (Q (some (.inl (-1)), w7)))) else (if (x2 : Int) = 6 then (xm_Oi (f 1138 [.inr (.inl (some x0)), .inl x1] w) (fun z6 w5 => Q (some (.inl z6), w5))) else (if (x2 : Int) = 7 then (xm_Oi (f 1143 [.inr (.inl (some x0)), .inl x1] w) (fun z4 w3 => Q (some (.inl z4), w3))) else (xm_Oi (f 1110 [.inr (.inl (some x0)), .inl x1, .inl x2] w) (fun z2 w1 => Q (some (.inl z2), w1)))))) :
  xm_EQ (xm_old sc) xm_sta f xm_c1144 0 [some (.inr (.inl (some x0))), some (.inl x1), some (.inl x2)] [] w Q :=
  (xq_iload_n k_1144_0 rfl (xq_bipush k_1144_1 (xq_ic_le k_1144_2 h (fun h => (xq_iload_n k_1144_3 rfl (xq_bipush k_1144_4 (xq_isub k_1144_5 (xq_aload_n k_1144_6 rfl (xq_iload_n k_1144_7 rfl (xq_iconst k_1144_8 (xq_invv1 k_1144_9 xr_1110 rfl rfl rfl h (fun z8 w7 h => (xq_ic_ge k_1144_10 h (fun h => (xq_aload_n k_1144_11 rfl (xq_iload_n k_1144_12 rfl (xq_bipush k_1144_13 (xq_iload_n k_1144_14 rfl (xq_iadd k_1144_15 (xq_bipush k_1144_16 (xq_isub k_1144_17 (xq_invv1 k_1144_18 xr_1110 rfl rfl rfl h (fun z10 w9 h => (xq_goto k_1144_19 (xq_ireturn k_1144_21 h)))))))))))) (fun h => (xq_iconst k_1144_20 (xq_ireturn k_1144_21 h))))))))))))) (fun h => (xq_iload_n k_1144_22 rfl (xq_bipush k_1144_23 (xq_ic_ne k_1144_24 h (fun h => (xq_aload_n k_1144_25 rfl (xq_iload_n k_1144_26 rfl (xq_invv1 k_1144_27 xr_1138 rfl rfl rfl h (fun z6 w5 h => (xq_goto k_1144_28 (xq_ireturn k_1144_40 h))))))) (fun h => (xq_iload_n k_1144_29 rfl (xq_bipush k_1144_30 (xq_ic_ne k_1144_31 h (fun h => (xq_aload_n k_1144_32 rfl (xq_iload_n k_1144_33 rfl (xq_invv1 k_1144_34 xr_1143 rfl rfl rfl h (fun z4 w3 h => (xq_goto k_1144_35 (xq_ireturn k_1144_40 h))))))) (fun h => (xq_aload_n k_1144_36 rfl (xq_iload_n k_1144_37 rfl (xq_iload_n k_1144_38 rfl (xq_invv1 k_1144_39 xr_1110 rfl rfl rfl h (fun z2 w1 h => (xq_ireturn k_1144_40 h))))))))))))))))))
/-- ShodBackwardsModel.riderIs(II)I -/
theorem d_1145_0 : List.drop 0 xm_c1145 = xm_c1145 := rfl
theorem k_1145_0 : xm_gi xm_c1145 0 = some xm_e1145_0 := xm_gt d_1145_0
theorem d_1145_1 : List.drop 1 xm_c1145 = xm_c1145_1 := xm_dr d_1145_0
theorem k_1145_1 : xm_gi xm_c1145 1 = some xm_e1145_1 := xm_gt d_1145_1
theorem d_1145_2 : List.drop 2 xm_c1145 = xm_c1145_2 := xm_dr d_1145_1
theorem k_1145_2 : xm_gi xm_c1145 2 = some xm_e1145_2 := xm_gt d_1145_2
theorem d_1145_3 : List.drop 3 xm_c1145 = xm_c1145_3 := xm_dr d_1145_2
theorem k_1145_3 : xm_gi xm_c1145 3 = some xm_e1145_3 := xm_gt d_1145_3
theorem d_1145_4 : List.drop 4 xm_c1145 = xm_c1145_4 := xm_dr d_1145_3
theorem k_1145_4 : xm_gi xm_c1145 4 = some xm_e1145_4 := xm_gt d_1145_4
theorem d_1145_5 : List.drop 5 xm_c1145 = xm_c1145_5 := xm_dr d_1145_4
theorem k_1145_5 : xm_gi xm_c1145 5 = some xm_e1145_5 := xm_gt d_1145_5
theorem d_1145_6 : List.drop 6 xm_c1145 = xm_c1145_6 := xm_dr d_1145_5
theorem k_1145_6 : xm_gi xm_c1145 6 = some xm_e1145_6 := xm_gt d_1145_6
theorem d_1145_7 : List.drop 7 xm_c1145 = xm_c1145_7 := xm_dr d_1145_6
theorem k_1145_7 : xm_gi xm_c1145 7 = some xm_e1145_7 := xm_gt d_1145_7
theorem d_1145_8 : List.drop 8 xm_c1145 = xm_c1145_8 := xm_dr d_1145_7
theorem k_1145_8 : xm_gi xm_c1145 8 = some xm_e1145_8 := xm_gt d_1145_8
theorem d_1145_9 : List.drop 9 xm_c1145 = xm_c1145_9 := xm_dr d_1145_8
theorem k_1145_9 : xm_gi xm_c1145 9 = some xm_e1145_9 := xm_gt d_1145_9
theorem d_1145_10 : List.drop 10 xm_c1145 = xm_c1145_10 := xm_dr d_1145_9
theorem k_1145_10 : xm_gi xm_c1145 10 = some xm_e1145_10 := xm_gt d_1145_10
theorem d_1145_11 : List.drop 11 xm_c1145 = xm_c1145_11 := xm_dr d_1145_10
theorem k_1145_11 : xm_gi xm_c1145 11 = some xm_e1145_11 := xm_gt d_1145_11
theorem d_1145_12 : List.drop 12 xm_c1145 = xm_c1145_12 := xm_dr d_1145_11
theorem k_1145_12 : xm_gi xm_c1145 12 = some xm_e1145_12 := xm_gt d_1145_12
theorem d_1145_13 : List.drop 13 xm_c1145 = xm_c1145_13 := xm_dr d_1145_12
theorem k_1145_13 : xm_gi xm_c1145 13 = some xm_e1145_13 := xm_gt d_1145_13
theorem d_1145_14 : List.drop 14 xm_c1145 = xm_c1145_14 := xm_dr d_1145_13
theorem k_1145_14 : xm_gi xm_c1145 14 = some xm_e1145_14 := xm_gt d_1145_14
theorem d_1145_15 : List.drop 15 xm_c1145 = xm_c1145_15 := xm_dr d_1145_14
theorem k_1145_15 : xm_gi xm_c1145 15 = some xm_e1145_15 := xm_gt d_1145_15
theorem d_1145_16 : List.drop 16 xm_c1145 = xm_c1145_16 := xm_dr d_1145_15
theorem k_1145_16 : xm_gi xm_c1145 16 = some xm_e1145_16 := xm_gt d_1145_16
theorem d_1145_17 : List.drop 17 xm_c1145 = xm_c1145_17 := xm_dr d_1145_16
theorem k_1145_17 : xm_gi xm_c1145 17 = some xm_e1145_17 := xm_gt d_1145_17
theorem xb_1145_0 {sc : List Int} {f : Nat → List xm_V → xm_W → xm_R} {w : xm_W} {Q : Option xm_V × xm_W → Prop} {x0 : Nat} {x1 : Int} {x2 : Int}
  (h : xm_Oi (f 1109 [.inr (.inl (some x0)), .inl x1] w) (fun z2 w1 => if (z2 : Int) = 0 then (xm_Oi (f 1102 [.inr (.inl (some x0)), .inl 1] w1) (fun z4 w3 => Q (some (.inl z4), w3))) else (xm_Oi (f 1103 [.inl x2, .inl 0, .inl 19] w1) (fun z6 w5 => if (z6 : Int) = 0 then (xm_Oi (f 1102 [.inr (.inl (some x0)), .inl 1] w5) (fun z8 w7 => Q (some (.inl z8), w7))) else (xm_Oi (f 1144 [.inr (.inl (some x0)), .inl x1, .inl x2] w5) (fun z10 w9 => Q (some (.inl z10), w9))))))) :
  xm_EQ (xm_old sc) xm_sta f xm_c1145 0 [some (.inr (.inl (some x0))), some (.inl x1), some (.inl x2)] [] w Q :=
  (xq_aload_n k_1145_0 rfl (xq_iload_n k_1145_1 rfl (xq_invv2 k_1145_2 xr_1109 rfl rfl rfl h (fun z2 w1 h => (xq_if_eq k_1145_3 h (fun h => (xq_aload_n k_1145_14 rfl (xq_iconst k_1145_15 (xq_invv1 k_1145_16 xr_1102 rfl rfl rfl h (fun z4 w3 h => (xq_ireturn k_1145_17 h)))))) (fun h => (xq_iload_n k_1145_4 rfl (xq_iconst k_1145_5 (xq_bipush k_1145_6 (xq_invs2 k_1145_7 xr_1103 rfl rfl rfl h (fun z6 w5 h => (xq_if_eq k_1145_8 h (fun h => (xq_aload_n k_1145_14 rfl (xq_iconst k_1145_15 (xq_invv1 k_1145_16 xr_1102 rfl rfl rfl h (fun z8 w7 h => (xq_ireturn k_1145_17 h)))))) (fun h => (xq_aload_n k_1145_9 rfl (xq_iload_n k_1145_10 rfl (xq_iload_n k_1145_11 rfl (xq_invv1 k_1145_12 xr_1144 rfl rfl rfl h (fun z10 w9 h => (xq_goto k_1145_13 (xq_ireturn k_1145_17 h))))))))))))))))))))
/-- ShodBackwardsModel.isUnder(II)Z -/
theorem d_1146_0 : List.drop 0 xm_c1146 = xm_c1146 := rfl
theorem k_1146_0 : xm_gi xm_c1146 0 = some xm_e1146_0 := xm_gt d_1146_0
theorem d_1146_1 : List.drop 1 xm_c1146 = xm_c1146_1 := xm_dr d_1146_0
theorem k_1146_1 : xm_gi xm_c1146 1 = some xm_e1146_1 := xm_gt d_1146_1
theorem d_1146_2 : List.drop 2 xm_c1146 = xm_c1146_2 := xm_dr d_1146_1
theorem k_1146_2 : xm_gi xm_c1146 2 = some xm_e1146_2 := xm_gt d_1146_2
theorem d_1146_3 : List.drop 3 xm_c1146 = xm_c1146_3 := xm_dr d_1146_2
theorem k_1146_3 : xm_gi xm_c1146 3 = some xm_e1146_3 := xm_gt d_1146_3
theorem d_1146_4 : List.drop 4 xm_c1146 = xm_c1146_4 := xm_dr d_1146_3
theorem k_1146_4 : xm_gi xm_c1146 4 = some xm_e1146_4 := xm_gt d_1146_4
theorem d_1146_5 : List.drop 5 xm_c1146 = xm_c1146_5 := xm_dr d_1146_4
theorem k_1146_5 : xm_gi xm_c1146 5 = some xm_e1146_5 := xm_gt d_1146_5
theorem d_1146_6 : List.drop 6 xm_c1146 = xm_c1146_6 := xm_dr d_1146_5
theorem k_1146_6 : xm_gi xm_c1146 6 = some xm_e1146_6 := xm_gt d_1146_6
theorem d_1146_7 : List.drop 7 xm_c1146 = xm_c1146_7 := xm_dr d_1146_6
theorem k_1146_7 : xm_gi xm_c1146 7 = some xm_e1146_7 := xm_gt d_1146_7
theorem d_1146_8 : List.drop 8 xm_c1146 = xm_c1146_8 := xm_dr d_1146_7
theorem k_1146_8 : xm_gi xm_c1146 8 = some xm_e1146_8 := xm_gt d_1146_8
theorem d_1146_9 : List.drop 9 xm_c1146 = xm_c1146_9 := xm_dr d_1146_8
theorem k_1146_9 : xm_gi xm_c1146 9 = some xm_e1146_9 := xm_gt d_1146_9
theorem d_1146_10 : List.drop 10 xm_c1146 = xm_c1146_10 := xm_dr d_1146_9
theorem k_1146_10 : xm_gi xm_c1146 10 = some xm_e1146_10 := xm_gt d_1146_10
theorem d_1146_11 : List.drop 11 xm_c1146 = xm_c1146_11 := xm_dr d_1146_10
theorem k_1146_11 : xm_gi xm_c1146 11 = some xm_e1146_11 := xm_gt d_1146_11
theorem d_1146_12 : List.drop 12 xm_c1146 = xm_c1146_12 := xm_dr d_1146_11
theorem k_1146_12 : xm_gi xm_c1146 12 = some xm_e1146_12 := xm_gt d_1146_12
theorem d_1146_13 : List.drop 13 xm_c1146 = xm_c1146_13 := xm_dr d_1146_12
theorem k_1146_13 : xm_gi xm_c1146 13 = some xm_e1146_13 := xm_gt d_1146_13
theorem d_1146_14 : List.drop 14 xm_c1146 = xm_c1146_14 := xm_dr d_1146_13
theorem k_1146_14 : xm_gi xm_c1146 14 = some xm_e1146_14 := xm_gt d_1146_14
theorem d_1146_15 : List.drop 15 xm_c1146 = xm_c1146_15 := xm_dr d_1146_14
theorem k_1146_15 : xm_gi xm_c1146 15 = some xm_e1146_15 := xm_gt d_1146_15
theorem d_1146_16 : List.drop 16 xm_c1146 = xm_c1146_16 := xm_dr d_1146_15
theorem k_1146_16 : xm_gi xm_c1146 16 = some xm_e1146_16 := xm_gt d_1146_16
theorem d_1146_17 : List.drop 17 xm_c1146 = xm_c1146_17 := xm_dr d_1146_16
theorem k_1146_17 : xm_gi xm_c1146 17 = some xm_e1146_17 := xm_gt d_1146_17
theorem d_1146_18 : List.drop 18 xm_c1146 = xm_c1146_18 := xm_dr d_1146_17
theorem k_1146_18 : xm_gi xm_c1146 18 = some xm_e1146_18 := xm_gt d_1146_18
theorem d_1146_19 : List.drop 19 xm_c1146 = xm_c1146_19 := xm_dr d_1146_18
theorem k_1146_19 : xm_gi xm_c1146 19 = some xm_e1146_19 := xm_gt d_1146_19
theorem d_1146_20 : List.drop 20 xm_c1146 = xm_c1146_20 := xm_dr d_1146_19
theorem k_1146_20 : xm_gi xm_c1146 20 = some xm_e1146_20 := xm_gt d_1146_20
theorem xb_1146_0 {sc : List Int} {f : Nat → List xm_V → xm_W → xm_R} {w : xm_W} {Q : Option xm_V × xm_W → Prop} {x0 : Int} {x1 : Int}
  (h : if (x1 : Int) = 0 then (Q (some (.inl 1), w)) else (if (x0 : Int) = x1 then (Q (some (.inl 1), w)) else (if (x1 : Int) = 1 then (if (x0 : Int) = 4 then (Q (some (.inl 1), w)) else (if (x1 : Int) = 2 then (if (x0 : Int) = 5 then (Q (some (.inl 1), w)) else (Q (some (.inl 0), w))) else (Q (some (.inl 0), w)))) else (if (x1 : Int) = 2 then (if (x0 : Int) = 5 then (Q (some (.inl 1), w)) else (Q (some (.inl 0), w))) else (Q (some (.inl 0), w)))))) :
  xm_EQ (xm_old sc) xm_sta f xm_c1146 0 [some (.inl x0), some (.inl x1)] [] w Q :=
  (xq_iload_n k_1146_0 rfl (xq_if_eq k_1146_1 h (fun h => (xq_iconst k_1146_17 (xq_goto k_1146_18 (xq_ireturn k_1146_20 h)))) (fun h => (xq_iload_n k_1146_2 rfl (xq_iload_n k_1146_3 rfl (xq_ic_eq k_1146_4 h (fun h => (xq_iconst k_1146_17 (xq_goto k_1146_18 (xq_ireturn k_1146_20 h)))) (fun h => (xq_iload_n k_1146_5 rfl (xq_iconst k_1146_6 (xq_ic_ne k_1146_7 h (fun h => (xq_iload_n k_1146_8 rfl (xq_iconst k_1146_9 (xq_ic_eq k_1146_10 h (fun h => (xq_iconst k_1146_17 (xq_goto k_1146_18 (xq_ireturn k_1146_20 h)))) (fun h => (xq_iload_n k_1146_11 rfl (xq_iconst k_1146_12 (xq_ic_ne k_1146_13 h (fun h => (xq_iload_n k_1146_14 rfl (xq_iconst k_1146_15 (xq_ic_ne k_1146_16 h (fun h => (xq_iconst k_1146_17 (xq_goto k_1146_18 (xq_ireturn k_1146_20 h)))) (fun h => (xq_iconst k_1146_19 (xq_ireturn k_1146_20 h))))))) (fun h => (xq_iconst k_1146_19 (xq_ireturn k_1146_20 h))))))))))) (fun h => (xq_iload_n k_1146_11 rfl (xq_iconst k_1146_12 (xq_ic_ne k_1146_13 h (fun h => (xq_iload_n k_1146_14 rfl (xq_iconst k_1146_15 (xq_ic_ne k_1146_16 h (fun h => (xq_iconst k_1146_17 (xq_goto k_1146_18 (xq_ireturn k_1146_20 h)))) (fun h => (xq_iconst k_1146_19 (xq_ireturn k_1146_20 h))))))) (fun h => (xq_iconst k_1146_19 (xq_ireturn k_1146_20 h)))))))))))))))))
/-- ShodBackwardsModel.as(II)I -/
theorem d_1147_0 : List.drop 0 xm_c1147 = xm_c1147 := rfl
theorem k_1147_0 : xm_gi xm_c1147 0 = some xm_e1147_0 := xm_gt d_1147_0
theorem d_1147_1 : List.drop 1 xm_c1147 = xm_c1147_1 := xm_dr d_1147_0
theorem k_1147_1 : xm_gi xm_c1147 1 = some xm_e1147_1 := xm_gt d_1147_1
theorem d_1147_2 : List.drop 2 xm_c1147 = xm_c1147_2 := xm_dr d_1147_1
theorem k_1147_2 : xm_gi xm_c1147 2 = some xm_e1147_2 := xm_gt d_1147_2
theorem d_1147_3 : List.drop 3 xm_c1147 = xm_c1147_3 := xm_dr d_1147_2
theorem k_1147_3 : xm_gi xm_c1147 3 = some xm_e1147_3 := xm_gt d_1147_3
theorem d_1147_4 : List.drop 4 xm_c1147 = xm_c1147_4 := xm_dr d_1147_3
theorem k_1147_4 : xm_gi xm_c1147 4 = some xm_e1147_4 := xm_gt d_1147_4
theorem d_1147_5 : List.drop 5 xm_c1147 = xm_c1147_5 := xm_dr d_1147_4
theorem k_1147_5 : xm_gi xm_c1147 5 = some xm_e1147_5 := xm_gt d_1147_5
theorem d_1147_6 : List.drop 6 xm_c1147 = xm_c1147_6 := xm_dr d_1147_5
theorem k_1147_6 : xm_gi xm_c1147 6 = some xm_e1147_6 := xm_gt d_1147_6
theorem d_1147_7 : List.drop 7 xm_c1147 = xm_c1147_7 := xm_dr d_1147_6
theorem k_1147_7 : xm_gi xm_c1147 7 = some xm_e1147_7 := xm_gt d_1147_7
theorem d_1147_8 : List.drop 8 xm_c1147 = xm_c1147_8 := xm_dr d_1147_7
theorem k_1147_8 : xm_gi xm_c1147 8 = some xm_e1147_8 := xm_gt d_1147_8
theorem d_1147_9 : List.drop 9 xm_c1147 = xm_c1147_9 := xm_dr d_1147_8
theorem k_1147_9 : xm_gi xm_c1147 9 = some xm_e1147_9 := xm_gt d_1147_9
theorem d_1147_10 : List.drop 10 xm_c1147 = xm_c1147_10 := xm_dr d_1147_9
theorem k_1147_10 : xm_gi xm_c1147 10 = some xm_e1147_10 := xm_gt d_1147_10
theorem d_1147_11 : List.drop 11 xm_c1147 = xm_c1147_11 := xm_dr d_1147_10
theorem k_1147_11 : xm_gi xm_c1147 11 = some xm_e1147_11 := xm_gt d_1147_11
theorem d_1147_12 : List.drop 12 xm_c1147 = xm_c1147_12 := xm_dr d_1147_11
theorem k_1147_12 : xm_gi xm_c1147 12 = some xm_e1147_12 := xm_gt d_1147_12
theorem d_1147_13 : List.drop 13 xm_c1147 = xm_c1147_13 := xm_dr d_1147_12
theorem k_1147_13 : xm_gi xm_c1147 13 = some xm_e1147_13 := xm_gt d_1147_13
theorem d_1147_14 : List.drop 14 xm_c1147 = xm_c1147_14 := xm_dr d_1147_13
theorem k_1147_14 : xm_gi xm_c1147 14 = some xm_e1147_14 := xm_gt d_1147_14
theorem d_1147_15 : List.drop 15 xm_c1147 = xm_c1147_15 := xm_dr d_1147_14
theorem k_1147_15 : xm_gi xm_c1147 15 = some xm_e1147_15 := xm_gt d_1147_15
theorem d_1147_16 : List.drop 16 xm_c1147 = xm_c1147_16 := xm_dr d_1147_15
theorem k_1147_16 : xm_gi xm_c1147 16 = some xm_e1147_16 := xm_gt d_1147_16
theorem d_1147_17 : List.drop 17 xm_c1147 = xm_c1147_17 := xm_dr d_1147_16
theorem k_1147_17 : xm_gi xm_c1147 17 = some xm_e1147_17 := xm_gt d_1147_17
theorem d_1147_18 : List.drop 18 xm_c1147 = xm_c1147_18 := xm_dr d_1147_17
theorem k_1147_18 : xm_gi xm_c1147 18 = some xm_e1147_18 := xm_gt d_1147_18
theorem d_1147_19 : List.drop 19 xm_c1147 = xm_c1147_19 := xm_dr d_1147_18
theorem k_1147_19 : xm_gi xm_c1147 19 = some xm_e1147_19 := xm_gt d_1147_19
theorem d_1147_20 : List.drop 20 xm_c1147 = xm_c1147_20 := xm_dr d_1147_19
theorem k_1147_20 : xm_gi xm_c1147 20 = some xm_e1147_20 := xm_gt d_1147_20
theorem d_1147_21 : List.drop 21 xm_c1147 = xm_c1147_21 := xm_dr d_1147_20
theorem k_1147_21 : xm_gi xm_c1147 21 = some xm_e1147_21 := xm_gt d_1147_21
theorem d_1147_22 : List.drop 22 xm_c1147 = xm_c1147_22 := xm_dr d_1147_21
theorem k_1147_22 : xm_gi xm_c1147 22 = some xm_e1147_22 := xm_gt d_1147_22
theorem d_1147_23 : List.drop 23 xm_c1147 = xm_c1147_23 := xm_dr d_1147_22
theorem k_1147_23 : xm_gi xm_c1147 23 = some xm_e1147_23 := xm_gt d_1147_23
theorem d_1147_24 : List.drop 24 xm_c1147 = xm_c1147_24 := xm_dr d_1147_23
theorem k_1147_24 : xm_gi xm_c1147 24 = some xm_e1147_24 := xm_gt d_1147_24
theorem d_1147_25 : List.drop 25 xm_c1147 = xm_c1147_25 := xm_dr d_1147_24
theorem k_1147_25 : xm_gi xm_c1147 25 = some xm_e1147_25 := xm_gt d_1147_25
theorem d_1147_26 : List.drop 26 xm_c1147 = xm_c1147_26 := xm_dr d_1147_25
theorem k_1147_26 : xm_gi xm_c1147 26 = some xm_e1147_26 := xm_gt d_1147_26
theorem d_1147_27 : List.drop 27 xm_c1147 = xm_c1147_27 := xm_dr d_1147_26
theorem k_1147_27 : xm_gi xm_c1147 27 = some xm_e1147_27 := xm_gt d_1147_27
theorem d_1147_28 : List.drop 28 xm_c1147 = xm_c1147_28 := xm_dr d_1147_27
theorem k_1147_28 : xm_gi xm_c1147 28 = some xm_e1147_28 := xm_gt d_1147_28
theorem xb_1147_0 {sc : List Int} {f : Nat → List xm_V → xm_W → xm_R} {w : xm_W} {Q : Option xm_V × xm_W → Prop} {x0 : Nat} {x1 : Int} {x2 : Int}
  (h : xm_Oi (f 1109 [.inr (.inl (some x0)), .inl x1] w) (fun z2 w1 => if (z2 : Int) = 0 then (xm_Oi (f 1102 [.inr (.inl (some x0)), .inl 1] w1) (fun z4 w3 => Q (some (.inl z4), w3))) else (xm_Oi (f 1103 [.inl x2, .inl 0, .inl 6] w1) (fun z6 w5 => if (z6 : Int) = 0 then (xm_Oi (f 1102 [.inr (.inl (some x0)), .inl 1] w5) (fun z16 w15 => Q (some (.inl z16), w15))) else (xm_Oi (f 1110 [.inr (.inl (some x0)), .inl x1, .inl 0] w5) (fun z8 w7 => xm_Oi (f 1146 [.inl z8, .inl x2] w7) (fun z10 w9 => if (z10 : Int) = 0 then (xm_Oi (f 1102 [.inr (.inl (some x0)), .inl 5] w9) (fun z12 w11 => Q (some (.inl z12), w11))) else (xm_Oi (f 1110 [.inr (.inl (some x0)), .inl x1, .inl 3] w9) (fun z14 w13 => Q (some (.inl z14), w13)))))))))) :
  xm_EQ (xm_old sc) xm_sta f xm_c1147 0 [some (.inr (.inl (some x0))), some (.inl x1), some (.inl x2)] [] w Q :=
  (xq_aload_n k_1147_0 rfl (xq_iload_n k_1147_1 rfl (xq_invv2 k_1147_2 xr_1109 rfl rfl rfl h (fun z2 w1 h => (xq_if_eq k_1147_3 h (fun h => (xq_aload_n k_1147_9 rfl (xq_iconst k_1147_10 (xq_invv1 k_1147_11 xr_1102 rfl rfl rfl h (fun z4 w3 h => (xq_ireturn k_1147_12 h)))))) (fun h => (xq_iload_n k_1147_4 rfl (xq_iconst k_1147_5 (xq_bipush k_1147_6 (xq_invs2 k_1147_7 xr_1103 rfl rfl rfl h (fun z6 w5 h => (xq_if_ne k_1147_8 h (fun h => (xq_aload_n k_1147_9 rfl (xq_iconst k_1147_10 (xq_invv1 k_1147_11 xr_1102 rfl rfl rfl h (fun z16 w15 h => (xq_ireturn k_1147_12 h)))))) (fun h => (xq_aload_n k_1147_13 rfl (xq_iload_n k_1147_14 rfl (xq_iconst k_1147_15 (xq_invv1 k_1147_16 xr_1110 rfl rfl rfl h (fun z8 w7 h => (xq_iload_n k_1147_17 rfl (xq_invs2 k_1147_18 xr_1146 rfl rfl rfl h (fun z10 w9 h => (xq_if_eq k_1147_19 h (fun h => (xq_aload_n k_1147_25 rfl (xq_iconst k_1147_26 (xq_invv1 k_1147_27 xr_1102 rfl rfl rfl h (fun z12 w11 h => (xq_ireturn k_1147_28 h)))))) (fun h => (xq_aload_n k_1147_20 rfl (xq_iload_n k_1147_21 rfl (xq_iconst k_1147_22 (xq_invv1 k_1147_23 xr_1110 rfl rfl rfl h (fun z14 w13 h => (xq_goto k_1147_24 (xq_ireturn k_1147_28 h))))))))))))))))))))))))))))))
/-- ShodBackwardsModel.most(II)I -/
theorem d_1148_0 : List.drop 0 xm_c1148 = xm_c1148 := rfl
theorem k_1148_0 : xm_gi xm_c1148 0 = some xm_e1148_0 := xm_gt d_1148_0
theorem d_1148_1 : List.drop 1 xm_c1148 = xm_c1148_1 := xm_dr d_1148_0
theorem k_1148_1 : xm_gi xm_c1148 1 = some xm_e1148_1 := xm_gt d_1148_1
theorem d_1148_2 : List.drop 2 xm_c1148 = xm_c1148_2 := xm_dr d_1148_1
theorem k_1148_2 : xm_gi xm_c1148 2 = some xm_e1148_2 := xm_gt d_1148_2
theorem d_1148_3 : List.drop 3 xm_c1148 = xm_c1148_3 := xm_dr d_1148_2
theorem k_1148_3 : xm_gi xm_c1148 3 = some xm_e1148_3 := xm_gt d_1148_3
theorem d_1148_4 : List.drop 4 xm_c1148 = xm_c1148_4 := xm_dr d_1148_3
theorem k_1148_4 : xm_gi xm_c1148 4 = some xm_e1148_4 := xm_gt d_1148_4
theorem d_1148_5 : List.drop 5 xm_c1148 = xm_c1148_5 := xm_dr d_1148_4
theorem k_1148_5 : xm_gi xm_c1148 5 = some xm_e1148_5 := xm_gt d_1148_5
theorem d_1148_6 : List.drop 6 xm_c1148 = xm_c1148_6 := xm_dr d_1148_5
theorem k_1148_6 : xm_gi xm_c1148 6 = some xm_e1148_6 := xm_gt d_1148_6
theorem d_1148_7 : List.drop 7 xm_c1148 = xm_c1148_7 := xm_dr d_1148_6
theorem k_1148_7 : xm_gi xm_c1148 7 = some xm_e1148_7 := xm_gt d_1148_7
theorem d_1148_8 : List.drop 8 xm_c1148 = xm_c1148_8 := xm_dr d_1148_7
theorem k_1148_8 : xm_gi xm_c1148 8 = some xm_e1148_8 := xm_gt d_1148_8
theorem d_1148_9 : List.drop 9 xm_c1148 = xm_c1148_9 := xm_dr d_1148_8
theorem k_1148_9 : xm_gi xm_c1148 9 = some xm_e1148_9 := xm_gt d_1148_9
theorem d_1148_10 : List.drop 10 xm_c1148 = xm_c1148_10 := xm_dr d_1148_9
theorem k_1148_10 : xm_gi xm_c1148 10 = some xm_e1148_10 := xm_gt d_1148_10
theorem d_1148_11 : List.drop 11 xm_c1148 = xm_c1148_11 := xm_dr d_1148_10
theorem k_1148_11 : xm_gi xm_c1148 11 = some xm_e1148_11 := xm_gt d_1148_11
theorem d_1148_12 : List.drop 12 xm_c1148 = xm_c1148_12 := xm_dr d_1148_11
theorem k_1148_12 : xm_gi xm_c1148 12 = some xm_e1148_12 := xm_gt d_1148_12
theorem d_1148_13 : List.drop 13 xm_c1148 = xm_c1148_13 := xm_dr d_1148_12
theorem k_1148_13 : xm_gi xm_c1148 13 = some xm_e1148_13 := xm_gt d_1148_13
theorem d_1148_14 : List.drop 14 xm_c1148 = xm_c1148_14 := xm_dr d_1148_13
theorem k_1148_14 : xm_gi xm_c1148 14 = some xm_e1148_14 := xm_gt d_1148_14
theorem d_1148_15 : List.drop 15 xm_c1148 = xm_c1148_15 := xm_dr d_1148_14
theorem k_1148_15 : xm_gi xm_c1148 15 = some xm_e1148_15 := xm_gt d_1148_15
theorem d_1148_16 : List.drop 16 xm_c1148 = xm_c1148_16 := xm_dr d_1148_15
theorem k_1148_16 : xm_gi xm_c1148 16 = some xm_e1148_16 := xm_gt d_1148_16
theorem d_1148_17 : List.drop 17 xm_c1148 = xm_c1148_17 := xm_dr d_1148_16
theorem k_1148_17 : xm_gi xm_c1148 17 = some xm_e1148_17 := xm_gt d_1148_17
theorem d_1148_18 : List.drop 18 xm_c1148 = xm_c1148_18 := xm_dr d_1148_17
theorem k_1148_18 : xm_gi xm_c1148 18 = some xm_e1148_18 := xm_gt d_1148_18
theorem d_1148_19 : List.drop 19 xm_c1148 = xm_c1148_19 := xm_dr d_1148_18
theorem k_1148_19 : xm_gi xm_c1148 19 = some xm_e1148_19 := xm_gt d_1148_19
theorem d_1148_20 : List.drop 20 xm_c1148 = xm_c1148_20 := xm_dr d_1148_19
theorem k_1148_20 : xm_gi xm_c1148 20 = some xm_e1148_20 := xm_gt d_1148_20
theorem d_1148_21 : List.drop 21 xm_c1148 = xm_c1148_21 := xm_dr d_1148_20
theorem k_1148_21 : xm_gi xm_c1148 21 = some xm_e1148_21 := xm_gt d_1148_21
theorem d_1148_22 : List.drop 22 xm_c1148 = xm_c1148_22 := xm_dr d_1148_21
theorem k_1148_22 : xm_gi xm_c1148 22 = some xm_e1148_22 := xm_gt d_1148_22
theorem d_1148_23 : List.drop 23 xm_c1148 = xm_c1148_23 := xm_dr d_1148_22
theorem k_1148_23 : xm_gi xm_c1148 23 = some xm_e1148_23 := xm_gt d_1148_23
theorem xb_1148_0 {sc : List Int} {f : Nat → List xm_V → xm_W → xm_R} {w : xm_W} {Q : Option xm_V × xm_W → Prop} {x0 : Nat} {x1 : Int} {x2 : Int}
  (h : if (x2 : Int) = 0 then (Q (some (.inl 6), w)) else (if (x2 : Int) = 1 then (Q (some (.inl 9), w)) else (if (x2 : Int) = 2 then (Q (some (.inl 35), w)) else (if (x2 : Int) = 3 then (Q (some (.inl 99), w)) else (xm_Oi (f 1110 [.inr (.inl (some x0)), .inl x1, .inl 4] w) (fun z2 w1 => Q (some (.inl z2), w1))))))) :
  xm_EQ (xm_old sc) xm_sta f xm_c1148 0 [some (.inr (.inl (some x0))), some (.inl x1), some (.inl x2)] [] w Q :=
  (xq_iload_n k_1148_0 rfl (xq_if_ne k_1148_1 h (fun h => (xq_bipush k_1148_2 (xq_goto k_1148_3 (xq_ireturn k_1148_23 h)))) (fun h => (xq_iload_n k_1148_4 rfl (xq_iconst k_1148_5 (xq_ic_ne k_1148_6 h (fun h => (xq_bipush k_1148_7 (xq_goto k_1148_8 (xq_ireturn k_1148_23 h)))) (fun h => (xq_iload_n k_1148_9 rfl (xq_iconst k_1148_10 (xq_ic_ne k_1148_11 h (fun h => (xq_bipush k_1148_12 (xq_goto k_1148_13 (xq_ireturn k_1148_23 h)))) (fun h => (xq_iload_n k_1148_14 rfl (xq_iconst k_1148_15 (xq_ic_ne k_1148_16 h (fun h => (xq_bipush k_1148_17 (xq_goto k_1148_18 (xq_ireturn k_1148_23 h)))) (fun h => (xq_aload_n k_1148_19 rfl (xq_iload_n k_1148_20 rfl (xq_iconst k_1148_21 (xq_invv1 k_1148_22 xr_1110 rfl rfl rfl h (fun z2 w1 h => (xq_ireturn k_1148_23 h)))))))))))))))))))))
/-- ShodBackwardsModel.set(III)I -/
theorem d_1149_0 : List.drop 0 xm_c1149 = xm_c1149 := rfl
theorem k_1149_0 : xm_gi xm_c1149 0 = some xm_e1149_0 := xm_gt d_1149_0
theorem d_1149_1 : List.drop 1 xm_c1149 = xm_c1149_1 := xm_dr d_1149_0
theorem k_1149_1 : xm_gi xm_c1149 1 = some xm_e1149_1 := xm_gt d_1149_1
theorem d_1149_2 : List.drop 2 xm_c1149 = xm_c1149_2 := xm_dr d_1149_1
theorem k_1149_2 : xm_gi xm_c1149 2 = some xm_e1149_2 := xm_gt d_1149_2
theorem d_1149_3 : List.drop 3 xm_c1149 = xm_c1149_3 := xm_dr d_1149_2
theorem k_1149_3 : xm_gi xm_c1149 3 = some xm_e1149_3 := xm_gt d_1149_3
theorem d_1149_4 : List.drop 4 xm_c1149 = xm_c1149_4 := xm_dr d_1149_3
theorem k_1149_4 : xm_gi xm_c1149 4 = some xm_e1149_4 := xm_gt d_1149_4
theorem d_1149_5 : List.drop 5 xm_c1149 = xm_c1149_5 := xm_dr d_1149_4
theorem k_1149_5 : xm_gi xm_c1149 5 = some xm_e1149_5 := xm_gt d_1149_5
theorem d_1149_6 : List.drop 6 xm_c1149 = xm_c1149_6 := xm_dr d_1149_5
theorem k_1149_6 : xm_gi xm_c1149 6 = some xm_e1149_6 := xm_gt d_1149_6
theorem d_1149_7 : List.drop 7 xm_c1149 = xm_c1149_7 := xm_dr d_1149_6
theorem k_1149_7 : xm_gi xm_c1149 7 = some xm_e1149_7 := xm_gt d_1149_7
theorem d_1149_8 : List.drop 8 xm_c1149 = xm_c1149_8 := xm_dr d_1149_7
theorem k_1149_8 : xm_gi xm_c1149 8 = some xm_e1149_8 := xm_gt d_1149_8
theorem d_1149_9 : List.drop 9 xm_c1149 = xm_c1149_9 := xm_dr d_1149_8
theorem k_1149_9 : xm_gi xm_c1149 9 = some xm_e1149_9 := xm_gt d_1149_9
theorem d_1149_10 : List.drop 10 xm_c1149 = xm_c1149_10 := xm_dr d_1149_9
theorem k_1149_10 : xm_gi xm_c1149 10 = some xm_e1149_10 := xm_gt d_1149_10
theorem d_1149_11 : List.drop 11 xm_c1149 = xm_c1149_11 := xm_dr d_1149_10
theorem k_1149_11 : xm_gi xm_c1149 11 = some xm_e1149_11 := xm_gt d_1149_11
theorem d_1149_12 : List.drop 12 xm_c1149 = xm_c1149_12 := xm_dr d_1149_11
theorem k_1149_12 : xm_gi xm_c1149 12 = some xm_e1149_12 := xm_gt d_1149_12
theorem d_1149_13 : List.drop 13 xm_c1149 = xm_c1149_13 := xm_dr d_1149_12
theorem k_1149_13 : xm_gi xm_c1149 13 = some xm_e1149_13 := xm_gt d_1149_13
theorem d_1149_14 : List.drop 14 xm_c1149 = xm_c1149_14 := xm_dr d_1149_13
theorem k_1149_14 : xm_gi xm_c1149 14 = some xm_e1149_14 := xm_gt d_1149_14
theorem d_1149_15 : List.drop 15 xm_c1149 = xm_c1149_15 := xm_dr d_1149_14
theorem k_1149_15 : xm_gi xm_c1149 15 = some xm_e1149_15 := xm_gt d_1149_15
theorem d_1149_16 : List.drop 16 xm_c1149 = xm_c1149_16 := xm_dr d_1149_15
theorem k_1149_16 : xm_gi xm_c1149 16 = some xm_e1149_16 := xm_gt d_1149_16
theorem d_1149_17 : List.drop 17 xm_c1149 = xm_c1149_17 := xm_dr d_1149_16
theorem k_1149_17 : xm_gi xm_c1149 17 = some xm_e1149_17 := xm_gt d_1149_17
theorem d_1149_18 : List.drop 18 xm_c1149 = xm_c1149_18 := xm_dr d_1149_17
theorem k_1149_18 : xm_gi xm_c1149 18 = some xm_e1149_18 := xm_gt d_1149_18
theorem d_1149_19 : List.drop 19 xm_c1149 = xm_c1149_19 := xm_dr d_1149_18
theorem k_1149_19 : xm_gi xm_c1149 19 = some xm_e1149_19 := xm_gt d_1149_19
theorem d_1149_20 : List.drop 20 xm_c1149 = xm_c1149_20 := xm_dr d_1149_19
theorem k_1149_20 : xm_gi xm_c1149 20 = some xm_e1149_20 := xm_gt d_1149_20
theorem d_1149_21 : List.drop 21 xm_c1149 = xm_c1149_21 := xm_dr d_1149_20
theorem k_1149_21 : xm_gi xm_c1149 21 = some xm_e1149_21 := xm_gt d_1149_21
theorem d_1149_22 : List.drop 22 xm_c1149 = xm_c1149_22 := xm_dr d_1149_21
theorem k_1149_22 : xm_gi xm_c1149 22 = some xm_e1149_22 := xm_gt d_1149_22
theorem d_1149_23 : List.drop 23 xm_c1149 = xm_c1149_23 := xm_dr d_1149_22
theorem k_1149_23 : xm_gi xm_c1149 23 = some xm_e1149_23 := xm_gt d_1149_23
theorem d_1149_24 : List.drop 24 xm_c1149 = xm_c1149_24 := xm_dr d_1149_23
theorem k_1149_24 : xm_gi xm_c1149 24 = some xm_e1149_24 := xm_gt d_1149_24
theorem d_1149_25 : List.drop 25 xm_c1149 = xm_c1149_25 := xm_dr d_1149_24
theorem k_1149_25 : xm_gi xm_c1149 25 = some xm_e1149_25 := xm_gt d_1149_25
theorem d_1149_26 : List.drop 26 xm_c1149 = xm_c1149_26 := xm_dr d_1149_25
theorem k_1149_26 : xm_gi xm_c1149 26 = some xm_e1149_26 := xm_gt d_1149_26
theorem d_1149_27 : List.drop 27 xm_c1149 = xm_c1149_27 := xm_dr d_1149_26
theorem k_1149_27 : xm_gi xm_c1149 27 = some xm_e1149_27 := xm_gt d_1149_27
theorem d_1149_28 : List.drop 28 xm_c1149 = xm_c1149_28 := xm_dr d_1149_27
theorem k_1149_28 : xm_gi xm_c1149 28 = some xm_e1149_28 := xm_gt d_1149_28
theorem d_1149_29 : List.drop 29 xm_c1149 = xm_c1149_29 := xm_dr d_1149_28
theorem k_1149_29 : xm_gi xm_c1149 29 = some xm_e1149_29 := xm_gt d_1149_29
theorem d_1149_30 : List.drop 30 xm_c1149 = xm_c1149_30 := xm_dr d_1149_29
theorem k_1149_30 : xm_gi xm_c1149 30 = some xm_e1149_30 := xm_gt d_1149_30
theorem d_1149_31 : List.drop 31 xm_c1149 = xm_c1149_31 := xm_dr d_1149_30
theorem k_1149_31 : xm_gi xm_c1149 31 = some xm_e1149_31 := xm_gt d_1149_31
theorem d_1149_32 : List.drop 32 xm_c1149 = xm_c1149_32 := xm_dr d_1149_31
theorem k_1149_32 : xm_gi xm_c1149 32 = some xm_e1149_32 := xm_gt d_1149_32
theorem d_1149_33 : List.drop 33 xm_c1149 = xm_c1149_33 := xm_dr d_1149_32
theorem k_1149_33 : xm_gi xm_c1149 33 = some xm_e1149_33 := xm_gt d_1149_33
theorem d_1149_34 : List.drop 34 xm_c1149 = xm_c1149_34 := xm_dr d_1149_33
theorem k_1149_34 : xm_gi xm_c1149 34 = some xm_e1149_34 := xm_gt d_1149_34
theorem xb_1149_0 {sc : List Int} {f : Nat → List xm_V → xm_W → xm_R} {w : xm_W} {Q : Option xm_V × xm_W → Prop} {x0 : Nat} {x1 : Int} {x2 : Int} {x3 : Int}
  (h : xm_Oi (f 1109 [.inr (.inl (some x0)), .inl x1] w) (fun z2 w1 => if (z2 : Int) = 0 then (xm_Oi (f 1102 [.inr (.inl (some x0)), .inl 1] w1) (fun z4 w3 => Q (some (.inl z4), w3))) else (xm_Oi (f 1103 [.inl x2, .inl 0, .inl 5] w1) (fun z6 w5 => if (z6 : Int) = 0 then (xm_Oi (f 1102 [.inr (.inl (some x0)), .inl 1] w5) (fun z8 w7 => Q (some (.inl z8), w7))) else (if (x2 : Int) = 4 then (xm_Oi (f 1102 [.inr (.inl (some x0)), .inl 1] w5) (fun z10 w9 => Q (some (.inl z10), w9))) else (xm_Oi (f 1148 [.inr (.inl (some x0)), .inl x1, .inl x2] w5) (fun z12 w11 => xm_Oi (f 1103 [.inl x3, .inl 0, .inl z12] w11) (fun z14 w13 => if (z14 : Int) = 0 then (xm_Oi (f 1102 [.inr (.inl (some x0)), .inl 1] w13) (fun z18 w17 => Q (some (.inl z18), w17))) else (xm_Oi (f 1113 [.inr (.inl (some x0)), .inl (xm_w ((xm_w (44 + (xm_w (18 * x1)))) + x2)), .inl x3] w13) (fun z16 w15 => Q (some (.inl z16), w15))))))))))) :
  xm_EQ (xm_old sc) xm_sta f xm_c1149 0 [some (.inr (.inl (some x0))), some (.inl x1), some (.inl x2), some (.inl x3)] [] w Q :=
  (xq_aload_n k_1149_0 rfl (xq_iload_n k_1149_1 rfl (xq_invv2 k_1149_2 xr_1109 rfl rfl rfl h (fun z2 w1 h => (xq_if_eq k_1149_3 h (fun h => (xq_aload_n k_1149_20 rfl (xq_iconst k_1149_21 (xq_invv1 k_1149_22 xr_1102 rfl rfl rfl h (fun z4 w3 h => (xq_ireturn k_1149_23 h)))))) (fun h => (xq_iload_n k_1149_4 rfl (xq_iconst k_1149_5 (xq_iconst k_1149_6 (xq_invs2 k_1149_7 xr_1103 rfl rfl rfl h (fun z6 w5 h => (xq_if_eq k_1149_8 h (fun h => (xq_aload_n k_1149_20 rfl (xq_iconst k_1149_21 (xq_invv1 k_1149_22 xr_1102 rfl rfl rfl h (fun z8 w7 h => (xq_ireturn k_1149_23 h)))))) (fun h => (xq_iload_n k_1149_9 rfl (xq_iconst k_1149_10 (xq_ic_eq k_1149_11 h (fun h => (xq_aload_n k_1149_20 rfl (xq_iconst k_1149_21 (xq_invv1 k_1149_22 xr_1102 rfl rfl rfl h (fun z10 w9 h => (xq_ireturn k_1149_23 h)))))) (fun h => (xq_iload_n k_1149_12 rfl (xq_iconst k_1149_13 (xq_aload_n k_1149_14 rfl (xq_iload_n k_1149_15 rfl (xq_iload_n k_1149_16 rfl (xq_invv1 k_1149_17 xr_1148 rfl rfl rfl h (fun z12 w11 h => (xq_invs2 k_1149_18 xr_1103 rfl rfl rfl h (fun z14 w13 h => (xq_if_ne k_1149_19 h (fun h => (xq_aload_n k_1149_20 rfl (xq_iconst k_1149_21 (xq_invv1 k_1149_22 xr_1102 rfl rfl rfl h (fun z18 w17 h => (xq_ireturn k_1149_23 h)))))) (fun h => (xq_aload_n k_1149_24 rfl (xq_bipush k_1149_25 (xq_bipush k_1149_26 (xq_iload_n k_1149_27 rfl (xq_imul k_1149_28 (xq_iadd k_1149_29 (xq_iload_n k_1149_30 rfl (xq_iadd k_1149_31 (xq_iload_n k_1149_32 rfl (xq_invv1 k_1149_33 xr_1113 rfl rfl rfl h (fun z16 w15 h => (xq_ireturn k_1149_34 h))))))))))))))))))))))))))))))))))))))))
/-- ShodBackwardsModel.whyNotWay(II)I -/
theorem d_1150_0 : List.drop 0 xm_c1150 = xm_c1150 := rfl
theorem k_1150_0 : xm_gi xm_c1150 0 = some xm_e1150_0 := xm_gt d_1150_0
theorem d_1150_1 : List.drop 1 xm_c1150 = xm_c1150_1 := xm_dr d_1150_0
theorem k_1150_1 : xm_gi xm_c1150 1 = some xm_e1150_1 := xm_gt d_1150_1
theorem d_1150_2 : List.drop 2 xm_c1150 = xm_c1150_2 := xm_dr d_1150_1
theorem k_1150_2 : xm_gi xm_c1150 2 = some xm_e1150_2 := xm_gt d_1150_2
theorem d_1150_3 : List.drop 3 xm_c1150 = xm_c1150_3 := xm_dr d_1150_2
theorem k_1150_3 : xm_gi xm_c1150 3 = some xm_e1150_3 := xm_gt d_1150_3
theorem d_1150_4 : List.drop 4 xm_c1150 = xm_c1150_4 := xm_dr d_1150_3
theorem k_1150_4 : xm_gi xm_c1150 4 = some xm_e1150_4 := xm_gt d_1150_4
theorem d_1150_5 : List.drop 5 xm_c1150 = xm_c1150_5 := xm_dr d_1150_4
theorem k_1150_5 : xm_gi xm_c1150 5 = some xm_e1150_5 := xm_gt d_1150_5
theorem d_1150_6 : List.drop 6 xm_c1150 = xm_c1150_6 := xm_dr d_1150_5
theorem k_1150_6 : xm_gi xm_c1150 6 = some xm_e1150_6 := xm_gt d_1150_6
theorem d_1150_7 : List.drop 7 xm_c1150 = xm_c1150_7 := xm_dr d_1150_6
theorem k_1150_7 : xm_gi xm_c1150 7 = some xm_e1150_7 := xm_gt d_1150_7
theorem d_1150_8 : List.drop 8 xm_c1150 = xm_c1150_8 := xm_dr d_1150_7
theorem k_1150_8 : xm_gi xm_c1150 8 = some xm_e1150_8 := xm_gt d_1150_8
theorem d_1150_9 : List.drop 9 xm_c1150 = xm_c1150_9 := xm_dr d_1150_8
theorem k_1150_9 : xm_gi xm_c1150 9 = some xm_e1150_9 := xm_gt d_1150_9
theorem d_1150_10 : List.drop 10 xm_c1150 = xm_c1150_10 := xm_dr d_1150_9
theorem k_1150_10 : xm_gi xm_c1150 10 = some xm_e1150_10 := xm_gt d_1150_10
theorem d_1150_11 : List.drop 11 xm_c1150 = xm_c1150_11 := xm_dr d_1150_10
theorem k_1150_11 : xm_gi xm_c1150 11 = some xm_e1150_11 := xm_gt d_1150_11
theorem d_1150_12 : List.drop 12 xm_c1150 = xm_c1150_12 := xm_dr d_1150_11
theorem k_1150_12 : xm_gi xm_c1150 12 = some xm_e1150_12 := xm_gt d_1150_12
theorem d_1150_13 : List.drop 13 xm_c1150 = xm_c1150_13 := xm_dr d_1150_12
theorem k_1150_13 : xm_gi xm_c1150 13 = some xm_e1150_13 := xm_gt d_1150_13
theorem d_1150_14 : List.drop 14 xm_c1150 = xm_c1150_14 := xm_dr d_1150_13
theorem k_1150_14 : xm_gi xm_c1150 14 = some xm_e1150_14 := xm_gt d_1150_14
theorem d_1150_15 : List.drop 15 xm_c1150 = xm_c1150_15 := xm_dr d_1150_14
theorem k_1150_15 : xm_gi xm_c1150 15 = some xm_e1150_15 := xm_gt d_1150_15
theorem d_1150_16 : List.drop 16 xm_c1150 = xm_c1150_16 := xm_dr d_1150_15
theorem k_1150_16 : xm_gi xm_c1150 16 = some xm_e1150_16 := xm_gt d_1150_16
theorem d_1150_17 : List.drop 17 xm_c1150 = xm_c1150_17 := xm_dr d_1150_16
theorem k_1150_17 : xm_gi xm_c1150 17 = some xm_e1150_17 := xm_gt d_1150_17
theorem d_1150_18 : List.drop 18 xm_c1150 = xm_c1150_18 := xm_dr d_1150_17
theorem k_1150_18 : xm_gi xm_c1150 18 = some xm_e1150_18 := xm_gt d_1150_18
theorem d_1150_19 : List.drop 19 xm_c1150 = xm_c1150_19 := xm_dr d_1150_18
theorem k_1150_19 : xm_gi xm_c1150 19 = some xm_e1150_19 := xm_gt d_1150_19
theorem d_1150_20 : List.drop 20 xm_c1150 = xm_c1150_20 := xm_dr d_1150_19
theorem k_1150_20 : xm_gi xm_c1150 20 = some xm_e1150_20 := xm_gt d_1150_20
theorem xb_1150_0 {sc : List Int} {f : Nat → List xm_V → xm_W → xm_R} {w : xm_W} {Q : Option xm_V × xm_W → Prop} {x0 : Nat} {x1 : Int} {x2 : Int}
  (h : xm_Oi (f 1109 [.inr (.inl (some x0)), .inl x1] w) (fun z2 w1 => if (z2 : Int) = 0 then (Q (some (.inl 1), w1)) else (xm_Oi (f 1103 [.inl x2, .inl 0, .inl 3] w1) (fun z4 w3 => if (z4 : Int) = 0 then (Q (some (.inl 1), w3)) else (xm_Oi (f 1110 [.inr (.inl (some x0)), .inl x1, .inl 4] w3) (fun z6 w5 => if (z6 : Int) = 12 then (Q (some (.inl 4), w5)) else (Q (some (.inl 0), w5)))))))) :
  xm_EQ (xm_old sc) xm_sta f xm_c1150 0 [some (.inr (.inl (some x0))), some (.inl x1), some (.inl x2)] [] w Q :=
  (xq_aload_n k_1150_0 rfl (xq_iload_n k_1150_1 rfl (xq_invv2 k_1150_2 xr_1109 rfl rfl rfl h (fun z2 w1 h => (xq_if_eq k_1150_3 h (fun h => (xq_iconst k_1150_9 (xq_goto k_1150_10 (xq_ireturn k_1150_20 h)))) (fun h => (xq_iload_n k_1150_4 rfl (xq_iconst k_1150_5 (xq_iconst k_1150_6 (xq_invs2 k_1150_7 xr_1103 rfl rfl rfl h (fun z4 w3 h => (xq_if_ne k_1150_8 h (fun h => (xq_iconst k_1150_9 (xq_goto k_1150_10 (xq_ireturn k_1150_20 h)))) (fun h => (xq_aload_n k_1150_11 rfl (xq_iload_n k_1150_12 rfl (xq_iconst k_1150_13 (xq_invv1 k_1150_14 xr_1110 rfl rfl rfl h (fun z6 w5 h => (xq_bipush k_1150_15 (xq_ic_ne k_1150_16 h (fun h => (xq_iconst k_1150_17 (xq_goto k_1150_18 (xq_ireturn k_1150_20 h)))) (fun h => (xq_iconst k_1150_19 (xq_ireturn k_1150_20 h)))))))))))))))))))))))
/-- ShodBackwardsModel.addWay(II)V -/
theorem d_1151_0 : List.drop 0 xm_c1151 = xm_c1151 := rfl
theorem k_1151_0 : xm_gi xm_c1151 0 = some xm_e1151_0 := xm_gt d_1151_0
theorem d_1151_1 : List.drop 1 xm_c1151 = xm_c1151_1 := xm_dr d_1151_0
theorem k_1151_1 : xm_gi xm_c1151 1 = some xm_e1151_1 := xm_gt d_1151_1
theorem d_1151_2 : List.drop 2 xm_c1151 = xm_c1151_2 := xm_dr d_1151_1
theorem k_1151_2 : xm_gi xm_c1151 2 = some xm_e1151_2 := xm_gt d_1151_2
theorem d_1151_3 : List.drop 3 xm_c1151 = xm_c1151_3 := xm_dr d_1151_2
theorem k_1151_3 : xm_gi xm_c1151 3 = some xm_e1151_3 := xm_gt d_1151_3
theorem d_1151_4 : List.drop 4 xm_c1151 = xm_c1151_4 := xm_dr d_1151_3
theorem k_1151_4 : xm_gi xm_c1151 4 = some xm_e1151_4 := xm_gt d_1151_4
theorem d_1151_5 : List.drop 5 xm_c1151 = xm_c1151_5 := xm_dr d_1151_4
theorem k_1151_5 : xm_gi xm_c1151 5 = some xm_e1151_5 := xm_gt d_1151_5
theorem d_1151_6 : List.drop 6 xm_c1151 = xm_c1151_6 := xm_dr d_1151_5
theorem k_1151_6 : xm_gi xm_c1151 6 = some xm_e1151_6 := xm_gt d_1151_6
theorem d_1151_7 : List.drop 7 xm_c1151 = xm_c1151_7 := xm_dr d_1151_6
theorem k_1151_7 : xm_gi xm_c1151 7 = some xm_e1151_7 := xm_gt d_1151_7
theorem d_1151_8 : List.drop 8 xm_c1151 = xm_c1151_8 := xm_dr d_1151_7
theorem k_1151_8 : xm_gi xm_c1151 8 = some xm_e1151_8 := xm_gt d_1151_8
theorem d_1151_9 : List.drop 9 xm_c1151 = xm_c1151_9 := xm_dr d_1151_8
theorem k_1151_9 : xm_gi xm_c1151 9 = some xm_e1151_9 := xm_gt d_1151_9
theorem d_1151_10 : List.drop 10 xm_c1151 = xm_c1151_10 := xm_dr d_1151_9
theorem k_1151_10 : xm_gi xm_c1151 10 = some xm_e1151_10 := xm_gt d_1151_10
theorem d_1151_11 : List.drop 11 xm_c1151 = xm_c1151_11 := xm_dr d_1151_10
theorem k_1151_11 : xm_gi xm_c1151 11 = some xm_e1151_11 := xm_gt d_1151_11
theorem d_1151_12 : List.drop 12 xm_c1151 = xm_c1151_12 := xm_dr d_1151_11
theorem k_1151_12 : xm_gi xm_c1151 12 = some xm_e1151_12 := xm_gt d_1151_12
theorem d_1151_13 : List.drop 13 xm_c1151 = xm_c1151_13 := xm_dr d_1151_12
theorem k_1151_13 : xm_gi xm_c1151 13 = some xm_e1151_13 := xm_gt d_1151_13
theorem d_1151_14 : List.drop 14 xm_c1151 = xm_c1151_14 := xm_dr d_1151_13
theorem k_1151_14 : xm_gi xm_c1151 14 = some xm_e1151_14 := xm_gt d_1151_14
theorem d_1151_15 : List.drop 15 xm_c1151 = xm_c1151_15 := xm_dr d_1151_14
theorem k_1151_15 : xm_gi xm_c1151 15 = some xm_e1151_15 := xm_gt d_1151_15
theorem d_1151_16 : List.drop 16 xm_c1151 = xm_c1151_16 := xm_dr d_1151_15
theorem k_1151_16 : xm_gi xm_c1151 16 = some xm_e1151_16 := xm_gt d_1151_16
theorem d_1151_17 : List.drop 17 xm_c1151 = xm_c1151_17 := xm_dr d_1151_16
theorem k_1151_17 : xm_gi xm_c1151 17 = some xm_e1151_17 := xm_gt d_1151_17
theorem d_1151_18 : List.drop 18 xm_c1151 = xm_c1151_18 := xm_dr d_1151_17
theorem k_1151_18 : xm_gi xm_c1151 18 = some xm_e1151_18 := xm_gt d_1151_18
theorem d_1151_19 : List.drop 19 xm_c1151 = xm_c1151_19 := xm_dr d_1151_18
theorem k_1151_19 : xm_gi xm_c1151 19 = some xm_e1151_19 := xm_gt d_1151_19
theorem d_1151_20 : List.drop 20 xm_c1151 = xm_c1151_20 := xm_dr d_1151_19
theorem k_1151_20 : xm_gi xm_c1151 20 = some xm_e1151_20 := xm_gt d_1151_20
theorem xb_1151_0 {sc : List Int} {f : Nat → List xm_V → xm_W → xm_R} {w : xm_W} {Q : Option xm_V × xm_W → Prop} {x0 : Nat} {x1 : Int} {x2 : Int}
  (h : xm_Oi (f 1110 [.inr (.inl (some x0)), .inl x1, .inl 4] w) (fun z2 w1 => xm_Ov (f 1111 [.inr (.inl (some x0)), .inl x1, .inl (xm_w (6 + z2)), .inl x2] w1) (fun w3 => xm_Oi (f 1110 [.inr (.inl (some x0)), .inl x1, .inl 4] w3) (fun z5 w4 => xm_Ov (f 1111 [.inr (.inl (some x0)), .inl x1, .inl 4, .inl (xm_w (z5 + 1))] w4) (fun w6 => Q (none, w6)))))) :
  xm_EQ (xm_old sc) xm_sta f xm_c1151 0 [some (.inr (.inl (some x0))), some (.inl x1), some (.inl x2)] [] w Q :=
  (xq_aload_n k_1151_0 rfl (xq_iload_n k_1151_1 rfl (xq_bipush k_1151_2 (xq_aload_n k_1151_3 rfl (xq_iload_n k_1151_4 rfl (xq_iconst k_1151_5 (xq_invv1 k_1151_6 xr_1110 rfl rfl rfl h (fun z2 w1 h => (xq_iadd k_1151_7 (xq_iload_n k_1151_8 rfl (xq_invv0 k_1151_9 xr_1111 rfl rfl rfl h (fun w3 h => (xq_aload_n k_1151_10 rfl (xq_iload_n k_1151_11 rfl (xq_iconst k_1151_12 (xq_aload_n k_1151_13 rfl (xq_iload_n k_1151_14 rfl (xq_iconst k_1151_15 (xq_invv1 k_1151_16 xr_1110 rfl rfl rfl h (fun z5 w4 h => (xq_iconst k_1151_17 (xq_iadd k_1151_18 (xq_invv0 k_1151_19 xr_1111 rfl rfl rfl h (fun w6 h => (xq_return k_1151_20 h)))))))))))))))))))))))))
/-- ShodBackwardsModel.way(II)I -/
theorem d_1152_0 : List.drop 0 xm_c1152 = xm_c1152 := rfl
theorem k_1152_0 : xm_gi xm_c1152 0 = some xm_e1152_0 := xm_gt d_1152_0
theorem d_1152_1 : List.drop 1 xm_c1152 = xm_c1152_1 := xm_dr d_1152_0
theorem k_1152_1 : xm_gi xm_c1152 1 = some xm_e1152_1 := xm_gt d_1152_1
theorem d_1152_2 : List.drop 2 xm_c1152 = xm_c1152_2 := xm_dr d_1152_1
theorem k_1152_2 : xm_gi xm_c1152 2 = some xm_e1152_2 := xm_gt d_1152_2
theorem d_1152_3 : List.drop 3 xm_c1152 = xm_c1152_3 := xm_dr d_1152_2
theorem k_1152_3 : xm_gi xm_c1152 3 = some xm_e1152_3 := xm_gt d_1152_3
theorem d_1152_4 : List.drop 4 xm_c1152 = xm_c1152_4 := xm_dr d_1152_3
theorem k_1152_4 : xm_gi xm_c1152 4 = some xm_e1152_4 := xm_gt d_1152_4
theorem d_1152_5 : List.drop 5 xm_c1152 = xm_c1152_5 := xm_dr d_1152_4
theorem k_1152_5 : xm_gi xm_c1152 5 = some xm_e1152_5 := xm_gt d_1152_5
theorem d_1152_6 : List.drop 6 xm_c1152 = xm_c1152_6 := xm_dr d_1152_5
theorem k_1152_6 : xm_gi xm_c1152 6 = some xm_e1152_6 := xm_gt d_1152_6
theorem d_1152_7 : List.drop 7 xm_c1152 = xm_c1152_7 := xm_dr d_1152_6
theorem k_1152_7 : xm_gi xm_c1152 7 = some xm_e1152_7 := xm_gt d_1152_7
theorem d_1152_8 : List.drop 8 xm_c1152 = xm_c1152_8 := xm_dr d_1152_7
theorem k_1152_8 : xm_gi xm_c1152 8 = some xm_e1152_8 := xm_gt d_1152_8
theorem d_1152_9 : List.drop 9 xm_c1152 = xm_c1152_9 := xm_dr d_1152_8
theorem k_1152_9 : xm_gi xm_c1152 9 = some xm_e1152_9 := xm_gt d_1152_9
theorem d_1152_10 : List.drop 10 xm_c1152 = xm_c1152_10 := xm_dr d_1152_9
theorem k_1152_10 : xm_gi xm_c1152 10 = some xm_e1152_10 := xm_gt d_1152_10
theorem d_1152_11 : List.drop 11 xm_c1152 = xm_c1152_11 := xm_dr d_1152_10
theorem k_1152_11 : xm_gi xm_c1152 11 = some xm_e1152_11 := xm_gt d_1152_11
theorem d_1152_12 : List.drop 12 xm_c1152 = xm_c1152_12 := xm_dr d_1152_11
theorem k_1152_12 : xm_gi xm_c1152 12 = some xm_e1152_12 := xm_gt d_1152_12
theorem d_1152_13 : List.drop 13 xm_c1152 = xm_c1152_13 := xm_dr d_1152_12
theorem k_1152_13 : xm_gi xm_c1152 13 = some xm_e1152_13 := xm_gt d_1152_13
theorem d_1152_14 : List.drop 14 xm_c1152 = xm_c1152_14 := xm_dr d_1152_13
theorem k_1152_14 : xm_gi xm_c1152 14 = some xm_e1152_14 := xm_gt d_1152_14
theorem d_1152_15 : List.drop 15 xm_c1152 = xm_c1152_15 := xm_dr d_1152_14
theorem k_1152_15 : xm_gi xm_c1152 15 = some xm_e1152_15 := xm_gt d_1152_15
theorem d_1152_16 : List.drop 16 xm_c1152 = xm_c1152_16 := xm_dr d_1152_15
theorem k_1152_16 : xm_gi xm_c1152 16 = some xm_e1152_16 := xm_gt d_1152_16
theorem d_1152_17 : List.drop 17 xm_c1152 = xm_c1152_17 := xm_dr d_1152_16
theorem k_1152_17 : xm_gi xm_c1152 17 = some xm_e1152_17 := xm_gt d_1152_17
theorem d_1152_18 : List.drop 18 xm_c1152 = xm_c1152_18 := xm_dr d_1152_17
theorem k_1152_18 : xm_gi xm_c1152 18 = some xm_e1152_18 := xm_gt d_1152_18
theorem d_1152_19 : List.drop 19 xm_c1152 = xm_c1152_19 := xm_dr d_1152_18
theorem k_1152_19 : xm_gi xm_c1152 19 = some xm_e1152_19 := xm_gt d_1152_19
theorem xb_1152_0 {sc : List Int} {f : Nat → List xm_V → xm_W → xm_R} {w : xm_W} {Q : Option xm_V × xm_W → Prop} {x0 : Nat} {x1 : Int} {x2 : Int}
  (h : xm_Oi (f 1150 [.inr (.inl (some x0)), .inl x1, .inl x2] w) (fun z2 w1 => if (0 : Int) < z2 then (xm_Oi (f 1102 [.inr (.inl (some x0)), .inl z2] w1) (fun z7 w6 => Q (some (.inl z7), w6))) else (xm_Ov (f 1151 [.inr (.inl (some x0)), .inl x1, .inl x2] w1) (fun w3 => xm_Oi (f 1110 [.inr (.inl (some x0)), .inl x1, .inl 4] w3) (fun z5 w4 => Q (some (.inl z5), w4)))))) :
  xm_EQ (xm_old sc) xm_sta f xm_c1152 0 [some (.inr (.inl (some x0))), some (.inl x1), some (.inl x2), none] [] w Q :=
  (xq_aload_n k_1152_0 rfl (xq_iload_n k_1152_1 rfl (xq_iload_n k_1152_2 rfl (xq_invv1 k_1152_3 xr_1150 rfl rfl rfl h (fun z2 w1 h => (xq_istore_n k_1152_4 rfl (xq_iload_n k_1152_5 rfl (xq_if_le k_1152_6 h (fun h => (xq_aload_n k_1152_7 rfl (xq_iload_n k_1152_8 rfl (xq_invv1 k_1152_9 xr_1102 rfl rfl rfl h (fun z7 w6 h => (xq_ireturn k_1152_10 h)))))) (fun h => (xq_aload_n k_1152_11 rfl (xq_iload_n k_1152_12 rfl (xq_iload_n k_1152_13 rfl (xq_invv0 k_1152_14 xr_1151 rfl rfl rfl h (fun w3 h => (xq_aload_n k_1152_15 rfl (xq_iload_n k_1152_16 rfl (xq_iconst k_1152_17 (xq_invv1 k_1152_18 xr_1110 rfl rfl rfl h (fun z5 w4 h => (xq_ireturn k_1152_19 h))))))))))))))))))))
/-- ShodBackwardsModel.halt(I)I -/
theorem d_1153_0 : List.drop 0 xm_c1153 = xm_c1153 := rfl
theorem k_1153_0 : xm_gi xm_c1153 0 = some xm_e1153_0 := xm_gt d_1153_0
theorem d_1153_1 : List.drop 1 xm_c1153 = xm_c1153_1 := xm_dr d_1153_0
theorem k_1153_1 : xm_gi xm_c1153 1 = some xm_e1153_1 := xm_gt d_1153_1
theorem d_1153_2 : List.drop 2 xm_c1153 = xm_c1153_2 := xm_dr d_1153_1
theorem k_1153_2 : xm_gi xm_c1153 2 = some xm_e1153_2 := xm_gt d_1153_2
theorem d_1153_3 : List.drop 3 xm_c1153 = xm_c1153_3 := xm_dr d_1153_2
theorem k_1153_3 : xm_gi xm_c1153 3 = some xm_e1153_3 := xm_gt d_1153_3
theorem d_1153_4 : List.drop 4 xm_c1153 = xm_c1153_4 := xm_dr d_1153_3
theorem k_1153_4 : xm_gi xm_c1153 4 = some xm_e1153_4 := xm_gt d_1153_4
theorem d_1153_5 : List.drop 5 xm_c1153 = xm_c1153_5 := xm_dr d_1153_4
theorem k_1153_5 : xm_gi xm_c1153 5 = some xm_e1153_5 := xm_gt d_1153_5
theorem d_1153_6 : List.drop 6 xm_c1153 = xm_c1153_6 := xm_dr d_1153_5
theorem k_1153_6 : xm_gi xm_c1153 6 = some xm_e1153_6 := xm_gt d_1153_6
theorem d_1153_7 : List.drop 7 xm_c1153 = xm_c1153_7 := xm_dr d_1153_6
theorem k_1153_7 : xm_gi xm_c1153 7 = some xm_e1153_7 := xm_gt d_1153_7
theorem d_1153_8 : List.drop 8 xm_c1153 = xm_c1153_8 := xm_dr d_1153_7
theorem k_1153_8 : xm_gi xm_c1153 8 = some xm_e1153_8 := xm_gt d_1153_8
theorem d_1153_9 : List.drop 9 xm_c1153 = xm_c1153_9 := xm_dr d_1153_8
theorem k_1153_9 : xm_gi xm_c1153 9 = some xm_e1153_9 := xm_gt d_1153_9
theorem d_1153_10 : List.drop 10 xm_c1153 = xm_c1153_10 := xm_dr d_1153_9
theorem k_1153_10 : xm_gi xm_c1153 10 = some xm_e1153_10 := xm_gt d_1153_10
theorem d_1153_11 : List.drop 11 xm_c1153 = xm_c1153_11 := xm_dr d_1153_10
theorem k_1153_11 : xm_gi xm_c1153 11 = some xm_e1153_11 := xm_gt d_1153_11
theorem d_1153_12 : List.drop 12 xm_c1153 = xm_c1153_12 := xm_dr d_1153_11
theorem k_1153_12 : xm_gi xm_c1153 12 = some xm_e1153_12 := xm_gt d_1153_12
theorem d_1153_13 : List.drop 13 xm_c1153 = xm_c1153_13 := xm_dr d_1153_12
theorem k_1153_13 : xm_gi xm_c1153 13 = some xm_e1153_13 := xm_gt d_1153_13
theorem d_1153_14 : List.drop 14 xm_c1153 = xm_c1153_14 := xm_dr d_1153_13
theorem k_1153_14 : xm_gi xm_c1153 14 = some xm_e1153_14 := xm_gt d_1153_14
theorem d_1153_15 : List.drop 15 xm_c1153 = xm_c1153_15 := xm_dr d_1153_14
theorem k_1153_15 : xm_gi xm_c1153 15 = some xm_e1153_15 := xm_gt d_1153_15
theorem d_1153_16 : List.drop 16 xm_c1153 = xm_c1153_16 := xm_dr d_1153_15
theorem k_1153_16 : xm_gi xm_c1153 16 = some xm_e1153_16 := xm_gt d_1153_16
theorem d_1153_17 : List.drop 17 xm_c1153 = xm_c1153_17 := xm_dr d_1153_16
theorem k_1153_17 : xm_gi xm_c1153 17 = some xm_e1153_17 := xm_gt d_1153_17
theorem d_1153_18 : List.drop 18 xm_c1153 = xm_c1153_18 := xm_dr d_1153_17
theorem k_1153_18 : xm_gi xm_c1153 18 = some xm_e1153_18 := xm_gt d_1153_18
theorem d_1153_19 : List.drop 19 xm_c1153 = xm_c1153_19 := xm_dr d_1153_18
theorem k_1153_19 : xm_gi xm_c1153 19 = some xm_e1153_19 := xm_gt d_1153_19
theorem d_1153_20 : List.drop 20 xm_c1153 = xm_c1153_20 := xm_dr d_1153_19
theorem k_1153_20 : xm_gi xm_c1153 20 = some xm_e1153_20 := xm_gt d_1153_20
theorem d_1153_21 : List.drop 21 xm_c1153 = xm_c1153_21 := xm_dr d_1153_20
theorem k_1153_21 : xm_gi xm_c1153 21 = some xm_e1153_21 := xm_gt d_1153_21
theorem d_1153_22 : List.drop 22 xm_c1153 = xm_c1153_22 := xm_dr d_1153_21
theorem k_1153_22 : xm_gi xm_c1153 22 = some xm_e1153_22 := xm_gt d_1153_22
theorem d_1153_23 : List.drop 23 xm_c1153 = xm_c1153_23 := xm_dr d_1153_22
theorem k_1153_23 : xm_gi xm_c1153 23 = some xm_e1153_23 := xm_gt d_1153_23
theorem d_1153_24 : List.drop 24 xm_c1153 = xm_c1153_24 := xm_dr d_1153_23
theorem k_1153_24 : xm_gi xm_c1153 24 = some xm_e1153_24 := xm_gt d_1153_24
theorem xb_1153_0 {sc : List Int} {f : Nat → List xm_V → xm_W → xm_R} {w : xm_W} {Q : Option xm_V × xm_W → Prop} {x0 : Nat} {x1 : Int}
  (h : xm_Oi (f 1109 [.inr (.inl (some x0)), .inl x1] w) (fun z2 w1 => if (z2 : Int) = 0 then (xm_Oi (f 1102 [.inr (.inl (some x0)), .inl 1] w1) (fun z8 w7 => Q (some (.inl z8), w7))) else (xm_Oi (f 1110 [.inr (.inl (some x0)), .inl x1, .inl 4] w1) (fun z4 w3 => xm_Ov (f 1111 [.inr (.inl (some x0)), .inl x1, .inl 4, .inl 0] w3) (fun w5 => xm_Ov (f 1111 [.inr (.inl (some x0)), .inl x1, .inl 5, .inl 0] w5) (fun w6 => Q (some (.inl z4), w6))))))) :
  xm_EQ (xm_old sc) xm_sta f xm_c1153 0 [some (.inr (.inl (some x0))), some (.inl x1), none] [] w Q :=
  (xq_aload_n k_1153_0 rfl (xq_iload_n k_1153_1 rfl (xq_invv2 k_1153_2 xr_1109 rfl rfl rfl h (fun z2 w1 h => (xq_if_ne k_1153_3 h (fun h => (xq_aload_n k_1153_4 rfl (xq_iconst k_1153_5 (xq_invv1 k_1153_6 xr_1102 rfl rfl rfl h (fun z8 w7 h => (xq_ireturn k_1153_7 h)))))) (fun h => (xq_aload_n k_1153_8 rfl (xq_iload_n k_1153_9 rfl (xq_iconst k_1153_10 (xq_invv1 k_1153_11 xr_1110 rfl rfl rfl h (fun z4 w3 h => (xq_istore_n k_1153_12 rfl (xq_aload_n k_1153_13 rfl (xq_iload_n k_1153_14 rfl (xq_iconst k_1153_15 (xq_iconst k_1153_16 (xq_invv0 k_1153_17 xr_1111 rfl rfl rfl h (fun w5 h => (xq_aload_n k_1153_18 rfl (xq_iload_n k_1153_19 rfl (xq_iconst k_1153_20 (xq_iconst k_1153_21 (xq_invv0 k_1153_22 xr_1111 rfl rfl rfl h (fun w6 h => (xq_iload_n k_1153_23 rfl (xq_ireturn k_1153_24 h))))))))))))))))))))))))))
/-- ShodBackwardsModel.leaves(III)V -/
theorem d_1154_0 : List.drop 0 xm_c1154 = xm_c1154 := rfl
theorem k_1154_0 : xm_gi xm_c1154 0 = some xm_e1154_0 := xm_gt d_1154_0
theorem d_1154_1 : List.drop 1 xm_c1154 = xm_c1154_1 := xm_dr d_1154_0
theorem k_1154_1 : xm_gi xm_c1154 1 = some xm_e1154_1 := xm_gt d_1154_1
theorem d_1154_2 : List.drop 2 xm_c1154 = xm_c1154_2 := xm_dr d_1154_1
theorem k_1154_2 : xm_gi xm_c1154 2 = some xm_e1154_2 := xm_gt d_1154_2
theorem d_1154_3 : List.drop 3 xm_c1154 = xm_c1154_3 := xm_dr d_1154_2
theorem k_1154_3 : xm_gi xm_c1154 3 = some xm_e1154_3 := xm_gt d_1154_3
theorem d_1154_4 : List.drop 4 xm_c1154 = xm_c1154_4 := xm_dr d_1154_3
theorem k_1154_4 : xm_gi xm_c1154 4 = some xm_e1154_4 := xm_gt d_1154_4
theorem d_1154_5 : List.drop 5 xm_c1154 = xm_c1154_5 := xm_dr d_1154_4
theorem k_1154_5 : xm_gi xm_c1154 5 = some xm_e1154_5 := xm_gt d_1154_5
theorem d_1154_6 : List.drop 6 xm_c1154 = xm_c1154_6 := xm_dr d_1154_5
theorem k_1154_6 : xm_gi xm_c1154 6 = some xm_e1154_6 := xm_gt d_1154_6
theorem d_1154_7 : List.drop 7 xm_c1154 = xm_c1154_7 := xm_dr d_1154_6
theorem k_1154_7 : xm_gi xm_c1154 7 = some xm_e1154_7 := xm_gt d_1154_7
theorem d_1154_8 : List.drop 8 xm_c1154 = xm_c1154_8 := xm_dr d_1154_7
theorem k_1154_8 : xm_gi xm_c1154 8 = some xm_e1154_8 := xm_gt d_1154_8
theorem d_1154_9 : List.drop 9 xm_c1154 = xm_c1154_9 := xm_dr d_1154_8
theorem k_1154_9 : xm_gi xm_c1154 9 = some xm_e1154_9 := xm_gt d_1154_9
theorem d_1154_10 : List.drop 10 xm_c1154 = xm_c1154_10 := xm_dr d_1154_9
theorem k_1154_10 : xm_gi xm_c1154 10 = some xm_e1154_10 := xm_gt d_1154_10
theorem d_1154_11 : List.drop 11 xm_c1154 = xm_c1154_11 := xm_dr d_1154_10
theorem k_1154_11 : xm_gi xm_c1154 11 = some xm_e1154_11 := xm_gt d_1154_11
theorem d_1154_12 : List.drop 12 xm_c1154 = xm_c1154_12 := xm_dr d_1154_11
theorem k_1154_12 : xm_gi xm_c1154 12 = some xm_e1154_12 := xm_gt d_1154_12
theorem d_1154_13 : List.drop 13 xm_c1154 = xm_c1154_13 := xm_dr d_1154_12
theorem k_1154_13 : xm_gi xm_c1154 13 = some xm_e1154_13 := xm_gt d_1154_13
theorem d_1154_14 : List.drop 14 xm_c1154 = xm_c1154_14 := xm_dr d_1154_13
theorem k_1154_14 : xm_gi xm_c1154 14 = some xm_e1154_14 := xm_gt d_1154_14
theorem d_1154_15 : List.drop 15 xm_c1154 = xm_c1154_15 := xm_dr d_1154_14
theorem k_1154_15 : xm_gi xm_c1154 15 = some xm_e1154_15 := xm_gt d_1154_15
theorem d_1154_16 : List.drop 16 xm_c1154 = xm_c1154_16 := xm_dr d_1154_15
theorem k_1154_16 : xm_gi xm_c1154 16 = some xm_e1154_16 := xm_gt d_1154_16
theorem d_1154_17 : List.drop 17 xm_c1154 = xm_c1154_17 := xm_dr d_1154_16
theorem k_1154_17 : xm_gi xm_c1154 17 = some xm_e1154_17 := xm_gt d_1154_17
theorem d_1154_18 : List.drop 18 xm_c1154 = xm_c1154_18 := xm_dr d_1154_17
theorem k_1154_18 : xm_gi xm_c1154 18 = some xm_e1154_18 := xm_gt d_1154_18
theorem d_1154_19 : List.drop 19 xm_c1154 = xm_c1154_19 := xm_dr d_1154_18
theorem k_1154_19 : xm_gi xm_c1154 19 = some xm_e1154_19 := xm_gt d_1154_19
theorem d_1154_20 : List.drop 20 xm_c1154 = xm_c1154_20 := xm_dr d_1154_19
theorem k_1154_20 : xm_gi xm_c1154 20 = some xm_e1154_20 := xm_gt d_1154_20
theorem d_1154_21 : List.drop 21 xm_c1154 = xm_c1154_21 := xm_dr d_1154_20
theorem k_1154_21 : xm_gi xm_c1154 21 = some xm_e1154_21 := xm_gt d_1154_21
theorem d_1154_22 : List.drop 22 xm_c1154 = xm_c1154_22 := xm_dr d_1154_21
theorem k_1154_22 : xm_gi xm_c1154 22 = some xm_e1154_22 := xm_gt d_1154_22
theorem d_1154_23 : List.drop 23 xm_c1154 = xm_c1154_23 := xm_dr d_1154_22
theorem k_1154_23 : xm_gi xm_c1154 23 = some xm_e1154_23 := xm_gt d_1154_23
theorem d_1154_24 : List.drop 24 xm_c1154 = xm_c1154_24 := xm_dr d_1154_23
theorem k_1154_24 : xm_gi xm_c1154 24 = some xm_e1154_24 := xm_gt d_1154_24
theorem d_1154_25 : List.drop 25 xm_c1154 = xm_c1154_25 := xm_dr d_1154_24
theorem k_1154_25 : xm_gi xm_c1154 25 = some xm_e1154_25 := xm_gt d_1154_25
theorem d_1154_26 : List.drop 26 xm_c1154 = xm_c1154_26 := xm_dr d_1154_25
theorem k_1154_26 : xm_gi xm_c1154 26 = some xm_e1154_26 := xm_gt d_1154_26
theorem d_1154_27 : List.drop 27 xm_c1154 = xm_c1154_27 := xm_dr d_1154_26
theorem k_1154_27 : xm_gi xm_c1154 27 = some xm_e1154_27 := xm_gt d_1154_27
theorem d_1154_28 : List.drop 28 xm_c1154 = xm_c1154_28 := xm_dr d_1154_27
theorem k_1154_28 : xm_gi xm_c1154 28 = some xm_e1154_28 := xm_gt d_1154_28
theorem d_1154_29 : List.drop 29 xm_c1154 = xm_c1154_29 := xm_dr d_1154_28
theorem k_1154_29 : xm_gi xm_c1154 29 = some xm_e1154_29 := xm_gt d_1154_29
theorem d_1154_30 : List.drop 30 xm_c1154 = xm_c1154_30 := xm_dr d_1154_29
theorem k_1154_30 : xm_gi xm_c1154 30 = some xm_e1154_30 := xm_gt d_1154_30
theorem d_1154_31 : List.drop 31 xm_c1154 = xm_c1154_31 := xm_dr d_1154_30
theorem k_1154_31 : xm_gi xm_c1154 31 = some xm_e1154_31 := xm_gt d_1154_31
theorem d_1154_32 : List.drop 32 xm_c1154 = xm_c1154_32 := xm_dr d_1154_31
theorem k_1154_32 : xm_gi xm_c1154 32 = some xm_e1154_32 := xm_gt d_1154_32
theorem d_1154_33 : List.drop 33 xm_c1154 = xm_c1154_33 := xm_dr d_1154_32
theorem k_1154_33 : xm_gi xm_c1154 33 = some xm_e1154_33 := xm_gt d_1154_33
theorem d_1154_34 : List.drop 34 xm_c1154 = xm_c1154_34 := xm_dr d_1154_33
theorem k_1154_34 : xm_gi xm_c1154 34 = some xm_e1154_34 := xm_gt d_1154_34
theorem d_1154_35 : List.drop 35 xm_c1154 = xm_c1154_35 := xm_dr d_1154_34
theorem k_1154_35 : xm_gi xm_c1154 35 = some xm_e1154_35 := xm_gt d_1154_35
theorem d_1154_36 : List.drop 36 xm_c1154 = xm_c1154_36 := xm_dr d_1154_35
theorem k_1154_36 : xm_gi xm_c1154 36 = some xm_e1154_36 := xm_gt d_1154_36
theorem d_1154_37 : List.drop 37 xm_c1154 = xm_c1154_37 := xm_dr d_1154_36
theorem k_1154_37 : xm_gi xm_c1154 37 = some xm_e1154_37 := xm_gt d_1154_37
theorem d_1154_38 : List.drop 38 xm_c1154 = xm_c1154_38 := xm_dr d_1154_37
theorem k_1154_38 : xm_gi xm_c1154 38 = some xm_e1154_38 := xm_gt d_1154_38
theorem d_1154_39 : List.drop 39 xm_c1154 = xm_c1154_39 := xm_dr d_1154_38
theorem k_1154_39 : xm_gi xm_c1154 39 = some xm_e1154_39 := xm_gt d_1154_39
theorem d_1154_40 : List.drop 40 xm_c1154 = xm_c1154_40 := xm_dr d_1154_39
theorem k_1154_40 : xm_gi xm_c1154 40 = some xm_e1154_40 := xm_gt d_1154_40
theorem d_1154_41 : List.drop 41 xm_c1154 = xm_c1154_41 := xm_dr d_1154_40
theorem k_1154_41 : xm_gi xm_c1154 41 = some xm_e1154_41 := xm_gt d_1154_41
theorem d_1154_42 : List.drop 42 xm_c1154 = xm_c1154_42 := xm_dr d_1154_41
theorem k_1154_42 : xm_gi xm_c1154 42 = some xm_e1154_42 := xm_gt d_1154_42
theorem d_1154_43 : List.drop 43 xm_c1154 = xm_c1154_43 := xm_dr d_1154_42
theorem k_1154_43 : xm_gi xm_c1154 43 = some xm_e1154_43 := xm_gt d_1154_43
theorem d_1154_44 : List.drop 44 xm_c1154 = xm_c1154_44 := xm_dr d_1154_43
theorem k_1154_44 : xm_gi xm_c1154 44 = some xm_e1154_44 := xm_gt d_1154_44
theorem d_1154_45 : List.drop 45 xm_c1154 = xm_c1154_45 := xm_dr d_1154_44
theorem k_1154_45 : xm_gi xm_c1154 45 = some xm_e1154_45 := xm_gt d_1154_45
theorem d_1154_46 : List.drop 46 xm_c1154 = xm_c1154_46 := xm_dr d_1154_45
theorem k_1154_46 : xm_gi xm_c1154 46 = some xm_e1154_46 := xm_gt d_1154_46
theorem d_1154_47 : List.drop 47 xm_c1154 = xm_c1154_47 := xm_dr d_1154_46
theorem k_1154_47 : xm_gi xm_c1154 47 = some xm_e1154_47 := xm_gt d_1154_47
theorem d_1154_48 : List.drop 48 xm_c1154 = xm_c1154_48 := xm_dr d_1154_47
theorem k_1154_48 : xm_gi xm_c1154 48 = some xm_e1154_48 := xm_gt d_1154_48
theorem d_1154_49 : List.drop 49 xm_c1154 = xm_c1154_49 := xm_dr d_1154_48
theorem k_1154_49 : xm_gi xm_c1154 49 = some xm_e1154_49 := xm_gt d_1154_49
theorem d_1154_50 : List.drop 50 xm_c1154 = xm_c1154_50 := xm_dr d_1154_49
theorem k_1154_50 : xm_gi xm_c1154 50 = some xm_e1154_50 := xm_gt d_1154_50
theorem d_1154_51 : List.drop 51 xm_c1154 = xm_c1154_51 := xm_dr d_1154_50
theorem k_1154_51 : xm_gi xm_c1154 51 = some xm_e1154_51 := xm_gt d_1154_51
theorem d_1154_52 : List.drop 52 xm_c1154 = xm_c1154_52 := xm_dr d_1154_51
theorem k_1154_52 : xm_gi xm_c1154 52 = some xm_e1154_52 := xm_gt d_1154_52
theorem d_1154_53 : List.drop 53 xm_c1154 = xm_c1154_53 := xm_dr d_1154_52
theorem k_1154_53 : xm_gi xm_c1154 53 = some xm_e1154_53 := xm_gt d_1154_53
theorem d_1154_54 : List.drop 54 xm_c1154 = xm_c1154_54 := xm_dr d_1154_53
theorem k_1154_54 : xm_gi xm_c1154 54 = some xm_e1154_54 := xm_gt d_1154_54
theorem d_1154_55 : List.drop 55 xm_c1154 = xm_c1154_55 := xm_dr d_1154_54
theorem k_1154_55 : xm_gi xm_c1154 55 = some xm_e1154_55 := xm_gt d_1154_55
theorem d_1154_56 : List.drop 56 xm_c1154 = xm_c1154_56 := xm_dr d_1154_55
theorem k_1154_56 : xm_gi xm_c1154 56 = some xm_e1154_56 := xm_gt d_1154_56
theorem d_1154_57 : List.drop 57 xm_c1154 = xm_c1154_57 := xm_dr d_1154_56
theorem k_1154_57 : xm_gi xm_c1154 57 = some xm_e1154_57 := xm_gt d_1154_57
theorem d_1154_58 : List.drop 58 xm_c1154 = xm_c1154_58 := xm_dr d_1154_57
theorem k_1154_58 : xm_gi xm_c1154 58 = some xm_e1154_58 := xm_gt d_1154_58
theorem d_1154_59 : List.drop 59 xm_c1154 = xm_c1154_59 := xm_dr d_1154_58
theorem k_1154_59 : xm_gi xm_c1154 59 = some xm_e1154_59 := xm_gt d_1154_59
theorem d_1154_60 : List.drop 60 xm_c1154 = xm_c1154_60 := xm_dr d_1154_59
theorem k_1154_60 : xm_gi xm_c1154 60 = some xm_e1154_60 := xm_gt d_1154_60
theorem d_1154_61 : List.drop 61 xm_c1154 = xm_c1154_61 := xm_dr d_1154_60
theorem k_1154_61 : xm_gi xm_c1154 61 = some xm_e1154_61 := xm_gt d_1154_61
theorem d_1154_62 : List.drop 62 xm_c1154 = xm_c1154_62 := xm_dr d_1154_61
theorem k_1154_62 : xm_gi xm_c1154 62 = some xm_e1154_62 := xm_gt d_1154_62
theorem d_1154_63 : List.drop 63 xm_c1154 = xm_c1154_63 := xm_dr d_1154_62
theorem k_1154_63 : xm_gi xm_c1154 63 = some xm_e1154_63 := xm_gt d_1154_63
theorem d_1154_64 : List.drop 64 xm_c1154 = xm_c1154_64 := xm_dr d_1154_63
theorem k_1154_64 : xm_gi xm_c1154 64 = some xm_e1154_64 := xm_gt d_1154_64
theorem d_1154_65 : List.drop 65 xm_c1154 = xm_c1154_65 := xm_dr d_1154_64
theorem k_1154_65 : xm_gi xm_c1154 65 = some xm_e1154_65 := xm_gt d_1154_65
theorem d_1154_66 : List.drop 66 xm_c1154 = xm_c1154_66 := xm_dr d_1154_65
theorem k_1154_66 : xm_gi xm_c1154 66 = some xm_e1154_66 := xm_gt d_1154_66
theorem d_1154_67 : List.drop 67 xm_c1154 = xm_c1154_67 := xm_dr d_1154_66
theorem k_1154_67 : xm_gi xm_c1154 67 = some xm_e1154_67 := xm_gt d_1154_67
theorem d_1154_68 : List.drop 68 xm_c1154 = xm_c1154_68 := xm_dr d_1154_67
theorem k_1154_68 : xm_gi xm_c1154 68 = some xm_e1154_68 := xm_gt d_1154_68
theorem d_1154_69 : List.drop 69 xm_c1154 = xm_c1154_69 := xm_dr d_1154_68
theorem k_1154_69 : xm_gi xm_c1154 69 = some xm_e1154_69 := xm_gt d_1154_69
theorem d_1154_70 : List.drop 70 xm_c1154 = xm_c1154_70 := xm_dr d_1154_69
theorem k_1154_70 : xm_gi xm_c1154 70 = some xm_e1154_70 := xm_gt d_1154_70
theorem d_1154_71 : List.drop 71 xm_c1154 = xm_c1154_71 := xm_dr d_1154_70
theorem k_1154_71 : xm_gi xm_c1154 71 = some xm_e1154_71 := xm_gt d_1154_71
theorem d_1154_72 : List.drop 72 xm_c1154 = xm_c1154_72 := xm_dr d_1154_71
theorem k_1154_72 : xm_gi xm_c1154 72 = some xm_e1154_72 := xm_gt d_1154_72
theorem d_1154_73 : List.drop 73 xm_c1154 = xm_c1154_73 := xm_dr d_1154_72
theorem k_1154_73 : xm_gi xm_c1154 73 = some xm_e1154_73 := xm_gt d_1154_73
theorem d_1154_74 : List.drop 74 xm_c1154 = xm_c1154_74 := xm_dr d_1154_73
theorem k_1154_74 : xm_gi xm_c1154 74 = some xm_e1154_74 := xm_gt d_1154_74
theorem d_1154_75 : List.drop 75 xm_c1154 = xm_c1154_75 := xm_dr d_1154_74
theorem k_1154_75 : xm_gi xm_c1154 75 = some xm_e1154_75 := xm_gt d_1154_75
theorem d_1154_76 : List.drop 76 xm_c1154 = xm_c1154_76 := xm_dr d_1154_75
theorem k_1154_76 : xm_gi xm_c1154 76 = some xm_e1154_76 := xm_gt d_1154_76
theorem d_1154_77 : List.drop 77 xm_c1154 = xm_c1154_77 := xm_dr d_1154_76
theorem k_1154_77 : xm_gi xm_c1154 77 = some xm_e1154_77 := xm_gt d_1154_77
theorem d_1154_78 : List.drop 78 xm_c1154 = xm_c1154_78 := xm_dr d_1154_77
theorem k_1154_78 : xm_gi xm_c1154 78 = some xm_e1154_78 := xm_gt d_1154_78
theorem d_1154_79 : List.drop 79 xm_c1154 = xm_c1154_79 := xm_dr d_1154_78
theorem k_1154_79 : xm_gi xm_c1154 79 = some xm_e1154_79 := xm_gt d_1154_79
theorem d_1154_80 : List.drop 80 xm_c1154 = xm_c1154_80 := xm_dr d_1154_79
theorem k_1154_80 : xm_gi xm_c1154 80 = some xm_e1154_80 := xm_gt d_1154_80
theorem d_1154_81 : List.drop 81 xm_c1154 = xm_c1154_81 := xm_dr d_1154_80
theorem k_1154_81 : xm_gi xm_c1154 81 = some xm_e1154_81 := xm_gt d_1154_81
theorem d_1154_82 : List.drop 82 xm_c1154 = xm_c1154_82 := xm_dr d_1154_81
theorem k_1154_82 : xm_gi xm_c1154 82 = some xm_e1154_82 := xm_gt d_1154_82
theorem d_1154_83 : List.drop 83 xm_c1154 = xm_c1154_83 := xm_dr d_1154_82
theorem k_1154_83 : xm_gi xm_c1154 83 = some xm_e1154_83 := xm_gt d_1154_83
theorem d_1154_84 : List.drop 84 xm_c1154 = xm_c1154_84 := xm_dr d_1154_83
theorem k_1154_84 : xm_gi xm_c1154 84 = some xm_e1154_84 := xm_gt d_1154_84
theorem d_1154_85 : List.drop 85 xm_c1154 = xm_c1154_85 := xm_dr d_1154_84
theorem k_1154_85 : xm_gi xm_c1154 85 = some xm_e1154_85 := xm_gt d_1154_85
theorem d_1154_86 : List.drop 86 xm_c1154 = xm_c1154_86 := xm_dr d_1154_85
theorem k_1154_86 : xm_gi xm_c1154 86 = some xm_e1154_86 := xm_gt d_1154_86
theorem xb_1154_0 {sc : List Int} {f : Nat → List xm_V → xm_W → xm_R} {w : xm_W} {Q : Option xm_V × xm_W → Prop} {x0 : Nat} {x1 : Int} {x2 : Int} {x3 : Int}
  (h : xm_Oi (f 1136 [.inr (.inl (some x0)), .inl x1, .inl x2, .inl x3] w) (fun z2 w1 => xm_Oi (f 1110 [.inr (.inl (some x0)), .inl x1, .inl 2] w1) (fun z4 w3 => if (z2 : Int) = (-1) then (Q (none, w3)) else (xm_Oi (f 1130 [.inr (.inl (some x0)), .inl z4] w3) (fun z6 w5 => if (z6 : Int) = 0 then (Q (none, w5)) else (xm_O (xm_fr (xm_old sc) w5 x0 9 0) (fun r7 => xm_O (xm_ints (xm_old sc) w5 r7) (fun l8 => xm_O (xm_at l8 3) (fun z9 => xm_O (xm_fr (xm_old sc) w5 x0 9 0) (fun r10 => xm_O (xm_seti w5 r10 (xm_w ((xm_w (134 + (xm_w (5 * z9)))) + 0)) z4) (fun w11 => xm_O (xm_fr (xm_old sc) w11 x0 9 0) (fun r12 => xm_O (xm_seti w11 r12 (xm_w ((xm_w (134 + (xm_w (5 * z9)))) + 1)) z2) (fun w13 => xm_O (xm_fr (xm_old sc) w13 x0 9 0) (fun r14 => xm_Oi (f 1138 [.inr (.inl (some x0)), .inl x1] w13) (fun z16 w15 => xm_O (xm_seti w15 r14 (xm_w ((xm_w (134 + (xm_w (5 * z9)))) + 2)) z16) (fun w17 => xm_O (xm_fr (xm_old sc) w17 x0 9 0) (fun r18 => xm_O (xm_fr (xm_old sc) w17 x0 9 0) (fun r19 => xm_O (xm_ints (xm_old sc) w17 r19) (fun l20 => xm_O (xm_at l20 1) (fun z21 => xm_O (xm_seti w17 r18 (xm_w ((xm_w (134 + (xm_w (5 * z9)))) + 3)) z21) (fun w22 => xm_O (xm_fr (xm_old sc) w22 x0 9 0) (fun r23 => xm_O (xm_seti w22 r23 (xm_w ((xm_w (134 + (xm_w (5 * z9)))) + 4)) x1) (fun w24 => xm_O (xm_fr (xm_old sc) w24 x0 9 0) (fun r25 => xm_O (xm_ints (xm_old sc) w24 r25) (fun l26 => xm_O (xm_at l26 3) (fun z27 => xm_O (xm_seti w24 r25 3 (xm_w (z27 + 1))) (fun w28 => xm_O (xm_fr (xm_old sc) w28 x0 9 0) (fun r29 => xm_O (xm_ints (xm_old sc) w28 r29) (fun l30 => xm_O (xm_at l30 3) (fun z31 => if (40 : Int) < z31 then (xm_Ov (f 1132 [.inr (.inl (some x0)), .inl 1, .inl (-1)] w28) (fun w32 => Q (none, w32))) else (Q (none, w28)))))))))))))))))))))))))))))))) :
  xm_EQ (xm_old sc) xm_sta f xm_c1154 0 [some (.inr (.inl (some x0))), some (.inl x1), some (.inl x2), some (.inl x3), none, none, none] [] w Q :=
  (xq_aload_n k_1154_0 rfl (xq_iload_n k_1154_1 rfl (xq_iload_n k_1154_2 rfl (xq_iload_n k_1154_3 rfl (xq_invv1 k_1154_4 xr_1136 rfl rfl rfl h (fun z2 w1 h => (xq_istore k_1154_5 rfl (xq_aload_n k_1154_6 rfl (xq_iload_n k_1154_7 rfl (xq_iconst k_1154_8 (xq_invv1 k_1154_9 xr_1110 rfl rfl rfl h (fun z4 w3 h => (xq_istore k_1154_10 rfl (xq_iload k_1154_11 rfl (xq_iconst k_1154_12 (xq_ic_eq k_1154_13 h (fun h => (xq_return k_1154_18 h)) (fun h => (xq_aload_n k_1154_14 rfl (xq_iload k_1154_15 rfl (xq_invv1 k_1154_16 xr_1130 rfl rfl rfl h (fun z6 w5 h => (xq_if_ne k_1154_17 h (fun h => (xq_return k_1154_18 h)) (fun h => (xq_sipush k_1154_19 (xq_iconst k_1154_20 (xq_aload_n k_1154_21 rfl (xq_getr k_1154_22 rfl h (fun r7 h => (xq_iconst k_1154_23 (xq_iaload k_1154_24 h (fun l8 h => h) (fun l8 z9 h => (xq_imul k_1154_25 (xq_iadd k_1154_26 (xq_istore k_1154_27 rfl (xq_aload_n k_1154_28 rfl (xq_getr k_1154_29 rfl h (fun r10 h => (xq_iload k_1154_30 rfl (xq_iconst k_1154_31 (xq_iadd k_1154_32 (xq_iload k_1154_33 rfl (xq_iastore k_1154_34 h (fun w11 h => (xq_aload_n k_1154_35 rfl (xq_getr k_1154_36 rfl h (fun r12 h => (xq_iload k_1154_37 rfl (xq_iconst k_1154_38 (xq_iadd k_1154_39 (xq_iload k_1154_40 rfl (xq_iastore k_1154_41 h (fun w13 h => (xq_aload_n k_1154_42 rfl (xq_getr k_1154_43 rfl h (fun r14 h => (xq_iload k_1154_44 rfl (xq_iconst k_1154_45 (xq_iadd k_1154_46 (xq_aload_n k_1154_47 rfl (xq_iload_n k_1154_48 rfl (xq_invv1 k_1154_49 xr_1138 rfl rfl rfl h (fun z16 w15 h => (xq_iastore k_1154_50 h (fun w17 h => (xq_aload_n k_1154_51 rfl (xq_getr k_1154_52 rfl h (fun r18 h => (xq_iload k_1154_53 rfl (xq_iconst k_1154_54 (xq_iadd k_1154_55 (xq_aload_n k_1154_56 rfl (xq_getr k_1154_57 rfl h (fun r19 h => (xq_iconst k_1154_58 (xq_iaload k_1154_59 h (fun l20 h => h) (fun l20 z21 h => (xq_iastore k_1154_60 h (fun w22 h => (xq_aload_n k_1154_61 rfl (xq_getr k_1154_62 rfl h (fun r23 h => (xq_iload k_1154_63 rfl (xq_iconst k_1154_64 (xq_iadd k_1154_65 (xq_iload_n k_1154_66 rfl (xq_iastore k_1154_67 h (fun w24 h => (xq_aload_n k_1154_68 rfl (xq_getr k_1154_69 rfl h (fun r25 h => (xq_iconst k_1154_70 (xq_dup2 k_1154_71 (xq_iaload k_1154_72 h (fun l26 h => h) (fun l26 z27 h => (xq_iconst k_1154_73 (xq_iadd k_1154_74 (xq_iastore k_1154_75 h (fun w28 h => (xq_aload_n k_1154_76 rfl (xq_getr k_1154_77 rfl h (fun r29 h => (xq_iconst k_1154_78 (xq_iaload k_1154_79 h (fun l30 h => h) (fun l30 z31 h => (xq_bipush k_1154_80 (xq_ic_le k_1154_81 h (fun h => (xq_aload_n k_1154_82 rfl (xq_iconst k_1154_83 (xq_iconst k_1154_84 (xq_invv0 k_1154_85 xr_1132 rfl rfl rfl h (fun w32 h => (xq_return k_1154_86 h))))))) (fun h => (xq_return k_1154_86 h))))))))))))))))))))))))))))))))))))))))))))))))))))))))))))))))))))))))))))))))))))))))))))))))))))))))))))
/-- ShodBackwardsModel.rides(I)V -/
theorem d_1155_0 : List.drop 0 xm_c1155 = xm_c1155 := rfl
theorem k_1155_0 : xm_gi xm_c1155 0 = some xm_e1155_0 := xm_gt d_1155_0
theorem d_1155_1 : List.drop 1 xm_c1155 = xm_c1155_1 := xm_dr d_1155_0
theorem k_1155_1 : xm_gi xm_c1155 1 = some xm_e1155_1 := xm_gt d_1155_1
theorem d_1155_2 : List.drop 2 xm_c1155 = xm_c1155_2 := xm_dr d_1155_1
theorem k_1155_2 : xm_gi xm_c1155 2 = some xm_e1155_2 := xm_gt d_1155_2
theorem d_1155_3 : List.drop 3 xm_c1155 = xm_c1155_3 := xm_dr d_1155_2
theorem k_1155_3 : xm_gi xm_c1155 3 = some xm_e1155_3 := xm_gt d_1155_3
theorem d_1155_4 : List.drop 4 xm_c1155 = xm_c1155_4 := xm_dr d_1155_3
theorem k_1155_4 : xm_gi xm_c1155 4 = some xm_e1155_4 := xm_gt d_1155_4
theorem d_1155_5 : List.drop 5 xm_c1155 = xm_c1155_5 := xm_dr d_1155_4
theorem k_1155_5 : xm_gi xm_c1155 5 = some xm_e1155_5 := xm_gt d_1155_5
theorem d_1155_6 : List.drop 6 xm_c1155 = xm_c1155_6 := xm_dr d_1155_5
theorem k_1155_6 : xm_gi xm_c1155 6 = some xm_e1155_6 := xm_gt d_1155_6
theorem d_1155_7 : List.drop 7 xm_c1155 = xm_c1155_7 := xm_dr d_1155_6
theorem k_1155_7 : xm_gi xm_c1155 7 = some xm_e1155_7 := xm_gt d_1155_7
theorem d_1155_8 : List.drop 8 xm_c1155 = xm_c1155_8 := xm_dr d_1155_7
theorem k_1155_8 : xm_gi xm_c1155 8 = some xm_e1155_8 := xm_gt d_1155_8
theorem d_1155_9 : List.drop 9 xm_c1155 = xm_c1155_9 := xm_dr d_1155_8
theorem k_1155_9 : xm_gi xm_c1155 9 = some xm_e1155_9 := xm_gt d_1155_9
theorem d_1155_10 : List.drop 10 xm_c1155 = xm_c1155_10 := xm_dr d_1155_9
theorem k_1155_10 : xm_gi xm_c1155 10 = some xm_e1155_10 := xm_gt d_1155_10
theorem d_1155_11 : List.drop 11 xm_c1155 = xm_c1155_11 := xm_dr d_1155_10
theorem k_1155_11 : xm_gi xm_c1155 11 = some xm_e1155_11 := xm_gt d_1155_11
theorem d_1155_12 : List.drop 12 xm_c1155 = xm_c1155_12 := xm_dr d_1155_11
theorem k_1155_12 : xm_gi xm_c1155 12 = some xm_e1155_12 := xm_gt d_1155_12
theorem d_1155_13 : List.drop 13 xm_c1155 = xm_c1155_13 := xm_dr d_1155_12
theorem k_1155_13 : xm_gi xm_c1155 13 = some xm_e1155_13 := xm_gt d_1155_13
theorem d_1155_14 : List.drop 14 xm_c1155 = xm_c1155_14 := xm_dr d_1155_13
theorem k_1155_14 : xm_gi xm_c1155 14 = some xm_e1155_14 := xm_gt d_1155_14
theorem d_1155_15 : List.drop 15 xm_c1155 = xm_c1155_15 := xm_dr d_1155_14
theorem k_1155_15 : xm_gi xm_c1155 15 = some xm_e1155_15 := xm_gt d_1155_15
theorem d_1155_16 : List.drop 16 xm_c1155 = xm_c1155_16 := xm_dr d_1155_15
theorem k_1155_16 : xm_gi xm_c1155 16 = some xm_e1155_16 := xm_gt d_1155_16
theorem d_1155_17 : List.drop 17 xm_c1155 = xm_c1155_17 := xm_dr d_1155_16
theorem k_1155_17 : xm_gi xm_c1155 17 = some xm_e1155_17 := xm_gt d_1155_17
theorem d_1155_18 : List.drop 18 xm_c1155 = xm_c1155_18 := xm_dr d_1155_17
theorem k_1155_18 : xm_gi xm_c1155 18 = some xm_e1155_18 := xm_gt d_1155_18
theorem d_1155_19 : List.drop 19 xm_c1155 = xm_c1155_19 := xm_dr d_1155_18
theorem k_1155_19 : xm_gi xm_c1155 19 = some xm_e1155_19 := xm_gt d_1155_19
theorem d_1155_20 : List.drop 20 xm_c1155 = xm_c1155_20 := xm_dr d_1155_19
theorem k_1155_20 : xm_gi xm_c1155 20 = some xm_e1155_20 := xm_gt d_1155_20
theorem d_1155_21 : List.drop 21 xm_c1155 = xm_c1155_21 := xm_dr d_1155_20
theorem k_1155_21 : xm_gi xm_c1155 21 = some xm_e1155_21 := xm_gt d_1155_21
theorem d_1155_22 : List.drop 22 xm_c1155 = xm_c1155_22 := xm_dr d_1155_21
theorem k_1155_22 : xm_gi xm_c1155 22 = some xm_e1155_22 := xm_gt d_1155_22
theorem d_1155_23 : List.drop 23 xm_c1155 = xm_c1155_23 := xm_dr d_1155_22
theorem k_1155_23 : xm_gi xm_c1155 23 = some xm_e1155_23 := xm_gt d_1155_23
theorem d_1155_24 : List.drop 24 xm_c1155 = xm_c1155_24 := xm_dr d_1155_23
theorem k_1155_24 : xm_gi xm_c1155 24 = some xm_e1155_24 := xm_gt d_1155_24
theorem d_1155_25 : List.drop 25 xm_c1155 = xm_c1155_25 := xm_dr d_1155_24
theorem k_1155_25 : xm_gi xm_c1155 25 = some xm_e1155_25 := xm_gt d_1155_25
theorem d_1155_26 : List.drop 26 xm_c1155 = xm_c1155_26 := xm_dr d_1155_25
theorem k_1155_26 : xm_gi xm_c1155 26 = some xm_e1155_26 := xm_gt d_1155_26
theorem d_1155_27 : List.drop 27 xm_c1155 = xm_c1155_27 := xm_dr d_1155_26
theorem k_1155_27 : xm_gi xm_c1155 27 = some xm_e1155_27 := xm_gt d_1155_27
theorem d_1155_28 : List.drop 28 xm_c1155 = xm_c1155_28 := xm_dr d_1155_27
theorem k_1155_28 : xm_gi xm_c1155 28 = some xm_e1155_28 := xm_gt d_1155_28
theorem d_1155_29 : List.drop 29 xm_c1155 = xm_c1155_29 := xm_dr d_1155_28
theorem k_1155_29 : xm_gi xm_c1155 29 = some xm_e1155_29 := xm_gt d_1155_29
theorem d_1155_30 : List.drop 30 xm_c1155 = xm_c1155_30 := xm_dr d_1155_29
theorem k_1155_30 : xm_gi xm_c1155 30 = some xm_e1155_30 := xm_gt d_1155_30
theorem d_1155_31 : List.drop 31 xm_c1155 = xm_c1155_31 := xm_dr d_1155_30
theorem k_1155_31 : xm_gi xm_c1155 31 = some xm_e1155_31 := xm_gt d_1155_31
theorem d_1155_32 : List.drop 32 xm_c1155 = xm_c1155_32 := xm_dr d_1155_31
theorem k_1155_32 : xm_gi xm_c1155 32 = some xm_e1155_32 := xm_gt d_1155_32
theorem d_1155_33 : List.drop 33 xm_c1155 = xm_c1155_33 := xm_dr d_1155_32
theorem k_1155_33 : xm_gi xm_c1155 33 = some xm_e1155_33 := xm_gt d_1155_33
theorem d_1155_34 : List.drop 34 xm_c1155 = xm_c1155_34 := xm_dr d_1155_33
theorem k_1155_34 : xm_gi xm_c1155 34 = some xm_e1155_34 := xm_gt d_1155_34
theorem d_1155_35 : List.drop 35 xm_c1155 = xm_c1155_35 := xm_dr d_1155_34
theorem k_1155_35 : xm_gi xm_c1155 35 = some xm_e1155_35 := xm_gt d_1155_35
theorem d_1155_36 : List.drop 36 xm_c1155 = xm_c1155_36 := xm_dr d_1155_35
theorem k_1155_36 : xm_gi xm_c1155 36 = some xm_e1155_36 := xm_gt d_1155_36
theorem d_1155_37 : List.drop 37 xm_c1155 = xm_c1155_37 := xm_dr d_1155_36
theorem k_1155_37 : xm_gi xm_c1155 37 = some xm_e1155_37 := xm_gt d_1155_37
theorem d_1155_38 : List.drop 38 xm_c1155 = xm_c1155_38 := xm_dr d_1155_37
theorem k_1155_38 : xm_gi xm_c1155 38 = some xm_e1155_38 := xm_gt d_1155_38
theorem d_1155_39 : List.drop 39 xm_c1155 = xm_c1155_39 := xm_dr d_1155_38
theorem k_1155_39 : xm_gi xm_c1155 39 = some xm_e1155_39 := xm_gt d_1155_39
theorem xb_1155_0 {sc : List Int} {f : Nat → List xm_V → xm_W → xm_R} {w : xm_W} {Q : Option xm_V × xm_W → Prop} {x0 : Nat} {x1 : Int}
  (h : xm_Oi (f 1110 [.inr (.inl (some x0)), .inl x1, .inl 5] w) (fun z2 w1 => xm_Oi (f 1110 [.inr (.inl (some x0)), .inl x1, .inl (xm_w (6 + z2))] w1) (fun z4 w3 => xm_Oi (f 1110 [.inr (.inl (some x0)), .inl x1, .inl 2] w3) (fun z6 w5 => xm_Oi (f 1139 [.inl z6, .inl z4] w5) (fun z8 w7 => if (z8 : Int) = (-1) then (xm_Ov (f 1111 [.inr (.inl (some x0)), .inl x1, .inl 5, .inl (xm_w (z2 + 1))] w7) (fun w9 => Q (none, w9))) else (xm_Ov (f 1154 [.inr (.inl (some x0)), .inl x1, .inl z4, .inl z2] w7) (fun w10 => xm_Ov (f 1111 [.inr (.inl (some x0)), .inl x1, .inl 2, .inl z8] w10) (fun w11 => xm_Ov (f 1111 [.inr (.inl (some x0)), .inl x1, .inl 5, .inl (xm_w (z2 + 1))] w11) (fun w12 => Q (none, w12)))))))))) :
  xm_EQ (xm_old sc) xm_sta f xm_c1155 0 [some (.inr (.inl (some x0))), some (.inl x1), none, none, none] [] w Q :=
  (xq_aload_n k_1155_0 rfl (xq_iload_n k_1155_1 rfl (xq_iconst k_1155_2 (xq_invv1 k_1155_3 xr_1110 rfl rfl rfl h (fun z2 w1 h => (xq_istore_n k_1155_4 rfl (xq_aload_n k_1155_5 rfl (xq_iload_n k_1155_6 rfl (xq_bipush k_1155_7 (xq_iload_n k_1155_8 rfl (xq_iadd k_1155_9 (xq_invv1 k_1155_10 xr_1110 rfl rfl rfl h (fun z4 w3 h => (xq_istore_n k_1155_11 rfl (xq_aload_n k_1155_12 rfl (xq_iload_n k_1155_13 rfl (xq_iconst k_1155_14 (xq_invv1 k_1155_15 xr_1110 rfl rfl rfl h (fun z6 w5 h => (xq_iload_n k_1155_16 rfl (xq_invs1 k_1155_17 xr_1139 rfl rfl rfl h (fun z8 w7 h => (xq_istore k_1155_18 rfl (xq_iload k_1155_19 rfl (xq_iconst k_1155_20 (xq_ic_eq k_1155_21 h (fun h => (xq_aload_n k_1155_32 rfl (xq_iload_n k_1155_33 rfl (xq_iconst k_1155_34 (xq_iload_n k_1155_35 rfl (xq_iconst k_1155_36 (xq_iadd k_1155_37 (xq_invv0 k_1155_38 xr_1111 rfl rfl rfl h (fun w9 h => (xq_return k_1155_39 h)))))))))) (fun h => (xq_aload_n k_1155_22 rfl (xq_iload_n k_1155_23 rfl (xq_iload_n k_1155_24 rfl (xq_iload_n k_1155_25 rfl (xq_invv0 k_1155_26 xr_1154 rfl rfl rfl h (fun w10 h => (xq_aload_n k_1155_27 rfl (xq_iload_n k_1155_28 rfl (xq_iconst k_1155_29 (xq_iload k_1155_30 rfl (xq_invv0 k_1155_31 xr_1111 rfl rfl rfl h (fun w11 h => (xq_aload_n k_1155_32 rfl (xq_iload_n k_1155_33 rfl (xq_iconst k_1155_34 (xq_iload_n k_1155_35 rfl (xq_iconst k_1155_36 (xq_iadd k_1155_37 (xq_invv0 k_1155_38 xr_1111 rfl rfl rfl h (fun w12 h => (xq_return k_1155_39 h))))))))))))))))))))))))))))))))))))))))))))))))
/-- ShodBackwardsModel.hour()V -/
theorem d_1156_0 : List.drop 0 xm_c1156 = xm_c1156 := rfl
theorem k_1156_0 : xm_gi xm_c1156 0 = some xm_e1156_0 := xm_gt d_1156_0
theorem d_1156_1 : List.drop 1 xm_c1156 = xm_c1156_1 := xm_dr d_1156_0
theorem k_1156_1 : xm_gi xm_c1156 1 = some xm_e1156_1 := xm_gt d_1156_1
theorem d_1156_2 : List.drop 2 xm_c1156 = xm_c1156_2 := xm_dr d_1156_1
theorem k_1156_2 : xm_gi xm_c1156 2 = some xm_e1156_2 := xm_gt d_1156_2
theorem d_1156_3 : List.drop 3 xm_c1156 = xm_c1156_3 := xm_dr d_1156_2
theorem k_1156_3 : xm_gi xm_c1156 3 = some xm_e1156_3 := xm_gt d_1156_3
theorem d_1156_4 : List.drop 4 xm_c1156 = xm_c1156_4 := xm_dr d_1156_3
theorem k_1156_4 : xm_gi xm_c1156 4 = some xm_e1156_4 := xm_gt d_1156_4
theorem d_1156_5 : List.drop 5 xm_c1156 = xm_c1156_5 := xm_dr d_1156_4
theorem k_1156_5 : xm_gi xm_c1156 5 = some xm_e1156_5 := xm_gt d_1156_5
theorem d_1156_6 : List.drop 6 xm_c1156 = xm_c1156_6 := xm_dr d_1156_5
theorem k_1156_6 : xm_gi xm_c1156 6 = some xm_e1156_6 := xm_gt d_1156_6
theorem d_1156_7 : List.drop 7 xm_c1156 = xm_c1156_7 := xm_dr d_1156_6
theorem k_1156_7 : xm_gi xm_c1156 7 = some xm_e1156_7 := xm_gt d_1156_7
theorem d_1156_8 : List.drop 8 xm_c1156 = xm_c1156_8 := xm_dr d_1156_7
theorem k_1156_8 : xm_gi xm_c1156 8 = some xm_e1156_8 := xm_gt d_1156_8
theorem d_1156_9 : List.drop 9 xm_c1156 = xm_c1156_9 := xm_dr d_1156_8
theorem k_1156_9 : xm_gi xm_c1156 9 = some xm_e1156_9 := xm_gt d_1156_9
theorem d_1156_10 : List.drop 10 xm_c1156 = xm_c1156_10 := xm_dr d_1156_9
theorem k_1156_10 : xm_gi xm_c1156 10 = some xm_e1156_10 := xm_gt d_1156_10
theorem d_1156_11 : List.drop 11 xm_c1156 = xm_c1156_11 := xm_dr d_1156_10
theorem k_1156_11 : xm_gi xm_c1156 11 = some xm_e1156_11 := xm_gt d_1156_11
theorem d_1156_12 : List.drop 12 xm_c1156 = xm_c1156_12 := xm_dr d_1156_11
theorem k_1156_12 : xm_gi xm_c1156 12 = some xm_e1156_12 := xm_gt d_1156_12
theorem d_1156_13 : List.drop 13 xm_c1156 = xm_c1156_13 := xm_dr d_1156_12
theorem k_1156_13 : xm_gi xm_c1156 13 = some xm_e1156_13 := xm_gt d_1156_13
theorem d_1156_14 : List.drop 14 xm_c1156 = xm_c1156_14 := xm_dr d_1156_13
theorem k_1156_14 : xm_gi xm_c1156 14 = some xm_e1156_14 := xm_gt d_1156_14
theorem d_1156_15 : List.drop 15 xm_c1156 = xm_c1156_15 := xm_dr d_1156_14
theorem k_1156_15 : xm_gi xm_c1156 15 = some xm_e1156_15 := xm_gt d_1156_15
theorem d_1156_16 : List.drop 16 xm_c1156 = xm_c1156_16 := xm_dr d_1156_15
theorem k_1156_16 : xm_gi xm_c1156 16 = some xm_e1156_16 := xm_gt d_1156_16
theorem d_1156_17 : List.drop 17 xm_c1156 = xm_c1156_17 := xm_dr d_1156_16
theorem k_1156_17 : xm_gi xm_c1156 17 = some xm_e1156_17 := xm_gt d_1156_17
theorem d_1156_18 : List.drop 18 xm_c1156 = xm_c1156_18 := xm_dr d_1156_17
theorem k_1156_18 : xm_gi xm_c1156 18 = some xm_e1156_18 := xm_gt d_1156_18
theorem d_1156_19 : List.drop 19 xm_c1156 = xm_c1156_19 := xm_dr d_1156_18
theorem k_1156_19 : xm_gi xm_c1156 19 = some xm_e1156_19 := xm_gt d_1156_19
theorem d_1156_20 : List.drop 20 xm_c1156 = xm_c1156_20 := xm_dr d_1156_19
theorem k_1156_20 : xm_gi xm_c1156 20 = some xm_e1156_20 := xm_gt d_1156_20
theorem d_1156_21 : List.drop 21 xm_c1156 = xm_c1156_21 := xm_dr d_1156_20
theorem k_1156_21 : xm_gi xm_c1156 21 = some xm_e1156_21 := xm_gt d_1156_21
theorem d_1156_22 : List.drop 22 xm_c1156 = xm_c1156_22 := xm_dr d_1156_21
theorem k_1156_22 : xm_gi xm_c1156 22 = some xm_e1156_22 := xm_gt d_1156_22
theorem d_1156_23 : List.drop 23 xm_c1156 = xm_c1156_23 := xm_dr d_1156_22
theorem k_1156_23 : xm_gi xm_c1156 23 = some xm_e1156_23 := xm_gt d_1156_23
theorem d_1156_24 : List.drop 24 xm_c1156 = xm_c1156_24 := xm_dr d_1156_23
theorem k_1156_24 : xm_gi xm_c1156 24 = some xm_e1156_24 := xm_gt d_1156_24
theorem d_1156_25 : List.drop 25 xm_c1156 = xm_c1156_25 := xm_dr d_1156_24
theorem k_1156_25 : xm_gi xm_c1156 25 = some xm_e1156_25 := xm_gt d_1156_25
theorem d_1156_26 : List.drop 26 xm_c1156 = xm_c1156_26 := xm_dr d_1156_25
theorem k_1156_26 : xm_gi xm_c1156 26 = some xm_e1156_26 := xm_gt d_1156_26
theorem d_1156_27 : List.drop 27 xm_c1156 = xm_c1156_27 := xm_dr d_1156_26
theorem k_1156_27 : xm_gi xm_c1156 27 = some xm_e1156_27 := xm_gt d_1156_27
theorem d_1156_28 : List.drop 28 xm_c1156 = xm_c1156_28 := xm_dr d_1156_27
theorem k_1156_28 : xm_gi xm_c1156 28 = some xm_e1156_28 := xm_gt d_1156_28
theorem d_1156_29 : List.drop 29 xm_c1156 = xm_c1156_29 := xm_dr d_1156_28
theorem k_1156_29 : xm_gi xm_c1156 29 = some xm_e1156_29 := xm_gt d_1156_29
theorem d_1156_30 : List.drop 30 xm_c1156 = xm_c1156_30 := xm_dr d_1156_29
theorem k_1156_30 : xm_gi xm_c1156 30 = some xm_e1156_30 := xm_gt d_1156_30
theorem d_1156_31 : List.drop 31 xm_c1156 = xm_c1156_31 := xm_dr d_1156_30
theorem k_1156_31 : xm_gi xm_c1156 31 = some xm_e1156_31 := xm_gt d_1156_31
theorem d_1156_32 : List.drop 32 xm_c1156 = xm_c1156_32 := xm_dr d_1156_31
theorem k_1156_32 : xm_gi xm_c1156 32 = some xm_e1156_32 := xm_gt d_1156_32
theorem d_1156_33 : List.drop 33 xm_c1156 = xm_c1156_33 := xm_dr d_1156_32
theorem k_1156_33 : xm_gi xm_c1156 33 = some xm_e1156_33 := xm_gt d_1156_33
theorem d_1156_34 : List.drop 34 xm_c1156 = xm_c1156_34 := xm_dr d_1156_33
theorem k_1156_34 : xm_gi xm_c1156 34 = some xm_e1156_34 := xm_gt d_1156_34
theorem d_1156_35 : List.drop 35 xm_c1156 = xm_c1156_35 := xm_dr d_1156_34
theorem k_1156_35 : xm_gi xm_c1156 35 = some xm_e1156_35 := xm_gt d_1156_35
theorem d_1156_36 : List.drop 36 xm_c1156 = xm_c1156_36 := xm_dr d_1156_35
theorem k_1156_36 : xm_gi xm_c1156 36 = some xm_e1156_36 := xm_gt d_1156_36
theorem d_1156_37 : List.drop 37 xm_c1156 = xm_c1156_37 := xm_dr d_1156_36
theorem k_1156_37 : xm_gi xm_c1156 37 = some xm_e1156_37 := xm_gt d_1156_37
theorem d_1156_38 : List.drop 38 xm_c1156 = xm_c1156_38 := xm_dr d_1156_37
theorem k_1156_38 : xm_gi xm_c1156 38 = some xm_e1156_38 := xm_gt d_1156_38
theorem xb_1156_0 {sc : List Int} {f : Nat → List xm_V → xm_W → xm_R} {w : xm_W} {Q : Option xm_V × xm_W → Prop} {x0 : Nat}
  (h : xm_EQ (xm_old sc) xm_sta f xm_c1156 2 [some (.inr (.inl (some x0))), some (.inl 0)] [] w Q) :
  xm_EQ (xm_old sc) xm_sta f xm_c1156 0 [some (.inr (.inl (some x0))), none] [] w Q :=
  (xq_iconst k_1156_0 (xq_istore_n k_1156_1 rfl h))
theorem xb_1156_2 {sc : List Int} {f : Nat → List xm_V → xm_W → xm_R} {w : xm_W} {Q : Option xm_V × xm_W → Prop} {x0 : Nat} {x1 : Int}
  (h : xm_O (xm_fr (xm_old sc) w x0 9 0) (fun r1 => xm_O (xm_ints (xm_old sc) w r1) (fun l2 => xm_O (xm_at l2 0) (fun z3 => if (x1 : Int) < z3 then (xm_O (xm_fi (xm_old sc) w x0 9 3) (fun z9 => if (x1 : Int) = z9 then (xm_EQ (xm_old sc) xm_sta f xm_c1156 2 [some (.inr (.inl (some x0))), some (.inl (xm_w (x1 + 1)))] [] w Q) else (xm_Oi (f 1110 [.inr (.inl (some x0)), .inl x1, .inl 5] w) (fun z11 w10 => xm_Oi (f 1110 [.inr (.inl (some x0)), .inl x1, .inl 4] w10) (fun z13 w12 => if (z11 : Int) < z13 then (xm_Ov (f 1155 [.inr (.inl (some x0)), .inl x1] w12) (fun w14 => xm_EQ (xm_old sc) xm_sta f xm_c1156 2 [some (.inr (.inl (some x0))), some (.inl (xm_w (x1 + 1)))] [] w14 Q)) else (xm_EQ (xm_old sc) xm_sta f xm_c1156 2 [some (.inr (.inl (some x0))), some (.inl (xm_w (x1 + 1)))] [] w12 Q)))))) else (xm_O (xm_fr (xm_old sc) w x0 9 0) (fun r4 => xm_O (xm_ints (xm_old sc) w r4) (fun l5 => xm_O (xm_at l5 1) (fun z6 => xm_O (xm_seti w r4 1 (xm_w (z6 + 1))) (fun w7 => xm_Ov (f 1132 [.inr (.inl (some x0)), .inl 0, .inl (-1)] w7) (fun w8 => Q (none, w8))))))))))) :
  xm_EQ (xm_old sc) xm_sta f xm_c1156 2 [some (.inr (.inl (some x0))), some (.inl x1)] [] w Q :=
  (xq_iload_n k_1156_2 rfl (xq_aload_n k_1156_3 rfl (xq_getr k_1156_4 rfl h (fun r1 h => (xq_iconst k_1156_5 (xq_iaload k_1156_6 h (fun l2 h => h) (fun l2 z3 h => (xq_ic_ge k_1156_7 h (fun h => (xq_iload_n k_1156_8 rfl (xq_aload_n k_1156_9 rfl (xq_geti0 k_1156_10 rfl h (fun z9 h => (xq_ic_eq k_1156_11 h (fun h => (xq_iinc k_1156_24 rfl rfl (xq_goto k_1156_25 h))) (fun h => (xq_aload_n k_1156_12 rfl (xq_iload_n k_1156_13 rfl (xq_iconst k_1156_14 (xq_invv1 k_1156_15 xr_1110 rfl rfl rfl h (fun z11 w10 h => (xq_aload_n k_1156_16 rfl (xq_iload_n k_1156_17 rfl (xq_iconst k_1156_18 (xq_invv1 k_1156_19 xr_1110 rfl rfl rfl h (fun z13 w12 h => (xq_ic_ge k_1156_20 h (fun h => (xq_aload_n k_1156_21 rfl (xq_iload_n k_1156_22 rfl (xq_invv0 k_1156_23 xr_1155 rfl rfl rfl h (fun w14 h => (xq_iinc k_1156_24 rfl rfl (xq_goto k_1156_25 h))))))) (fun h => (xq_iinc k_1156_24 rfl rfl (xq_goto k_1156_25 h))))))))))))))))))))) (fun h => (xq_aload_n k_1156_26 rfl (xq_getr k_1156_27 rfl h (fun r4 h => (xq_iconst k_1156_28 (xq_dup2 k_1156_29 (xq_iaload k_1156_30 h (fun l5 h => h) (fun l5 z6 h => (xq_iconst k_1156_31 (xq_iadd k_1156_32 (xq_iastore k_1156_33 h (fun w7 h => (xq_aload_n k_1156_34 rfl (xq_iconst k_1156_35 (xq_iconst k_1156_36 (xq_invv0 k_1156_37 xr_1132 rfl rfl rfl h (fun w8 h => (xq_return k_1156_38 h))))))))))))))))))))))))))
/-- ShodBackwardsModel.go(I)V -/
theorem d_1157_0 : List.drop 0 xm_c1157 = xm_c1157 := rfl
theorem k_1157_0 : xm_gi xm_c1157 0 = some xm_e1157_0 := xm_gt d_1157_0
theorem d_1157_1 : List.drop 1 xm_c1157 = xm_c1157_1 := xm_dr d_1157_0
theorem k_1157_1 : xm_gi xm_c1157 1 = some xm_e1157_1 := xm_gt d_1157_1
theorem d_1157_2 : List.drop 2 xm_c1157 = xm_c1157_2 := xm_dr d_1157_1
theorem k_1157_2 : xm_gi xm_c1157 2 = some xm_e1157_2 := xm_gt d_1157_2
theorem d_1157_3 : List.drop 3 xm_c1157 = xm_c1157_3 := xm_dr d_1157_2
theorem k_1157_3 : xm_gi xm_c1157 3 = some xm_e1157_3 := xm_gt d_1157_3
theorem d_1157_4 : List.drop 4 xm_c1157 = xm_c1157_4 := xm_dr d_1157_3
theorem k_1157_4 : xm_gi xm_c1157 4 = some xm_e1157_4 := xm_gt d_1157_4
theorem d_1157_5 : List.drop 5 xm_c1157 = xm_c1157_5 := xm_dr d_1157_4
theorem k_1157_5 : xm_gi xm_c1157 5 = some xm_e1157_5 := xm_gt d_1157_5
theorem d_1157_6 : List.drop 6 xm_c1157 = xm_c1157_6 := xm_dr d_1157_5
theorem k_1157_6 : xm_gi xm_c1157 6 = some xm_e1157_6 := xm_gt d_1157_6
theorem d_1157_7 : List.drop 7 xm_c1157 = xm_c1157_7 := xm_dr d_1157_6
theorem k_1157_7 : xm_gi xm_c1157 7 = some xm_e1157_7 := xm_gt d_1157_7
theorem d_1157_8 : List.drop 8 xm_c1157 = xm_c1157_8 := xm_dr d_1157_7
theorem k_1157_8 : xm_gi xm_c1157 8 = some xm_e1157_8 := xm_gt d_1157_8
theorem d_1157_9 : List.drop 9 xm_c1157 = xm_c1157_9 := xm_dr d_1157_8
theorem k_1157_9 : xm_gi xm_c1157 9 = some xm_e1157_9 := xm_gt d_1157_9
theorem xb_1157_0 {sc : List Int} {f : Nat → List xm_V → xm_W → xm_R} {w : xm_W} {Q : Option xm_V × xm_W → Prop} {x0 : Nat} {x1 : Int}
  (h : xm_EQ (xm_old sc) xm_sta f xm_c1157 2 [some (.inr (.inl (some x0))), some (.inl x1), some (.inl 0)] [] w Q) :
  xm_EQ (xm_old sc) xm_sta f xm_c1157 0 [some (.inr (.inl (some x0))), some (.inl x1), none] [] w Q :=
  (xq_iconst k_1157_0 (xq_istore_n k_1157_1 rfl h))
theorem xb_1157_2 {sc : List Int} {f : Nat → List xm_V → xm_W → xm_R} {w : xm_W} {Q : Option xm_V × xm_W → Prop} {x0 : Nat} {x1 : Int} {x2 : Int}
  (h : if (x2 : Int) < x1 then (xm_Ov (f 1156 [.inr (.inl (some x0))] w) (fun w1 => xm_EQ (xm_old sc) xm_sta f xm_c1157 2 [some (.inr (.inl (some x0))), some (.inl x1), some (.inl (xm_w (x2 + 1)))] [] w1 Q)) else (Q (none, w))) :
  xm_EQ (xm_old sc) xm_sta f xm_c1157 2 [some (.inr (.inl (some x0))), some (.inl x1), some (.inl x2)] [] w Q :=
  (xq_iload_n k_1157_2 rfl (xq_iload_n k_1157_3 rfl (xq_ic_ge k_1157_4 h (fun h => (xq_aload_n k_1157_5 rfl (xq_invv0 k_1157_6 xr_1156 rfl rfl rfl h (fun w1 h => (xq_iinc k_1157_7 rfl rfl (xq_goto k_1157_8 h)))))) (fun h => (xq_return k_1157_9 h)))))
/-- ShodBackwardsModel.hours(I)I -/
theorem d_1158_0 : List.drop 0 xm_c1158 = xm_c1158 := rfl
theorem k_1158_0 : xm_gi xm_c1158 0 = some xm_e1158_0 := xm_gt d_1158_0
theorem d_1158_1 : List.drop 1 xm_c1158 = xm_c1158_1 := xm_dr d_1158_0
theorem k_1158_1 : xm_gi xm_c1158 1 = some xm_e1158_1 := xm_gt d_1158_1
theorem d_1158_2 : List.drop 2 xm_c1158 = xm_c1158_2 := xm_dr d_1158_1
theorem k_1158_2 : xm_gi xm_c1158 2 = some xm_e1158_2 := xm_gt d_1158_2
theorem d_1158_3 : List.drop 3 xm_c1158 = xm_c1158_3 := xm_dr d_1158_2
theorem k_1158_3 : xm_gi xm_c1158 3 = some xm_e1158_3 := xm_gt d_1158_3
theorem d_1158_4 : List.drop 4 xm_c1158 = xm_c1158_4 := xm_dr d_1158_3
theorem k_1158_4 : xm_gi xm_c1158 4 = some xm_e1158_4 := xm_gt d_1158_4
theorem d_1158_5 : List.drop 5 xm_c1158 = xm_c1158_5 := xm_dr d_1158_4
theorem k_1158_5 : xm_gi xm_c1158 5 = some xm_e1158_5 := xm_gt d_1158_5
theorem d_1158_6 : List.drop 6 xm_c1158 = xm_c1158_6 := xm_dr d_1158_5
theorem k_1158_6 : xm_gi xm_c1158 6 = some xm_e1158_6 := xm_gt d_1158_6
theorem d_1158_7 : List.drop 7 xm_c1158 = xm_c1158_7 := xm_dr d_1158_6
theorem k_1158_7 : xm_gi xm_c1158 7 = some xm_e1158_7 := xm_gt d_1158_7
theorem d_1158_8 : List.drop 8 xm_c1158 = xm_c1158_8 := xm_dr d_1158_7
theorem k_1158_8 : xm_gi xm_c1158 8 = some xm_e1158_8 := xm_gt d_1158_8
theorem d_1158_9 : List.drop 9 xm_c1158 = xm_c1158_9 := xm_dr d_1158_8
theorem k_1158_9 : xm_gi xm_c1158 9 = some xm_e1158_9 := xm_gt d_1158_9
theorem d_1158_10 : List.drop 10 xm_c1158 = xm_c1158_10 := xm_dr d_1158_9
theorem k_1158_10 : xm_gi xm_c1158 10 = some xm_e1158_10 := xm_gt d_1158_10
theorem d_1158_11 : List.drop 11 xm_c1158 = xm_c1158_11 := xm_dr d_1158_10
theorem k_1158_11 : xm_gi xm_c1158 11 = some xm_e1158_11 := xm_gt d_1158_11
theorem d_1158_12 : List.drop 12 xm_c1158 = xm_c1158_12 := xm_dr d_1158_11
theorem k_1158_12 : xm_gi xm_c1158 12 = some xm_e1158_12 := xm_gt d_1158_12
theorem d_1158_13 : List.drop 13 xm_c1158 = xm_c1158_13 := xm_dr d_1158_12
theorem k_1158_13 : xm_gi xm_c1158 13 = some xm_e1158_13 := xm_gt d_1158_13
theorem d_1158_14 : List.drop 14 xm_c1158 = xm_c1158_14 := xm_dr d_1158_13
theorem k_1158_14 : xm_gi xm_c1158 14 = some xm_e1158_14 := xm_gt d_1158_14
theorem d_1158_15 : List.drop 15 xm_c1158 = xm_c1158_15 := xm_dr d_1158_14
theorem k_1158_15 : xm_gi xm_c1158 15 = some xm_e1158_15 := xm_gt d_1158_15
theorem d_1158_16 : List.drop 16 xm_c1158 = xm_c1158_16 := xm_dr d_1158_15
theorem k_1158_16 : xm_gi xm_c1158 16 = some xm_e1158_16 := xm_gt d_1158_16
theorem d_1158_17 : List.drop 17 xm_c1158 = xm_c1158_17 := xm_dr d_1158_16
theorem k_1158_17 : xm_gi xm_c1158 17 = some xm_e1158_17 := xm_gt d_1158_17
theorem d_1158_18 : List.drop 18 xm_c1158 = xm_c1158_18 := xm_dr d_1158_17
theorem k_1158_18 : xm_gi xm_c1158 18 = some xm_e1158_18 := xm_gt d_1158_18
theorem d_1158_19 : List.drop 19 xm_c1158 = xm_c1158_19 := xm_dr d_1158_18
theorem k_1158_19 : xm_gi xm_c1158 19 = some xm_e1158_19 := xm_gt d_1158_19
theorem d_1158_20 : List.drop 20 xm_c1158 = xm_c1158_20 := xm_dr d_1158_19
theorem k_1158_20 : xm_gi xm_c1158 20 = some xm_e1158_20 := xm_gt d_1158_20
theorem d_1158_21 : List.drop 21 xm_c1158 = xm_c1158_21 := xm_dr d_1158_20
theorem k_1158_21 : xm_gi xm_c1158 21 = some xm_e1158_21 := xm_gt d_1158_21
theorem d_1158_22 : List.drop 22 xm_c1158 = xm_c1158_22 := xm_dr d_1158_21
theorem k_1158_22 : xm_gi xm_c1158 22 = some xm_e1158_22 := xm_gt d_1158_22
theorem d_1158_23 : List.drop 23 xm_c1158 = xm_c1158_23 := xm_dr d_1158_22
theorem k_1158_23 : xm_gi xm_c1158 23 = some xm_e1158_23 := xm_gt d_1158_23
theorem d_1158_24 : List.drop 24 xm_c1158 = xm_c1158_24 := xm_dr d_1158_23
theorem k_1158_24 : xm_gi xm_c1158 24 = some xm_e1158_24 := xm_gt d_1158_24
theorem d_1158_25 : List.drop 25 xm_c1158 = xm_c1158_25 := xm_dr d_1158_24
theorem k_1158_25 : xm_gi xm_c1158 25 = some xm_e1158_25 := xm_gt d_1158_25
theorem d_1158_26 : List.drop 26 xm_c1158 = xm_c1158_26 := xm_dr d_1158_25
theorem k_1158_26 : xm_gi xm_c1158 26 = some xm_e1158_26 := xm_gt d_1158_26
theorem d_1158_27 : List.drop 27 xm_c1158 = xm_c1158_27 := xm_dr d_1158_26
theorem k_1158_27 : xm_gi xm_c1158 27 = some xm_e1158_27 := xm_gt d_1158_27
theorem d_1158_28 : List.drop 28 xm_c1158 = xm_c1158_28 := xm_dr d_1158_27
theorem k_1158_28 : xm_gi xm_c1158 28 = some xm_e1158_28 := xm_gt d_1158_28
theorem xb_1158_0 {sc : List Int} {f : Nat → List xm_V → xm_W → xm_R} {w : xm_W} {Q : Option xm_V × xm_W → Prop} {x0 : Nat} {x1 : Int}
  (h : xm_Oi (f 1103 [.inl x1, .inl 1, .inl 24] w) (fun z2 w1 => if (z2 : Int) = 0 then (xm_Oi (f 1102 [.inr (.inl (some x0)), .inl 1] w1) (fun z13 w12 => Q (some (.inl z13), w12))) else (xm_O (xm_fr (xm_old sc) w1 x0 9 0) (fun r3 => xm_O (xm_ints (xm_old sc) w1 r3) (fun l4 => xm_O (xm_at l4 1) (fun z5 => if (9999 : Int) < (xm_w (z5 + x1)) then (xm_Oi (f 1102 [.inr (.inl (some x0)), .inl 3] w1) (fun z11 w10 => Q (some (.inl z11), w10))) else (xm_Ov (f 1157 [.inr (.inl (some x0)), .inl x1] w1) (fun w6 => xm_O (xm_fr (xm_old sc) w6 x0 9 0) (fun r7 => xm_O (xm_ints (xm_old sc) w6 r7) (fun l8 => xm_O (xm_at l8 3) (fun z9 => Q (some (.inl z9), w6)))))))))))) :
  xm_EQ (xm_old sc) xm_sta f xm_c1158 0 [some (.inr (.inl (some x0))), some (.inl x1)] [] w Q :=
  (xq_iload_n k_1158_0 rfl (xq_iconst k_1158_1 (xq_bipush k_1158_2 (xq_invs2 k_1158_3 xr_1103 rfl rfl rfl h (fun z2 w1 h => (xq_if_ne k_1158_4 h (fun h => (xq_aload_n k_1158_5 rfl (xq_iconst k_1158_6 (xq_invv1 k_1158_7 xr_1102 rfl rfl rfl h (fun z13 w12 h => (xq_ireturn k_1158_8 h)))))) (fun h => (xq_aload_n k_1158_9 rfl (xq_getr k_1158_10 rfl h (fun r3 h => (xq_iconst k_1158_11 (xq_iaload k_1158_12 h (fun l4 h => h) (fun l4 z5 h => (xq_iload_n k_1158_13 rfl (xq_iadd k_1158_14 (xq_sipush k_1158_15 (xq_ic_le k_1158_16 h (fun h => (xq_aload_n k_1158_17 rfl (xq_iconst k_1158_18 (xq_invv1 k_1158_19 xr_1102 rfl rfl rfl h (fun z11 w10 h => (xq_ireturn k_1158_20 h)))))) (fun h => (xq_aload_n k_1158_21 rfl (xq_iload_n k_1158_22 rfl (xq_invv0 k_1158_23 xr_1157 rfl rfl rfl h (fun w6 h => (xq_aload_n k_1158_24 rfl (xq_getr k_1158_25 rfl h (fun r7 h => (xq_iconst k_1158_26 (xq_iaload k_1158_27 h (fun l8 h => h) (fun l8 z9 h => (xq_ireturn k_1158_28 h)))))))))))))))))))))))))))))
/-- ShodBackwardsModel.draw()I -/
theorem d_1159_0 : List.drop 0 xm_c1159 = xm_c1159 := rfl
theorem k_1159_0 : xm_gi xm_c1159 0 = some xm_e1159_0 := xm_gt d_1159_0
theorem d_1159_1 : List.drop 1 xm_c1159 = xm_c1159_1 := xm_dr d_1159_0
theorem k_1159_1 : xm_gi xm_c1159 1 = some xm_e1159_1 := xm_gt d_1159_1
theorem d_1159_2 : List.drop 2 xm_c1159 = xm_c1159_2 := xm_dr d_1159_1
theorem k_1159_2 : xm_gi xm_c1159 2 = some xm_e1159_2 := xm_gt d_1159_2
theorem d_1159_3 : List.drop 3 xm_c1159 = xm_c1159_3 := xm_dr d_1159_2
theorem k_1159_3 : xm_gi xm_c1159 3 = some xm_e1159_3 := xm_gt d_1159_3
theorem d_1159_4 : List.drop 4 xm_c1159 = xm_c1159_4 := xm_dr d_1159_3
theorem k_1159_4 : xm_gi xm_c1159 4 = some xm_e1159_4 := xm_gt d_1159_4
theorem d_1159_5 : List.drop 5 xm_c1159 = xm_c1159_5 := xm_dr d_1159_4
theorem k_1159_5 : xm_gi xm_c1159 5 = some xm_e1159_5 := xm_gt d_1159_5
theorem d_1159_6 : List.drop 6 xm_c1159 = xm_c1159_6 := xm_dr d_1159_5
theorem k_1159_6 : xm_gi xm_c1159 6 = some xm_e1159_6 := xm_gt d_1159_6
theorem d_1159_7 : List.drop 7 xm_c1159 = xm_c1159_7 := xm_dr d_1159_6
theorem k_1159_7 : xm_gi xm_c1159 7 = some xm_e1159_7 := xm_gt d_1159_7
theorem d_1159_8 : List.drop 8 xm_c1159 = xm_c1159_8 := xm_dr d_1159_7
theorem k_1159_8 : xm_gi xm_c1159 8 = some xm_e1159_8 := xm_gt d_1159_8
theorem d_1159_9 : List.drop 9 xm_c1159 = xm_c1159_9 := xm_dr d_1159_8
theorem k_1159_9 : xm_gi xm_c1159 9 = some xm_e1159_9 := xm_gt d_1159_9
theorem d_1159_10 : List.drop 10 xm_c1159 = xm_c1159_10 := xm_dr d_1159_9
theorem k_1159_10 : xm_gi xm_c1159 10 = some xm_e1159_10 := xm_gt d_1159_10
theorem d_1159_11 : List.drop 11 xm_c1159 = xm_c1159_11 := xm_dr d_1159_10
theorem k_1159_11 : xm_gi xm_c1159 11 = some xm_e1159_11 := xm_gt d_1159_11
theorem d_1159_12 : List.drop 12 xm_c1159 = xm_c1159_12 := xm_dr d_1159_11
theorem k_1159_12 : xm_gi xm_c1159 12 = some xm_e1159_12 := xm_gt d_1159_12
theorem d_1159_13 : List.drop 13 xm_c1159 = xm_c1159_13 := xm_dr d_1159_12
theorem k_1159_13 : xm_gi xm_c1159 13 = some xm_e1159_13 := xm_gt d_1159_13
theorem d_1159_14 : List.drop 14 xm_c1159 = xm_c1159_14 := xm_dr d_1159_13
theorem k_1159_14 : xm_gi xm_c1159 14 = some xm_e1159_14 := xm_gt d_1159_14
theorem d_1159_15 : List.drop 15 xm_c1159 = xm_c1159_15 := xm_dr d_1159_14
theorem k_1159_15 : xm_gi xm_c1159 15 = some xm_e1159_15 := xm_gt d_1159_15
theorem d_1159_16 : List.drop 16 xm_c1159 = xm_c1159_16 := xm_dr d_1159_15
theorem k_1159_16 : xm_gi xm_c1159 16 = some xm_e1159_16 := xm_gt d_1159_16
theorem d_1159_17 : List.drop 17 xm_c1159 = xm_c1159_17 := xm_dr d_1159_16
theorem k_1159_17 : xm_gi xm_c1159 17 = some xm_e1159_17 := xm_gt d_1159_17
theorem d_1159_18 : List.drop 18 xm_c1159 = xm_c1159_18 := xm_dr d_1159_17
theorem k_1159_18 : xm_gi xm_c1159 18 = some xm_e1159_18 := xm_gt d_1159_18
theorem xb_1159_0 {sc : List Int} {f : Nat → List xm_V → xm_W → xm_R} {w : xm_W} {Q : Option xm_V × xm_W → Prop} {x0 : Nat}
  (h : xm_O (xm_fr (xm_old sc) w x0 9 0) (fun r1 => xm_O (xm_fr (xm_old sc) w x0 9 0) (fun r2 => xm_O (xm_ints (xm_old sc) w r2) (fun l3 => xm_O (xm_at l3 6) (fun z4 => xm_O (xm_seti w r1 6 (xm_w ((xm_w (z4 * 1103515245)) + 12345))) (fun w5 => xm_O (xm_fr (xm_old sc) w5 x0 9 0) (fun r6 => xm_O (xm_ints (xm_old sc) w5 r6) (fun l7 => xm_O (xm_at l7 6) (fun z8 => Q (some (.inl (xm_ushr z8 8)), w5)))))))))) :
  xm_EQ (xm_old sc) xm_sta f xm_c1159 0 [some (.inr (.inl (some x0)))] [] w Q :=
  (xq_aload_n k_1159_0 rfl (xq_getr k_1159_1 rfl h (fun r1 h => (xq_bipush k_1159_2 (xq_aload_n k_1159_3 rfl (xq_getr k_1159_4 rfl h (fun r2 h => (xq_bipush k_1159_5 (xq_iaload k_1159_6 h (fun l3 h => h) (fun l3 z4 h => (xq_ldc k_1159_7 (xq_imul k_1159_8 (xq_sipush k_1159_9 (xq_iadd k_1159_10 (xq_iastore k_1159_11 h (fun w5 h => (xq_aload_n k_1159_12 rfl (xq_getr k_1159_13 rfl h (fun r6 h => (xq_bipush k_1159_14 (xq_iaload k_1159_15 h (fun l7 h => h) (fun l7 z8 h => (xq_bipush k_1159_16 (xq_iushr k_1159_17 (xq_ireturn k_1159_18 h)))))))))))))))))))))))))
/-- ShodBackwardsModel.draws(I)I -/
theorem d_1160_0 : List.drop 0 xm_c1160 = xm_c1160 := rfl
theorem k_1160_0 : xm_gi xm_c1160 0 = some xm_e1160_0 := xm_gt d_1160_0
theorem d_1160_1 : List.drop 1 xm_c1160 = xm_c1160_1 := xm_dr d_1160_0
theorem k_1160_1 : xm_gi xm_c1160 1 = some xm_e1160_1 := xm_gt d_1160_1
theorem d_1160_2 : List.drop 2 xm_c1160 = xm_c1160_2 := xm_dr d_1160_1
theorem k_1160_2 : xm_gi xm_c1160 2 = some xm_e1160_2 := xm_gt d_1160_2
theorem d_1160_3 : List.drop 3 xm_c1160 = xm_c1160_3 := xm_dr d_1160_2
theorem k_1160_3 : xm_gi xm_c1160 3 = some xm_e1160_3 := xm_gt d_1160_3
theorem d_1160_4 : List.drop 4 xm_c1160 = xm_c1160_4 := xm_dr d_1160_3
theorem k_1160_4 : xm_gi xm_c1160 4 = some xm_e1160_4 := xm_gt d_1160_4
theorem d_1160_5 : List.drop 5 xm_c1160 = xm_c1160_5 := xm_dr d_1160_4
theorem k_1160_5 : xm_gi xm_c1160 5 = some xm_e1160_5 := xm_gt d_1160_5
theorem d_1160_6 : List.drop 6 xm_c1160 = xm_c1160_6 := xm_dr d_1160_5
theorem k_1160_6 : xm_gi xm_c1160 6 = some xm_e1160_6 := xm_gt d_1160_6
theorem d_1160_7 : List.drop 7 xm_c1160 = xm_c1160_7 := xm_dr d_1160_6
theorem k_1160_7 : xm_gi xm_c1160 7 = some xm_e1160_7 := xm_gt d_1160_7
theorem d_1160_8 : List.drop 8 xm_c1160 = xm_c1160_8 := xm_dr d_1160_7
theorem k_1160_8 : xm_gi xm_c1160 8 = some xm_e1160_8 := xm_gt d_1160_8
theorem d_1160_9 : List.drop 9 xm_c1160 = xm_c1160_9 := xm_dr d_1160_8
theorem k_1160_9 : xm_gi xm_c1160 9 = some xm_e1160_9 := xm_gt d_1160_9
theorem d_1160_10 : List.drop 10 xm_c1160 = xm_c1160_10 := xm_dr d_1160_9
theorem k_1160_10 : xm_gi xm_c1160 10 = some xm_e1160_10 := xm_gt d_1160_10
theorem d_1160_11 : List.drop 11 xm_c1160 = xm_c1160_11 := xm_dr d_1160_10
theorem k_1160_11 : xm_gi xm_c1160 11 = some xm_e1160_11 := xm_gt d_1160_11
theorem d_1160_12 : List.drop 12 xm_c1160 = xm_c1160_12 := xm_dr d_1160_11
theorem k_1160_12 : xm_gi xm_c1160 12 = some xm_e1160_12 := xm_gt d_1160_12
theorem d_1160_13 : List.drop 13 xm_c1160 = xm_c1160_13 := xm_dr d_1160_12
theorem k_1160_13 : xm_gi xm_c1160 13 = some xm_e1160_13 := xm_gt d_1160_13
theorem d_1160_14 : List.drop 14 xm_c1160 = xm_c1160_14 := xm_dr d_1160_13
theorem k_1160_14 : xm_gi xm_c1160 14 = some xm_e1160_14 := xm_gt d_1160_14
theorem d_1160_15 : List.drop 15 xm_c1160 = xm_c1160_15 := xm_dr d_1160_14
theorem k_1160_15 : xm_gi xm_c1160 15 = some xm_e1160_15 := xm_gt d_1160_15
theorem d_1160_16 : List.drop 16 xm_c1160 = xm_c1160_16 := xm_dr d_1160_15
theorem k_1160_16 : xm_gi xm_c1160 16 = some xm_e1160_16 := xm_gt d_1160_16
theorem d_1160_17 : List.drop 17 xm_c1160 = xm_c1160_17 := xm_dr d_1160_16
theorem k_1160_17 : xm_gi xm_c1160 17 = some xm_e1160_17 := xm_gt d_1160_17
theorem d_1160_18 : List.drop 18 xm_c1160 = xm_c1160_18 := xm_dr d_1160_17
theorem k_1160_18 : xm_gi xm_c1160 18 = some xm_e1160_18 := xm_gt d_1160_18
theorem d_1160_19 : List.drop 19 xm_c1160 = xm_c1160_19 := xm_dr d_1160_18
theorem k_1160_19 : xm_gi xm_c1160 19 = some xm_e1160_19 := xm_gt d_1160_19
theorem d_1160_20 : List.drop 20 xm_c1160 = xm_c1160_20 := xm_dr d_1160_19
theorem k_1160_20 : xm_gi xm_c1160 20 = some xm_e1160_20 := xm_gt d_1160_20
theorem d_1160_21 : List.drop 21 xm_c1160 = xm_c1160_21 := xm_dr d_1160_20
theorem k_1160_21 : xm_gi xm_c1160 21 = some xm_e1160_21 := xm_gt d_1160_21
theorem d_1160_22 : List.drop 22 xm_c1160 = xm_c1160_22 := xm_dr d_1160_21
theorem k_1160_22 : xm_gi xm_c1160 22 = some xm_e1160_22 := xm_gt d_1160_22
theorem d_1160_23 : List.drop 23 xm_c1160 = xm_c1160_23 := xm_dr d_1160_22
theorem k_1160_23 : xm_gi xm_c1160 23 = some xm_e1160_23 := xm_gt d_1160_23
theorem d_1160_24 : List.drop 24 xm_c1160 = xm_c1160_24 := xm_dr d_1160_23
theorem k_1160_24 : xm_gi xm_c1160 24 = some xm_e1160_24 := xm_gt d_1160_24
theorem d_1160_25 : List.drop 25 xm_c1160 = xm_c1160_25 := xm_dr d_1160_24
theorem k_1160_25 : xm_gi xm_c1160 25 = some xm_e1160_25 := xm_gt d_1160_25
theorem d_1160_26 : List.drop 26 xm_c1160 = xm_c1160_26 := xm_dr d_1160_25
theorem k_1160_26 : xm_gi xm_c1160 26 = some xm_e1160_26 := xm_gt d_1160_26
theorem d_1160_27 : List.drop 27 xm_c1160 = xm_c1160_27 := xm_dr d_1160_26
theorem k_1160_27 : xm_gi xm_c1160 27 = some xm_e1160_27 := xm_gt d_1160_27
theorem d_1160_28 : List.drop 28 xm_c1160 = xm_c1160_28 := xm_dr d_1160_27
theorem k_1160_28 : xm_gi xm_c1160 28 = some xm_e1160_28 := xm_gt d_1160_28
theorem d_1160_29 : List.drop 29 xm_c1160 = xm_c1160_29 := xm_dr d_1160_28
theorem k_1160_29 : xm_gi xm_c1160 29 = some xm_e1160_29 := xm_gt d_1160_29
theorem d_1160_30 : List.drop 30 xm_c1160 = xm_c1160_30 := xm_dr d_1160_29
theorem k_1160_30 : xm_gi xm_c1160 30 = some xm_e1160_30 := xm_gt d_1160_30
theorem d_1160_31 : List.drop 31 xm_c1160 = xm_c1160_31 := xm_dr d_1160_30
theorem k_1160_31 : xm_gi xm_c1160 31 = some xm_e1160_31 := xm_gt d_1160_31
theorem d_1160_32 : List.drop 32 xm_c1160 = xm_c1160_32 := xm_dr d_1160_31
theorem k_1160_32 : xm_gi xm_c1160 32 = some xm_e1160_32 := xm_gt d_1160_32
theorem d_1160_33 : List.drop 33 xm_c1160 = xm_c1160_33 := xm_dr d_1160_32
theorem k_1160_33 : xm_gi xm_c1160 33 = some xm_e1160_33 := xm_gt d_1160_33
theorem d_1160_34 : List.drop 34 xm_c1160 = xm_c1160_34 := xm_dr d_1160_33
theorem k_1160_34 : xm_gi xm_c1160 34 = some xm_e1160_34 := xm_gt d_1160_34
theorem d_1160_35 : List.drop 35 xm_c1160 = xm_c1160_35 := xm_dr d_1160_34
theorem k_1160_35 : xm_gi xm_c1160 35 = some xm_e1160_35 := xm_gt d_1160_35
theorem d_1160_36 : List.drop 36 xm_c1160 = xm_c1160_36 := xm_dr d_1160_35
theorem k_1160_36 : xm_gi xm_c1160 36 = some xm_e1160_36 := xm_gt d_1160_36
theorem d_1160_37 : List.drop 37 xm_c1160 = xm_c1160_37 := xm_dr d_1160_36
theorem k_1160_37 : xm_gi xm_c1160 37 = some xm_e1160_37 := xm_gt d_1160_37
theorem d_1160_38 : List.drop 38 xm_c1160 = xm_c1160_38 := xm_dr d_1160_37
theorem k_1160_38 : xm_gi xm_c1160 38 = some xm_e1160_38 := xm_gt d_1160_38
theorem d_1160_39 : List.drop 39 xm_c1160 = xm_c1160_39 := xm_dr d_1160_38
theorem k_1160_39 : xm_gi xm_c1160 39 = some xm_e1160_39 := xm_gt d_1160_39
theorem d_1160_40 : List.drop 40 xm_c1160 = xm_c1160_40 := xm_dr d_1160_39
theorem k_1160_40 : xm_gi xm_c1160 40 = some xm_e1160_40 := xm_gt d_1160_40
theorem d_1160_41 : List.drop 41 xm_c1160 = xm_c1160_41 := xm_dr d_1160_40
theorem k_1160_41 : xm_gi xm_c1160 41 = some xm_e1160_41 := xm_gt d_1160_41
theorem xb_1160_0 {sc : List Int} {f : Nat → List xm_V → xm_W → xm_R} {w : xm_W} {Q : Option xm_V × xm_W → Prop} {x0 : Nat} {x1 : Int}
  (h : xm_Oi (f 1103 [.inl x1, .inl 1, .inl 24] w) (fun z2 w1 => if (z2 : Int) = 0 then (xm_Oi (f 1102 [.inr (.inl (some x0)), .inl 1] w1) (fun z9 w8 => Q (some (.inl z9), w8))) else (xm_O (xm_fr (xm_old sc) w1 x0 9 0) (fun r3 => xm_O (xm_ints (xm_old sc) w1 r3) (fun l4 => xm_O (xm_at l4 1) (fun z5 => if (9999 : Int) < (xm_w (z5 + x1)) then (xm_Oi (f 1102 [.inr (.inl (some x0)), .inl 3] w1) (fun z7 w6 => Q (some (.inl z7), w6))) else (xm_EQ (xm_old sc) xm_sta f xm_c1160 23 [some (.inr (.inl (some x0))), some (.inl x1), some (.inl 0)] [] w1 Q))))))) :
  xm_EQ (xm_old sc) xm_sta f xm_c1160 0 [some (.inr (.inl (some x0))), some (.inl x1), none] [] w Q :=
  (xq_iload_n k_1160_0 rfl (xq_iconst k_1160_1 (xq_bipush k_1160_2 (xq_invs2 k_1160_3 xr_1103 rfl rfl rfl h (fun z2 w1 h => (xq_if_ne k_1160_4 h (fun h => (xq_aload_n k_1160_5 rfl (xq_iconst k_1160_6 (xq_invv1 k_1160_7 xr_1102 rfl rfl rfl h (fun z9 w8 h => (xq_ireturn k_1160_8 h)))))) (fun h => (xq_aload_n k_1160_9 rfl (xq_getr k_1160_10 rfl h (fun r3 h => (xq_iconst k_1160_11 (xq_iaload k_1160_12 h (fun l4 h => h) (fun l4 z5 h => (xq_iload_n k_1160_13 rfl (xq_iadd k_1160_14 (xq_sipush k_1160_15 (xq_ic_le k_1160_16 h (fun h => (xq_aload_n k_1160_17 rfl (xq_iconst k_1160_18 (xq_invv1 k_1160_19 xr_1102 rfl rfl rfl h (fun z7 w6 h => (xq_ireturn k_1160_20 h)))))) (fun h => (xq_iconst k_1160_21 (xq_istore_n k_1160_22 rfl h))))))))))))))))))))
theorem xb_1160_23 {sc : List Int} {f : Nat → List xm_V → xm_W → xm_R} {w : xm_W} {Q : Option xm_V × xm_W → Prop} {x0 : Nat} {x1 : Int} {x2 : Int}
  (h : if (x2 : Int) < x1 then (xm_Ov (f 1156 [.inr (.inl (some x0))] w) (fun w4 => xm_Oi (f 1159 [.inr (.inl (some x0))] w4) (fun z6 w5 => (36 : Int) ≠ 0 ∧ (xm_Ov (f 1132 [.inr (.inl (some x0)), .inl 0, .inl (Int.tmod z6 36)] w5) (fun w7 => xm_EQ (xm_old sc) xm_sta f xm_c1160 23 [some (.inr (.inl (some x0))), some (.inl x1), some (.inl (xm_w (x2 + 1)))] [] w7 Q))))) else (xm_O (xm_fr (xm_old sc) w x0 9 0) (fun r1 => xm_O (xm_ints (xm_old sc) w r1) (fun l2 => xm_O (xm_at l2 3) (fun z3 => Q (some (.inl z3), w)))))) :
  xm_EQ (xm_old sc) xm_sta f xm_c1160 23 [some (.inr (.inl (some x0))), some (.inl x1), some (.inl x2)] [] w Q :=
  (xq_iload_n k_1160_23 rfl (xq_iload_n k_1160_24 rfl (xq_ic_ge k_1160_25 h (fun h => (xq_aload_n k_1160_26 rfl (xq_invv0 k_1160_27 xr_1156 rfl rfl rfl h (fun w4 h => (xq_aload_n k_1160_28 rfl (xq_iconst k_1160_29 (xq_aload_n k_1160_30 rfl (xq_invv1 k_1160_31 xr_1159 rfl rfl rfl h (fun z6 w5 h => (xq_bipush k_1160_32 (xq_irem k_1160_33 h (fun h => (xq_invv0 k_1160_34 xr_1132 rfl rfl rfl h (fun w7 h => (xq_iinc k_1160_35 rfl rfl (xq_goto k_1160_36 h)))))))))))))))) (fun h => (xq_aload_n k_1160_37 rfl (xq_getr k_1160_38 rfl h (fun r1 h => (xq_iconst k_1160_39 (xq_iaload k_1160_40 h (fun l2 h => h) (fun l2 z3 h => (xq_ireturn k_1160_41 h)))))))))))
/-- ShodBackwardsModel.seed(I)I -/
theorem d_1161_0 : List.drop 0 xm_c1161 = xm_c1161 := rfl
theorem k_1161_0 : xm_gi xm_c1161 0 = some xm_e1161_0 := xm_gt d_1161_0
theorem d_1161_1 : List.drop 1 xm_c1161 = xm_c1161_1 := xm_dr d_1161_0
theorem k_1161_1 : xm_gi xm_c1161 1 = some xm_e1161_1 := xm_gt d_1161_1
theorem d_1161_2 : List.drop 2 xm_c1161 = xm_c1161_2 := xm_dr d_1161_1
theorem k_1161_2 : xm_gi xm_c1161 2 = some xm_e1161_2 := xm_gt d_1161_2
theorem d_1161_3 : List.drop 3 xm_c1161 = xm_c1161_3 := xm_dr d_1161_2
theorem k_1161_3 : xm_gi xm_c1161 3 = some xm_e1161_3 := xm_gt d_1161_3
theorem d_1161_4 : List.drop 4 xm_c1161 = xm_c1161_4 := xm_dr d_1161_3
theorem k_1161_4 : xm_gi xm_c1161 4 = some xm_e1161_4 := xm_gt d_1161_4
theorem xb_1161_0 {sc : List Int} {f : Nat → List xm_V → xm_W → xm_R} {w : xm_W} {Q : Option xm_V × xm_W → Prop} {x0 : Nat} {x1 : Int}
  (h : xm_Oi (f 1113 [.inr (.inl (some x0)), .inl 6, .inl x1] w) (fun z2 w1 => Q (some (.inl z2), w1))) :
  xm_EQ (xm_old sc) xm_sta f xm_c1161 0 [some (.inr (.inl (some x0))), some (.inl x1)] [] w Q :=
  (xq_aload_n k_1161_0 rfl (xq_bipush k_1161_1 (xq_iload_n k_1161_2 rfl (xq_invv1 k_1161_3 xr_1113 rfl rfl rfl h (fun z2 w1 h => (xq_ireturn k_1161_4 h))))))
/-- ShodBackwardsModel.print(II)I -/
theorem d_1162_0 : List.drop 0 xm_c1162 = xm_c1162 := rfl
theorem k_1162_0 : xm_gi xm_c1162 0 = some xm_e1162_0 := xm_gt d_1162_0
theorem d_1162_1 : List.drop 1 xm_c1162 = xm_c1162_1 := xm_dr d_1162_0
theorem k_1162_1 : xm_gi xm_c1162 1 = some xm_e1162_1 := xm_gt d_1162_1
theorem d_1162_2 : List.drop 2 xm_c1162 = xm_c1162_2 := xm_dr d_1162_1
theorem k_1162_2 : xm_gi xm_c1162 2 = some xm_e1162_2 := xm_gt d_1162_2
theorem d_1162_3 : List.drop 3 xm_c1162 = xm_c1162_3 := xm_dr d_1162_2
theorem k_1162_3 : xm_gi xm_c1162 3 = some xm_e1162_3 := xm_gt d_1162_3
theorem d_1162_4 : List.drop 4 xm_c1162 = xm_c1162_4 := xm_dr d_1162_3
theorem k_1162_4 : xm_gi xm_c1162 4 = some xm_e1162_4 := xm_gt d_1162_4
theorem d_1162_5 : List.drop 5 xm_c1162 = xm_c1162_5 := xm_dr d_1162_4
theorem k_1162_5 : xm_gi xm_c1162 5 = some xm_e1162_5 := xm_gt d_1162_5
theorem d_1162_6 : List.drop 6 xm_c1162 = xm_c1162_6 := xm_dr d_1162_5
theorem k_1162_6 : xm_gi xm_c1162 6 = some xm_e1162_6 := xm_gt d_1162_6
theorem d_1162_7 : List.drop 7 xm_c1162 = xm_c1162_7 := xm_dr d_1162_6
theorem k_1162_7 : xm_gi xm_c1162 7 = some xm_e1162_7 := xm_gt d_1162_7
theorem d_1162_8 : List.drop 8 xm_c1162 = xm_c1162_8 := xm_dr d_1162_7
theorem k_1162_8 : xm_gi xm_c1162 8 = some xm_e1162_8 := xm_gt d_1162_8
theorem d_1162_9 : List.drop 9 xm_c1162 = xm_c1162_9 := xm_dr d_1162_8
theorem k_1162_9 : xm_gi xm_c1162 9 = some xm_e1162_9 := xm_gt d_1162_9
theorem d_1162_10 : List.drop 10 xm_c1162 = xm_c1162_10 := xm_dr d_1162_9
theorem k_1162_10 : xm_gi xm_c1162 10 = some xm_e1162_10 := xm_gt d_1162_10
theorem d_1162_11 : List.drop 11 xm_c1162 = xm_c1162_11 := xm_dr d_1162_10
theorem k_1162_11 : xm_gi xm_c1162 11 = some xm_e1162_11 := xm_gt d_1162_11
theorem d_1162_12 : List.drop 12 xm_c1162 = xm_c1162_12 := xm_dr d_1162_11
theorem k_1162_12 : xm_gi xm_c1162 12 = some xm_e1162_12 := xm_gt d_1162_12
theorem d_1162_13 : List.drop 13 xm_c1162 = xm_c1162_13 := xm_dr d_1162_12
theorem k_1162_13 : xm_gi xm_c1162 13 = some xm_e1162_13 := xm_gt d_1162_13
theorem d_1162_14 : List.drop 14 xm_c1162 = xm_c1162_14 := xm_dr d_1162_13
theorem k_1162_14 : xm_gi xm_c1162 14 = some xm_e1162_14 := xm_gt d_1162_14
theorem d_1162_15 : List.drop 15 xm_c1162 = xm_c1162_15 := xm_dr d_1162_14
theorem k_1162_15 : xm_gi xm_c1162 15 = some xm_e1162_15 := xm_gt d_1162_15
theorem d_1162_16 : List.drop 16 xm_c1162 = xm_c1162_16 := xm_dr d_1162_15
theorem k_1162_16 : xm_gi xm_c1162 16 = some xm_e1162_16 := xm_gt d_1162_16
theorem d_1162_17 : List.drop 17 xm_c1162 = xm_c1162_17 := xm_dr d_1162_16
theorem k_1162_17 : xm_gi xm_c1162 17 = some xm_e1162_17 := xm_gt d_1162_17
theorem d_1162_18 : List.drop 18 xm_c1162 = xm_c1162_18 := xm_dr d_1162_17
theorem k_1162_18 : xm_gi xm_c1162 18 = some xm_e1162_18 := xm_gt d_1162_18
theorem d_1162_19 : List.drop 19 xm_c1162 = xm_c1162_19 := xm_dr d_1162_18
theorem k_1162_19 : xm_gi xm_c1162 19 = some xm_e1162_19 := xm_gt d_1162_19
theorem d_1162_20 : List.drop 20 xm_c1162 = xm_c1162_20 := xm_dr d_1162_19
theorem k_1162_20 : xm_gi xm_c1162 20 = some xm_e1162_20 := xm_gt d_1162_20
theorem d_1162_21 : List.drop 21 xm_c1162 = xm_c1162_21 := xm_dr d_1162_20
theorem k_1162_21 : xm_gi xm_c1162 21 = some xm_e1162_21 := xm_gt d_1162_21
theorem d_1162_22 : List.drop 22 xm_c1162 = xm_c1162_22 := xm_dr d_1162_21
theorem k_1162_22 : xm_gi xm_c1162 22 = some xm_e1162_22 := xm_gt d_1162_22
theorem d_1162_23 : List.drop 23 xm_c1162 = xm_c1162_23 := xm_dr d_1162_22
theorem k_1162_23 : xm_gi xm_c1162 23 = some xm_e1162_23 := xm_gt d_1162_23
theorem xb_1162_0 {sc : List Int} {f : Nat → List xm_V → xm_W → xm_R} {w : xm_W} {Q : Option xm_V × xm_W → Prop} {x0 : Nat} {x1 : Int} {x2 : Int}
  (h : xm_O (xm_fr (xm_old sc) w x0 9 0) (fun r1 => xm_O (xm_ints (xm_old sc) w r1) (fun l2 => xm_O (xm_at l2 3) (fun z3 => xm_Oi (f 1103 [.inl x1, .inl 0, .inl (xm_w (z3 - 1))] w) (fun z5 w4 => if (z5 : Int) = 0 then (xm_Oi (f 1102 [.inr (.inl (some x0)), .inl 1] w4) (fun z7 w6 => Q (some (.inl z7), w6))) else (xm_Oi (f 1103 [.inl x2, .inl 0, .inl 4] w4) (fun z9 w8 => if (z9 : Int) = 0 then (xm_Oi (f 1102 [.inr (.inl (some x0)), .inl 1] w8) (fun z11 w10 => Q (some (.inl z11), w10))) else (xm_Oi (f 1112 [.inr (.inl (some x0)), .inl x1, .inl x2] w8) (fun z13 w12 => Q (some (.inl z13), w12)))))))))) :
  xm_EQ (xm_old sc) xm_sta f xm_c1162 0 [some (.inr (.inl (some x0))), some (.inl x1), some (.inl x2)] [] w Q :=
  (xq_iload_n k_1162_0 rfl (xq_iconst k_1162_1 (xq_aload_n k_1162_2 rfl (xq_getr k_1162_3 rfl h (fun r1 h => (xq_iconst k_1162_4 (xq_iaload k_1162_5 h (fun l2 h => h) (fun l2 z3 h => (xq_iconst k_1162_6 (xq_isub k_1162_7 (xq_invs2 k_1162_8 xr_1103 rfl rfl rfl h (fun z5 w4 h => (xq_if_eq k_1162_9 h (fun h => (xq_aload_n k_1162_20 rfl (xq_iconst k_1162_21 (xq_invv1 k_1162_22 xr_1102 rfl rfl rfl h (fun z7 w6 h => (xq_ireturn k_1162_23 h)))))) (fun h => (xq_iload_n k_1162_10 rfl (xq_iconst k_1162_11 (xq_iconst k_1162_12 (xq_invs2 k_1162_13 xr_1103 rfl rfl rfl h (fun z9 w8 h => (xq_if_eq k_1162_14 h (fun h => (xq_aload_n k_1162_20 rfl (xq_iconst k_1162_21 (xq_invv1 k_1162_22 xr_1102 rfl rfl rfl h (fun z11 w10 h => (xq_ireturn k_1162_23 h)))))) (fun h => (xq_aload_n k_1162_15 rfl (xq_iload_n k_1162_16 rfl (xq_iload_n k_1162_17 rfl (xq_invv1 k_1162_18 xr_1112 rfl rfl rfl h (fun z13 w12 h => (xq_goto k_1162_19 (xq_ireturn k_1162_23 h))))))))))))))))))))))))))))
/-- ShodBackwardsModel.latest(I)I -/
theorem d_1163_0 : List.drop 0 xm_c1163 = xm_c1163 := rfl
theorem k_1163_0 : xm_gi xm_c1163 0 = some xm_e1163_0 := xm_gt d_1163_0
theorem d_1163_1 : List.drop 1 xm_c1163 = xm_c1163_1 := xm_dr d_1163_0
theorem k_1163_1 : xm_gi xm_c1163 1 = some xm_e1163_1 := xm_gt d_1163_1
theorem d_1163_2 : List.drop 2 xm_c1163 = xm_c1163_2 := xm_dr d_1163_1
theorem k_1163_2 : xm_gi xm_c1163 2 = some xm_e1163_2 := xm_gt d_1163_2
theorem d_1163_3 : List.drop 3 xm_c1163 = xm_c1163_3 := xm_dr d_1163_2
theorem k_1163_3 : xm_gi xm_c1163 3 = some xm_e1163_3 := xm_gt d_1163_3
theorem d_1163_4 : List.drop 4 xm_c1163 = xm_c1163_4 := xm_dr d_1163_3
theorem k_1163_4 : xm_gi xm_c1163 4 = some xm_e1163_4 := xm_gt d_1163_4
theorem d_1163_5 : List.drop 5 xm_c1163 = xm_c1163_5 := xm_dr d_1163_4
theorem k_1163_5 : xm_gi xm_c1163 5 = some xm_e1163_5 := xm_gt d_1163_5
theorem d_1163_6 : List.drop 6 xm_c1163 = xm_c1163_6 := xm_dr d_1163_5
theorem k_1163_6 : xm_gi xm_c1163 6 = some xm_e1163_6 := xm_gt d_1163_6
theorem d_1163_7 : List.drop 7 xm_c1163 = xm_c1163_7 := xm_dr d_1163_6
theorem k_1163_7 : xm_gi xm_c1163 7 = some xm_e1163_7 := xm_gt d_1163_7
theorem d_1163_8 : List.drop 8 xm_c1163 = xm_c1163_8 := xm_dr d_1163_7
theorem k_1163_8 : xm_gi xm_c1163 8 = some xm_e1163_8 := xm_gt d_1163_8
theorem d_1163_9 : List.drop 9 xm_c1163 = xm_c1163_9 := xm_dr d_1163_8
theorem k_1163_9 : xm_gi xm_c1163 9 = some xm_e1163_9 := xm_gt d_1163_9
theorem d_1163_10 : List.drop 10 xm_c1163 = xm_c1163_10 := xm_dr d_1163_9
theorem k_1163_10 : xm_gi xm_c1163 10 = some xm_e1163_10 := xm_gt d_1163_10
theorem d_1163_11 : List.drop 11 xm_c1163 = xm_c1163_11 := xm_dr d_1163_10
theorem k_1163_11 : xm_gi xm_c1163 11 = some xm_e1163_11 := xm_gt d_1163_11
theorem d_1163_12 : List.drop 12 xm_c1163 = xm_c1163_12 := xm_dr d_1163_11
theorem k_1163_12 : xm_gi xm_c1163 12 = some xm_e1163_12 := xm_gt d_1163_12
theorem d_1163_13 : List.drop 13 xm_c1163 = xm_c1163_13 := xm_dr d_1163_12
theorem k_1163_13 : xm_gi xm_c1163 13 = some xm_e1163_13 := xm_gt d_1163_13
theorem d_1163_14 : List.drop 14 xm_c1163 = xm_c1163_14 := xm_dr d_1163_13
theorem k_1163_14 : xm_gi xm_c1163 14 = some xm_e1163_14 := xm_gt d_1163_14
theorem d_1163_15 : List.drop 15 xm_c1163 = xm_c1163_15 := xm_dr d_1163_14
theorem k_1163_15 : xm_gi xm_c1163 15 = some xm_e1163_15 := xm_gt d_1163_15
theorem d_1163_16 : List.drop 16 xm_c1163 = xm_c1163_16 := xm_dr d_1163_15
theorem k_1163_16 : xm_gi xm_c1163 16 = some xm_e1163_16 := xm_gt d_1163_16
theorem d_1163_17 : List.drop 17 xm_c1163 = xm_c1163_17 := xm_dr d_1163_16
theorem k_1163_17 : xm_gi xm_c1163 17 = some xm_e1163_17 := xm_gt d_1163_17
theorem d_1163_18 : List.drop 18 xm_c1163 = xm_c1163_18 := xm_dr d_1163_17
theorem k_1163_18 : xm_gi xm_c1163 18 = some xm_e1163_18 := xm_gt d_1163_18
theorem d_1163_19 : List.drop 19 xm_c1163 = xm_c1163_19 := xm_dr d_1163_18
theorem k_1163_19 : xm_gi xm_c1163 19 = some xm_e1163_19 := xm_gt d_1163_19
theorem d_1163_20 : List.drop 20 xm_c1163 = xm_c1163_20 := xm_dr d_1163_19
theorem k_1163_20 : xm_gi xm_c1163 20 = some xm_e1163_20 := xm_gt d_1163_20
theorem d_1163_21 : List.drop 21 xm_c1163 = xm_c1163_21 := xm_dr d_1163_20
theorem k_1163_21 : xm_gi xm_c1163 21 = some xm_e1163_21 := xm_gt d_1163_21
theorem d_1163_22 : List.drop 22 xm_c1163 = xm_c1163_22 := xm_dr d_1163_21
theorem k_1163_22 : xm_gi xm_c1163 22 = some xm_e1163_22 := xm_gt d_1163_22
theorem d_1163_23 : List.drop 23 xm_c1163 = xm_c1163_23 := xm_dr d_1163_22
theorem k_1163_23 : xm_gi xm_c1163 23 = some xm_e1163_23 := xm_gt d_1163_23
theorem d_1163_24 : List.drop 24 xm_c1163 = xm_c1163_24 := xm_dr d_1163_23
theorem k_1163_24 : xm_gi xm_c1163 24 = some xm_e1163_24 := xm_gt d_1163_24
theorem d_1163_25 : List.drop 25 xm_c1163 = xm_c1163_25 := xm_dr d_1163_24
theorem k_1163_25 : xm_gi xm_c1163 25 = some xm_e1163_25 := xm_gt d_1163_25
theorem d_1163_26 : List.drop 26 xm_c1163 = xm_c1163_26 := xm_dr d_1163_25
theorem k_1163_26 : xm_gi xm_c1163 26 = some xm_e1163_26 := xm_gt d_1163_26
theorem d_1163_27 : List.drop 27 xm_c1163 = xm_c1163_27 := xm_dr d_1163_26
theorem k_1163_27 : xm_gi xm_c1163 27 = some xm_e1163_27 := xm_gt d_1163_27
theorem d_1163_28 : List.drop 28 xm_c1163 = xm_c1163_28 := xm_dr d_1163_27
theorem k_1163_28 : xm_gi xm_c1163 28 = some xm_e1163_28 := xm_gt d_1163_28
theorem d_1163_29 : List.drop 29 xm_c1163 = xm_c1163_29 := xm_dr d_1163_28
theorem k_1163_29 : xm_gi xm_c1163 29 = some xm_e1163_29 := xm_gt d_1163_29
theorem d_1163_30 : List.drop 30 xm_c1163 = xm_c1163_30 := xm_dr d_1163_29
theorem k_1163_30 : xm_gi xm_c1163 30 = some xm_e1163_30 := xm_gt d_1163_30
theorem d_1163_31 : List.drop 31 xm_c1163 = xm_c1163_31 := xm_dr d_1163_30
theorem k_1163_31 : xm_gi xm_c1163 31 = some xm_e1163_31 := xm_gt d_1163_31
theorem d_1163_32 : List.drop 32 xm_c1163 = xm_c1163_32 := xm_dr d_1163_31
theorem k_1163_32 : xm_gi xm_c1163 32 = some xm_e1163_32 := xm_gt d_1163_32
theorem d_1163_33 : List.drop 33 xm_c1163 = xm_c1163_33 := xm_dr d_1163_32
theorem k_1163_33 : xm_gi xm_c1163 33 = some xm_e1163_33 := xm_gt d_1163_33
theorem d_1163_34 : List.drop 34 xm_c1163 = xm_c1163_34 := xm_dr d_1163_33
theorem k_1163_34 : xm_gi xm_c1163 34 = some xm_e1163_34 := xm_gt d_1163_34
theorem d_1163_35 : List.drop 35 xm_c1163 = xm_c1163_35 := xm_dr d_1163_34
theorem k_1163_35 : xm_gi xm_c1163 35 = some xm_e1163_35 := xm_gt d_1163_35
theorem d_1163_36 : List.drop 36 xm_c1163 = xm_c1163_36 := xm_dr d_1163_35
theorem k_1163_36 : xm_gi xm_c1163 36 = some xm_e1163_36 := xm_gt d_1163_36
theorem d_1163_37 : List.drop 37 xm_c1163 = xm_c1163_37 := xm_dr d_1163_36
theorem k_1163_37 : xm_gi xm_c1163 37 = some xm_e1163_37 := xm_gt d_1163_37
theorem d_1163_38 : List.drop 38 xm_c1163 = xm_c1163_38 := xm_dr d_1163_37
theorem k_1163_38 : xm_gi xm_c1163 38 = some xm_e1163_38 := xm_gt d_1163_38
theorem d_1163_39 : List.drop 39 xm_c1163 = xm_c1163_39 := xm_dr d_1163_38
theorem k_1163_39 : xm_gi xm_c1163 39 = some xm_e1163_39 := xm_gt d_1163_39
theorem d_1163_40 : List.drop 40 xm_c1163 = xm_c1163_40 := xm_dr d_1163_39
theorem k_1163_40 : xm_gi xm_c1163 40 = some xm_e1163_40 := xm_gt d_1163_40
theorem d_1163_41 : List.drop 41 xm_c1163 = xm_c1163_41 := xm_dr d_1163_40
theorem k_1163_41 : xm_gi xm_c1163 41 = some xm_e1163_41 := xm_gt d_1163_41
theorem d_1163_42 : List.drop 42 xm_c1163 = xm_c1163_42 := xm_dr d_1163_41
theorem k_1163_42 : xm_gi xm_c1163 42 = some xm_e1163_42 := xm_gt d_1163_42
theorem d_1163_43 : List.drop 43 xm_c1163 = xm_c1163_43 := xm_dr d_1163_42
theorem k_1163_43 : xm_gi xm_c1163 43 = some xm_e1163_43 := xm_gt d_1163_43
theorem d_1163_44 : List.drop 44 xm_c1163 = xm_c1163_44 := xm_dr d_1163_43
theorem k_1163_44 : xm_gi xm_c1163 44 = some xm_e1163_44 := xm_gt d_1163_44
theorem d_1163_45 : List.drop 45 xm_c1163 = xm_c1163_45 := xm_dr d_1163_44
theorem k_1163_45 : xm_gi xm_c1163 45 = some xm_e1163_45 := xm_gt d_1163_45
theorem d_1163_46 : List.drop 46 xm_c1163 = xm_c1163_46 := xm_dr d_1163_45
theorem k_1163_46 : xm_gi xm_c1163 46 = some xm_e1163_46 := xm_gt d_1163_46
theorem d_1163_47 : List.drop 47 xm_c1163 = xm_c1163_47 := xm_dr d_1163_46
theorem k_1163_47 : xm_gi xm_c1163 47 = some xm_e1163_47 := xm_gt d_1163_47
theorem d_1163_48 : List.drop 48 xm_c1163 = xm_c1163_48 := xm_dr d_1163_47
theorem k_1163_48 : xm_gi xm_c1163 48 = some xm_e1163_48 := xm_gt d_1163_48
theorem d_1163_49 : List.drop 49 xm_c1163 = xm_c1163_49 := xm_dr d_1163_48
theorem k_1163_49 : xm_gi xm_c1163 49 = some xm_e1163_49 := xm_gt d_1163_49
theorem d_1163_50 : List.drop 50 xm_c1163 = xm_c1163_50 := xm_dr d_1163_49
theorem k_1163_50 : xm_gi xm_c1163 50 = some xm_e1163_50 := xm_gt d_1163_50
theorem d_1163_51 : List.drop 51 xm_c1163 = xm_c1163_51 := xm_dr d_1163_50
theorem k_1163_51 : xm_gi xm_c1163 51 = some xm_e1163_51 := xm_gt d_1163_51
theorem d_1163_52 : List.drop 52 xm_c1163 = xm_c1163_52 := xm_dr d_1163_51
theorem k_1163_52 : xm_gi xm_c1163 52 = some xm_e1163_52 := xm_gt d_1163_52
theorem d_1163_53 : List.drop 53 xm_c1163 = xm_c1163_53 := xm_dr d_1163_52
theorem k_1163_53 : xm_gi xm_c1163 53 = some xm_e1163_53 := xm_gt d_1163_53
theorem d_1163_54 : List.drop 54 xm_c1163 = xm_c1163_54 := xm_dr d_1163_53
theorem k_1163_54 : xm_gi xm_c1163 54 = some xm_e1163_54 := xm_gt d_1163_54
theorem d_1163_55 : List.drop 55 xm_c1163 = xm_c1163_55 := xm_dr d_1163_54
theorem k_1163_55 : xm_gi xm_c1163 55 = some xm_e1163_55 := xm_gt d_1163_55
theorem d_1163_56 : List.drop 56 xm_c1163 = xm_c1163_56 := xm_dr d_1163_55
theorem k_1163_56 : xm_gi xm_c1163 56 = some xm_e1163_56 := xm_gt d_1163_56
theorem d_1163_57 : List.drop 57 xm_c1163 = xm_c1163_57 := xm_dr d_1163_56
theorem k_1163_57 : xm_gi xm_c1163 57 = some xm_e1163_57 := xm_gt d_1163_57
theorem d_1163_58 : List.drop 58 xm_c1163 = xm_c1163_58 := xm_dr d_1163_57
theorem k_1163_58 : xm_gi xm_c1163 58 = some xm_e1163_58 := xm_gt d_1163_58
theorem d_1163_59 : List.drop 59 xm_c1163 = xm_c1163_59 := xm_dr d_1163_58
theorem k_1163_59 : xm_gi xm_c1163 59 = some xm_e1163_59 := xm_gt d_1163_59
theorem xb_1163_0 {sc : List Int} {f : Nat → List xm_V → xm_W → xm_R} {w : xm_W} {Q : Option xm_V × xm_W → Prop} {x0 : Nat} {x1 : Int}
  (h : xm_EQ (xm_old sc) xm_sta f xm_c1163 4 [some (.inr (.inl (some x0))), some (.inl x1), some (.inl (-1)), some (.inl 0), none] [] w Q) :
  xm_EQ (xm_old sc) xm_sta f xm_c1163 0 [some (.inr (.inl (some x0))), some (.inl x1), none, none, none] [] w Q :=
  (xq_iconst k_1163_0 (xq_istore_n k_1163_1 rfl (xq_iconst k_1163_2 (xq_istore_n k_1163_3 rfl h))))
theorem xb_1163_4 {sc : List Int} {f : Nat → List xm_V → xm_W → xm_R} {w : xm_W} {Q : Option xm_V × xm_W → Prop} {x0 : Nat} {x1 : Int} {x2 : Int} {x3 : Int} {u4 : Option xm_V}
  (h : xm_O (xm_fr (xm_old sc) w x0 9 0) (fun r1 => xm_O (xm_ints (xm_old sc) w r1) (fun l2 => xm_O (xm_at l2 3) (fun z3 => if (x3 : Int) < z3 then (xm_Oi (f 1112 [.inr (.inl (some x0)), .inl x3, .inl 0] w) (fun z5 w4 => if (z5 : Int) = x1 then (if (x2 : Int) = (-1) then (if (1 : Int) = 0 then (xm_EQ (xm_old sc) xm_sta f xm_c1163 4 [some (.inr (.inl (some x0))), some (.inl x1), some (.inl x2), some (.inl (xm_w (x3 + 1))), some (.inl 1)] [] w4 Q) else (xm_EQ (xm_old sc) xm_sta f xm_c1163 4 [some (.inr (.inl (some x0))), some (.inl x1), some (.inl x3), some (.inl (xm_w (x3 + 1))), some (.inl 1)] [] w4 Q)) else (xm_Oi (f 1112 [.inr (.inl (some x0)), .inl x3, .inl 3] w4) (fun z7 w6 => xm_Oi (f 1112 [.inr (.inl (some x0)), .inl x2, .inl 3] w6) (fun z9 w8 => if (z9 : Int) < z7 then (if (1 : Int) = 0 then (xm_EQ (xm_old sc) xm_sta f xm_c1163 4 [some (.inr (.inl (some x0))), some (.inl x1), some (.inl x2), some (.inl (xm_w (x3 + 1))), some (.inl 1)] [] w8 Q) else (xm_EQ (xm_old sc) xm_sta f xm_c1163 4 [some (.inr (.inl (some x0))), some (.inl x1), some (.inl x3), some (.inl (xm_w (x3 + 1))), some (.inl 1)] [] w8 Q)) else (xm_Oi (f 1112 [.inr (.inl (some x0)), .inl x3, .inl 3] w8) (fun z11 w10 => xm_Oi (f 1112 [.inr (.inl (some x0)), .inl x2, .inl 3] w10) (fun z13 w12 => if (z11 : Int) = z13 then (xm_Oi (f 1112 [.inr (.inl (some x0)), .inl x3, .inl 4] w12) (fun z15 w14 => xm_Oi (f 1112 [.inr (.inl (some x0)), .inl x2, .inl 4] w14) (fun z17 w16 => if (z17 : Int) < z15 then (if (1 : Int) = 0 then (xm_EQ (xm_old sc) xm_sta f xm_c1163 4 [some (.inr (.inl (some x0))), some (.inl x1), some (.inl x2), some (.inl (xm_w (x3 + 1))), some (.inl 1)] [] w16 Q) else (xm_EQ (xm_old sc) xm_sta f xm_c1163 4 [some (.inr (.inl (some x0))), some (.inl x1), some (.inl x3), some (.inl (xm_w (x3 + 1))), some (.inl 1)] [] w16 Q)) else (if (0 : Int) = 0 then (xm_EQ (xm_old sc) xm_sta f xm_c1163 4 [some (.inr (.inl (some x0))), some (.inl x1), some (.inl x2), some (.inl (xm_w (x3 + 1))), some (.inl 0)] [] w16 Q) else (xm_EQ (xm_old sc) xm_sta f xm_c1163 4 [some (.inr (.inl (some x0))), some (.inl x1), some (.inl x3), some (.inl (xm_w (x3 + 1))), some (.inl 0)] [] w16 Q))))) else (if (0 : Int) = 0 then (xm_EQ (xm_old sc) xm_sta f xm_c1163 4 [some (.inr (.inl (some x0))), some (.inl x1), some (.inl x2), some (.inl (xm_w (x3 + 1))), some (.inl 0)] [] w12 Q) else (xm_EQ (xm_old sc) xm_sta f xm_c1163 4 [some (.inr (.inl (some x0))), some (.inl x1), some (.inl x3), some (.inl (xm_w (x3 + 1))), some (.inl 0)] [] w12 Q))))))))) else (xm_EQ (xm_old sc) xm_sta f xm_c1163 4 [some (.inr (.inl (some x0))), some (.inl x1), some (.inl x2), some (.inl (xm_w (x3 + 1))), u4] [] w4 Q))) else (Q (some (.inl x2), w)))))) :
  xm_EQ (xm_old sc) xm_sta f xm_c1163 4 [some (.inr (.inl (some x0))), some (.inl x1), some (.inl x2), some (.inl x3), u4] [] w Q :=
  (xq_iload_n k_1163_4 rfl (xq_aload_n k_1163_5 rfl (xq_getr k_1163_6 rfl h (fun r1 h => (xq_iconst k_1163_7 (xq_iaload k_1163_8 h (fun l2 h => h) (fun l2 z3 h => (xq_ic_ge k_1163_9 h (fun h => (xq_aload_n k_1163_10 rfl (xq_iload_n k_1163_11 rfl (xq_iconst k_1163_12 (xq_invv1 k_1163_13 xr_1112 rfl rfl rfl h (fun z5 w4 h => (xq_iload_n k_1163_14 rfl (xq_ic_ne k_1163_15 h (fun h => (xq_iload_n k_1163_16 rfl (xq_iconst k_1163_17 (xq_ic_eq k_1163_18 h (fun h => (xq_iconst k_1163_46 (xq_goto k_1163_47 (xq_istore k_1163_49 rfl (xq_iload k_1163_50 rfl (xq_if_eq k_1163_51 h (fun h => (xq_iload_n k_1163_54 rfl (xq_istore_n k_1163_55 rfl (xq_iinc k_1163_56 rfl rfl (xq_goto k_1163_57 h))))) (fun h => (xq_iload_n k_1163_52 rfl (xq_goto k_1163_53 (xq_istore_n k_1163_55 rfl (xq_iinc k_1163_56 rfl rfl (xq_goto k_1163_57 h)))))))))))) (fun h => (xq_aload_n k_1163_19 rfl (xq_iload_n k_1163_20 rfl (xq_iconst k_1163_21 (xq_invv1 k_1163_22 xr_1112 rfl rfl rfl h (fun z7 w6 h => (xq_aload_n k_1163_23 rfl (xq_iload_n k_1163_24 rfl (xq_iconst k_1163_25 (xq_invv1 k_1163_26 xr_1112 rfl rfl rfl h (fun z9 w8 h => (xq_ic_gt k_1163_27 h (fun h => (xq_iconst k_1163_46 (xq_goto k_1163_47 (xq_istore k_1163_49 rfl (xq_iload k_1163_50 rfl (xq_if_eq k_1163_51 h (fun h => (xq_iload_n k_1163_54 rfl (xq_istore_n k_1163_55 rfl (xq_iinc k_1163_56 rfl rfl (xq_goto k_1163_57 h))))) (fun h => (xq_iload_n k_1163_52 rfl (xq_goto k_1163_53 (xq_istore_n k_1163_55 rfl (xq_iinc k_1163_56 rfl rfl (xq_goto k_1163_57 h)))))))))))) (fun h => (xq_aload_n k_1163_28 rfl (xq_iload_n k_1163_29 rfl (xq_iconst k_1163_30 (xq_invv1 k_1163_31 xr_1112 rfl rfl rfl h (fun z11 w10 h => (xq_aload_n k_1163_32 rfl (xq_iload_n k_1163_33 rfl (xq_iconst k_1163_34 (xq_invv1 k_1163_35 xr_1112 rfl rfl rfl h (fun z13 w12 h => (xq_ic_ne k_1163_36 h (fun h => (xq_aload_n k_1163_37 rfl (xq_iload_n k_1163_38 rfl (xq_iconst k_1163_39 (xq_invv1 k_1163_40 xr_1112 rfl rfl rfl h (fun z15 w14 h => (xq_aload_n k_1163_41 rfl (xq_iload_n k_1163_42 rfl (xq_iconst k_1163_43 (xq_invv1 k_1163_44 xr_1112 rfl rfl rfl h (fun z17 w16 h => (xq_ic_le k_1163_45 h (fun h => (xq_iconst k_1163_46 (xq_goto k_1163_47 (xq_istore k_1163_49 rfl (xq_iload k_1163_50 rfl (xq_if_eq k_1163_51 h (fun h => (xq_iload_n k_1163_54 rfl (xq_istore_n k_1163_55 rfl (xq_iinc k_1163_56 rfl rfl (xq_goto k_1163_57 h))))) (fun h => (xq_iload_n k_1163_52 rfl (xq_goto k_1163_53 (xq_istore_n k_1163_55 rfl (xq_iinc k_1163_56 rfl rfl (xq_goto k_1163_57 h)))))))))))) (fun h => (xq_iconst k_1163_48 (xq_istore k_1163_49 rfl (xq_iload k_1163_50 rfl (xq_if_eq k_1163_51 h (fun h => (xq_iload_n k_1163_54 rfl (xq_istore_n k_1163_55 rfl (xq_iinc k_1163_56 rfl rfl (xq_goto k_1163_57 h))))) (fun h => (xq_iload_n k_1163_52 rfl (xq_goto k_1163_53 (xq_istore_n k_1163_55 rfl (xq_iinc k_1163_56 rfl rfl (xq_goto k_1163_57 h))))))))))))))))))))))) (fun h => (xq_iconst k_1163_48 (xq_istore k_1163_49 rfl (xq_iload k_1163_50 rfl (xq_if_eq k_1163_51 h (fun h => (xq_iload_n k_1163_54 rfl (xq_istore_n k_1163_55 rfl (xq_iinc k_1163_56 rfl rfl (xq_goto k_1163_57 h))))) (fun h => (xq_iload_n k_1163_52 rfl (xq_goto k_1163_53 (xq_istore_n k_1163_55 rfl (xq_iinc k_1163_56 rfl rfl (xq_goto k_1163_57 h))))))))))))))))))))))))))))))))))))))) (fun h => (xq_iinc k_1163_56 rfl rfl (xq_goto k_1163_57 h))))))))))) (fun h => (xq_iload_n k_1163_58 rfl (xq_ireturn k_1163_59 h)))))))))))
/-- ShodBackwardsModel.manyIn(I)I -/
theorem d_1164_0 : List.drop 0 xm_c1164 = xm_c1164 := rfl
theorem k_1164_0 : xm_gi xm_c1164 0 = some xm_e1164_0 := xm_gt d_1164_0
theorem d_1164_1 : List.drop 1 xm_c1164 = xm_c1164_1 := xm_dr d_1164_0
theorem k_1164_1 : xm_gi xm_c1164 1 = some xm_e1164_1 := xm_gt d_1164_1
theorem d_1164_2 : List.drop 2 xm_c1164 = xm_c1164_2 := xm_dr d_1164_1
theorem k_1164_2 : xm_gi xm_c1164 2 = some xm_e1164_2 := xm_gt d_1164_2
theorem d_1164_3 : List.drop 3 xm_c1164 = xm_c1164_3 := xm_dr d_1164_2
theorem k_1164_3 : xm_gi xm_c1164 3 = some xm_e1164_3 := xm_gt d_1164_3
theorem d_1164_4 : List.drop 4 xm_c1164 = xm_c1164_4 := xm_dr d_1164_3
theorem k_1164_4 : xm_gi xm_c1164 4 = some xm_e1164_4 := xm_gt d_1164_4
theorem d_1164_5 : List.drop 5 xm_c1164 = xm_c1164_5 := xm_dr d_1164_4
theorem k_1164_5 : xm_gi xm_c1164 5 = some xm_e1164_5 := xm_gt d_1164_5
theorem d_1164_6 : List.drop 6 xm_c1164 = xm_c1164_6 := xm_dr d_1164_5
theorem k_1164_6 : xm_gi xm_c1164 6 = some xm_e1164_6 := xm_gt d_1164_6
theorem d_1164_7 : List.drop 7 xm_c1164 = xm_c1164_7 := xm_dr d_1164_6
theorem k_1164_7 : xm_gi xm_c1164 7 = some xm_e1164_7 := xm_gt d_1164_7
theorem d_1164_8 : List.drop 8 xm_c1164 = xm_c1164_8 := xm_dr d_1164_7
theorem k_1164_8 : xm_gi xm_c1164 8 = some xm_e1164_8 := xm_gt d_1164_8
theorem d_1164_9 : List.drop 9 xm_c1164 = xm_c1164_9 := xm_dr d_1164_8
theorem k_1164_9 : xm_gi xm_c1164 9 = some xm_e1164_9 := xm_gt d_1164_9
theorem d_1164_10 : List.drop 10 xm_c1164 = xm_c1164_10 := xm_dr d_1164_9
theorem k_1164_10 : xm_gi xm_c1164 10 = some xm_e1164_10 := xm_gt d_1164_10
theorem d_1164_11 : List.drop 11 xm_c1164 = xm_c1164_11 := xm_dr d_1164_10
theorem k_1164_11 : xm_gi xm_c1164 11 = some xm_e1164_11 := xm_gt d_1164_11
theorem d_1164_12 : List.drop 12 xm_c1164 = xm_c1164_12 := xm_dr d_1164_11
theorem k_1164_12 : xm_gi xm_c1164 12 = some xm_e1164_12 := xm_gt d_1164_12
theorem d_1164_13 : List.drop 13 xm_c1164 = xm_c1164_13 := xm_dr d_1164_12
theorem k_1164_13 : xm_gi xm_c1164 13 = some xm_e1164_13 := xm_gt d_1164_13
theorem d_1164_14 : List.drop 14 xm_c1164 = xm_c1164_14 := xm_dr d_1164_13
theorem k_1164_14 : xm_gi xm_c1164 14 = some xm_e1164_14 := xm_gt d_1164_14
theorem d_1164_15 : List.drop 15 xm_c1164 = xm_c1164_15 := xm_dr d_1164_14
theorem k_1164_15 : xm_gi xm_c1164 15 = some xm_e1164_15 := xm_gt d_1164_15
theorem d_1164_16 : List.drop 16 xm_c1164 = xm_c1164_16 := xm_dr d_1164_15
theorem k_1164_16 : xm_gi xm_c1164 16 = some xm_e1164_16 := xm_gt d_1164_16
theorem d_1164_17 : List.drop 17 xm_c1164 = xm_c1164_17 := xm_dr d_1164_16
theorem k_1164_17 : xm_gi xm_c1164 17 = some xm_e1164_17 := xm_gt d_1164_17
theorem d_1164_18 : List.drop 18 xm_c1164 = xm_c1164_18 := xm_dr d_1164_17
theorem k_1164_18 : xm_gi xm_c1164 18 = some xm_e1164_18 := xm_gt d_1164_18
theorem d_1164_19 : List.drop 19 xm_c1164 = xm_c1164_19 := xm_dr d_1164_18
theorem k_1164_19 : xm_gi xm_c1164 19 = some xm_e1164_19 := xm_gt d_1164_19
theorem d_1164_20 : List.drop 20 xm_c1164 = xm_c1164_20 := xm_dr d_1164_19
theorem k_1164_20 : xm_gi xm_c1164 20 = some xm_e1164_20 := xm_gt d_1164_20
theorem d_1164_21 : List.drop 21 xm_c1164 = xm_c1164_21 := xm_dr d_1164_20
theorem k_1164_21 : xm_gi xm_c1164 21 = some xm_e1164_21 := xm_gt d_1164_21
theorem d_1164_22 : List.drop 22 xm_c1164 = xm_c1164_22 := xm_dr d_1164_21
theorem k_1164_22 : xm_gi xm_c1164 22 = some xm_e1164_22 := xm_gt d_1164_22
theorem d_1164_23 : List.drop 23 xm_c1164 = xm_c1164_23 := xm_dr d_1164_22
theorem k_1164_23 : xm_gi xm_c1164 23 = some xm_e1164_23 := xm_gt d_1164_23
theorem d_1164_24 : List.drop 24 xm_c1164 = xm_c1164_24 := xm_dr d_1164_23
theorem k_1164_24 : xm_gi xm_c1164 24 = some xm_e1164_24 := xm_gt d_1164_24
theorem d_1164_25 : List.drop 25 xm_c1164 = xm_c1164_25 := xm_dr d_1164_24
theorem k_1164_25 : xm_gi xm_c1164 25 = some xm_e1164_25 := xm_gt d_1164_25
theorem xb_1164_0 {sc : List Int} {f : Nat → List xm_V → xm_W → xm_R} {w : xm_W} {Q : Option xm_V × xm_W → Prop} {x0 : Nat} {x1 : Int}
  (h : xm_EQ (xm_old sc) xm_sta f xm_c1164 4 [some (.inr (.inl (some x0))), some (.inl x1), some (.inl 0), some (.inl 0)] [] w Q) :
  xm_EQ (xm_old sc) xm_sta f xm_c1164 0 [some (.inr (.inl (some x0))), some (.inl x1), none, none] [] w Q :=
  (xq_iconst k_1164_0 (xq_istore_n k_1164_1 rfl (xq_iconst k_1164_2 (xq_istore_n k_1164_3 rfl h))))
theorem xb_1164_4 {sc : List Int} {f : Nat → List xm_V → xm_W → xm_R} {w : xm_W} {Q : Option xm_V × xm_W → Prop} {x0 : Nat} {x1 : Int} {x2 : Int} {x3 : Int}
  (h : xm_O (xm_fr (xm_old sc) w x0 9 0) (fun r1 => xm_O (xm_ints (xm_old sc) w r1) (fun l2 => xm_O (xm_at l2 3) (fun z3 => if (x3 : Int) < z3 then (xm_Oi (f 1112 [.inr (.inl (some x0)), .inl x3, .inl 0] w) (fun z5 w4 => if (z5 : Int) = x1 then (xm_EQ (xm_old sc) xm_sta f xm_c1164 4 [some (.inr (.inl (some x0))), some (.inl x1), some (.inl (xm_w (x2 + 1))), some (.inl (xm_w (x3 + 1)))] [] w4 Q) else (xm_EQ (xm_old sc) xm_sta f xm_c1164 4 [some (.inr (.inl (some x0))), some (.inl x1), some (.inl (xm_w (x2 + 0))), some (.inl (xm_w (x3 + 1)))] [] w4 Q))) else (Q (some (.inl x2), w)))))) :
  xm_EQ (xm_old sc) xm_sta f xm_c1164 4 [some (.inr (.inl (some x0))), some (.inl x1), some (.inl x2), some (.inl x3)] [] w Q :=
  (xq_iload_n k_1164_4 rfl (xq_aload_n k_1164_5 rfl (xq_getr k_1164_6 rfl h (fun r1 h => (xq_iconst k_1164_7 (xq_iaload k_1164_8 h (fun l2 h => h) (fun l2 z3 h => (xq_ic_ge k_1164_9 h (fun h => (xq_iload_n k_1164_10 rfl (xq_aload_n k_1164_11 rfl (xq_iload_n k_1164_12 rfl (xq_iconst k_1164_13 (xq_invv1 k_1164_14 xr_1112 rfl rfl rfl h (fun z5 w4 h => (xq_iload_n k_1164_15 rfl (xq_ic_ne k_1164_16 h (fun h => (xq_iconst k_1164_17 (xq_goto k_1164_18 (xq_iadd k_1164_20 (xq_istore_n k_1164_21 rfl (xq_iinc k_1164_22 rfl rfl (xq_goto k_1164_23 h))))))) (fun h => (xq_iconst k_1164_19 (xq_iadd k_1164_20 (xq_istore_n k_1164_21 rfl (xq_iinc k_1164_22 rfl rfl (xq_goto k_1164_23 h))))))))))))))) (fun h => (xq_iload_n k_1164_24 rfl (xq_ireturn k_1164_25 h)))))))))))
/-- ShodBackwardsModel.deepest(I)I -/
theorem d_1165_0 : List.drop 0 xm_c1165 = xm_c1165 := rfl
theorem k_1165_0 : xm_gi xm_c1165 0 = some xm_e1165_0 := xm_gt d_1165_0
theorem d_1165_1 : List.drop 1 xm_c1165 = xm_c1165_1 := xm_dr d_1165_0
theorem k_1165_1 : xm_gi xm_c1165 1 = some xm_e1165_1 := xm_gt d_1165_1
theorem d_1165_2 : List.drop 2 xm_c1165 = xm_c1165_2 := xm_dr d_1165_1
theorem k_1165_2 : xm_gi xm_c1165 2 = some xm_e1165_2 := xm_gt d_1165_2
theorem d_1165_3 : List.drop 3 xm_c1165 = xm_c1165_3 := xm_dr d_1165_2
theorem k_1165_3 : xm_gi xm_c1165 3 = some xm_e1165_3 := xm_gt d_1165_3
theorem d_1165_4 : List.drop 4 xm_c1165 = xm_c1165_4 := xm_dr d_1165_3
theorem k_1165_4 : xm_gi xm_c1165 4 = some xm_e1165_4 := xm_gt d_1165_4
theorem d_1165_5 : List.drop 5 xm_c1165 = xm_c1165_5 := xm_dr d_1165_4
theorem k_1165_5 : xm_gi xm_c1165 5 = some xm_e1165_5 := xm_gt d_1165_5
theorem d_1165_6 : List.drop 6 xm_c1165 = xm_c1165_6 := xm_dr d_1165_5
theorem k_1165_6 : xm_gi xm_c1165 6 = some xm_e1165_6 := xm_gt d_1165_6
theorem d_1165_7 : List.drop 7 xm_c1165 = xm_c1165_7 := xm_dr d_1165_6
theorem k_1165_7 : xm_gi xm_c1165 7 = some xm_e1165_7 := xm_gt d_1165_7
theorem d_1165_8 : List.drop 8 xm_c1165 = xm_c1165_8 := xm_dr d_1165_7
theorem k_1165_8 : xm_gi xm_c1165 8 = some xm_e1165_8 := xm_gt d_1165_8
theorem d_1165_9 : List.drop 9 xm_c1165 = xm_c1165_9 := xm_dr d_1165_8
theorem k_1165_9 : xm_gi xm_c1165 9 = some xm_e1165_9 := xm_gt d_1165_9
theorem d_1165_10 : List.drop 10 xm_c1165 = xm_c1165_10 := xm_dr d_1165_9
theorem k_1165_10 : xm_gi xm_c1165 10 = some xm_e1165_10 := xm_gt d_1165_10
theorem d_1165_11 : List.drop 11 xm_c1165 = xm_c1165_11 := xm_dr d_1165_10
theorem k_1165_11 : xm_gi xm_c1165 11 = some xm_e1165_11 := xm_gt d_1165_11
theorem d_1165_12 : List.drop 12 xm_c1165 = xm_c1165_12 := xm_dr d_1165_11
theorem k_1165_12 : xm_gi xm_c1165 12 = some xm_e1165_12 := xm_gt d_1165_12
theorem d_1165_13 : List.drop 13 xm_c1165 = xm_c1165_13 := xm_dr d_1165_12
theorem k_1165_13 : xm_gi xm_c1165 13 = some xm_e1165_13 := xm_gt d_1165_13
theorem d_1165_14 : List.drop 14 xm_c1165 = xm_c1165_14 := xm_dr d_1165_13
theorem k_1165_14 : xm_gi xm_c1165 14 = some xm_e1165_14 := xm_gt d_1165_14
theorem d_1165_15 : List.drop 15 xm_c1165 = xm_c1165_15 := xm_dr d_1165_14
theorem k_1165_15 : xm_gi xm_c1165 15 = some xm_e1165_15 := xm_gt d_1165_15
theorem d_1165_16 : List.drop 16 xm_c1165 = xm_c1165_16 := xm_dr d_1165_15
theorem k_1165_16 : xm_gi xm_c1165 16 = some xm_e1165_16 := xm_gt d_1165_16
theorem d_1165_17 : List.drop 17 xm_c1165 = xm_c1165_17 := xm_dr d_1165_16
theorem k_1165_17 : xm_gi xm_c1165 17 = some xm_e1165_17 := xm_gt d_1165_17
theorem d_1165_18 : List.drop 18 xm_c1165 = xm_c1165_18 := xm_dr d_1165_17
theorem k_1165_18 : xm_gi xm_c1165 18 = some xm_e1165_18 := xm_gt d_1165_18
theorem d_1165_19 : List.drop 19 xm_c1165 = xm_c1165_19 := xm_dr d_1165_18
theorem k_1165_19 : xm_gi xm_c1165 19 = some xm_e1165_19 := xm_gt d_1165_19
theorem d_1165_20 : List.drop 20 xm_c1165 = xm_c1165_20 := xm_dr d_1165_19
theorem k_1165_20 : xm_gi xm_c1165 20 = some xm_e1165_20 := xm_gt d_1165_20
theorem d_1165_21 : List.drop 21 xm_c1165 = xm_c1165_21 := xm_dr d_1165_20
theorem k_1165_21 : xm_gi xm_c1165 21 = some xm_e1165_21 := xm_gt d_1165_21
theorem d_1165_22 : List.drop 22 xm_c1165 = xm_c1165_22 := xm_dr d_1165_21
theorem k_1165_22 : xm_gi xm_c1165 22 = some xm_e1165_22 := xm_gt d_1165_22
theorem d_1165_23 : List.drop 23 xm_c1165 = xm_c1165_23 := xm_dr d_1165_22
theorem k_1165_23 : xm_gi xm_c1165 23 = some xm_e1165_23 := xm_gt d_1165_23
theorem d_1165_24 : List.drop 24 xm_c1165 = xm_c1165_24 := xm_dr d_1165_23
theorem k_1165_24 : xm_gi xm_c1165 24 = some xm_e1165_24 := xm_gt d_1165_24
theorem d_1165_25 : List.drop 25 xm_c1165 = xm_c1165_25 := xm_dr d_1165_24
theorem k_1165_25 : xm_gi xm_c1165 25 = some xm_e1165_25 := xm_gt d_1165_25
theorem d_1165_26 : List.drop 26 xm_c1165 = xm_c1165_26 := xm_dr d_1165_25
theorem k_1165_26 : xm_gi xm_c1165 26 = some xm_e1165_26 := xm_gt d_1165_26
theorem d_1165_27 : List.drop 27 xm_c1165 = xm_c1165_27 := xm_dr d_1165_26
theorem k_1165_27 : xm_gi xm_c1165 27 = some xm_e1165_27 := xm_gt d_1165_27
theorem d_1165_28 : List.drop 28 xm_c1165 = xm_c1165_28 := xm_dr d_1165_27
theorem k_1165_28 : xm_gi xm_c1165 28 = some xm_e1165_28 := xm_gt d_1165_28
theorem d_1165_29 : List.drop 29 xm_c1165 = xm_c1165_29 := xm_dr d_1165_28
theorem k_1165_29 : xm_gi xm_c1165 29 = some xm_e1165_29 := xm_gt d_1165_29
theorem d_1165_30 : List.drop 30 xm_c1165 = xm_c1165_30 := xm_dr d_1165_29
theorem k_1165_30 : xm_gi xm_c1165 30 = some xm_e1165_30 := xm_gt d_1165_30
theorem d_1165_31 : List.drop 31 xm_c1165 = xm_c1165_31 := xm_dr d_1165_30
theorem k_1165_31 : xm_gi xm_c1165 31 = some xm_e1165_31 := xm_gt d_1165_31
theorem d_1165_32 : List.drop 32 xm_c1165 = xm_c1165_32 := xm_dr d_1165_31
theorem k_1165_32 : xm_gi xm_c1165 32 = some xm_e1165_32 := xm_gt d_1165_32
theorem xb_1165_0 {sc : List Int} {f : Nat → List xm_V → xm_W → xm_R} {w : xm_W} {Q : Option xm_V × xm_W → Prop} {x0 : Nat} {x1 : Int}
  (h : xm_EQ (xm_old sc) xm_sta f xm_c1165 4 [some (.inr (.inl (some x0))), some (.inl x1), some (.inl 0), some (.inl 0)] [] w Q) :
  xm_EQ (xm_old sc) xm_sta f xm_c1165 0 [some (.inr (.inl (some x0))), some (.inl x1), none, none] [] w Q :=
  (xq_iconst k_1165_0 (xq_istore_n k_1165_1 rfl (xq_iconst k_1165_2 (xq_istore_n k_1165_3 rfl h))))
theorem xb_1165_4 {sc : List Int} {f : Nat → List xm_V → xm_W → xm_R} {w : xm_W} {Q : Option xm_V × xm_W → Prop} {x0 : Nat} {x1 : Int} {x2 : Int} {x3 : Int}
  (h : xm_O (xm_fr (xm_old sc) w x0 9 0) (fun r1 => xm_O (xm_ints (xm_old sc) w r1) (fun l2 => xm_O (xm_at l2 3) (fun z3 => if (x3 : Int) < z3 then (xm_Oi (f 1112 [.inr (.inl (some x0)), .inl x3, .inl 0] w) (fun z5 w4 => if (z5 : Int) = x1 then (xm_Oi (f 1112 [.inr (.inl (some x0)), .inl x3, .inl 2] w4) (fun z7 w6 => if (x2 : Int) < z7 then (xm_Oi (f 1112 [.inr (.inl (some x0)), .inl x3, .inl 2] w6) (fun z9 w8 => xm_EQ (xm_old sc) xm_sta f xm_c1165 4 [some (.inr (.inl (some x0))), some (.inl x1), some (.inl z9), some (.inl (xm_w (x3 + 1)))] [] w8 Q)) else (xm_EQ (xm_old sc) xm_sta f xm_c1165 4 [some (.inr (.inl (some x0))), some (.inl x1), some (.inl x2), some (.inl (xm_w (x3 + 1)))] [] w6 Q))) else (xm_EQ (xm_old sc) xm_sta f xm_c1165 4 [some (.inr (.inl (some x0))), some (.inl x1), some (.inl x2), some (.inl (xm_w (x3 + 1)))] [] w4 Q))) else (Q (some (.inl x2), w)))))) :
  xm_EQ (xm_old sc) xm_sta f xm_c1165 4 [some (.inr (.inl (some x0))), some (.inl x1), some (.inl x2), some (.inl x3)] [] w Q :=
  (xq_iload_n k_1165_4 rfl (xq_aload_n k_1165_5 rfl (xq_getr k_1165_6 rfl h (fun r1 h => (xq_iconst k_1165_7 (xq_iaload k_1165_8 h (fun l2 h => h) (fun l2 z3 h => (xq_ic_ge k_1165_9 h (fun h => (xq_aload_n k_1165_10 rfl (xq_iload_n k_1165_11 rfl (xq_iconst k_1165_12 (xq_invv1 k_1165_13 xr_1112 rfl rfl rfl h (fun z5 w4 h => (xq_iload_n k_1165_14 rfl (xq_ic_ne k_1165_15 h (fun h => (xq_aload_n k_1165_16 rfl (xq_iload_n k_1165_17 rfl (xq_iconst k_1165_18 (xq_invv1 k_1165_19 xr_1112 rfl rfl rfl h (fun z7 w6 h => (xq_iload_n k_1165_20 rfl (xq_ic_le k_1165_21 h (fun h => (xq_aload_n k_1165_22 rfl (xq_iload_n k_1165_23 rfl (xq_iconst k_1165_24 (xq_invv1 k_1165_25 xr_1112 rfl rfl rfl h (fun z9 w8 h => (xq_goto k_1165_26 (xq_istore_n k_1165_28 rfl (xq_iinc k_1165_29 rfl rfl (xq_goto k_1165_30 h)))))))))) (fun h => (xq_iload_n k_1165_27 rfl (xq_istore_n k_1165_28 rfl (xq_iinc k_1165_29 rfl rfl (xq_goto k_1165_30 h))))))))))))) (fun h => (xq_iload_n k_1165_27 rfl (xq_istore_n k_1165_28 rfl (xq_iinc k_1165_29 rfl rfl (xq_goto k_1165_30 h))))))))))))) (fun h => (xq_iload_n k_1165_31 rfl (xq_ireturn k_1165_32 h)))))))))))
/-- ShodBackwardsModel.doubt(I)I -/
theorem d_1166_0 : List.drop 0 xm_c1166 = xm_c1166 := rfl
theorem k_1166_0 : xm_gi xm_c1166 0 = some xm_e1166_0 := xm_gt d_1166_0
theorem d_1166_1 : List.drop 1 xm_c1166 = xm_c1166_1 := xm_dr d_1166_0
theorem k_1166_1 : xm_gi xm_c1166 1 = some xm_e1166_1 := xm_gt d_1166_1
theorem d_1166_2 : List.drop 2 xm_c1166 = xm_c1166_2 := xm_dr d_1166_1
theorem k_1166_2 : xm_gi xm_c1166 2 = some xm_e1166_2 := xm_gt d_1166_2
theorem d_1166_3 : List.drop 3 xm_c1166 = xm_c1166_3 := xm_dr d_1166_2
theorem k_1166_3 : xm_gi xm_c1166 3 = some xm_e1166_3 := xm_gt d_1166_3
theorem d_1166_4 : List.drop 4 xm_c1166 = xm_c1166_4 := xm_dr d_1166_3
theorem k_1166_4 : xm_gi xm_c1166 4 = some xm_e1166_4 := xm_gt d_1166_4
theorem d_1166_5 : List.drop 5 xm_c1166 = xm_c1166_5 := xm_dr d_1166_4
theorem k_1166_5 : xm_gi xm_c1166 5 = some xm_e1166_5 := xm_gt d_1166_5
theorem d_1166_6 : List.drop 6 xm_c1166 = xm_c1166_6 := xm_dr d_1166_5
theorem k_1166_6 : xm_gi xm_c1166 6 = some xm_e1166_6 := xm_gt d_1166_6
theorem d_1166_7 : List.drop 7 xm_c1166 = xm_c1166_7 := xm_dr d_1166_6
theorem k_1166_7 : xm_gi xm_c1166 7 = some xm_e1166_7 := xm_gt d_1166_7
theorem d_1166_8 : List.drop 8 xm_c1166 = xm_c1166_8 := xm_dr d_1166_7
theorem k_1166_8 : xm_gi xm_c1166 8 = some xm_e1166_8 := xm_gt d_1166_8
theorem d_1166_9 : List.drop 9 xm_c1166 = xm_c1166_9 := xm_dr d_1166_8
theorem k_1166_9 : xm_gi xm_c1166 9 = some xm_e1166_9 := xm_gt d_1166_9
theorem d_1166_10 : List.drop 10 xm_c1166 = xm_c1166_10 := xm_dr d_1166_9
theorem k_1166_10 : xm_gi xm_c1166 10 = some xm_e1166_10 := xm_gt d_1166_10
theorem d_1166_11 : List.drop 11 xm_c1166 = xm_c1166_11 := xm_dr d_1166_10
theorem k_1166_11 : xm_gi xm_c1166 11 = some xm_e1166_11 := xm_gt d_1166_11
theorem d_1166_12 : List.drop 12 xm_c1166 = xm_c1166_12 := xm_dr d_1166_11
theorem k_1166_12 : xm_gi xm_c1166 12 = some xm_e1166_12 := xm_gt d_1166_12
theorem d_1166_13 : List.drop 13 xm_c1166 = xm_c1166_13 := xm_dr d_1166_12
theorem k_1166_13 : xm_gi xm_c1166 13 = some xm_e1166_13 := xm_gt d_1166_13
theorem d_1166_14 : List.drop 14 xm_c1166 = xm_c1166_14 := xm_dr d_1166_13
theorem k_1166_14 : xm_gi xm_c1166 14 = some xm_e1166_14 := xm_gt d_1166_14
theorem d_1166_15 : List.drop 15 xm_c1166 = xm_c1166_15 := xm_dr d_1166_14
theorem k_1166_15 : xm_gi xm_c1166 15 = some xm_e1166_15 := xm_gt d_1166_15
theorem d_1166_16 : List.drop 16 xm_c1166 = xm_c1166_16 := xm_dr d_1166_15
theorem k_1166_16 : xm_gi xm_c1166 16 = some xm_e1166_16 := xm_gt d_1166_16
theorem d_1166_17 : List.drop 17 xm_c1166 = xm_c1166_17 := xm_dr d_1166_16
theorem k_1166_17 : xm_gi xm_c1166 17 = some xm_e1166_17 := xm_gt d_1166_17
theorem d_1166_18 : List.drop 18 xm_c1166 = xm_c1166_18 := xm_dr d_1166_17
theorem k_1166_18 : xm_gi xm_c1166 18 = some xm_e1166_18 := xm_gt d_1166_18
theorem d_1166_19 : List.drop 19 xm_c1166 = xm_c1166_19 := xm_dr d_1166_18
theorem k_1166_19 : xm_gi xm_c1166 19 = some xm_e1166_19 := xm_gt d_1166_19
theorem d_1166_20 : List.drop 20 xm_c1166 = xm_c1166_20 := xm_dr d_1166_19
theorem k_1166_20 : xm_gi xm_c1166 20 = some xm_e1166_20 := xm_gt d_1166_20
theorem d_1166_21 : List.drop 21 xm_c1166 = xm_c1166_21 := xm_dr d_1166_20
theorem k_1166_21 : xm_gi xm_c1166 21 = some xm_e1166_21 := xm_gt d_1166_21
theorem d_1166_22 : List.drop 22 xm_c1166 = xm_c1166_22 := xm_dr d_1166_21
theorem k_1166_22 : xm_gi xm_c1166 22 = some xm_e1166_22 := xm_gt d_1166_22
theorem d_1166_23 : List.drop 23 xm_c1166 = xm_c1166_23 := xm_dr d_1166_22
theorem k_1166_23 : xm_gi xm_c1166 23 = some xm_e1166_23 := xm_gt d_1166_23
theorem d_1166_24 : List.drop 24 xm_c1166 = xm_c1166_24 := xm_dr d_1166_23
theorem k_1166_24 : xm_gi xm_c1166 24 = some xm_e1166_24 := xm_gt d_1166_24
theorem d_1166_25 : List.drop 25 xm_c1166 = xm_c1166_25 := xm_dr d_1166_24
theorem k_1166_25 : xm_gi xm_c1166 25 = some xm_e1166_25 := xm_gt d_1166_25
theorem d_1166_26 : List.drop 26 xm_c1166 = xm_c1166_26 := xm_dr d_1166_25
theorem k_1166_26 : xm_gi xm_c1166 26 = some xm_e1166_26 := xm_gt d_1166_26
theorem d_1166_27 : List.drop 27 xm_c1166 = xm_c1166_27 := xm_dr d_1166_26
theorem k_1166_27 : xm_gi xm_c1166 27 = some xm_e1166_27 := xm_gt d_1166_27
theorem d_1166_28 : List.drop 28 xm_c1166 = xm_c1166_28 := xm_dr d_1166_27
theorem k_1166_28 : xm_gi xm_c1166 28 = some xm_e1166_28 := xm_gt d_1166_28
theorem d_1166_29 : List.drop 29 xm_c1166 = xm_c1166_29 := xm_dr d_1166_28
theorem k_1166_29 : xm_gi xm_c1166 29 = some xm_e1166_29 := xm_gt d_1166_29
theorem d_1166_30 : List.drop 30 xm_c1166 = xm_c1166_30 := xm_dr d_1166_29
theorem k_1166_30 : xm_gi xm_c1166 30 = some xm_e1166_30 := xm_gt d_1166_30
theorem d_1166_31 : List.drop 31 xm_c1166 = xm_c1166_31 := xm_dr d_1166_30
theorem k_1166_31 : xm_gi xm_c1166 31 = some xm_e1166_31 := xm_gt d_1166_31
theorem d_1166_32 : List.drop 32 xm_c1166 = xm_c1166_32 := xm_dr d_1166_31
theorem k_1166_32 : xm_gi xm_c1166 32 = some xm_e1166_32 := xm_gt d_1166_32
theorem d_1166_33 : List.drop 33 xm_c1166 = xm_c1166_33 := xm_dr d_1166_32
theorem k_1166_33 : xm_gi xm_c1166 33 = some xm_e1166_33 := xm_gt d_1166_33
theorem d_1166_34 : List.drop 34 xm_c1166 = xm_c1166_34 := xm_dr d_1166_33
theorem k_1166_34 : xm_gi xm_c1166 34 = some xm_e1166_34 := xm_gt d_1166_34
theorem d_1166_35 : List.drop 35 xm_c1166 = xm_c1166_35 := xm_dr d_1166_34
theorem k_1166_35 : xm_gi xm_c1166 35 = some xm_e1166_35 := xm_gt d_1166_35
theorem d_1166_36 : List.drop 36 xm_c1166 = xm_c1166_36 := xm_dr d_1166_35
theorem k_1166_36 : xm_gi xm_c1166 36 = some xm_e1166_36 := xm_gt d_1166_36
theorem d_1166_37 : List.drop 37 xm_c1166 = xm_c1166_37 := xm_dr d_1166_36
theorem k_1166_37 : xm_gi xm_c1166 37 = some xm_e1166_37 := xm_gt d_1166_37
theorem d_1166_38 : List.drop 38 xm_c1166 = xm_c1166_38 := xm_dr d_1166_37
theorem k_1166_38 : xm_gi xm_c1166 38 = some xm_e1166_38 := xm_gt d_1166_38
theorem d_1166_39 : List.drop 39 xm_c1166 = xm_c1166_39 := xm_dr d_1166_38
theorem k_1166_39 : xm_gi xm_c1166 39 = some xm_e1166_39 := xm_gt d_1166_39
theorem d_1166_40 : List.drop 40 xm_c1166 = xm_c1166_40 := xm_dr d_1166_39
theorem k_1166_40 : xm_gi xm_c1166 40 = some xm_e1166_40 := xm_gt d_1166_40
theorem d_1166_41 : List.drop 41 xm_c1166 = xm_c1166_41 := xm_dr d_1166_40
theorem k_1166_41 : xm_gi xm_c1166 41 = some xm_e1166_41 := xm_gt d_1166_41
theorem d_1166_42 : List.drop 42 xm_c1166 = xm_c1166_42 := xm_dr d_1166_41
theorem k_1166_42 : xm_gi xm_c1166 42 = some xm_e1166_42 := xm_gt d_1166_42
theorem d_1166_43 : List.drop 43 xm_c1166 = xm_c1166_43 := xm_dr d_1166_42
theorem k_1166_43 : xm_gi xm_c1166 43 = some xm_e1166_43 := xm_gt d_1166_43
theorem d_1166_44 : List.drop 44 xm_c1166 = xm_c1166_44 := xm_dr d_1166_43
theorem k_1166_44 : xm_gi xm_c1166 44 = some xm_e1166_44 := xm_gt d_1166_44
theorem d_1166_45 : List.drop 45 xm_c1166 = xm_c1166_45 := xm_dr d_1166_44
theorem k_1166_45 : xm_gi xm_c1166 45 = some xm_e1166_45 := xm_gt d_1166_45
theorem d_1166_46 : List.drop 46 xm_c1166 = xm_c1166_46 := xm_dr d_1166_45
theorem k_1166_46 : xm_gi xm_c1166 46 = some xm_e1166_46 := xm_gt d_1166_46
theorem d_1166_47 : List.drop 47 xm_c1166 = xm_c1166_47 := xm_dr d_1166_46
theorem k_1166_47 : xm_gi xm_c1166 47 = some xm_e1166_47 := xm_gt d_1166_47
theorem d_1166_48 : List.drop 48 xm_c1166 = xm_c1166_48 := xm_dr d_1166_47
theorem k_1166_48 : xm_gi xm_c1166 48 = some xm_e1166_48 := xm_gt d_1166_48
theorem d_1166_49 : List.drop 49 xm_c1166 = xm_c1166_49 := xm_dr d_1166_48
theorem k_1166_49 : xm_gi xm_c1166 49 = some xm_e1166_49 := xm_gt d_1166_49
theorem d_1166_50 : List.drop 50 xm_c1166 = xm_c1166_50 := xm_dr d_1166_49
theorem k_1166_50 : xm_gi xm_c1166 50 = some xm_e1166_50 := xm_gt d_1166_50
theorem xb_1166_0 {sc : List Int} {f : Nat → List xm_V → xm_W → xm_R} {w : xm_W} {Q : Option xm_V × xm_W → Prop} {x0 : Nat} {x1 : Int}
  (h : xm_Oi (f 1163 [.inr (.inl (some x0)), .inl x1] w) (fun z2 w1 => if (z2 : Int) = (-1) then (xm_Oi (f 1125 [.inr (.inl (some x0)), .inl 1] w1) (fun z27 w26 => if (z27 : Int) = 0 then (xm_Oi (f 1104 [.inl 99, .inl 0, .inl 99] w26) (fun z29 w28 => Q (some (.inl z29), w28))) else (xm_O (xm_fr (xm_old sc) w26 x0 9 11) (fun r30 => xm_Oi (f 1164 [.inr (.inl (some x0)), .inl x1] w26) (fun z32 w31 => xm_O (xm_seti w31 r30 110 z32) (fun w33 => xm_O (xm_fr (xm_old sc) w33 x0 9 11) (fun r34 => xm_Oi (f 1165 [.inr (.inl (some x0)), .inl x1] w33) (fun z36 w35 => xm_O (xm_seti w35 r34 100 z36) (fun w37 => xm_O (xm_fr (xm_old sc) w37 x0 9 11) (fun r38 => xm_O (xm_seti w37 r38 97 99) (fun w39 => xm_Oi (f 1129 [.inr (.inl (some x0)), .inl 1] w39) (fun z41 w40 => xm_Oi (f 1104 [.inl z41, .inl 0, .inl 99] w40) (fun z43 w42 => Q (some (.inl z43), w42)))))))))))))) else (xm_O (xm_fr (xm_old sc) w1 x0 9 0) (fun r3 => xm_O (xm_ints (xm_old sc) w1 r3) (fun l4 => xm_O (xm_at l4 1) (fun z5 => xm_Oi (f 1112 [.inr (.inl (some x0)), .inl z2, .inl 3] w1) (fun z7 w6 => xm_Oi (f 1125 [.inr (.inl (some x0)), .inl 1] w6) (fun z9 w8 => if (z9 : Int) = 0 then (xm_Oi (f 1104 [.inl (xm_w (z5 - z7)), .inl 0, .inl 99] w8) (fun z11 w10 => Q (some (.inl z11), w10))) else (xm_O (xm_fr (xm_old sc) w8 x0 9 11) (fun r12 => xm_Oi (f 1164 [.inr (.inl (some x0)), .inl x1] w8) (fun z14 w13 => xm_O (xm_seti w13 r12 110 z14) (fun w15 => xm_O (xm_fr (xm_old sc) w15 x0 9 11) (fun r16 => xm_Oi (f 1165 [.inr (.inl (some x0)), .inl x1] w15) (fun z18 w17 => xm_O (xm_seti w17 r16 100 z18) (fun w19 => xm_O (xm_fr (xm_old sc) w19 x0 9 11) (fun r20 => xm_O (xm_seti w19 r20 97 (xm_w (z5 - z7))) (fun w21 => xm_Oi (f 1129 [.inr (.inl (some x0)), .inl 1] w21) (fun z23 w22 => xm_Oi (f 1104 [.inl z23, .inl 0, .inl 99] w22) (fun z25 w24 => Q (some (.inl z25), w24)))))))))))))))))))) :
  xm_EQ (xm_old sc) xm_sta f xm_c1166 0 [some (.inr (.inl (some x0))), some (.inl x1), none, none] [] w Q :=
  (xq_aload_n k_1166_0 rfl (xq_iload_n k_1166_1 rfl (xq_invv1 k_1166_2 xr_1163 rfl rfl rfl h (fun z2 w1 h => (xq_istore_n k_1166_3 rfl (xq_iload_n k_1166_4 rfl (xq_iconst k_1166_5 (xq_ic_ne k_1166_6 h (fun h => (xq_bipush k_1166_7 (xq_goto k_1166_8 (xq_istore_n k_1166_18 rfl (xq_aload_n k_1166_19 rfl (xq_iconst k_1166_20 (xq_invv2 k_1166_21 xr_1125 rfl rfl rfl h (fun z27 w26 h => (xq_if_eq k_1166_22 h (fun h => (xq_iload_n k_1166_46 rfl (xq_iconst k_1166_47 (xq_bipush k_1166_48 (xq_invs1 k_1166_49 xr_1104 rfl rfl rfl h (fun z29 w28 h => (xq_ireturn k_1166_50 h))))))) (fun h => (xq_aload_n k_1166_23 rfl (xq_getr k_1166_24 rfl h (fun r30 h => (xq_bipush k_1166_25 (xq_aload_n k_1166_26 rfl (xq_iload_n k_1166_27 rfl (xq_invv1 k_1166_28 xr_1164 rfl rfl rfl h (fun z32 w31 h => (xq_iastore k_1166_29 h (fun w33 h => (xq_aload_n k_1166_30 rfl (xq_getr k_1166_31 rfl h (fun r34 h => (xq_bipush k_1166_32 (xq_aload_n k_1166_33 rfl (xq_iload_n k_1166_34 rfl (xq_invv1 k_1166_35 xr_1165 rfl rfl rfl h (fun z36 w35 h => (xq_iastore k_1166_36 h (fun w37 h => (xq_aload_n k_1166_37 rfl (xq_getr k_1166_38 rfl h (fun r38 h => (xq_bipush k_1166_39 (xq_iload_n k_1166_40 rfl (xq_iastore k_1166_41 h (fun w39 h => (xq_aload_n k_1166_42 rfl (xq_iconst k_1166_43 (xq_invv1 k_1166_44 xr_1129 rfl rfl rfl h (fun z41 w40 h => (xq_istore_n k_1166_45 rfl (xq_iload_n k_1166_46 rfl (xq_iconst k_1166_47 (xq_bipush k_1166_48 (xq_invs1 k_1166_49 xr_1104 rfl rfl rfl h (fun z43 w42 h => (xq_ireturn k_1166_50 h)))))))))))))))))))))))))))))))))))))))))))))))) (fun h => (xq_aload_n k_1166_9 rfl (xq_getr k_1166_10 rfl h (fun r3 h => (xq_iconst k_1166_11 (xq_iaload k_1166_12 h (fun l4 h => h) (fun l4 z5 h => (xq_aload_n k_1166_13 rfl (xq_iload_n k_1166_14 rfl (xq_iconst k_1166_15 (xq_invv1 k_1166_16 xr_1112 rfl rfl rfl h (fun z7 w6 h => (xq_isub k_1166_17 (xq_istore_n k_1166_18 rfl (xq_aload_n k_1166_19 rfl (xq_iconst k_1166_20 (xq_invv2 k_1166_21 xr_1125 rfl rfl rfl h (fun z9 w8 h => (xq_if_eq k_1166_22 h (fun h => (xq_iload_n k_1166_46 rfl (xq_iconst k_1166_47 (xq_bipush k_1166_48 (xq_invs1 k_1166_49 xr_1104 rfl rfl rfl h (fun z11 w10 h => (xq_ireturn k_1166_50 h))))))) (fun h => (xq_aload_n k_1166_23 rfl (xq_getr k_1166_24 rfl h (fun r12 h => (xq_bipush k_1166_25 (xq_aload_n k_1166_26 rfl (xq_iload_n k_1166_27 rfl (xq_invv1 k_1166_28 xr_1164 rfl rfl rfl h (fun z14 w13 h => (xq_iastore k_1166_29 h (fun w15 h => (xq_aload_n k_1166_30 rfl (xq_getr k_1166_31 rfl h (fun r16 h => (xq_bipush k_1166_32 (xq_aload_n k_1166_33 rfl (xq_iload_n k_1166_34 rfl (xq_invv1 k_1166_35 xr_1165 rfl rfl rfl h (fun z18 w17 h => (xq_iastore k_1166_36 h (fun w19 h => (xq_aload_n k_1166_37 rfl (xq_getr k_1166_38 rfl h (fun r20 h => (xq_bipush k_1166_39 (xq_iload_n k_1166_40 rfl (xq_iastore k_1166_41 h (fun w21 h => (xq_aload_n k_1166_42 rfl (xq_iconst k_1166_43 (xq_invv1 k_1166_44 xr_1129 rfl rfl rfl h (fun z23 w22 h => (xq_istore_n k_1166_45 rfl (xq_iload_n k_1166_46 rfl (xq_iconst k_1166_47 (xq_bipush k_1166_48 (xq_invs1 k_1166_49 xr_1104 rfl rfl rfl h (fun z25 w24 h => (xq_ireturn k_1166_50 h))))))))))))))))))))))))))))))))))))))))))))))))))))))))))))))))))
/-- ShodBackwardsModel.toldCell(II)I -/
theorem d_1167_0 : List.drop 0 xm_c1167 = xm_c1167 := rfl
theorem k_1167_0 : xm_gi xm_c1167 0 = some xm_e1167_0 := xm_gt d_1167_0
theorem d_1167_1 : List.drop 1 xm_c1167 = xm_c1167_1 := xm_dr d_1167_0
theorem k_1167_1 : xm_gi xm_c1167 1 = some xm_e1167_1 := xm_gt d_1167_1
theorem d_1167_2 : List.drop 2 xm_c1167 = xm_c1167_2 := xm_dr d_1167_1
theorem k_1167_2 : xm_gi xm_c1167 2 = some xm_e1167_2 := xm_gt d_1167_2
theorem d_1167_3 : List.drop 3 xm_c1167 = xm_c1167_3 := xm_dr d_1167_2
theorem k_1167_3 : xm_gi xm_c1167 3 = some xm_e1167_3 := xm_gt d_1167_3
theorem d_1167_4 : List.drop 4 xm_c1167 = xm_c1167_4 := xm_dr d_1167_3
theorem k_1167_4 : xm_gi xm_c1167 4 = some xm_e1167_4 := xm_gt d_1167_4
theorem d_1167_5 : List.drop 5 xm_c1167 = xm_c1167_5 := xm_dr d_1167_4
theorem k_1167_5 : xm_gi xm_c1167 5 = some xm_e1167_5 := xm_gt d_1167_5
theorem d_1167_6 : List.drop 6 xm_c1167 = xm_c1167_6 := xm_dr d_1167_5
theorem k_1167_6 : xm_gi xm_c1167 6 = some xm_e1167_6 := xm_gt d_1167_6
theorem d_1167_7 : List.drop 7 xm_c1167 = xm_c1167_7 := xm_dr d_1167_6
theorem k_1167_7 : xm_gi xm_c1167 7 = some xm_e1167_7 := xm_gt d_1167_7
theorem d_1167_8 : List.drop 8 xm_c1167 = xm_c1167_8 := xm_dr d_1167_7
theorem k_1167_8 : xm_gi xm_c1167 8 = some xm_e1167_8 := xm_gt d_1167_8
theorem d_1167_9 : List.drop 9 xm_c1167 = xm_c1167_9 := xm_dr d_1167_8
theorem k_1167_9 : xm_gi xm_c1167 9 = some xm_e1167_9 := xm_gt d_1167_9
theorem d_1167_10 : List.drop 10 xm_c1167 = xm_c1167_10 := xm_dr d_1167_9
theorem k_1167_10 : xm_gi xm_c1167 10 = some xm_e1167_10 := xm_gt d_1167_10
theorem d_1167_11 : List.drop 11 xm_c1167 = xm_c1167_11 := xm_dr d_1167_10
theorem k_1167_11 : xm_gi xm_c1167 11 = some xm_e1167_11 := xm_gt d_1167_11
theorem d_1167_12 : List.drop 12 xm_c1167 = xm_c1167_12 := xm_dr d_1167_11
theorem k_1167_12 : xm_gi xm_c1167 12 = some xm_e1167_12 := xm_gt d_1167_12
theorem d_1167_13 : List.drop 13 xm_c1167 = xm_c1167_13 := xm_dr d_1167_12
theorem k_1167_13 : xm_gi xm_c1167 13 = some xm_e1167_13 := xm_gt d_1167_13
theorem d_1167_14 : List.drop 14 xm_c1167 = xm_c1167_14 := xm_dr d_1167_13
theorem k_1167_14 : xm_gi xm_c1167 14 = some xm_e1167_14 := xm_gt d_1167_14
theorem d_1167_15 : List.drop 15 xm_c1167 = xm_c1167_15 := xm_dr d_1167_14
theorem k_1167_15 : xm_gi xm_c1167 15 = some xm_e1167_15 := xm_gt d_1167_15
theorem d_1167_16 : List.drop 16 xm_c1167 = xm_c1167_16 := xm_dr d_1167_15
theorem k_1167_16 : xm_gi xm_c1167 16 = some xm_e1167_16 := xm_gt d_1167_16
theorem d_1167_17 : List.drop 17 xm_c1167 = xm_c1167_17 := xm_dr d_1167_16
theorem k_1167_17 : xm_gi xm_c1167 17 = some xm_e1167_17 := xm_gt d_1167_17
theorem d_1167_18 : List.drop 18 xm_c1167 = xm_c1167_18 := xm_dr d_1167_17
theorem k_1167_18 : xm_gi xm_c1167 18 = some xm_e1167_18 := xm_gt d_1167_18
theorem d_1167_19 : List.drop 19 xm_c1167 = xm_c1167_19 := xm_dr d_1167_18
theorem k_1167_19 : xm_gi xm_c1167 19 = some xm_e1167_19 := xm_gt d_1167_19
theorem d_1167_20 : List.drop 20 xm_c1167 = xm_c1167_20 := xm_dr d_1167_19
theorem k_1167_20 : xm_gi xm_c1167 20 = some xm_e1167_20 := xm_gt d_1167_20
theorem d_1167_21 : List.drop 21 xm_c1167 = xm_c1167_21 := xm_dr d_1167_20
theorem k_1167_21 : xm_gi xm_c1167 21 = some xm_e1167_21 := xm_gt d_1167_21
theorem d_1167_22 : List.drop 22 xm_c1167 = xm_c1167_22 := xm_dr d_1167_21
theorem k_1167_22 : xm_gi xm_c1167 22 = some xm_e1167_22 := xm_gt d_1167_22
theorem d_1167_23 : List.drop 23 xm_c1167 = xm_c1167_23 := xm_dr d_1167_22
theorem k_1167_23 : xm_gi xm_c1167 23 = some xm_e1167_23 := xm_gt d_1167_23
theorem d_1167_24 : List.drop 24 xm_c1167 = xm_c1167_24 := xm_dr d_1167_23
theorem k_1167_24 : xm_gi xm_c1167 24 = some xm_e1167_24 := xm_gt d_1167_24
theorem d_1167_25 : List.drop 25 xm_c1167 = xm_c1167_25 := xm_dr d_1167_24
theorem k_1167_25 : xm_gi xm_c1167 25 = some xm_e1167_25 := xm_gt d_1167_25
theorem d_1167_26 : List.drop 26 xm_c1167 = xm_c1167_26 := xm_dr d_1167_25
theorem k_1167_26 : xm_gi xm_c1167 26 = some xm_e1167_26 := xm_gt d_1167_26
theorem d_1167_27 : List.drop 27 xm_c1167 = xm_c1167_27 := xm_dr d_1167_26
theorem k_1167_27 : xm_gi xm_c1167 27 = some xm_e1167_27 := xm_gt d_1167_27
theorem d_1167_28 : List.drop 28 xm_c1167 = xm_c1167_28 := xm_dr d_1167_27
theorem k_1167_28 : xm_gi xm_c1167 28 = some xm_e1167_28 := xm_gt d_1167_28
theorem d_1167_29 : List.drop 29 xm_c1167 = xm_c1167_29 := xm_dr d_1167_28
theorem k_1167_29 : xm_gi xm_c1167 29 = some xm_e1167_29 := xm_gt d_1167_29
theorem d_1167_30 : List.drop 30 xm_c1167 = xm_c1167_30 := xm_dr d_1167_29
theorem k_1167_30 : xm_gi xm_c1167 30 = some xm_e1167_30 := xm_gt d_1167_30
theorem d_1167_31 : List.drop 31 xm_c1167 = xm_c1167_31 := xm_dr d_1167_30
theorem k_1167_31 : xm_gi xm_c1167 31 = some xm_e1167_31 := xm_gt d_1167_31
theorem d_1167_32 : List.drop 32 xm_c1167 = xm_c1167_32 := xm_dr d_1167_31
theorem k_1167_32 : xm_gi xm_c1167 32 = some xm_e1167_32 := xm_gt d_1167_32
theorem d_1167_33 : List.drop 33 xm_c1167 = xm_c1167_33 := xm_dr d_1167_32
theorem k_1167_33 : xm_gi xm_c1167 33 = some xm_e1167_33 := xm_gt d_1167_33
theorem d_1167_34 : List.drop 34 xm_c1167 = xm_c1167_34 := xm_dr d_1167_33
theorem k_1167_34 : xm_gi xm_c1167 34 = some xm_e1167_34 := xm_gt d_1167_34
theorem xb_1167_0 {sc : List Int} {f : Nat → List xm_V → xm_W → xm_R} {w : xm_W} {Q : Option xm_V × xm_W → Prop} {x0 : Nat} {x1 : Int} {x2 : Int}
  (h : xm_Oi (f 1163 [.inr (.inl (some x0)), .inl x1] w) (fun z2 w1 => if (x2 : Int) = 0 then (xm_O (xm_fr (xm_old sc) w1 x0 9 0) (fun r11 => xm_O (xm_ints (xm_old sc) w1 r11) (fun l12 => xm_O (xm_at l12 (xm_w (8 + x1))) (fun z13 => Q (some (.inl z13), w1))))) else (if (x2 : Int) = 1 then (xm_Oi (f 1164 [.inr (.inl (some x0)), .inl x1] w1) (fun z10 w9 => Q (some (.inl z10), w9))) else (if (x2 : Int) = 2 then (if (z2 : Int) = (-1) then (Q (some (.inl (-1)), w1)) else (xm_Oi (f 1112 [.inr (.inl (some x0)), .inl z2, .inl 1] w1) (fun z8 w7 => Q (some (.inl z8), w7)))) else (if (x2 : Int) = 3 then (xm_Oi (f 1165 [.inr (.inl (some x0)), .inl x1] w1) (fun z6 w5 => Q (some (.inl z6), w5))) else (xm_Oi (f 1166 [.inr (.inl (some x0)), .inl x1] w1) (fun z4 w3 => Q (some (.inl z4), w3)))))))) :
  xm_EQ (xm_old sc) xm_sta f xm_c1167 0 [some (.inr (.inl (some x0))), some (.inl x1), some (.inl x2), none] [] w Q :=
  (xq_aload_n k_1167_0 rfl (xq_iload_n k_1167_1 rfl (xq_invv1 k_1167_2 xr_1163 rfl rfl rfl h (fun z2 w1 h => (xq_istore_n k_1167_3 rfl (xq_iload_n k_1167_4 rfl (xq_tsw k_1167_5 (xs_swc h (fun h => (xq_aload_n k_1167_6 rfl (xq_getr k_1167_7 rfl h (fun r11 h => (xq_bipush k_1167_8 (xq_iload_n k_1167_9 rfl (xq_iadd k_1167_10 (xq_iaload k_1167_11 h (fun l12 h => h) (fun l12 z13 h => (xq_ireturn k_1167_12 h)))))))))) (fun h => (xs_swc h (fun h => (xq_aload_n k_1167_13 rfl (xq_iload_n k_1167_14 rfl (xq_invv1 k_1167_15 xr_1164 rfl rfl rfl h (fun z10 w9 h => (xq_ireturn k_1167_16 h)))))) (fun h => (xs_swc h (fun h => (xq_iload_n k_1167_17 rfl (xq_iconst k_1167_18 (xq_ic_ne k_1167_19 h (fun h => (xq_iconst k_1167_20 (xq_goto k_1167_21 (xq_ireturn k_1167_26 h)))) (fun h => (xq_aload_n k_1167_22 rfl (xq_iload_n k_1167_23 rfl (xq_iconst k_1167_24 (xq_invv1 k_1167_25 xr_1112 rfl rfl rfl h (fun z8 w7 h => (xq_ireturn k_1167_26 h))))))))))) (fun h => (xs_swc h (fun h => (xq_aload_n k_1167_27 rfl (xq_iload_n k_1167_28 rfl (xq_invv1 k_1167_29 xr_1165 rfl rfl rfl h (fun z6 w5 h => (xq_ireturn k_1167_30 h)))))) (fun h => (xq_aload_n k_1167_31 rfl (xq_iload_n k_1167_32 rfl (xq_invv1 k_1167_33 xr_1166 rfl rfl rfl h (fun z4 w3 h => (xq_ireturn k_1167_34 h))))))))))))))))))))
/-- ShodBackwardsModel.cellIs(II)I -/
theorem d_1168_0 : List.drop 0 xm_c1168 = xm_c1168 := rfl
theorem k_1168_0 : xm_gi xm_c1168 0 = some xm_e1168_0 := xm_gt d_1168_0
theorem d_1168_1 : List.drop 1 xm_c1168 = xm_c1168_1 := xm_dr d_1168_0
theorem k_1168_1 : xm_gi xm_c1168 1 = some xm_e1168_1 := xm_gt d_1168_1
theorem d_1168_2 : List.drop 2 xm_c1168 = xm_c1168_2 := xm_dr d_1168_1
theorem k_1168_2 : xm_gi xm_c1168 2 = some xm_e1168_2 := xm_gt d_1168_2
theorem d_1168_3 : List.drop 3 xm_c1168 = xm_c1168_3 := xm_dr d_1168_2
theorem k_1168_3 : xm_gi xm_c1168 3 = some xm_e1168_3 := xm_gt d_1168_3
theorem d_1168_4 : List.drop 4 xm_c1168 = xm_c1168_4 := xm_dr d_1168_3
theorem k_1168_4 : xm_gi xm_c1168 4 = some xm_e1168_4 := xm_gt d_1168_4
theorem d_1168_5 : List.drop 5 xm_c1168 = xm_c1168_5 := xm_dr d_1168_4
theorem k_1168_5 : xm_gi xm_c1168 5 = some xm_e1168_5 := xm_gt d_1168_5
theorem d_1168_6 : List.drop 6 xm_c1168 = xm_c1168_6 := xm_dr d_1168_5
theorem k_1168_6 : xm_gi xm_c1168 6 = some xm_e1168_6 := xm_gt d_1168_6
theorem d_1168_7 : List.drop 7 xm_c1168 = xm_c1168_7 := xm_dr d_1168_6
theorem k_1168_7 : xm_gi xm_c1168 7 = some xm_e1168_7 := xm_gt d_1168_7
theorem d_1168_8 : List.drop 8 xm_c1168 = xm_c1168_8 := xm_dr d_1168_7
theorem k_1168_8 : xm_gi xm_c1168 8 = some xm_e1168_8 := xm_gt d_1168_8
theorem d_1168_9 : List.drop 9 xm_c1168 = xm_c1168_9 := xm_dr d_1168_8
theorem k_1168_9 : xm_gi xm_c1168 9 = some xm_e1168_9 := xm_gt d_1168_9
theorem d_1168_10 : List.drop 10 xm_c1168 = xm_c1168_10 := xm_dr d_1168_9
theorem k_1168_10 : xm_gi xm_c1168 10 = some xm_e1168_10 := xm_gt d_1168_10
theorem d_1168_11 : List.drop 11 xm_c1168 = xm_c1168_11 := xm_dr d_1168_10
theorem k_1168_11 : xm_gi xm_c1168 11 = some xm_e1168_11 := xm_gt d_1168_11
theorem d_1168_12 : List.drop 12 xm_c1168 = xm_c1168_12 := xm_dr d_1168_11
theorem k_1168_12 : xm_gi xm_c1168 12 = some xm_e1168_12 := xm_gt d_1168_12
theorem d_1168_13 : List.drop 13 xm_c1168 = xm_c1168_13 := xm_dr d_1168_12
theorem k_1168_13 : xm_gi xm_c1168 13 = some xm_e1168_13 := xm_gt d_1168_13
theorem d_1168_14 : List.drop 14 xm_c1168 = xm_c1168_14 := xm_dr d_1168_13
theorem k_1168_14 : xm_gi xm_c1168 14 = some xm_e1168_14 := xm_gt d_1168_14
theorem d_1168_15 : List.drop 15 xm_c1168 = xm_c1168_15 := xm_dr d_1168_14
theorem k_1168_15 : xm_gi xm_c1168 15 = some xm_e1168_15 := xm_gt d_1168_15
theorem d_1168_16 : List.drop 16 xm_c1168 = xm_c1168_16 := xm_dr d_1168_15
theorem k_1168_16 : xm_gi xm_c1168 16 = some xm_e1168_16 := xm_gt d_1168_16
theorem xb_1168_0 {sc : List Int} {f : Nat → List xm_V → xm_W → xm_R} {w : xm_W} {Q : Option xm_V × xm_W → Prop} {x0 : Nat} {x1 : Int} {x2 : Int}
  (h : xm_Oi (f 1108 [.inl x1] w) (fun z2 w1 => if (z2 : Int) = 0 then (xm_Oi (f 1102 [.inr (.inl (some x0)), .inl 1] w1) (fun z4 w3 => Q (some (.inl z4), w3))) else (xm_Oi (f 1103 [.inl x2, .inl 0, .inl 4] w1) (fun z6 w5 => if (z6 : Int) = 0 then (xm_Oi (f 1102 [.inr (.inl (some x0)), .inl 1] w5) (fun z8 w7 => Q (some (.inl z8), w7))) else (xm_Oi (f 1167 [.inr (.inl (some x0)), .inl x1, .inl x2] w5) (fun z10 w9 => Q (some (.inl z10), w9))))))) :
  xm_EQ (xm_old sc) xm_sta f xm_c1168 0 [some (.inr (.inl (some x0))), some (.inl x1), some (.inl x2)] [] w Q :=
  (xq_iload_n k_1168_0 rfl (xq_invs2 k_1168_1 xr_1108 rfl rfl rfl h (fun z2 w1 h => (xq_if_eq k_1168_2 h (fun h => (xq_aload_n k_1168_13 rfl (xq_iconst k_1168_14 (xq_invv1 k_1168_15 xr_1102 rfl rfl rfl h (fun z4 w3 h => (xq_ireturn k_1168_16 h)))))) (fun h => (xq_iload_n k_1168_3 rfl (xq_iconst k_1168_4 (xq_iconst k_1168_5 (xq_invs2 k_1168_6 xr_1103 rfl rfl rfl h (fun z6 w5 h => (xq_if_eq k_1168_7 h (fun h => (xq_aload_n k_1168_13 rfl (xq_iconst k_1168_14 (xq_invv1 k_1168_15 xr_1102 rfl rfl rfl h (fun z8 w7 h => (xq_ireturn k_1168_16 h)))))) (fun h => (xq_aload_n k_1168_8 rfl (xq_iload_n k_1168_9 rfl (xq_iload_n k_1168_10 rfl (xq_invv1 k_1168_11 xr_1167 rfl rfl rfl h (fun z10 w9 h => (xq_goto k_1168_12 (xq_ireturn k_1168_16 h)))))))))))))))))))
/-- ShodBackwardsModel.follows(IZI)I -/
theorem d_1169_0 : List.drop 0 xm_c1169 = xm_c1169 := rfl
theorem k_1169_0 : xm_gi xm_c1169 0 = some xm_e1169_0 := xm_gt d_1169_0
theorem d_1169_1 : List.drop 1 xm_c1169 = xm_c1169_1 := xm_dr d_1169_0
theorem k_1169_1 : xm_gi xm_c1169 1 = some xm_e1169_1 := xm_gt d_1169_1
theorem d_1169_2 : List.drop 2 xm_c1169 = xm_c1169_2 := xm_dr d_1169_1
theorem k_1169_2 : xm_gi xm_c1169 2 = some xm_e1169_2 := xm_gt d_1169_2
theorem d_1169_3 : List.drop 3 xm_c1169 = xm_c1169_3 := xm_dr d_1169_2
theorem k_1169_3 : xm_gi xm_c1169 3 = some xm_e1169_3 := xm_gt d_1169_3
theorem d_1169_4 : List.drop 4 xm_c1169 = xm_c1169_4 := xm_dr d_1169_3
theorem k_1169_4 : xm_gi xm_c1169 4 = some xm_e1169_4 := xm_gt d_1169_4
theorem d_1169_5 : List.drop 5 xm_c1169 = xm_c1169_5 := xm_dr d_1169_4
theorem k_1169_5 : xm_gi xm_c1169 5 = some xm_e1169_5 := xm_gt d_1169_5
theorem d_1169_6 : List.drop 6 xm_c1169 = xm_c1169_6 := xm_dr d_1169_5
theorem k_1169_6 : xm_gi xm_c1169 6 = some xm_e1169_6 := xm_gt d_1169_6
theorem d_1169_7 : List.drop 7 xm_c1169 = xm_c1169_7 := xm_dr d_1169_6
theorem k_1169_7 : xm_gi xm_c1169 7 = some xm_e1169_7 := xm_gt d_1169_7
theorem d_1169_8 : List.drop 8 xm_c1169 = xm_c1169_8 := xm_dr d_1169_7
theorem k_1169_8 : xm_gi xm_c1169 8 = some xm_e1169_8 := xm_gt d_1169_8
theorem d_1169_9 : List.drop 9 xm_c1169 = xm_c1169_9 := xm_dr d_1169_8
theorem k_1169_9 : xm_gi xm_c1169 9 = some xm_e1169_9 := xm_gt d_1169_9
theorem d_1169_10 : List.drop 10 xm_c1169 = xm_c1169_10 := xm_dr d_1169_9
theorem k_1169_10 : xm_gi xm_c1169 10 = some xm_e1169_10 := xm_gt d_1169_10
theorem d_1169_11 : List.drop 11 xm_c1169 = xm_c1169_11 := xm_dr d_1169_10
theorem k_1169_11 : xm_gi xm_c1169 11 = some xm_e1169_11 := xm_gt d_1169_11
theorem d_1169_12 : List.drop 12 xm_c1169 = xm_c1169_12 := xm_dr d_1169_11
theorem k_1169_12 : xm_gi xm_c1169 12 = some xm_e1169_12 := xm_gt d_1169_12
theorem d_1169_13 : List.drop 13 xm_c1169 = xm_c1169_13 := xm_dr d_1169_12
theorem k_1169_13 : xm_gi xm_c1169 13 = some xm_e1169_13 := xm_gt d_1169_13
theorem d_1169_14 : List.drop 14 xm_c1169 = xm_c1169_14 := xm_dr d_1169_13
theorem k_1169_14 : xm_gi xm_c1169 14 = some xm_e1169_14 := xm_gt d_1169_14
theorem d_1169_15 : List.drop 15 xm_c1169 = xm_c1169_15 := xm_dr d_1169_14
theorem k_1169_15 : xm_gi xm_c1169 15 = some xm_e1169_15 := xm_gt d_1169_15
theorem d_1169_16 : List.drop 16 xm_c1169 = xm_c1169_16 := xm_dr d_1169_15
theorem k_1169_16 : xm_gi xm_c1169 16 = some xm_e1169_16 := xm_gt d_1169_16
theorem d_1169_17 : List.drop 17 xm_c1169 = xm_c1169_17 := xm_dr d_1169_16
theorem k_1169_17 : xm_gi xm_c1169 17 = some xm_e1169_17 := xm_gt d_1169_17
theorem d_1169_18 : List.drop 18 xm_c1169 = xm_c1169_18 := xm_dr d_1169_17
theorem k_1169_18 : xm_gi xm_c1169 18 = some xm_e1169_18 := xm_gt d_1169_18
theorem d_1169_19 : List.drop 19 xm_c1169 = xm_c1169_19 := xm_dr d_1169_18
theorem k_1169_19 : xm_gi xm_c1169 19 = some xm_e1169_19 := xm_gt d_1169_19
theorem d_1169_20 : List.drop 20 xm_c1169 = xm_c1169_20 := xm_dr d_1169_19
theorem k_1169_20 : xm_gi xm_c1169 20 = some xm_e1169_20 := xm_gt d_1169_20
theorem d_1169_21 : List.drop 21 xm_c1169 = xm_c1169_21 := xm_dr d_1169_20
theorem k_1169_21 : xm_gi xm_c1169 21 = some xm_e1169_21 := xm_gt d_1169_21
theorem d_1169_22 : List.drop 22 xm_c1169 = xm_c1169_22 := xm_dr d_1169_21
theorem k_1169_22 : xm_gi xm_c1169 22 = some xm_e1169_22 := xm_gt d_1169_22
theorem d_1169_23 : List.drop 23 xm_c1169 = xm_c1169_23 := xm_dr d_1169_22
theorem k_1169_23 : xm_gi xm_c1169 23 = some xm_e1169_23 := xm_gt d_1169_23
theorem d_1169_24 : List.drop 24 xm_c1169 = xm_c1169_24 := xm_dr d_1169_23
theorem k_1169_24 : xm_gi xm_c1169 24 = some xm_e1169_24 := xm_gt d_1169_24
theorem d_1169_25 : List.drop 25 xm_c1169 = xm_c1169_25 := xm_dr d_1169_24
theorem k_1169_25 : xm_gi xm_c1169 25 = some xm_e1169_25 := xm_gt d_1169_25
theorem d_1169_26 : List.drop 26 xm_c1169 = xm_c1169_26 := xm_dr d_1169_25
theorem k_1169_26 : xm_gi xm_c1169 26 = some xm_e1169_26 := xm_gt d_1169_26
theorem d_1169_27 : List.drop 27 xm_c1169 = xm_c1169_27 := xm_dr d_1169_26
theorem k_1169_27 : xm_gi xm_c1169 27 = some xm_e1169_27 := xm_gt d_1169_27
theorem d_1169_28 : List.drop 28 xm_c1169 = xm_c1169_28 := xm_dr d_1169_27
theorem k_1169_28 : xm_gi xm_c1169 28 = some xm_e1169_28 := xm_gt d_1169_28
theorem d_1169_29 : List.drop 29 xm_c1169 = xm_c1169_29 := xm_dr d_1169_28
theorem k_1169_29 : xm_gi xm_c1169 29 = some xm_e1169_29 := xm_gt d_1169_29
theorem d_1169_30 : List.drop 30 xm_c1169 = xm_c1169_30 := xm_dr d_1169_29
theorem k_1169_30 : xm_gi xm_c1169 30 = some xm_e1169_30 := xm_gt d_1169_30
theorem d_1169_31 : List.drop 31 xm_c1169 = xm_c1169_31 := xm_dr d_1169_30
theorem k_1169_31 : xm_gi xm_c1169 31 = some xm_e1169_31 := xm_gt d_1169_31
theorem d_1169_32 : List.drop 32 xm_c1169 = xm_c1169_32 := xm_dr d_1169_31
theorem k_1169_32 : xm_gi xm_c1169 32 = some xm_e1169_32 := xm_gt d_1169_32
theorem d_1169_33 : List.drop 33 xm_c1169 = xm_c1169_33 := xm_dr d_1169_32
theorem k_1169_33 : xm_gi xm_c1169 33 = some xm_e1169_33 := xm_gt d_1169_33
theorem d_1169_34 : List.drop 34 xm_c1169 = xm_c1169_34 := xm_dr d_1169_33
theorem k_1169_34 : xm_gi xm_c1169 34 = some xm_e1169_34 := xm_gt d_1169_34
theorem d_1169_35 : List.drop 35 xm_c1169 = xm_c1169_35 := xm_dr d_1169_34
theorem k_1169_35 : xm_gi xm_c1169 35 = some xm_e1169_35 := xm_gt d_1169_35
theorem d_1169_36 : List.drop 36 xm_c1169 = xm_c1169_36 := xm_dr d_1169_35
theorem k_1169_36 : xm_gi xm_c1169 36 = some xm_e1169_36 := xm_gt d_1169_36
theorem d_1169_37 : List.drop 37 xm_c1169 = xm_c1169_37 := xm_dr d_1169_36
theorem k_1169_37 : xm_gi xm_c1169 37 = some xm_e1169_37 := xm_gt d_1169_37
theorem d_1169_38 : List.drop 38 xm_c1169 = xm_c1169_38 := xm_dr d_1169_37
theorem k_1169_38 : xm_gi xm_c1169 38 = some xm_e1169_38 := xm_gt d_1169_38
theorem d_1169_39 : List.drop 39 xm_c1169 = xm_c1169_39 := xm_dr d_1169_38
theorem k_1169_39 : xm_gi xm_c1169 39 = some xm_e1169_39 := xm_gt d_1169_39
theorem d_1169_40 : List.drop 40 xm_c1169 = xm_c1169_40 := xm_dr d_1169_39
theorem k_1169_40 : xm_gi xm_c1169 40 = some xm_e1169_40 := xm_gt d_1169_40
theorem d_1169_41 : List.drop 41 xm_c1169 = xm_c1169_41 := xm_dr d_1169_40
theorem k_1169_41 : xm_gi xm_c1169 41 = some xm_e1169_41 := xm_gt d_1169_41
theorem d_1169_42 : List.drop 42 xm_c1169 = xm_c1169_42 := xm_dr d_1169_41
theorem k_1169_42 : xm_gi xm_c1169 42 = some xm_e1169_42 := xm_gt d_1169_42
theorem d_1169_43 : List.drop 43 xm_c1169 = xm_c1169_43 := xm_dr d_1169_42
theorem k_1169_43 : xm_gi xm_c1169 43 = some xm_e1169_43 := xm_gt d_1169_43
theorem d_1169_44 : List.drop 44 xm_c1169 = xm_c1169_44 := xm_dr d_1169_43
theorem k_1169_44 : xm_gi xm_c1169 44 = some xm_e1169_44 := xm_gt d_1169_44
theorem d_1169_45 : List.drop 45 xm_c1169 = xm_c1169_45 := xm_dr d_1169_44
theorem k_1169_45 : xm_gi xm_c1169 45 = some xm_e1169_45 := xm_gt d_1169_45
theorem d_1169_46 : List.drop 46 xm_c1169 = xm_c1169_46 := xm_dr d_1169_45
theorem k_1169_46 : xm_gi xm_c1169 46 = some xm_e1169_46 := xm_gt d_1169_46
theorem d_1169_47 : List.drop 47 xm_c1169 = xm_c1169_47 := xm_dr d_1169_46
theorem k_1169_47 : xm_gi xm_c1169 47 = some xm_e1169_47 := xm_gt d_1169_47
theorem d_1169_48 : List.drop 48 xm_c1169 = xm_c1169_48 := xm_dr d_1169_47
theorem k_1169_48 : xm_gi xm_c1169 48 = some xm_e1169_48 := xm_gt d_1169_48
theorem d_1169_49 : List.drop 49 xm_c1169 = xm_c1169_49 := xm_dr d_1169_48
theorem k_1169_49 : xm_gi xm_c1169 49 = some xm_e1169_49 := xm_gt d_1169_49
theorem d_1169_50 : List.drop 50 xm_c1169 = xm_c1169_50 := xm_dr d_1169_49
theorem k_1169_50 : xm_gi xm_c1169 50 = some xm_e1169_50 := xm_gt d_1169_50
theorem d_1169_51 : List.drop 51 xm_c1169 = xm_c1169_51 := xm_dr d_1169_50
theorem k_1169_51 : xm_gi xm_c1169 51 = some xm_e1169_51 := xm_gt d_1169_51
theorem xb_1169_0 {sc : List Int} {f : Nat → List xm_V → xm_W → xm_R} {w : xm_W} {Q : Option xm_V × xm_W → Prop} {x0 : Nat} {x1 : Int} {x2 : Int} {x3 : Int}
  (h : xm_O (xm_setf w x0 9 13 0 (.inl 0)) (fun w1 => xm_EQ (xm_old sc) xm_sta f xm_c1169 7 [some (.inr (.inl (some x0))), some (.inl x1), some (.inl x2), some (.inl x3), some (.inl x1), some (.inl x1), none] [] w1 Q)) :
  xm_EQ (xm_old sc) xm_sta f xm_c1169 0 [some (.inr (.inl (some x0))), some (.inl x1), some (.inl x2), some (.inl x3), none, none, none] [] w Q :=
  (xq_iload_n k_1169_0 rfl (xq_istore k_1169_1 rfl (xq_aload_n k_1169_2 rfl (xq_iconst k_1169_3 (xq_put k_1169_4 rfl h (fun w1 h => (xq_iload k_1169_5 rfl (xq_istore k_1169_6 rfl h))))))))
theorem xb_1169_7 {sc : List Int} {f : Nat → List xm_V → xm_W → xm_R} {w : xm_W} {Q : Option xm_V × xm_W → Prop} {x0 : Nat} {x1 : Int} {x2 : Int} {x3 : Int} {x4 : Int} {x5 : Int} {u6 : Option xm_V}
  (h : if (x5 : Int) = (-1) then (Q (some (.inl x4), w)) else (xm_O (xm_fi (xm_old sc) w x0 9 13) (fun z1 => if (z1 : Int) < x3 then (xm_Oi (f 1163 [.inr (.inl (some x0)), .inl x4] w) (fun z3 w2 => if (z3 : Int) = (-1) then (if ((-1) : Int) = (-1) then (xm_EQ (xm_old sc) xm_sta f xm_c1169 7 [some (.inr (.inl (some x0))), some (.inl x1), some (.inl x2), some (.inl x3), some (.inl x4), some (.inl (-1)), some (.inl z3)] [] w2 Q) else (xm_O (xm_fi (xm_old sc) w2 x0 9 13) (fun z18 => xm_O (xm_setf w2 x0 9 13 0 (.inl (xm_w (z18 + 1)))) (fun w19 => xm_EQ (xm_old sc) xm_sta f xm_c1169 7 [some (.inr (.inl (some x0))), some (.inl x1), some (.inl x2), some (.inl x3), some (.inl (-1)), some (.inl (-1)), some (.inl z3)] [] w19 Q)))) else (if (x2 : Int) = 0 then (xm_Oi (f 1112 [.inr (.inl (some x0)), .inl z3, .inl 1] w2) (fun z5 w4 => xm_Oi (f 1133 [.inl z5] w4) (fun z7 w6 => xm_Oi (f 1139 [.inl x4, .inl z7] w6) (fun z9 w8 => if (z9 : Int) = (-1) then (xm_EQ (xm_old sc) xm_sta f xm_c1169 7 [some (.inr (.inl (some x0))), some (.inl x1), some (.inl x2), some (.inl x3), some (.inl x4), some (.inl z9), some (.inl z3)] [] w8 Q) else (xm_O (xm_fi (xm_old sc) w8 x0 9 13) (fun z10 => xm_O (xm_setf w8 x0 9 13 0 (.inl (xm_w (z10 + 1)))) (fun w11 => xm_EQ (xm_old sc) xm_sta f xm_c1169 7 [some (.inr (.inl (some x0))), some (.inl x1), some (.inl x2), some (.inl x3), some (.inl z9), some (.inl z9), some (.inl z3)] [] w11 Q))))))) else (xm_Oi (f 1112 [.inr (.inl (some x0)), .inl z3, .inl 1] w2) (fun z13 w12 => xm_Oi (f 1139 [.inl x4, .inl z13] w12) (fun z15 w14 => if (z15 : Int) = (-1) then (xm_EQ (xm_old sc) xm_sta f xm_c1169 7 [some (.inr (.inl (some x0))), some (.inl x1), some (.inl x2), some (.inl x3), some (.inl x4), some (.inl z15), some (.inl z3)] [] w14 Q) else (xm_O (xm_fi (xm_old sc) w14 x0 9 13) (fun z16 => xm_O (xm_setf w14 x0 9 13 0 (.inl (xm_w (z16 + 1)))) (fun w17 => xm_EQ (xm_old sc) xm_sta f xm_c1169 7 [some (.inr (.inl (some x0))), some (.inl x1), some (.inl x2), some (.inl x3), some (.inl z15), some (.inl z15), some (.inl z3)] [] w17 Q))))))))) else (Q (some (.inl x4), w))))) :
  xm_EQ (xm_old sc) xm_sta f xm_c1169 7 [some (.inr (.inl (some x0))), some (.inl x1), some (.inl x2), some (.inl x3), some (.inl x4), some (.inl x5), u6] [] w Q :=
  (xq_iload k_1169_7 rfl (xq_iconst k_1169_8 (xq_ic_eq k_1169_9 h (fun h => (xq_iload k_1169_50 rfl (xq_ireturn k_1169_51 h))) (fun h => (xq_aload_n k_1169_10 rfl (xq_geti0 k_1169_11 rfl h (fun z1 h => (xq_iload_n k_1169_12 rfl (xq_ic_ge k_1169_13 h (fun h => (xq_aload_n k_1169_14 rfl (xq_iload k_1169_15 rfl (xq_invv1 k_1169_16 xr_1163 rfl rfl rfl h (fun z3 w2 h => (xq_istore k_1169_17 rfl (xq_iload k_1169_18 rfl (xq_iconst k_1169_19 (xq_ic_ne k_1169_20 h (fun h => (xq_iconst k_1169_21 (xq_goto k_1169_22 (xq_istore k_1169_37 rfl (xq_iload k_1169_38 rfl (xq_iconst k_1169_39 (xq_ic_eq k_1169_40 h (fun h => (xq_goto k_1169_49 h)) (fun h => (xq_iload k_1169_41 rfl (xq_istore k_1169_42 rfl (xq_aload_n k_1169_43 rfl (xq_dupr k_1169_44 (xq_geti0 k_1169_45 rfl h (fun z18 h => (xq_iconst k_1169_46 (xq_iadd k_1169_47 (xq_put k_1169_48 rfl h (fun w19 h => (xq_goto k_1169_49 h))))))))))))))))))) (fun h => (xq_iload k_1169_23 rfl (xq_iload_n k_1169_24 rfl (xq_if_eq k_1169_25 h (fun h => (xq_aload_n k_1169_31 rfl (xq_iload k_1169_32 rfl (xq_iconst k_1169_33 (xq_invv1 k_1169_34 xr_1112 rfl rfl rfl h (fun z5 w4 h => (xq_invs1 k_1169_35 xr_1133 rfl rfl rfl h (fun z7 w6 h => (xq_invs1 k_1169_36 xr_1139 rfl rfl rfl h (fun z9 w8 h => (xq_istore k_1169_37 rfl (xq_iload k_1169_38 rfl (xq_iconst k_1169_39 (xq_ic_eq k_1169_40 h (fun h => (xq_goto k_1169_49 h)) (fun h => (xq_iload k_1169_41 rfl (xq_istore k_1169_42 rfl (xq_aload_n k_1169_43 rfl (xq_dupr k_1169_44 (xq_geti0 k_1169_45 rfl h (fun z10 h => (xq_iconst k_1169_46 (xq_iadd k_1169_47 (xq_put k_1169_48 rfl h (fun w11 h => (xq_goto k_1169_49 h)))))))))))))))))))))))))) (fun h => (xq_aload_n k_1169_26 rfl (xq_iload k_1169_27 rfl (xq_iconst k_1169_28 (xq_invv1 k_1169_29 xr_1112 rfl rfl rfl h (fun z13 w12 h => (xq_goto k_1169_30 (xq_invs1 k_1169_36 xr_1139 rfl rfl rfl h (fun z15 w14 h => (xq_istore k_1169_37 rfl (xq_iload k_1169_38 rfl (xq_iconst k_1169_39 (xq_ic_eq k_1169_40 h (fun h => (xq_goto k_1169_49 h)) (fun h => (xq_iload k_1169_41 rfl (xq_istore k_1169_42 rfl (xq_aload_n k_1169_43 rfl (xq_dupr k_1169_44 (xq_geti0 k_1169_45 rfl h (fun z16 h => (xq_iconst k_1169_46 (xq_iadd k_1169_47 (xq_put k_1169_48 rfl h (fun w17 h => (xq_goto k_1169_49 h)))))))))))))))))))))))))))))))))))))) (fun h => (xq_iload k_1169_50 rfl (xq_ireturn k_1169_51 h))))))))))))
/-- ShodBackwardsModel.follow(IIII)I -/
theorem d_1170_0 : List.drop 0 xm_c1170 = xm_c1170 := rfl
theorem k_1170_0 : xm_gi xm_c1170 0 = some xm_e1170_0 := xm_gt d_1170_0
theorem d_1170_1 : List.drop 1 xm_c1170 = xm_c1170_1 := xm_dr d_1170_0
theorem k_1170_1 : xm_gi xm_c1170 1 = some xm_e1170_1 := xm_gt d_1170_1
theorem d_1170_2 : List.drop 2 xm_c1170 = xm_c1170_2 := xm_dr d_1170_1
theorem k_1170_2 : xm_gi xm_c1170 2 = some xm_e1170_2 := xm_gt d_1170_2
theorem d_1170_3 : List.drop 3 xm_c1170 = xm_c1170_3 := xm_dr d_1170_2
theorem k_1170_3 : xm_gi xm_c1170 3 = some xm_e1170_3 := xm_gt d_1170_3
theorem d_1170_4 : List.drop 4 xm_c1170 = xm_c1170_4 := xm_dr d_1170_3
theorem k_1170_4 : xm_gi xm_c1170 4 = some xm_e1170_4 := xm_gt d_1170_4
theorem d_1170_5 : List.drop 5 xm_c1170 = xm_c1170_5 := xm_dr d_1170_4
theorem k_1170_5 : xm_gi xm_c1170 5 = some xm_e1170_5 := xm_gt d_1170_5
theorem d_1170_6 : List.drop 6 xm_c1170 = xm_c1170_6 := xm_dr d_1170_5
theorem k_1170_6 : xm_gi xm_c1170 6 = some xm_e1170_6 := xm_gt d_1170_6
theorem d_1170_7 : List.drop 7 xm_c1170 = xm_c1170_7 := xm_dr d_1170_6
theorem k_1170_7 : xm_gi xm_c1170 7 = some xm_e1170_7 := xm_gt d_1170_7
theorem d_1170_8 : List.drop 8 xm_c1170 = xm_c1170_8 := xm_dr d_1170_7
theorem k_1170_8 : xm_gi xm_c1170 8 = some xm_e1170_8 := xm_gt d_1170_8
theorem d_1170_9 : List.drop 9 xm_c1170 = xm_c1170_9 := xm_dr d_1170_8
theorem k_1170_9 : xm_gi xm_c1170 9 = some xm_e1170_9 := xm_gt d_1170_9
theorem d_1170_10 : List.drop 10 xm_c1170 = xm_c1170_10 := xm_dr d_1170_9
theorem k_1170_10 : xm_gi xm_c1170 10 = some xm_e1170_10 := xm_gt d_1170_10
theorem d_1170_11 : List.drop 11 xm_c1170 = xm_c1170_11 := xm_dr d_1170_10
theorem k_1170_11 : xm_gi xm_c1170 11 = some xm_e1170_11 := xm_gt d_1170_11
theorem d_1170_12 : List.drop 12 xm_c1170 = xm_c1170_12 := xm_dr d_1170_11
theorem k_1170_12 : xm_gi xm_c1170 12 = some xm_e1170_12 := xm_gt d_1170_12
theorem d_1170_13 : List.drop 13 xm_c1170 = xm_c1170_13 := xm_dr d_1170_12
theorem k_1170_13 : xm_gi xm_c1170 13 = some xm_e1170_13 := xm_gt d_1170_13
theorem d_1170_14 : List.drop 14 xm_c1170 = xm_c1170_14 := xm_dr d_1170_13
theorem k_1170_14 : xm_gi xm_c1170 14 = some xm_e1170_14 := xm_gt d_1170_14
theorem d_1170_15 : List.drop 15 xm_c1170 = xm_c1170_15 := xm_dr d_1170_14
theorem k_1170_15 : xm_gi xm_c1170 15 = some xm_e1170_15 := xm_gt d_1170_15
theorem d_1170_16 : List.drop 16 xm_c1170 = xm_c1170_16 := xm_dr d_1170_15
theorem k_1170_16 : xm_gi xm_c1170 16 = some xm_e1170_16 := xm_gt d_1170_16
theorem d_1170_17 : List.drop 17 xm_c1170 = xm_c1170_17 := xm_dr d_1170_16
theorem k_1170_17 : xm_gi xm_c1170 17 = some xm_e1170_17 := xm_gt d_1170_17
theorem d_1170_18 : List.drop 18 xm_c1170 = xm_c1170_18 := xm_dr d_1170_17
theorem k_1170_18 : xm_gi xm_c1170 18 = some xm_e1170_18 := xm_gt d_1170_18
theorem d_1170_19 : List.drop 19 xm_c1170 = xm_c1170_19 := xm_dr d_1170_18
theorem k_1170_19 : xm_gi xm_c1170 19 = some xm_e1170_19 := xm_gt d_1170_19
theorem d_1170_20 : List.drop 20 xm_c1170 = xm_c1170_20 := xm_dr d_1170_19
theorem k_1170_20 : xm_gi xm_c1170 20 = some xm_e1170_20 := xm_gt d_1170_20
theorem d_1170_21 : List.drop 21 xm_c1170 = xm_c1170_21 := xm_dr d_1170_20
theorem k_1170_21 : xm_gi xm_c1170 21 = some xm_e1170_21 := xm_gt d_1170_21
theorem d_1170_22 : List.drop 22 xm_c1170 = xm_c1170_22 := xm_dr d_1170_21
theorem k_1170_22 : xm_gi xm_c1170 22 = some xm_e1170_22 := xm_gt d_1170_22
theorem d_1170_23 : List.drop 23 xm_c1170 = xm_c1170_23 := xm_dr d_1170_22
theorem k_1170_23 : xm_gi xm_c1170 23 = some xm_e1170_23 := xm_gt d_1170_23
theorem d_1170_24 : List.drop 24 xm_c1170 = xm_c1170_24 := xm_dr d_1170_23
theorem k_1170_24 : xm_gi xm_c1170 24 = some xm_e1170_24 := xm_gt d_1170_24
theorem d_1170_25 : List.drop 25 xm_c1170 = xm_c1170_25 := xm_dr d_1170_24
theorem k_1170_25 : xm_gi xm_c1170 25 = some xm_e1170_25 := xm_gt d_1170_25
theorem d_1170_26 : List.drop 26 xm_c1170 = xm_c1170_26 := xm_dr d_1170_25
theorem k_1170_26 : xm_gi xm_c1170 26 = some xm_e1170_26 := xm_gt d_1170_26
theorem d_1170_27 : List.drop 27 xm_c1170 = xm_c1170_27 := xm_dr d_1170_26
theorem k_1170_27 : xm_gi xm_c1170 27 = some xm_e1170_27 := xm_gt d_1170_27
theorem d_1170_28 : List.drop 28 xm_c1170 = xm_c1170_28 := xm_dr d_1170_27
theorem k_1170_28 : xm_gi xm_c1170 28 = some xm_e1170_28 := xm_gt d_1170_28
theorem d_1170_29 : List.drop 29 xm_c1170 = xm_c1170_29 := xm_dr d_1170_28
theorem k_1170_29 : xm_gi xm_c1170 29 = some xm_e1170_29 := xm_gt d_1170_29
theorem d_1170_30 : List.drop 30 xm_c1170 = xm_c1170_30 := xm_dr d_1170_29
theorem k_1170_30 : xm_gi xm_c1170 30 = some xm_e1170_30 := xm_gt d_1170_30
theorem d_1170_31 : List.drop 31 xm_c1170 = xm_c1170_31 := xm_dr d_1170_30
theorem k_1170_31 : xm_gi xm_c1170 31 = some xm_e1170_31 := xm_gt d_1170_31
theorem d_1170_32 : List.drop 32 xm_c1170 = xm_c1170_32 := xm_dr d_1170_31
theorem k_1170_32 : xm_gi xm_c1170 32 = some xm_e1170_32 := xm_gt d_1170_32
theorem d_1170_33 : List.drop 33 xm_c1170 = xm_c1170_33 := xm_dr d_1170_32
theorem k_1170_33 : xm_gi xm_c1170 33 = some xm_e1170_33 := xm_gt d_1170_33
theorem d_1170_34 : List.drop 34 xm_c1170 = xm_c1170_34 := xm_dr d_1170_33
theorem k_1170_34 : xm_gi xm_c1170 34 = some xm_e1170_34 := xm_gt d_1170_34
theorem d_1170_35 : List.drop 35 xm_c1170 = xm_c1170_35 := xm_dr d_1170_34
theorem k_1170_35 : xm_gi xm_c1170 35 = some xm_e1170_35 := xm_gt d_1170_35
theorem d_1170_36 : List.drop 36 xm_c1170 = xm_c1170_36 := xm_dr d_1170_35
theorem k_1170_36 : xm_gi xm_c1170 36 = some xm_e1170_36 := xm_gt d_1170_36
theorem d_1170_37 : List.drop 37 xm_c1170 = xm_c1170_37 := xm_dr d_1170_36
theorem k_1170_37 : xm_gi xm_c1170 37 = some xm_e1170_37 := xm_gt d_1170_37
theorem d_1170_38 : List.drop 38 xm_c1170 = xm_c1170_38 := xm_dr d_1170_37
theorem k_1170_38 : xm_gi xm_c1170 38 = some xm_e1170_38 := xm_gt d_1170_38
theorem xb_1170_0 {sc : List Int} {f : Nat → List xm_V → xm_W → xm_R} {w : xm_W} {Q : Option xm_V × xm_W → Prop} {x0 : Nat} {x1 : Int} {x2 : Int} {x3 : Int} {x4 : Int}
  (h : xm_Oi (f 1108 [.inl x1] w) (fun z2 w1 => if (z2 : Int) = 0 then (xm_Oi (f 1102 [.inr (.inl (some x0)), .inl 1] w1) (fun z4 w3 => Q (some (.inl z4), w3))) else (xm_Oi (f 1103 [.inl x2, .inl 0, .inl 1] w1) (fun z6 w5 => if (z6 : Int) = 0 then (xm_Oi (f 1102 [.inr (.inl (some x0)), .inl 1] w5) (fun z8 w7 => Q (some (.inl z8), w7))) else (xm_Oi (f 1103 [.inl x3, .inl 0, .inl 40] w5) (fun z10 w9 => if (z10 : Int) = 0 then (xm_Oi (f 1102 [.inr (.inl (some x0)), .inl 1] w9) (fun z12 w11 => Q (some (.inl z12), w11))) else (xm_Oi (f 1103 [.inl x4, .inl 0, .inl 1] w9) (fun z14 w13 => if (z14 : Int) = 0 then (xm_Oi (f 1102 [.inr (.inl (some x0)), .inl 1] w13) (fun z22 w21 => Q (some (.inl z22), w21))) else (if (x2 : Int) = 0 then (xm_Oi (f 1169 [.inr (.inl (some x0)), .inl x1, .inl 1, .inl x3] w13) (fun z19 w18 => if (x4 : Int) = 0 then (Q (some (.inl z19), w18)) else (xm_O (xm_fi (xm_old sc) w18 x0 9 13) (fun z20 => Q (some (.inl z20), w18))))) else (xm_Oi (f 1169 [.inr (.inl (some x0)), .inl x1, .inl 0, .inl x3] w13) (fun z16 w15 => if (x4 : Int) = 0 then (Q (some (.inl z16), w15)) else (xm_O (xm_fi (xm_old sc) w15 x0 9 13) (fun z17 => Q (some (.inl z17), w15)))))))))))))) :
  xm_EQ (xm_old sc) xm_sta f xm_c1170 0 [some (.inr (.inl (some x0))), some (.inl x1), some (.inl x2), some (.inl x3), some (.inl x4), none] [] w Q :=
  (xq_iload_n k_1170_0 rfl (xq_invs2 k_1170_1 xr_1108 rfl rfl rfl h (fun z2 w1 h => (xq_if_eq k_1170_2 h (fun h => (xq_aload_n k_1170_18 rfl (xq_iconst k_1170_19 (xq_invv1 k_1170_20 xr_1102 rfl rfl rfl h (fun z4 w3 h => (xq_ireturn k_1170_21 h)))))) (fun h => (xq_iload_n k_1170_3 rfl (xq_iconst k_1170_4 (xq_iconst k_1170_5 (xq_invs2 k_1170_6 xr_1103 rfl rfl rfl h (fun z6 w5 h => (xq_if_eq k_1170_7 h (fun h => (xq_aload_n k_1170_18 rfl (xq_iconst k_1170_19 (xq_invv1 k_1170_20 xr_1102 rfl rfl rfl h (fun z8 w7 h => (xq_ireturn k_1170_21 h)))))) (fun h => (xq_iload_n k_1170_8 rfl (xq_iconst k_1170_9 (xq_bipush k_1170_10 (xq_invs2 k_1170_11 xr_1103 rfl rfl rfl h (fun z10 w9 h => (xq_if_eq k_1170_12 h (fun h => (xq_aload_n k_1170_18 rfl (xq_iconst k_1170_19 (xq_invv1 k_1170_20 xr_1102 rfl rfl rfl h (fun z12 w11 h => (xq_ireturn k_1170_21 h)))))) (fun h => (xq_iload k_1170_13 rfl (xq_iconst k_1170_14 (xq_iconst k_1170_15 (xq_invs2 k_1170_16 xr_1103 rfl rfl rfl h (fun z14 w13 h => (xq_if_ne k_1170_17 h (fun h => (xq_aload_n k_1170_18 rfl (xq_iconst k_1170_19 (xq_invv1 k_1170_20 xr_1102 rfl rfl rfl h (fun z22 w21 h => (xq_ireturn k_1170_21 h)))))) (fun h => (xq_aload_n k_1170_22 rfl (xq_iload_n k_1170_23 rfl (xq_iload_n k_1170_24 rfl (xq_if_ne k_1170_25 h (fun h => (xq_iconst k_1170_26 (xq_goto k_1170_27 (xq_iload_n k_1170_29 rfl (xq_invv1 k_1170_30 xr_1169 rfl rfl rfl h (fun z19 w18 h => (xq_istore k_1170_31 rfl (xq_iload k_1170_32 rfl (xq_if_ne k_1170_33 h (fun h => (xq_iload k_1170_34 rfl (xq_goto k_1170_35 (xq_ireturn k_1170_38 h)))) (fun h => (xq_aload_n k_1170_36 rfl (xq_geti0 k_1170_37 rfl h (fun z20 h => (xq_ireturn k_1170_38 h)))))))))))))) (fun h => (xq_iconst k_1170_28 (xq_iload_n k_1170_29 rfl (xq_invv1 k_1170_30 xr_1169 rfl rfl rfl h (fun z16 w15 h => (xq_istore k_1170_31 rfl (xq_iload k_1170_32 rfl (xq_if_ne k_1170_33 h (fun h => (xq_iload k_1170_34 rfl (xq_goto k_1170_35 (xq_ireturn k_1170_38 h)))) (fun h => (xq_aload_n k_1170_36 rfl (xq_geti0 k_1170_37 rfl h (fun z17 h => (xq_ireturn k_1170_38 h)))))))))))))))))))))))))))))))))))))))))))
/-- ShodBackwardsModel.isAhead(I)Z -/
theorem d_1171_0 : List.drop 0 xm_c1171 = xm_c1171 := rfl
theorem k_1171_0 : xm_gi xm_c1171 0 = some xm_e1171_0 := xm_gt d_1171_0
theorem d_1171_1 : List.drop 1 xm_c1171 = xm_c1171_1 := xm_dr d_1171_0
theorem k_1171_1 : xm_gi xm_c1171 1 = some xm_e1171_1 := xm_gt d_1171_1
theorem d_1171_2 : List.drop 2 xm_c1171 = xm_c1171_2 := xm_dr d_1171_1
theorem k_1171_2 : xm_gi xm_c1171 2 = some xm_e1171_2 := xm_gt d_1171_2
theorem d_1171_3 : List.drop 3 xm_c1171 = xm_c1171_3 := xm_dr d_1171_2
theorem k_1171_3 : xm_gi xm_c1171 3 = some xm_e1171_3 := xm_gt d_1171_3
theorem d_1171_4 : List.drop 4 xm_c1171 = xm_c1171_4 := xm_dr d_1171_3
theorem k_1171_4 : xm_gi xm_c1171 4 = some xm_e1171_4 := xm_gt d_1171_4
theorem xb_1171_0 {sc : List Int} {f : Nat → List xm_V → xm_W → xm_R} {w : xm_W} {Q : Option xm_V × xm_W → Prop} {x0 : Int}
  (h : xm_Oi (f 1103 [.inl x0, .inl 0, .inl 24] w) (fun z2 w1 => Q (some (.inl z2), w1))) :
  xm_EQ (xm_old sc) xm_sta f xm_c1171 0 [some (.inl x0)] [] w Q :=
  (xq_iload_n k_1171_0 rfl (xq_iconst k_1171_1 (xq_bipush k_1171_2 (xq_invs2 k_1171_3 xr_1103 rfl rfl rfl h (fun z2 w1 h => (xq_ireturn k_1171_4 h))))))
/-- ShodBackwardsModel.then(III)I -/
theorem d_1172_0 : List.drop 0 xm_c1172 = xm_c1172 := rfl
theorem k_1172_0 : xm_gi xm_c1172 0 = some xm_e1172_0 := xm_gt d_1172_0
theorem d_1172_1 : List.drop 1 xm_c1172 = xm_c1172_1 := xm_dr d_1172_0
theorem k_1172_1 : xm_gi xm_c1172 1 = some xm_e1172_1 := xm_gt d_1172_1
theorem d_1172_2 : List.drop 2 xm_c1172 = xm_c1172_2 := xm_dr d_1172_1
theorem k_1172_2 : xm_gi xm_c1172 2 = some xm_e1172_2 := xm_gt d_1172_2
theorem d_1172_3 : List.drop 3 xm_c1172 = xm_c1172_3 := xm_dr d_1172_2
theorem k_1172_3 : xm_gi xm_c1172 3 = some xm_e1172_3 := xm_gt d_1172_3
theorem d_1172_4 : List.drop 4 xm_c1172 = xm_c1172_4 := xm_dr d_1172_3
theorem k_1172_4 : xm_gi xm_c1172 4 = some xm_e1172_4 := xm_gt d_1172_4
theorem d_1172_5 : List.drop 5 xm_c1172 = xm_c1172_5 := xm_dr d_1172_4
theorem k_1172_5 : xm_gi xm_c1172 5 = some xm_e1172_5 := xm_gt d_1172_5
theorem d_1172_6 : List.drop 6 xm_c1172 = xm_c1172_6 := xm_dr d_1172_5
theorem k_1172_6 : xm_gi xm_c1172 6 = some xm_e1172_6 := xm_gt d_1172_6
theorem d_1172_7 : List.drop 7 xm_c1172 = xm_c1172_7 := xm_dr d_1172_6
theorem k_1172_7 : xm_gi xm_c1172 7 = some xm_e1172_7 := xm_gt d_1172_7
theorem d_1172_8 : List.drop 8 xm_c1172 = xm_c1172_8 := xm_dr d_1172_7
theorem k_1172_8 : xm_gi xm_c1172 8 = some xm_e1172_8 := xm_gt d_1172_8
theorem d_1172_9 : List.drop 9 xm_c1172 = xm_c1172_9 := xm_dr d_1172_8
theorem k_1172_9 : xm_gi xm_c1172 9 = some xm_e1172_9 := xm_gt d_1172_9
theorem d_1172_10 : List.drop 10 xm_c1172 = xm_c1172_10 := xm_dr d_1172_9
theorem k_1172_10 : xm_gi xm_c1172 10 = some xm_e1172_10 := xm_gt d_1172_10
theorem d_1172_11 : List.drop 11 xm_c1172 = xm_c1172_11 := xm_dr d_1172_10
theorem k_1172_11 : xm_gi xm_c1172 11 = some xm_e1172_11 := xm_gt d_1172_11
theorem d_1172_12 : List.drop 12 xm_c1172 = xm_c1172_12 := xm_dr d_1172_11
theorem k_1172_12 : xm_gi xm_c1172 12 = some xm_e1172_12 := xm_gt d_1172_12
theorem d_1172_13 : List.drop 13 xm_c1172 = xm_c1172_13 := xm_dr d_1172_12
theorem k_1172_13 : xm_gi xm_c1172 13 = some xm_e1172_13 := xm_gt d_1172_13
theorem d_1172_14 : List.drop 14 xm_c1172 = xm_c1172_14 := xm_dr d_1172_13
theorem k_1172_14 : xm_gi xm_c1172 14 = some xm_e1172_14 := xm_gt d_1172_14
theorem d_1172_15 : List.drop 15 xm_c1172 = xm_c1172_15 := xm_dr d_1172_14
theorem k_1172_15 : xm_gi xm_c1172 15 = some xm_e1172_15 := xm_gt d_1172_15
theorem d_1172_16 : List.drop 16 xm_c1172 = xm_c1172_16 := xm_dr d_1172_15
theorem k_1172_16 : xm_gi xm_c1172 16 = some xm_e1172_16 := xm_gt d_1172_16
theorem d_1172_17 : List.drop 17 xm_c1172 = xm_c1172_17 := xm_dr d_1172_16
theorem k_1172_17 : xm_gi xm_c1172 17 = some xm_e1172_17 := xm_gt d_1172_17
theorem d_1172_18 : List.drop 18 xm_c1172 = xm_c1172_18 := xm_dr d_1172_17
theorem k_1172_18 : xm_gi xm_c1172 18 = some xm_e1172_18 := xm_gt d_1172_18
theorem d_1172_19 : List.drop 19 xm_c1172 = xm_c1172_19 := xm_dr d_1172_18
theorem k_1172_19 : xm_gi xm_c1172 19 = some xm_e1172_19 := xm_gt d_1172_19
theorem d_1172_20 : List.drop 20 xm_c1172 = xm_c1172_20 := xm_dr d_1172_19
theorem k_1172_20 : xm_gi xm_c1172 20 = some xm_e1172_20 := xm_gt d_1172_20
theorem d_1172_21 : List.drop 21 xm_c1172 = xm_c1172_21 := xm_dr d_1172_20
theorem k_1172_21 : xm_gi xm_c1172 21 = some xm_e1172_21 := xm_gt d_1172_21
theorem d_1172_22 : List.drop 22 xm_c1172 = xm_c1172_22 := xm_dr d_1172_21
theorem k_1172_22 : xm_gi xm_c1172 22 = some xm_e1172_22 := xm_gt d_1172_22
theorem d_1172_23 : List.drop 23 xm_c1172 = xm_c1172_23 := xm_dr d_1172_22
theorem k_1172_23 : xm_gi xm_c1172 23 = some xm_e1172_23 := xm_gt d_1172_23
theorem d_1172_24 : List.drop 24 xm_c1172 = xm_c1172_24 := xm_dr d_1172_23
theorem k_1172_24 : xm_gi xm_c1172 24 = some xm_e1172_24 := xm_gt d_1172_24
theorem d_1172_25 : List.drop 25 xm_c1172 = xm_c1172_25 := xm_dr d_1172_24
theorem k_1172_25 : xm_gi xm_c1172 25 = some xm_e1172_25 := xm_gt d_1172_25
theorem d_1172_26 : List.drop 26 xm_c1172 = xm_c1172_26 := xm_dr d_1172_25
theorem k_1172_26 : xm_gi xm_c1172 26 = some xm_e1172_26 := xm_gt d_1172_26
theorem d_1172_27 : List.drop 27 xm_c1172 = xm_c1172_27 := xm_dr d_1172_26
theorem k_1172_27 : xm_gi xm_c1172 27 = some xm_e1172_27 := xm_gt d_1172_27
theorem d_1172_28 : List.drop 28 xm_c1172 = xm_c1172_28 := xm_dr d_1172_27
theorem k_1172_28 : xm_gi xm_c1172 28 = some xm_e1172_28 := xm_gt d_1172_28
theorem d_1172_29 : List.drop 29 xm_c1172 = xm_c1172_29 := xm_dr d_1172_28
theorem k_1172_29 : xm_gi xm_c1172 29 = some xm_e1172_29 := xm_gt d_1172_29
theorem xb_1172_0 {sc : List Int} {f : Nat → List xm_V → xm_W → xm_R} {w : xm_W} {Q : Option xm_V × xm_W → Prop} {x0 : Nat} {x1 : Int} {x2 : Int} {x3 : Int}
  (h : xm_Oi (f 1171 [.inl x1] w) (fun z2 w1 => if (z2 : Int) = 0 then (xm_Oi (f 1102 [.inr (.inl (some x0)), .inl 1] w1) (fun z4 w3 => Q (some (.inl z4), w3))) else (xm_Oi (f 1109 [.inr (.inl (some x0)), .inl x2] w1) (fun z6 w5 => if (z6 : Int) = 0 then (xm_Oi (f 1102 [.inr (.inl (some x0)), .inl 1] w5) (fun z8 w7 => Q (some (.inl z8), w7))) else (xm_Oi (f 1103 [.inl x3, .inl 0, .inl 19] w5) (fun z10 w9 => if (z10 : Int) = 0 then (xm_Oi (f 1102 [.inr (.inl (some x0)), .inl 1] w9) (fun z17 w16 => Q (some (.inl z17), w16))) else (xm_Ov (f 1106 [.inr (.inl (some x0))] w9) (fun w11 => xm_Ov (f 1157 [.inr (.inl (some x0)), .inl x1] w11) (fun w12 => xm_Oi (f 1144 [.inr (.inl (some x0)), .inl x2, .inl x3] w12) (fun z14 w13 => xm_Ov (f 1107 [.inr (.inl (some x0))] w13) (fun w15 => Q (some (.inl z14), w15)))))))))))) :
  xm_EQ (xm_old sc) xm_sta f xm_c1172 0 [some (.inr (.inl (some x0))), some (.inl x1), some (.inl x2), some (.inl x3), none] [] w Q :=
  (xq_iload_n k_1172_0 rfl (xq_invs2 k_1172_1 xr_1171 rfl rfl rfl h (fun z2 w1 h => (xq_if_eq k_1172_2 h (fun h => (xq_aload_n k_1172_12 rfl (xq_iconst k_1172_13 (xq_invv1 k_1172_14 xr_1102 rfl rfl rfl h (fun z4 w3 h => (xq_ireturn k_1172_15 h)))))) (fun h => (xq_aload_n k_1172_3 rfl (xq_iload_n k_1172_4 rfl (xq_invv2 k_1172_5 xr_1109 rfl rfl rfl h (fun z6 w5 h => (xq_if_eq k_1172_6 h (fun h => (xq_aload_n k_1172_12 rfl (xq_iconst k_1172_13 (xq_invv1 k_1172_14 xr_1102 rfl rfl rfl h (fun z8 w7 h => (xq_ireturn k_1172_15 h)))))) (fun h => (xq_iload_n k_1172_7 rfl (xq_iconst k_1172_8 (xq_bipush k_1172_9 (xq_invs2 k_1172_10 xr_1103 rfl rfl rfl h (fun z10 w9 h => (xq_if_ne k_1172_11 h (fun h => (xq_aload_n k_1172_12 rfl (xq_iconst k_1172_13 (xq_invv1 k_1172_14 xr_1102 rfl rfl rfl h (fun z17 w16 h => (xq_ireturn k_1172_15 h)))))) (fun h => (xq_aload_n k_1172_16 rfl (xq_invv0 k_1172_17 xr_1106 rfl rfl rfl h (fun w11 h => (xq_aload_n k_1172_18 rfl (xq_iload_n k_1172_19 rfl (xq_invv0 k_1172_20 xr_1157 rfl rfl rfl h (fun w12 h => (xq_aload_n k_1172_21 rfl (xq_iload_n k_1172_22 rfl (xq_iload_n k_1172_23 rfl (xq_invv1 k_1172_24 xr_1144 rfl rfl rfl h (fun z14 w13 h => (xq_istore k_1172_25 rfl (xq_aload_n k_1172_26 rfl (xq_invv0 k_1172_27 xr_1107 rfl rfl rfl h (fun w15 h => (xq_iload k_1172_28 rfl (xq_ireturn k_1172_29 h))))))))))))))))))))))))))))))))))))
/-- ShodBackwardsModel.thenCell(III)I -/
theorem d_1173_0 : List.drop 0 xm_c1173 = xm_c1173 := rfl
theorem k_1173_0 : xm_gi xm_c1173 0 = some xm_e1173_0 := xm_gt d_1173_0
theorem d_1173_1 : List.drop 1 xm_c1173 = xm_c1173_1 := xm_dr d_1173_0
theorem k_1173_1 : xm_gi xm_c1173 1 = some xm_e1173_1 := xm_gt d_1173_1
theorem d_1173_2 : List.drop 2 xm_c1173 = xm_c1173_2 := xm_dr d_1173_1
theorem k_1173_2 : xm_gi xm_c1173 2 = some xm_e1173_2 := xm_gt d_1173_2
theorem d_1173_3 : List.drop 3 xm_c1173 = xm_c1173_3 := xm_dr d_1173_2
theorem k_1173_3 : xm_gi xm_c1173 3 = some xm_e1173_3 := xm_gt d_1173_3
theorem d_1173_4 : List.drop 4 xm_c1173 = xm_c1173_4 := xm_dr d_1173_3
theorem k_1173_4 : xm_gi xm_c1173 4 = some xm_e1173_4 := xm_gt d_1173_4
theorem d_1173_5 : List.drop 5 xm_c1173 = xm_c1173_5 := xm_dr d_1173_4
theorem k_1173_5 : xm_gi xm_c1173 5 = some xm_e1173_5 := xm_gt d_1173_5
theorem d_1173_6 : List.drop 6 xm_c1173 = xm_c1173_6 := xm_dr d_1173_5
theorem k_1173_6 : xm_gi xm_c1173 6 = some xm_e1173_6 := xm_gt d_1173_6
theorem d_1173_7 : List.drop 7 xm_c1173 = xm_c1173_7 := xm_dr d_1173_6
theorem k_1173_7 : xm_gi xm_c1173 7 = some xm_e1173_7 := xm_gt d_1173_7
theorem d_1173_8 : List.drop 8 xm_c1173 = xm_c1173_8 := xm_dr d_1173_7
theorem k_1173_8 : xm_gi xm_c1173 8 = some xm_e1173_8 := xm_gt d_1173_8
theorem d_1173_9 : List.drop 9 xm_c1173 = xm_c1173_9 := xm_dr d_1173_8
theorem k_1173_9 : xm_gi xm_c1173 9 = some xm_e1173_9 := xm_gt d_1173_9
theorem d_1173_10 : List.drop 10 xm_c1173 = xm_c1173_10 := xm_dr d_1173_9
theorem k_1173_10 : xm_gi xm_c1173 10 = some xm_e1173_10 := xm_gt d_1173_10
theorem d_1173_11 : List.drop 11 xm_c1173 = xm_c1173_11 := xm_dr d_1173_10
theorem k_1173_11 : xm_gi xm_c1173 11 = some xm_e1173_11 := xm_gt d_1173_11
theorem d_1173_12 : List.drop 12 xm_c1173 = xm_c1173_12 := xm_dr d_1173_11
theorem k_1173_12 : xm_gi xm_c1173 12 = some xm_e1173_12 := xm_gt d_1173_12
theorem d_1173_13 : List.drop 13 xm_c1173 = xm_c1173_13 := xm_dr d_1173_12
theorem k_1173_13 : xm_gi xm_c1173 13 = some xm_e1173_13 := xm_gt d_1173_13
theorem d_1173_14 : List.drop 14 xm_c1173 = xm_c1173_14 := xm_dr d_1173_13
theorem k_1173_14 : xm_gi xm_c1173 14 = some xm_e1173_14 := xm_gt d_1173_14
theorem d_1173_15 : List.drop 15 xm_c1173 = xm_c1173_15 := xm_dr d_1173_14
theorem k_1173_15 : xm_gi xm_c1173 15 = some xm_e1173_15 := xm_gt d_1173_15
theorem d_1173_16 : List.drop 16 xm_c1173 = xm_c1173_16 := xm_dr d_1173_15
theorem k_1173_16 : xm_gi xm_c1173 16 = some xm_e1173_16 := xm_gt d_1173_16
theorem d_1173_17 : List.drop 17 xm_c1173 = xm_c1173_17 := xm_dr d_1173_16
theorem k_1173_17 : xm_gi xm_c1173 17 = some xm_e1173_17 := xm_gt d_1173_17
theorem d_1173_18 : List.drop 18 xm_c1173 = xm_c1173_18 := xm_dr d_1173_17
theorem k_1173_18 : xm_gi xm_c1173 18 = some xm_e1173_18 := xm_gt d_1173_18
theorem d_1173_19 : List.drop 19 xm_c1173 = xm_c1173_19 := xm_dr d_1173_18
theorem k_1173_19 : xm_gi xm_c1173 19 = some xm_e1173_19 := xm_gt d_1173_19
theorem d_1173_20 : List.drop 20 xm_c1173 = xm_c1173_20 := xm_dr d_1173_19
theorem k_1173_20 : xm_gi xm_c1173 20 = some xm_e1173_20 := xm_gt d_1173_20
theorem d_1173_21 : List.drop 21 xm_c1173 = xm_c1173_21 := xm_dr d_1173_20
theorem k_1173_21 : xm_gi xm_c1173 21 = some xm_e1173_21 := xm_gt d_1173_21
theorem d_1173_22 : List.drop 22 xm_c1173 = xm_c1173_22 := xm_dr d_1173_21
theorem k_1173_22 : xm_gi xm_c1173 22 = some xm_e1173_22 := xm_gt d_1173_22
theorem d_1173_23 : List.drop 23 xm_c1173 = xm_c1173_23 := xm_dr d_1173_22
theorem k_1173_23 : xm_gi xm_c1173 23 = some xm_e1173_23 := xm_gt d_1173_23
theorem d_1173_24 : List.drop 24 xm_c1173 = xm_c1173_24 := xm_dr d_1173_23
theorem k_1173_24 : xm_gi xm_c1173 24 = some xm_e1173_24 := xm_gt d_1173_24
theorem d_1173_25 : List.drop 25 xm_c1173 = xm_c1173_25 := xm_dr d_1173_24
theorem k_1173_25 : xm_gi xm_c1173 25 = some xm_e1173_25 := xm_gt d_1173_25
theorem d_1173_26 : List.drop 26 xm_c1173 = xm_c1173_26 := xm_dr d_1173_25
theorem k_1173_26 : xm_gi xm_c1173 26 = some xm_e1173_26 := xm_gt d_1173_26
theorem d_1173_27 : List.drop 27 xm_c1173 = xm_c1173_27 := xm_dr d_1173_26
theorem k_1173_27 : xm_gi xm_c1173 27 = some xm_e1173_27 := xm_gt d_1173_27
theorem d_1173_28 : List.drop 28 xm_c1173 = xm_c1173_28 := xm_dr d_1173_27
theorem k_1173_28 : xm_gi xm_c1173 28 = some xm_e1173_28 := xm_gt d_1173_28
theorem xb_1173_0 {sc : List Int} {f : Nat → List xm_V → xm_W → xm_R} {w : xm_W} {Q : Option xm_V × xm_W → Prop} {x0 : Nat} {x1 : Int} {x2 : Int} {x3 : Int}
  (h : xm_Oi (f 1171 [.inl x1] w) (fun z2 w1 => if (z2 : Int) = 0 then (xm_Oi (f 1102 [.inr (.inl (some x0)), .inl 1] w1) (fun z4 w3 => Q (some (.inl z4), w3))) else (xm_Oi (f 1108 [.inl x2] w1) (fun z6 w5 => if (z6 : Int) = 0 then (xm_Oi (f 1102 [.inr (.inl (some x0)), .inl 1] w5) (fun z8 w7 => Q (some (.inl z8), w7))) else (xm_Oi (f 1103 [.inl x3, .inl 0, .inl 4] w5) (fun z10 w9 => if (z10 : Int) = 0 then (xm_Oi (f 1102 [.inr (.inl (some x0)), .inl 1] w9) (fun z17 w16 => Q (some (.inl z17), w16))) else (xm_Ov (f 1106 [.inr (.inl (some x0))] w9) (fun w11 => xm_Ov (f 1157 [.inr (.inl (some x0)), .inl x1] w11) (fun w12 => xm_Oi (f 1167 [.inr (.inl (some x0)), .inl x2, .inl x3] w12) (fun z14 w13 => xm_Ov (f 1107 [.inr (.inl (some x0))] w13) (fun w15 => Q (some (.inl z14), w15)))))))))))) :
  xm_EQ (xm_old sc) xm_sta f xm_c1173 0 [some (.inr (.inl (some x0))), some (.inl x1), some (.inl x2), some (.inl x3), none] [] w Q :=
  (xq_iload_n k_1173_0 rfl (xq_invs2 k_1173_1 xr_1171 rfl rfl rfl h (fun z2 w1 h => (xq_if_eq k_1173_2 h (fun h => (xq_aload_n k_1173_11 rfl (xq_iconst k_1173_12 (xq_invv1 k_1173_13 xr_1102 rfl rfl rfl h (fun z4 w3 h => (xq_ireturn k_1173_14 h)))))) (fun h => (xq_iload_n k_1173_3 rfl (xq_invs2 k_1173_4 xr_1108 rfl rfl rfl h (fun z6 w5 h => (xq_if_eq k_1173_5 h (fun h => (xq_aload_n k_1173_11 rfl (xq_iconst k_1173_12 (xq_invv1 k_1173_13 xr_1102 rfl rfl rfl h (fun z8 w7 h => (xq_ireturn k_1173_14 h)))))) (fun h => (xq_iload_n k_1173_6 rfl (xq_iconst k_1173_7 (xq_iconst k_1173_8 (xq_invs2 k_1173_9 xr_1103 rfl rfl rfl h (fun z10 w9 h => (xq_if_ne k_1173_10 h (fun h => (xq_aload_n k_1173_11 rfl (xq_iconst k_1173_12 (xq_invv1 k_1173_13 xr_1102 rfl rfl rfl h (fun z17 w16 h => (xq_ireturn k_1173_14 h)))))) (fun h => (xq_aload_n k_1173_15 rfl (xq_invv0 k_1173_16 xr_1106 rfl rfl rfl h (fun w11 h => (xq_aload_n k_1173_17 rfl (xq_iload_n k_1173_18 rfl (xq_invv0 k_1173_19 xr_1157 rfl rfl rfl h (fun w12 h => (xq_aload_n k_1173_20 rfl (xq_iload_n k_1173_21 rfl (xq_iload_n k_1173_22 rfl (xq_invv1 k_1173_23 xr_1167 rfl rfl rfl h (fun z14 w13 h => (xq_istore k_1173_24 rfl (xq_aload_n k_1173_25 rfl (xq_invv0 k_1173_26 xr_1107 rfl rfl rfl h (fun w15 h => (xq_iload k_1173_27 rfl (xq_ireturn k_1173_28 h)))))))))))))))))))))))))))))))))))
/-- ShodBackwardsModel.loads(III)I -/
theorem d_1174_0 : List.drop 0 xm_c1174 = xm_c1174 := rfl
theorem k_1174_0 : xm_gi xm_c1174 0 = some xm_e1174_0 := xm_gt d_1174_0
theorem d_1174_1 : List.drop 1 xm_c1174 = xm_c1174_1 := xm_dr d_1174_0
theorem k_1174_1 : xm_gi xm_c1174 1 = some xm_e1174_1 := xm_gt d_1174_1
theorem d_1174_2 : List.drop 2 xm_c1174 = xm_c1174_2 := xm_dr d_1174_1
theorem k_1174_2 : xm_gi xm_c1174 2 = some xm_e1174_2 := xm_gt d_1174_2
theorem d_1174_3 : List.drop 3 xm_c1174 = xm_c1174_3 := xm_dr d_1174_2
theorem k_1174_3 : xm_gi xm_c1174 3 = some xm_e1174_3 := xm_gt d_1174_3
theorem d_1174_4 : List.drop 4 xm_c1174 = xm_c1174_4 := xm_dr d_1174_3
theorem k_1174_4 : xm_gi xm_c1174 4 = some xm_e1174_4 := xm_gt d_1174_4
theorem d_1174_5 : List.drop 5 xm_c1174 = xm_c1174_5 := xm_dr d_1174_4
theorem k_1174_5 : xm_gi xm_c1174 5 = some xm_e1174_5 := xm_gt d_1174_5
theorem d_1174_6 : List.drop 6 xm_c1174 = xm_c1174_6 := xm_dr d_1174_5
theorem k_1174_6 : xm_gi xm_c1174 6 = some xm_e1174_6 := xm_gt d_1174_6
theorem d_1174_7 : List.drop 7 xm_c1174 = xm_c1174_7 := xm_dr d_1174_6
theorem k_1174_7 : xm_gi xm_c1174 7 = some xm_e1174_7 := xm_gt d_1174_7
theorem d_1174_8 : List.drop 8 xm_c1174 = xm_c1174_8 := xm_dr d_1174_7
theorem k_1174_8 : xm_gi xm_c1174 8 = some xm_e1174_8 := xm_gt d_1174_8
theorem d_1174_9 : List.drop 9 xm_c1174 = xm_c1174_9 := xm_dr d_1174_8
theorem k_1174_9 : xm_gi xm_c1174 9 = some xm_e1174_9 := xm_gt d_1174_9
theorem d_1174_10 : List.drop 10 xm_c1174 = xm_c1174_10 := xm_dr d_1174_9
theorem k_1174_10 : xm_gi xm_c1174 10 = some xm_e1174_10 := xm_gt d_1174_10
theorem d_1174_11 : List.drop 11 xm_c1174 = xm_c1174_11 := xm_dr d_1174_10
theorem k_1174_11 : xm_gi xm_c1174 11 = some xm_e1174_11 := xm_gt d_1174_11
theorem d_1174_12 : List.drop 12 xm_c1174 = xm_c1174_12 := xm_dr d_1174_11
theorem k_1174_12 : xm_gi xm_c1174 12 = some xm_e1174_12 := xm_gt d_1174_12
theorem d_1174_13 : List.drop 13 xm_c1174 = xm_c1174_13 := xm_dr d_1174_12
theorem k_1174_13 : xm_gi xm_c1174 13 = some xm_e1174_13 := xm_gt d_1174_13
theorem d_1174_14 : List.drop 14 xm_c1174 = xm_c1174_14 := xm_dr d_1174_13
theorem k_1174_14 : xm_gi xm_c1174 14 = some xm_e1174_14 := xm_gt d_1174_14
theorem d_1174_15 : List.drop 15 xm_c1174 = xm_c1174_15 := xm_dr d_1174_14
theorem k_1174_15 : xm_gi xm_c1174 15 = some xm_e1174_15 := xm_gt d_1174_15
theorem d_1174_16 : List.drop 16 xm_c1174 = xm_c1174_16 := xm_dr d_1174_15
theorem k_1174_16 : xm_gi xm_c1174 16 = some xm_e1174_16 := xm_gt d_1174_16
theorem d_1174_17 : List.drop 17 xm_c1174 = xm_c1174_17 := xm_dr d_1174_16
theorem k_1174_17 : xm_gi xm_c1174 17 = some xm_e1174_17 := xm_gt d_1174_17
theorem d_1174_18 : List.drop 18 xm_c1174 = xm_c1174_18 := xm_dr d_1174_17
theorem k_1174_18 : xm_gi xm_c1174 18 = some xm_e1174_18 := xm_gt d_1174_18
theorem d_1174_19 : List.drop 19 xm_c1174 = xm_c1174_19 := xm_dr d_1174_18
theorem k_1174_19 : xm_gi xm_c1174 19 = some xm_e1174_19 := xm_gt d_1174_19
theorem d_1174_20 : List.drop 20 xm_c1174 = xm_c1174_20 := xm_dr d_1174_19
theorem k_1174_20 : xm_gi xm_c1174 20 = some xm_e1174_20 := xm_gt d_1174_20
theorem d_1174_21 : List.drop 21 xm_c1174 = xm_c1174_21 := xm_dr d_1174_20
theorem k_1174_21 : xm_gi xm_c1174 21 = some xm_e1174_21 := xm_gt d_1174_21
theorem d_1174_22 : List.drop 22 xm_c1174 = xm_c1174_22 := xm_dr d_1174_21
theorem k_1174_22 : xm_gi xm_c1174 22 = some xm_e1174_22 := xm_gt d_1174_22
theorem d_1174_23 : List.drop 23 xm_c1174 = xm_c1174_23 := xm_dr d_1174_22
theorem k_1174_23 : xm_gi xm_c1174 23 = some xm_e1174_23 := xm_gt d_1174_23
theorem d_1174_24 : List.drop 24 xm_c1174 = xm_c1174_24 := xm_dr d_1174_23
theorem k_1174_24 : xm_gi xm_c1174 24 = some xm_e1174_24 := xm_gt d_1174_24
theorem d_1174_25 : List.drop 25 xm_c1174 = xm_c1174_25 := xm_dr d_1174_24
theorem k_1174_25 : xm_gi xm_c1174 25 = some xm_e1174_25 := xm_gt d_1174_25
theorem d_1174_26 : List.drop 26 xm_c1174 = xm_c1174_26 := xm_dr d_1174_25
theorem k_1174_26 : xm_gi xm_c1174 26 = some xm_e1174_26 := xm_gt d_1174_26
theorem d_1174_27 : List.drop 27 xm_c1174 = xm_c1174_27 := xm_dr d_1174_26
theorem k_1174_27 : xm_gi xm_c1174 27 = some xm_e1174_27 := xm_gt d_1174_27
theorem d_1174_28 : List.drop 28 xm_c1174 = xm_c1174_28 := xm_dr d_1174_27
theorem k_1174_28 : xm_gi xm_c1174 28 = some xm_e1174_28 := xm_gt d_1174_28
theorem d_1174_29 : List.drop 29 xm_c1174 = xm_c1174_29 := xm_dr d_1174_28
theorem k_1174_29 : xm_gi xm_c1174 29 = some xm_e1174_29 := xm_gt d_1174_29
theorem d_1174_30 : List.drop 30 xm_c1174 = xm_c1174_30 := xm_dr d_1174_29
theorem k_1174_30 : xm_gi xm_c1174 30 = some xm_e1174_30 := xm_gt d_1174_30
theorem d_1174_31 : List.drop 31 xm_c1174 = xm_c1174_31 := xm_dr d_1174_30
theorem k_1174_31 : xm_gi xm_c1174 31 = some xm_e1174_31 := xm_gt d_1174_31
theorem d_1174_32 : List.drop 32 xm_c1174 = xm_c1174_32 := xm_dr d_1174_31
theorem k_1174_32 : xm_gi xm_c1174 32 = some xm_e1174_32 := xm_gt d_1174_32
theorem d_1174_33 : List.drop 33 xm_c1174 = xm_c1174_33 := xm_dr d_1174_32
theorem k_1174_33 : xm_gi xm_c1174 33 = some xm_e1174_33 := xm_gt d_1174_33
theorem d_1174_34 : List.drop 34 xm_c1174 = xm_c1174_34 := xm_dr d_1174_33
theorem k_1174_34 : xm_gi xm_c1174 34 = some xm_e1174_34 := xm_gt d_1174_34
theorem d_1174_35 : List.drop 35 xm_c1174 = xm_c1174_35 := xm_dr d_1174_34
theorem k_1174_35 : xm_gi xm_c1174 35 = some xm_e1174_35 := xm_gt d_1174_35
theorem d_1174_36 : List.drop 36 xm_c1174 = xm_c1174_36 := xm_dr d_1174_35
theorem k_1174_36 : xm_gi xm_c1174 36 = some xm_e1174_36 := xm_gt d_1174_36
theorem d_1174_37 : List.drop 37 xm_c1174 = xm_c1174_37 := xm_dr d_1174_36
theorem k_1174_37 : xm_gi xm_c1174 37 = some xm_e1174_37 := xm_gt d_1174_37
theorem d_1174_38 : List.drop 38 xm_c1174 = xm_c1174_38 := xm_dr d_1174_37
theorem k_1174_38 : xm_gi xm_c1174 38 = some xm_e1174_38 := xm_gt d_1174_38
theorem d_1174_39 : List.drop 39 xm_c1174 = xm_c1174_39 := xm_dr d_1174_38
theorem k_1174_39 : xm_gi xm_c1174 39 = some xm_e1174_39 := xm_gt d_1174_39
theorem d_1174_40 : List.drop 40 xm_c1174 = xm_c1174_40 := xm_dr d_1174_39
theorem k_1174_40 : xm_gi xm_c1174 40 = some xm_e1174_40 := xm_gt d_1174_40
theorem d_1174_41 : List.drop 41 xm_c1174 = xm_c1174_41 := xm_dr d_1174_40
theorem k_1174_41 : xm_gi xm_c1174 41 = some xm_e1174_41 := xm_gt d_1174_41
theorem d_1174_42 : List.drop 42 xm_c1174 = xm_c1174_42 := xm_dr d_1174_41
theorem k_1174_42 : xm_gi xm_c1174 42 = some xm_e1174_42 := xm_gt d_1174_42
theorem d_1174_43 : List.drop 43 xm_c1174 = xm_c1174_43 := xm_dr d_1174_42
theorem k_1174_43 : xm_gi xm_c1174 43 = some xm_e1174_43 := xm_gt d_1174_43
theorem d_1174_44 : List.drop 44 xm_c1174 = xm_c1174_44 := xm_dr d_1174_43
theorem k_1174_44 : xm_gi xm_c1174 44 = some xm_e1174_44 := xm_gt d_1174_44
theorem d_1174_45 : List.drop 45 xm_c1174 = xm_c1174_45 := xm_dr d_1174_44
theorem k_1174_45 : xm_gi xm_c1174 45 = some xm_e1174_45 := xm_gt d_1174_45
theorem d_1174_46 : List.drop 46 xm_c1174 = xm_c1174_46 := xm_dr d_1174_45
theorem k_1174_46 : xm_gi xm_c1174 46 = some xm_e1174_46 := xm_gt d_1174_46
theorem d_1174_47 : List.drop 47 xm_c1174 = xm_c1174_47 := xm_dr d_1174_46
theorem k_1174_47 : xm_gi xm_c1174 47 = some xm_e1174_47 := xm_gt d_1174_47
theorem d_1174_48 : List.drop 48 xm_c1174 = xm_c1174_48 := xm_dr d_1174_47
theorem k_1174_48 : xm_gi xm_c1174 48 = some xm_e1174_48 := xm_gt d_1174_48
theorem d_1174_49 : List.drop 49 xm_c1174 = xm_c1174_49 := xm_dr d_1174_48
theorem k_1174_49 : xm_gi xm_c1174 49 = some xm_e1174_49 := xm_gt d_1174_49
theorem d_1174_50 : List.drop 50 xm_c1174 = xm_c1174_50 := xm_dr d_1174_49
theorem k_1174_50 : xm_gi xm_c1174 50 = some xm_e1174_50 := xm_gt d_1174_50
theorem d_1174_51 : List.drop 51 xm_c1174 = xm_c1174_51 := xm_dr d_1174_50
theorem k_1174_51 : xm_gi xm_c1174 51 = some xm_e1174_51 := xm_gt d_1174_51
theorem d_1174_52 : List.drop 52 xm_c1174 = xm_c1174_52 := xm_dr d_1174_51
theorem k_1174_52 : xm_gi xm_c1174 52 = some xm_e1174_52 := xm_gt d_1174_52
theorem d_1174_53 : List.drop 53 xm_c1174 = xm_c1174_53 := xm_dr d_1174_52
theorem k_1174_53 : xm_gi xm_c1174 53 = some xm_e1174_53 := xm_gt d_1174_53
theorem d_1174_54 : List.drop 54 xm_c1174 = xm_c1174_54 := xm_dr d_1174_53
theorem k_1174_54 : xm_gi xm_c1174 54 = some xm_e1174_54 := xm_gt d_1174_54
theorem d_1174_55 : List.drop 55 xm_c1174 = xm_c1174_55 := xm_dr d_1174_54
theorem k_1174_55 : xm_gi xm_c1174 55 = some xm_e1174_55 := xm_gt d_1174_55
theorem d_1174_56 : List.drop 56 xm_c1174 = xm_c1174_56 := xm_dr d_1174_55
theorem k_1174_56 : xm_gi xm_c1174 56 = some xm_e1174_56 := xm_gt d_1174_56
theorem d_1174_57 : List.drop 57 xm_c1174 = xm_c1174_57 := xm_dr d_1174_56
theorem k_1174_57 : xm_gi xm_c1174 57 = some xm_e1174_57 := xm_gt d_1174_57
theorem d_1174_58 : List.drop 58 xm_c1174 = xm_c1174_58 := xm_dr d_1174_57
theorem k_1174_58 : xm_gi xm_c1174 58 = some xm_e1174_58 := xm_gt d_1174_58
theorem d_1174_59 : List.drop 59 xm_c1174 = xm_c1174_59 := xm_dr d_1174_58
theorem k_1174_59 : xm_gi xm_c1174 59 = some xm_e1174_59 := xm_gt d_1174_59
theorem d_1174_60 : List.drop 60 xm_c1174 = xm_c1174_60 := xm_dr d_1174_59
theorem k_1174_60 : xm_gi xm_c1174 60 = some xm_e1174_60 := xm_gt d_1174_60
theorem d_1174_61 : List.drop 61 xm_c1174 = xm_c1174_61 := xm_dr d_1174_60
theorem k_1174_61 : xm_gi xm_c1174 61 = some xm_e1174_61 := xm_gt d_1174_61
theorem xb_1174_0 {sc : List Int} {f : Nat → List xm_V → xm_W → xm_R} {w : xm_W} {Q : Option xm_V × xm_W → Prop} {x0 : Nat} {x1 : Int} {x2 : Int} {x3 : Int}
  (h : xm_Oi (f 1103 [.inl x1, .inl 0, .inl 99] w) (fun z2 w1 => if (z2 : Int) = 0 then (xm_Oi (f 1102 [.inr (.inl (some x0)), .inl 1] w1) (fun z4 w3 => Q (some (.inl z4), w3))) else (xm_Oi (f 1103 [.inl x2, .inl 0, .inl 59] w1) (fun z6 w5 => if (z6 : Int) = 0 then (xm_Oi (f 1102 [.inr (.inl (some x0)), .inl 1] w5) (fun z8 w7 => Q (some (.inl z8), w7))) else (xm_Oi (f 1103 [.inl x3, .inl 0, .inl 1] w5) (fun z10 w9 => if (z10 : Int) = 0 then (xm_Oi (f 1102 [.inr (.inl (some x0)), .inl 1] w9) (fun z12 w11 => Q (some (.inl z12), w11))) else (xm_EQ (xm_old sc) xm_sta f xm_c1174 25 [some (.inr (.inl (some x0))), some (.inl x1), some (.inl x2), some (.inl x3), some (.inl (-1)), some (.inl (-1)), some (.inl 0)] [] w9 Q))))))) :
  xm_EQ (xm_old sc) xm_sta f xm_c1174 0 [some (.inr (.inl (some x0))), some (.inl x1), some (.inl x2), some (.inl x3), none, none, none] [] w Q :=
  (xq_iload_n k_1174_0 rfl (xq_iconst k_1174_1 (xq_bipush k_1174_2 (xq_invs2 k_1174_3 xr_1103 rfl rfl rfl h (fun z2 w1 h => (xq_if_eq k_1174_4 h (fun h => (xq_aload_n k_1174_15 rfl (xq_iconst k_1174_16 (xq_invv1 k_1174_17 xr_1102 rfl rfl rfl h (fun z4 w3 h => (xq_ireturn k_1174_18 h)))))) (fun h => (xq_iload_n k_1174_5 rfl (xq_iconst k_1174_6 (xq_bipush k_1174_7 (xq_invs2 k_1174_8 xr_1103 rfl rfl rfl h (fun z6 w5 h => (xq_if_eq k_1174_9 h (fun h => (xq_aload_n k_1174_15 rfl (xq_iconst k_1174_16 (xq_invv1 k_1174_17 xr_1102 rfl rfl rfl h (fun z8 w7 h => (xq_ireturn k_1174_18 h)))))) (fun h => (xq_iload_n k_1174_10 rfl (xq_iconst k_1174_11 (xq_iconst k_1174_12 (xq_invs2 k_1174_13 xr_1103 rfl rfl rfl h (fun z10 w9 h => (xq_if_ne k_1174_14 h (fun h => (xq_aload_n k_1174_15 rfl (xq_iconst k_1174_16 (xq_invv1 k_1174_17 xr_1102 rfl rfl rfl h (fun z12 w11 h => (xq_ireturn k_1174_18 h)))))) (fun h => (xq_iconst k_1174_19 (xq_istore k_1174_20 rfl (xq_iconst k_1174_21 (xq_istore k_1174_22 rfl (xq_iconst k_1174_23 (xq_istore k_1174_24 rfl h)))))))))))))))))))))))))))
theorem xb_1174_25 {sc : List Int} {f : Nat → List xm_V → xm_W → xm_R} {w : xm_W} {Q : Option xm_V × xm_W → Prop} {x0 : Nat} {x1 : Int} {x2 : Int} {x3 : Int} {x4 : Int} {x5 : Int} {x6 : Int}
  (h : if (x6 : Int) < 100 then ((10 : Int) ≠ 0 ∧ ((10 : Int) ≠ 0 ∧ (xm_Oi (f 1137 [.inl (xm_w (Int.tdiv x2 10)), .inl (Int.tmod x2 10), .inl x6] w) (fun z4 w3 => if (z4 : Int) = x1 then (if (x4 : Int) = (-1) then (xm_EQ (xm_old sc) xm_sta f xm_c1174 25 [some (.inr (.inl (some x0))), some (.inl x1), some (.inl x2), some (.inl x3), some (.inl x6), some (.inl x6), some (.inl (xm_w (x6 + 1)))] [] w3 Q) else (xm_EQ (xm_old sc) xm_sta f xm_c1174 25 [some (.inr (.inl (some x0))), some (.inl x1), some (.inl x2), some (.inl x3), some (.inl x4), some (.inl x6), some (.inl (xm_w (x6 + 1)))] [] w3 Q)) else (xm_EQ (xm_old sc) xm_sta f xm_c1174 25 [some (.inr (.inl (some x0))), some (.inl x1), some (.inl x2), some (.inl x3), some (.inl x4), some (.inl x5), some (.inl (xm_w (x6 + 1)))] [] w3 Q))))) else (if (x4 : Int) = (-1) then (xm_Oi (f 1102 [.inr (.inl (some x0)), .inl 2] w) (fun z2 w1 => Q (some (.inl z2), w1))) else (if (x3 : Int) = 0 then (Q (some (.inl x4), w)) else (Q (some (.inl x5), w))))) :
  xm_EQ (xm_old sc) xm_sta f xm_c1174 25 [some (.inr (.inl (some x0))), some (.inl x1), some (.inl x2), some (.inl x3), some (.inl x4), some (.inl x5), some (.inl x6)] [] w Q :=
  (xq_iload k_1174_25 rfl (xq_bipush k_1174_26 (xq_ic_ge k_1174_27 h (fun h => (xq_iload_n k_1174_28 rfl (xq_bipush k_1174_29 (xq_idiv k_1174_30 h (fun h => (xq_iload_n k_1174_31 rfl (xq_bipush k_1174_32 (xq_irem k_1174_33 h (fun h => (xq_iload k_1174_34 rfl (xq_invs1 k_1174_35 xr_1137 rfl rfl rfl h (fun z4 w3 h => (xq_iload_n k_1174_36 rfl (xq_ic_ne k_1174_37 h (fun h => (xq_iload k_1174_38 rfl (xq_iconst k_1174_39 (xq_ic_ne k_1174_40 h (fun h => (xq_iload k_1174_41 rfl (xq_goto k_1174_42 (xq_istore k_1174_44 rfl (xq_iload k_1174_45 rfl (xq_istore k_1174_46 rfl (xq_iinc k_1174_47 rfl rfl (xq_goto k_1174_48 h)))))))) (fun h => (xq_iload k_1174_43 rfl (xq_istore k_1174_44 rfl (xq_iload k_1174_45 rfl (xq_istore k_1174_46 rfl (xq_iinc k_1174_47 rfl rfl (xq_goto k_1174_48 h))))))))))) (fun h => (xq_iinc k_1174_47 rfl rfl (xq_goto k_1174_48 h))))))))))))))))) (fun h => (xq_iload k_1174_49 rfl (xq_iconst k_1174_50 (xq_ic_ne k_1174_51 h (fun h => (xq_aload_n k_1174_52 rfl (xq_iconst k_1174_53 (xq_invv1 k_1174_54 xr_1102 rfl rfl rfl h (fun z2 w1 h => (xq_goto k_1174_55 (xq_ireturn k_1174_61 h))))))) (fun h => (xq_iload_n k_1174_56 rfl (xq_if_ne k_1174_57 h (fun h => (xq_iload k_1174_58 rfl (xq_goto k_1174_59 (xq_ireturn k_1174_61 h)))) (fun h => (xq_iload k_1174_60 rfl (xq_ireturn k_1174_61 h)))))))))))))
/-- ShodBackwardsModel.isFitting(IIII)Z -/
theorem d_1175_0 : List.drop 0 xm_c1175 = xm_c1175 := rfl
theorem k_1175_0 : xm_gi xm_c1175 0 = some xm_e1175_0 := xm_gt d_1175_0
theorem d_1175_1 : List.drop 1 xm_c1175 = xm_c1175_1 := xm_dr d_1175_0
theorem k_1175_1 : xm_gi xm_c1175 1 = some xm_e1175_1 := xm_gt d_1175_1
theorem d_1175_2 : List.drop 2 xm_c1175 = xm_c1175_2 := xm_dr d_1175_1
theorem k_1175_2 : xm_gi xm_c1175 2 = some xm_e1175_2 := xm_gt d_1175_2
theorem d_1175_3 : List.drop 3 xm_c1175 = xm_c1175_3 := xm_dr d_1175_2
theorem k_1175_3 : xm_gi xm_c1175 3 = some xm_e1175_3 := xm_gt d_1175_3
theorem d_1175_4 : List.drop 4 xm_c1175 = xm_c1175_4 := xm_dr d_1175_3
theorem k_1175_4 : xm_gi xm_c1175 4 = some xm_e1175_4 := xm_gt d_1175_4
theorem d_1175_5 : List.drop 5 xm_c1175 = xm_c1175_5 := xm_dr d_1175_4
theorem k_1175_5 : xm_gi xm_c1175 5 = some xm_e1175_5 := xm_gt d_1175_5
theorem d_1175_6 : List.drop 6 xm_c1175 = xm_c1175_6 := xm_dr d_1175_5
theorem k_1175_6 : xm_gi xm_c1175 6 = some xm_e1175_6 := xm_gt d_1175_6
theorem d_1175_7 : List.drop 7 xm_c1175 = xm_c1175_7 := xm_dr d_1175_6
theorem k_1175_7 : xm_gi xm_c1175 7 = some xm_e1175_7 := xm_gt d_1175_7
theorem d_1175_8 : List.drop 8 xm_c1175 = xm_c1175_8 := xm_dr d_1175_7
theorem k_1175_8 : xm_gi xm_c1175 8 = some xm_e1175_8 := xm_gt d_1175_8
theorem d_1175_9 : List.drop 9 xm_c1175 = xm_c1175_9 := xm_dr d_1175_8
theorem k_1175_9 : xm_gi xm_c1175 9 = some xm_e1175_9 := xm_gt d_1175_9
theorem d_1175_10 : List.drop 10 xm_c1175 = xm_c1175_10 := xm_dr d_1175_9
theorem k_1175_10 : xm_gi xm_c1175 10 = some xm_e1175_10 := xm_gt d_1175_10
theorem d_1175_11 : List.drop 11 xm_c1175 = xm_c1175_11 := xm_dr d_1175_10
theorem k_1175_11 : xm_gi xm_c1175 11 = some xm_e1175_11 := xm_gt d_1175_11
theorem d_1175_12 : List.drop 12 xm_c1175 = xm_c1175_12 := xm_dr d_1175_11
theorem k_1175_12 : xm_gi xm_c1175 12 = some xm_e1175_12 := xm_gt d_1175_12
theorem d_1175_13 : List.drop 13 xm_c1175 = xm_c1175_13 := xm_dr d_1175_12
theorem k_1175_13 : xm_gi xm_c1175 13 = some xm_e1175_13 := xm_gt d_1175_13
theorem d_1175_14 : List.drop 14 xm_c1175 = xm_c1175_14 := xm_dr d_1175_13
theorem k_1175_14 : xm_gi xm_c1175 14 = some xm_e1175_14 := xm_gt d_1175_14
theorem d_1175_15 : List.drop 15 xm_c1175 = xm_c1175_15 := xm_dr d_1175_14
theorem k_1175_15 : xm_gi xm_c1175 15 = some xm_e1175_15 := xm_gt d_1175_15
theorem d_1175_16 : List.drop 16 xm_c1175 = xm_c1175_16 := xm_dr d_1175_15
theorem k_1175_16 : xm_gi xm_c1175 16 = some xm_e1175_16 := xm_gt d_1175_16
theorem d_1175_17 : List.drop 17 xm_c1175 = xm_c1175_17 := xm_dr d_1175_16
theorem k_1175_17 : xm_gi xm_c1175 17 = some xm_e1175_17 := xm_gt d_1175_17
theorem d_1175_18 : List.drop 18 xm_c1175 = xm_c1175_18 := xm_dr d_1175_17
theorem k_1175_18 : xm_gi xm_c1175 18 = some xm_e1175_18 := xm_gt d_1175_18
theorem d_1175_19 : List.drop 19 xm_c1175 = xm_c1175_19 := xm_dr d_1175_18
theorem k_1175_19 : xm_gi xm_c1175 19 = some xm_e1175_19 := xm_gt d_1175_19
theorem d_1175_20 : List.drop 20 xm_c1175 = xm_c1175_20 := xm_dr d_1175_19
theorem k_1175_20 : xm_gi xm_c1175 20 = some xm_e1175_20 := xm_gt d_1175_20
theorem d_1175_21 : List.drop 21 xm_c1175 = xm_c1175_21 := xm_dr d_1175_20
theorem k_1175_21 : xm_gi xm_c1175 21 = some xm_e1175_21 := xm_gt d_1175_21
theorem d_1175_22 : List.drop 22 xm_c1175 = xm_c1175_22 := xm_dr d_1175_21
theorem k_1175_22 : xm_gi xm_c1175 22 = some xm_e1175_22 := xm_gt d_1175_22
theorem d_1175_23 : List.drop 23 xm_c1175 = xm_c1175_23 := xm_dr d_1175_22
theorem k_1175_23 : xm_gi xm_c1175 23 = some xm_e1175_23 := xm_gt d_1175_23
theorem d_1175_24 : List.drop 24 xm_c1175 = xm_c1175_24 := xm_dr d_1175_23
theorem k_1175_24 : xm_gi xm_c1175 24 = some xm_e1175_24 := xm_gt d_1175_24
theorem d_1175_25 : List.drop 25 xm_c1175 = xm_c1175_25 := xm_dr d_1175_24
theorem k_1175_25 : xm_gi xm_c1175 25 = some xm_e1175_25 := xm_gt d_1175_25
theorem d_1175_26 : List.drop 26 xm_c1175 = xm_c1175_26 := xm_dr d_1175_25
theorem k_1175_26 : xm_gi xm_c1175 26 = some xm_e1175_26 := xm_gt d_1175_26
theorem d_1175_27 : List.drop 27 xm_c1175 = xm_c1175_27 := xm_dr d_1175_26
theorem k_1175_27 : xm_gi xm_c1175 27 = some xm_e1175_27 := xm_gt d_1175_27
theorem d_1175_28 : List.drop 28 xm_c1175 = xm_c1175_28 := xm_dr d_1175_27
theorem k_1175_28 : xm_gi xm_c1175 28 = some xm_e1175_28 := xm_gt d_1175_28
theorem d_1175_29 : List.drop 29 xm_c1175 = xm_c1175_29 := xm_dr d_1175_28
theorem k_1175_29 : xm_gi xm_c1175 29 = some xm_e1175_29 := xm_gt d_1175_29
theorem d_1175_30 : List.drop 30 xm_c1175 = xm_c1175_30 := xm_dr d_1175_29
theorem k_1175_30 : xm_gi xm_c1175 30 = some xm_e1175_30 := xm_gt d_1175_30
theorem d_1175_31 : List.drop 31 xm_c1175 = xm_c1175_31 := xm_dr d_1175_30
theorem k_1175_31 : xm_gi xm_c1175 31 = some xm_e1175_31 := xm_gt d_1175_31
theorem d_1175_32 : List.drop 32 xm_c1175 = xm_c1175_32 := xm_dr d_1175_31
theorem k_1175_32 : xm_gi xm_c1175 32 = some xm_e1175_32 := xm_gt d_1175_32
theorem d_1175_33 : List.drop 33 xm_c1175 = xm_c1175_33 := xm_dr d_1175_32
theorem k_1175_33 : xm_gi xm_c1175 33 = some xm_e1175_33 := xm_gt d_1175_33
theorem d_1175_34 : List.drop 34 xm_c1175 = xm_c1175_34 := xm_dr d_1175_33
theorem k_1175_34 : xm_gi xm_c1175 34 = some xm_e1175_34 := xm_gt d_1175_34
theorem d_1175_35 : List.drop 35 xm_c1175 = xm_c1175_35 := xm_dr d_1175_34
theorem k_1175_35 : xm_gi xm_c1175 35 = some xm_e1175_35 := xm_gt d_1175_35
theorem d_1175_36 : List.drop 36 xm_c1175 = xm_c1175_36 := xm_dr d_1175_35
theorem k_1175_36 : xm_gi xm_c1175 36 = some xm_e1175_36 := xm_gt d_1175_36
theorem d_1175_37 : List.drop 37 xm_c1175 = xm_c1175_37 := xm_dr d_1175_36
theorem k_1175_37 : xm_gi xm_c1175 37 = some xm_e1175_37 := xm_gt d_1175_37
theorem d_1175_38 : List.drop 38 xm_c1175 = xm_c1175_38 := xm_dr d_1175_37
theorem k_1175_38 : xm_gi xm_c1175 38 = some xm_e1175_38 := xm_gt d_1175_38
theorem d_1175_39 : List.drop 39 xm_c1175 = xm_c1175_39 := xm_dr d_1175_38
theorem k_1175_39 : xm_gi xm_c1175 39 = some xm_e1175_39 := xm_gt d_1175_39
theorem d_1175_40 : List.drop 40 xm_c1175 = xm_c1175_40 := xm_dr d_1175_39
theorem k_1175_40 : xm_gi xm_c1175 40 = some xm_e1175_40 := xm_gt d_1175_40
theorem d_1175_41 : List.drop 41 xm_c1175 = xm_c1175_41 := xm_dr d_1175_40
theorem k_1175_41 : xm_gi xm_c1175 41 = some xm_e1175_41 := xm_gt d_1175_41
theorem d_1175_42 : List.drop 42 xm_c1175 = xm_c1175_42 := xm_dr d_1175_41
theorem k_1175_42 : xm_gi xm_c1175 42 = some xm_e1175_42 := xm_gt d_1175_42
theorem d_1175_43 : List.drop 43 xm_c1175 = xm_c1175_43 := xm_dr d_1175_42
theorem k_1175_43 : xm_gi xm_c1175 43 = some xm_e1175_43 := xm_gt d_1175_43
theorem d_1175_44 : List.drop 44 xm_c1175 = xm_c1175_44 := xm_dr d_1175_43
theorem k_1175_44 : xm_gi xm_c1175 44 = some xm_e1175_44 := xm_gt d_1175_44
theorem d_1175_45 : List.drop 45 xm_c1175 = xm_c1175_45 := xm_dr d_1175_44
theorem k_1175_45 : xm_gi xm_c1175 45 = some xm_e1175_45 := xm_gt d_1175_45
theorem d_1175_46 : List.drop 46 xm_c1175 = xm_c1175_46 := xm_dr d_1175_45
theorem k_1175_46 : xm_gi xm_c1175 46 = some xm_e1175_46 := xm_gt d_1175_46
theorem d_1175_47 : List.drop 47 xm_c1175 = xm_c1175_47 := xm_dr d_1175_46
theorem k_1175_47 : xm_gi xm_c1175 47 = some xm_e1175_47 := xm_gt d_1175_47
theorem d_1175_48 : List.drop 48 xm_c1175 = xm_c1175_48 := xm_dr d_1175_47
theorem k_1175_48 : xm_gi xm_c1175 48 = some xm_e1175_48 := xm_gt d_1175_48
theorem d_1175_49 : List.drop 49 xm_c1175 = xm_c1175_49 := xm_dr d_1175_48
theorem k_1175_49 : xm_gi xm_c1175 49 = some xm_e1175_49 := xm_gt d_1175_49
theorem d_1175_50 : List.drop 50 xm_c1175 = xm_c1175_50 := xm_dr d_1175_49
theorem k_1175_50 : xm_gi xm_c1175 50 = some xm_e1175_50 := xm_gt d_1175_50
theorem d_1175_51 : List.drop 51 xm_c1175 = xm_c1175_51 := xm_dr d_1175_50
theorem k_1175_51 : xm_gi xm_c1175 51 = some xm_e1175_51 := xm_gt d_1175_51
theorem d_1175_52 : List.drop 52 xm_c1175 = xm_c1175_52 := xm_dr d_1175_51
theorem k_1175_52 : xm_gi xm_c1175 52 = some xm_e1175_52 := xm_gt d_1175_52
theorem d_1175_53 : List.drop 53 xm_c1175 = xm_c1175_53 := xm_dr d_1175_52
theorem k_1175_53 : xm_gi xm_c1175 53 = some xm_e1175_53 := xm_gt d_1175_53
theorem d_1175_54 : List.drop 54 xm_c1175 = xm_c1175_54 := xm_dr d_1175_53
theorem k_1175_54 : xm_gi xm_c1175 54 = some xm_e1175_54 := xm_gt d_1175_54
theorem d_1175_55 : List.drop 55 xm_c1175 = xm_c1175_55 := xm_dr d_1175_54
theorem k_1175_55 : xm_gi xm_c1175 55 = some xm_e1175_55 := xm_gt d_1175_55
theorem d_1175_56 : List.drop 56 xm_c1175 = xm_c1175_56 := xm_dr d_1175_55
theorem k_1175_56 : xm_gi xm_c1175 56 = some xm_e1175_56 := xm_gt d_1175_56
theorem d_1175_57 : List.drop 57 xm_c1175 = xm_c1175_57 := xm_dr d_1175_56
theorem k_1175_57 : xm_gi xm_c1175 57 = some xm_e1175_57 := xm_gt d_1175_57
theorem d_1175_58 : List.drop 58 xm_c1175 = xm_c1175_58 := xm_dr d_1175_57
theorem k_1175_58 : xm_gi xm_c1175 58 = some xm_e1175_58 := xm_gt d_1175_58
theorem d_1175_59 : List.drop 59 xm_c1175 = xm_c1175_59 := xm_dr d_1175_58
theorem k_1175_59 : xm_gi xm_c1175 59 = some xm_e1175_59 := xm_gt d_1175_59
theorem d_1175_60 : List.drop 60 xm_c1175 = xm_c1175_60 := xm_dr d_1175_59
theorem k_1175_60 : xm_gi xm_c1175 60 = some xm_e1175_60 := xm_gt d_1175_60
theorem d_1175_61 : List.drop 61 xm_c1175 = xm_c1175_61 := xm_dr d_1175_60
theorem k_1175_61 : xm_gi xm_c1175 61 = some xm_e1175_61 := xm_gt d_1175_61
theorem d_1175_62 : List.drop 62 xm_c1175 = xm_c1175_62 := xm_dr d_1175_61
theorem k_1175_62 : xm_gi xm_c1175 62 = some xm_e1175_62 := xm_gt d_1175_62
theorem d_1175_63 : List.drop 63 xm_c1175 = xm_c1175_63 := xm_dr d_1175_62
theorem k_1175_63 : xm_gi xm_c1175 63 = some xm_e1175_63 := xm_gt d_1175_63
theorem d_1175_64 : List.drop 64 xm_c1175 = xm_c1175_64 := xm_dr d_1175_63
theorem k_1175_64 : xm_gi xm_c1175 64 = some xm_e1175_64 := xm_gt d_1175_64
theorem d_1175_65 : List.drop 65 xm_c1175 = xm_c1175_65 := xm_dr d_1175_64
theorem k_1175_65 : xm_gi xm_c1175 65 = some xm_e1175_65 := xm_gt d_1175_65
theorem d_1175_66 : List.drop 66 xm_c1175 = xm_c1175_66 := xm_dr d_1175_65
theorem k_1175_66 : xm_gi xm_c1175 66 = some xm_e1175_66 := xm_gt d_1175_66
theorem d_1175_67 : List.drop 67 xm_c1175 = xm_c1175_67 := xm_dr d_1175_66
theorem k_1175_67 : xm_gi xm_c1175 67 = some xm_e1175_67 := xm_gt d_1175_67
theorem d_1175_68 : List.drop 68 xm_c1175 = xm_c1175_68 := xm_dr d_1175_67
theorem k_1175_68 : xm_gi xm_c1175 68 = some xm_e1175_68 := xm_gt d_1175_68
theorem d_1175_69 : List.drop 69 xm_c1175 = xm_c1175_69 := xm_dr d_1175_68
theorem k_1175_69 : xm_gi xm_c1175 69 = some xm_e1175_69 := xm_gt d_1175_69
theorem d_1175_70 : List.drop 70 xm_c1175 = xm_c1175_70 := xm_dr d_1175_69
theorem k_1175_70 : xm_gi xm_c1175 70 = some xm_e1175_70 := xm_gt d_1175_70
theorem d_1175_71 : List.drop 71 xm_c1175 = xm_c1175_71 := xm_dr d_1175_70
theorem k_1175_71 : xm_gi xm_c1175 71 = some xm_e1175_71 := xm_gt d_1175_71
theorem d_1175_72 : List.drop 72 xm_c1175 = xm_c1175_72 := xm_dr d_1175_71
theorem k_1175_72 : xm_gi xm_c1175 72 = some xm_e1175_72 := xm_gt d_1175_72
theorem d_1175_73 : List.drop 73 xm_c1175 = xm_c1175_73 := xm_dr d_1175_72
theorem k_1175_73 : xm_gi xm_c1175 73 = some xm_e1175_73 := xm_gt d_1175_73
theorem d_1175_74 : List.drop 74 xm_c1175 = xm_c1175_74 := xm_dr d_1175_73
theorem k_1175_74 : xm_gi xm_c1175 74 = some xm_e1175_74 := xm_gt d_1175_74
theorem d_1175_75 : List.drop 75 xm_c1175 = xm_c1175_75 := xm_dr d_1175_74
theorem k_1175_75 : xm_gi xm_c1175 75 = some xm_e1175_75 := xm_gt d_1175_75
theorem d_1175_76 : List.drop 76 xm_c1175 = xm_c1175_76 := xm_dr d_1175_75
theorem k_1175_76 : xm_gi xm_c1175 76 = some xm_e1175_76 := xm_gt d_1175_76
theorem d_1175_77 : List.drop 77 xm_c1175 = xm_c1175_77 := xm_dr d_1175_76
theorem k_1175_77 : xm_gi xm_c1175 77 = some xm_e1175_77 := xm_gt d_1175_77
theorem d_1175_78 : List.drop 78 xm_c1175 = xm_c1175_78 := xm_dr d_1175_77
theorem k_1175_78 : xm_gi xm_c1175 78 = some xm_e1175_78 := xm_gt d_1175_78
theorem d_1175_79 : List.drop 79 xm_c1175 = xm_c1175_79 := xm_dr d_1175_78
theorem k_1175_79 : xm_gi xm_c1175 79 = some xm_e1175_79 := xm_gt d_1175_79
theorem d_1175_80 : List.drop 80 xm_c1175 = xm_c1175_80 := xm_dr d_1175_79
theorem k_1175_80 : xm_gi xm_c1175 80 = some xm_e1175_80 := xm_gt d_1175_80
theorem d_1175_81 : List.drop 81 xm_c1175 = xm_c1175_81 := xm_dr d_1175_80
theorem k_1175_81 : xm_gi xm_c1175 81 = some xm_e1175_81 := xm_gt d_1175_81
theorem d_1175_82 : List.drop 82 xm_c1175 = xm_c1175_82 := xm_dr d_1175_81
theorem k_1175_82 : xm_gi xm_c1175 82 = some xm_e1175_82 := xm_gt d_1175_82
theorem d_1175_83 : List.drop 83 xm_c1175 = xm_c1175_83 := xm_dr d_1175_82
theorem k_1175_83 : xm_gi xm_c1175 83 = some xm_e1175_83 := xm_gt d_1175_83
theorem d_1175_84 : List.drop 84 xm_c1175 = xm_c1175_84 := xm_dr d_1175_83
theorem k_1175_84 : xm_gi xm_c1175 84 = some xm_e1175_84 := xm_gt d_1175_84
theorem d_1175_85 : List.drop 85 xm_c1175 = xm_c1175_85 := xm_dr d_1175_84
theorem k_1175_85 : xm_gi xm_c1175 85 = some xm_e1175_85 := xm_gt d_1175_85
theorem d_1175_86 : List.drop 86 xm_c1175 = xm_c1175_86 := xm_dr d_1175_85
theorem k_1175_86 : xm_gi xm_c1175 86 = some xm_e1175_86 := xm_gt d_1175_86
theorem d_1175_87 : List.drop 87 xm_c1175 = xm_c1175_87 := xm_dr d_1175_86
theorem k_1175_87 : xm_gi xm_c1175 87 = some xm_e1175_87 := xm_gt d_1175_87
theorem d_1175_88 : List.drop 88 xm_c1175 = xm_c1175_88 := xm_dr d_1175_87
theorem k_1175_88 : xm_gi xm_c1175 88 = some xm_e1175_88 := xm_gt d_1175_88
theorem d_1175_89 : List.drop 89 xm_c1175 = xm_c1175_89 := xm_dr d_1175_88
theorem k_1175_89 : xm_gi xm_c1175 89 = some xm_e1175_89 := xm_gt d_1175_89
theorem d_1175_90 : List.drop 90 xm_c1175 = xm_c1175_90 := xm_dr d_1175_89
theorem k_1175_90 : xm_gi xm_c1175 90 = some xm_e1175_90 := xm_gt d_1175_90
theorem d_1175_91 : List.drop 91 xm_c1175 = xm_c1175_91 := xm_dr d_1175_90
theorem k_1175_91 : xm_gi xm_c1175 91 = some xm_e1175_91 := xm_gt d_1175_91
theorem d_1175_92 : List.drop 92 xm_c1175 = xm_c1175_92 := xm_dr d_1175_91
theorem k_1175_92 : xm_gi xm_c1175 92 = some xm_e1175_92 := xm_gt d_1175_92
theorem d_1175_93 : List.drop 93 xm_c1175 = xm_c1175_93 := xm_dr d_1175_92
theorem k_1175_93 : xm_gi xm_c1175 93 = some xm_e1175_93 := xm_gt d_1175_93
theorem d_1175_94 : List.drop 94 xm_c1175 = xm_c1175_94 := xm_dr d_1175_93
theorem k_1175_94 : xm_gi xm_c1175 94 = some xm_e1175_94 := xm_gt d_1175_94
theorem d_1175_95 : List.drop 95 xm_c1175 = xm_c1175_95 := xm_dr d_1175_94
theorem k_1175_95 : xm_gi xm_c1175 95 = some xm_e1175_95 := xm_gt d_1175_95
theorem d_1175_96 : List.drop 96 xm_c1175 = xm_c1175_96 := xm_dr d_1175_95
theorem k_1175_96 : xm_gi xm_c1175 96 = some xm_e1175_96 := xm_gt d_1175_96
theorem d_1175_97 : List.drop 97 xm_c1175 = xm_c1175_97 := xm_dr d_1175_96
theorem k_1175_97 : xm_gi xm_c1175 97 = some xm_e1175_97 := xm_gt d_1175_97
theorem d_1175_98 : List.drop 98 xm_c1175 = xm_c1175_98 := xm_dr d_1175_97
theorem k_1175_98 : xm_gi xm_c1175 98 = some xm_e1175_98 := xm_gt d_1175_98
theorem d_1175_99 : List.drop 99 xm_c1175 = xm_c1175_99 := xm_dr d_1175_98
theorem k_1175_99 : xm_gi xm_c1175 99 = some xm_e1175_99 := xm_gt d_1175_99
theorem d_1175_100 : List.drop 100 xm_c1175 = xm_c1175_100 := xm_dr d_1175_99
theorem k_1175_100 : xm_gi xm_c1175 100 = some xm_e1175_100 := xm_gt d_1175_100
theorem d_1175_101 : List.drop 101 xm_c1175 = xm_c1175_101 := xm_dr d_1175_100
theorem k_1175_101 : xm_gi xm_c1175 101 = some xm_e1175_101 := xm_gt d_1175_101
theorem d_1175_102 : List.drop 102 xm_c1175 = xm_c1175_102 := xm_dr d_1175_101
theorem k_1175_102 : xm_gi xm_c1175 102 = some xm_e1175_102 := xm_gt d_1175_102
theorem d_1175_103 : List.drop 103 xm_c1175 = xm_c1175_103 := xm_dr d_1175_102
theorem k_1175_103 : xm_gi xm_c1175 103 = some xm_e1175_103 := xm_gt d_1175_103
theorem d_1175_104 : List.drop 104 xm_c1175 = xm_c1175_104 := xm_dr d_1175_103
theorem k_1175_104 : xm_gi xm_c1175 104 = some xm_e1175_104 := xm_gt d_1175_104
theorem d_1175_105 : List.drop 105 xm_c1175 = xm_c1175_105 := xm_dr d_1175_104
theorem k_1175_105 : xm_gi xm_c1175 105 = some xm_e1175_105 := xm_gt d_1175_105
theorem d_1175_106 : List.drop 106 xm_c1175 = xm_c1175_106 := xm_dr d_1175_105
theorem k_1175_106 : xm_gi xm_c1175 106 = some xm_e1175_106 := xm_gt d_1175_106
theorem d_1175_107 : List.drop 107 xm_c1175 = xm_c1175_107 := xm_dr d_1175_106
theorem k_1175_107 : xm_gi xm_c1175 107 = some xm_e1175_107 := xm_gt d_1175_107
theorem d_1175_108 : List.drop 108 xm_c1175 = xm_c1175_108 := xm_dr d_1175_107
theorem k_1175_108 : xm_gi xm_c1175 108 = some xm_e1175_108 := xm_gt d_1175_108
theorem d_1175_109 : List.drop 109 xm_c1175 = xm_c1175_109 := xm_dr d_1175_108
theorem k_1175_109 : xm_gi xm_c1175 109 = some xm_e1175_109 := xm_gt d_1175_109
theorem d_1175_110 : List.drop 110 xm_c1175 = xm_c1175_110 := xm_dr d_1175_109
theorem k_1175_110 : xm_gi xm_c1175 110 = some xm_e1175_110 := xm_gt d_1175_110
theorem d_1175_111 : List.drop 111 xm_c1175 = xm_c1175_111 := xm_dr d_1175_110
theorem k_1175_111 : xm_gi xm_c1175 111 = some xm_e1175_111 := xm_gt d_1175_111
theorem d_1175_112 : List.drop 112 xm_c1175 = xm_c1175_112 := xm_dr d_1175_111
theorem k_1175_112 : xm_gi xm_c1175 112 = some xm_e1175_112 := xm_gt d_1175_112
theorem d_1175_113 : List.drop 113 xm_c1175 = xm_c1175_113 := xm_dr d_1175_112
theorem k_1175_113 : xm_gi xm_c1175 113 = some xm_e1175_113 := xm_gt d_1175_113
theorem d_1175_114 : List.drop 114 xm_c1175 = xm_c1175_114 := xm_dr d_1175_113
theorem k_1175_114 : xm_gi xm_c1175 114 = some xm_e1175_114 := xm_gt d_1175_114
theorem d_1175_115 : List.drop 115 xm_c1175 = xm_c1175_115 := xm_dr d_1175_114
theorem k_1175_115 : xm_gi xm_c1175 115 = some xm_e1175_115 := xm_gt d_1175_115
theorem d_1175_116 : List.drop 116 xm_c1175 = xm_c1175_116 := xm_dr d_1175_115
theorem k_1175_116 : xm_gi xm_c1175 116 = some xm_e1175_116 := xm_gt d_1175_116
theorem d_1175_117 : List.drop 117 xm_c1175 = xm_c1175_117 := xm_dr d_1175_116
theorem k_1175_117 : xm_gi xm_c1175 117 = some xm_e1175_117 := xm_gt d_1175_117
theorem d_1175_118 : List.drop 118 xm_c1175 = xm_c1175_118 := xm_dr d_1175_117
theorem k_1175_118 : xm_gi xm_c1175 118 = some xm_e1175_118 := xm_gt d_1175_118
theorem d_1175_119 : List.drop 119 xm_c1175 = xm_c1175_119 := xm_dr d_1175_118
theorem k_1175_119 : xm_gi xm_c1175 119 = some xm_e1175_119 := xm_gt d_1175_119
theorem d_1175_120 : List.drop 120 xm_c1175 = xm_c1175_120 := xm_dr d_1175_119
theorem k_1175_120 : xm_gi xm_c1175 120 = some xm_e1175_120 := xm_gt d_1175_120
theorem d_1175_121 : List.drop 121 xm_c1175 = xm_c1175_121 := xm_dr d_1175_120
theorem k_1175_121 : xm_gi xm_c1175 121 = some xm_e1175_121 := xm_gt d_1175_121
theorem d_1175_122 : List.drop 122 xm_c1175 = xm_c1175_122 := xm_dr d_1175_121
theorem k_1175_122 : xm_gi xm_c1175 122 = some xm_e1175_122 := xm_gt d_1175_122
theorem d_1175_123 : List.drop 123 xm_c1175 = xm_c1175_123 := xm_dr d_1175_122
theorem k_1175_123 : xm_gi xm_c1175 123 = some xm_e1175_123 := xm_gt d_1175_123
theorem d_1175_124 : List.drop 124 xm_c1175 = xm_c1175_124 := xm_dr d_1175_123
theorem k_1175_124 : xm_gi xm_c1175 124 = some xm_e1175_124 := xm_gt d_1175_124
theorem d_1175_125 : List.drop 125 xm_c1175 = xm_c1175_125 := xm_dr d_1175_124
theorem k_1175_125 : xm_gi xm_c1175 125 = some xm_e1175_125 := xm_gt d_1175_125
theorem d_1175_126 : List.drop 126 xm_c1175 = xm_c1175_126 := xm_dr d_1175_125
theorem k_1175_126 : xm_gi xm_c1175 126 = some xm_e1175_126 := xm_gt d_1175_126
theorem d_1175_127 : List.drop 127 xm_c1175 = xm_c1175_127 := xm_dr d_1175_126
theorem k_1175_127 : xm_gi xm_c1175 127 = some xm_e1175_127 := xm_gt d_1175_127
theorem d_1175_128 : List.drop 128 xm_c1175 = xm_c1175_128 := xm_dr d_1175_127
theorem k_1175_128 : xm_gi xm_c1175 128 = some xm_e1175_128 := xm_gt d_1175_128
theorem d_1175_129 : List.drop 129 xm_c1175 = xm_c1175_129 := xm_dr d_1175_128
theorem k_1175_129 : xm_gi xm_c1175 129 = some xm_e1175_129 := xm_gt d_1175_129
theorem d_1175_130 : List.drop 130 xm_c1175 = xm_c1175_130 := xm_dr d_1175_129
theorem k_1175_130 : xm_gi xm_c1175 130 = some xm_e1175_130 := xm_gt d_1175_130
theorem d_1175_131 : List.drop 131 xm_c1175 = xm_c1175_131 := xm_dr d_1175_130
theorem k_1175_131 : xm_gi xm_c1175 131 = some xm_e1175_131 := xm_gt d_1175_131
theorem d_1175_132 : List.drop 132 xm_c1175 = xm_c1175_132 := xm_dr d_1175_131
theorem k_1175_132 : xm_gi xm_c1175 132 = some xm_e1175_132 := xm_gt d_1175_132
theorem d_1175_133 : List.drop 133 xm_c1175 = xm_c1175_133 := xm_dr d_1175_132
theorem k_1175_133 : xm_gi xm_c1175 133 = some xm_e1175_133 := xm_gt d_1175_133
theorem d_1175_134 : List.drop 134 xm_c1175 = xm_c1175_134 := xm_dr d_1175_133
theorem k_1175_134 : xm_gi xm_c1175 134 = some xm_e1175_134 := xm_gt d_1175_134
theorem d_1175_135 : List.drop 135 xm_c1175 = xm_c1175_135 := xm_dr d_1175_134
theorem k_1175_135 : xm_gi xm_c1175 135 = some xm_e1175_135 := xm_gt d_1175_135
theorem d_1175_136 : List.drop 136 xm_c1175 = xm_c1175_136 := xm_dr d_1175_135
theorem k_1175_136 : xm_gi xm_c1175 136 = some xm_e1175_136 := xm_gt d_1175_136
theorem d_1175_137 : List.drop 137 xm_c1175 = xm_c1175_137 := xm_dr d_1175_136
theorem k_1175_137 : xm_gi xm_c1175 137 = some xm_e1175_137 := xm_gt d_1175_137
theorem d_1175_138 : List.drop 138 xm_c1175 = xm_c1175_138 := xm_dr d_1175_137
theorem k_1175_138 : xm_gi xm_c1175 138 = some xm_e1175_138 := xm_gt d_1175_138
theorem d_1175_139 : List.drop 139 xm_c1175 = xm_c1175_139 := xm_dr d_1175_138
theorem k_1175_139 : xm_gi xm_c1175 139 = some xm_e1175_139 := xm_gt d_1175_139
theorem d_1175_140 : List.drop 140 xm_c1175 = xm_c1175_140 := xm_dr d_1175_139
theorem k_1175_140 : xm_gi xm_c1175 140 = some xm_e1175_140 := xm_gt d_1175_140
theorem d_1175_141 : List.drop 141 xm_c1175 = xm_c1175_141 := xm_dr d_1175_140
theorem k_1175_141 : xm_gi xm_c1175 141 = some xm_e1175_141 := xm_gt d_1175_141
theorem d_1175_142 : List.drop 142 xm_c1175 = xm_c1175_142 := xm_dr d_1175_141
theorem k_1175_142 : xm_gi xm_c1175 142 = some xm_e1175_142 := xm_gt d_1175_142
theorem d_1175_143 : List.drop 143 xm_c1175 = xm_c1175_143 := xm_dr d_1175_142
theorem k_1175_143 : xm_gi xm_c1175 143 = some xm_e1175_143 := xm_gt d_1175_143
theorem d_1175_144 : List.drop 144 xm_c1175 = xm_c1175_144 := xm_dr d_1175_143
theorem k_1175_144 : xm_gi xm_c1175 144 = some xm_e1175_144 := xm_gt d_1175_144
theorem d_1175_145 : List.drop 145 xm_c1175 = xm_c1175_145 := xm_dr d_1175_144
theorem k_1175_145 : xm_gi xm_c1175 145 = some xm_e1175_145 := xm_gt d_1175_145
theorem d_1175_146 : List.drop 146 xm_c1175 = xm_c1175_146 := xm_dr d_1175_145
theorem k_1175_146 : xm_gi xm_c1175 146 = some xm_e1175_146 := xm_gt d_1175_146
theorem d_1175_147 : List.drop 147 xm_c1175 = xm_c1175_147 := xm_dr d_1175_146
theorem k_1175_147 : xm_gi xm_c1175 147 = some xm_e1175_147 := xm_gt d_1175_147
theorem d_1175_148 : List.drop 148 xm_c1175 = xm_c1175_148 := xm_dr d_1175_147
theorem k_1175_148 : xm_gi xm_c1175 148 = some xm_e1175_148 := xm_gt d_1175_148
theorem d_1175_149 : List.drop 149 xm_c1175 = xm_c1175_149 := xm_dr d_1175_148
theorem k_1175_149 : xm_gi xm_c1175 149 = some xm_e1175_149 := xm_gt d_1175_149
theorem d_1175_150 : List.drop 150 xm_c1175 = xm_c1175_150 := xm_dr d_1175_149
theorem k_1175_150 : xm_gi xm_c1175 150 = some xm_e1175_150 := xm_gt d_1175_150
theorem d_1175_151 : List.drop 151 xm_c1175 = xm_c1175_151 := xm_dr d_1175_150
theorem k_1175_151 : xm_gi xm_c1175 151 = some xm_e1175_151 := xm_gt d_1175_151
theorem d_1175_152 : List.drop 152 xm_c1175 = xm_c1175_152 := xm_dr d_1175_151
theorem k_1175_152 : xm_gi xm_c1175 152 = some xm_e1175_152 := xm_gt d_1175_152
theorem d_1175_153 : List.drop 153 xm_c1175 = xm_c1175_153 := xm_dr d_1175_152
theorem k_1175_153 : xm_gi xm_c1175 153 = some xm_e1175_153 := xm_gt d_1175_153
theorem d_1175_154 : List.drop 154 xm_c1175 = xm_c1175_154 := xm_dr d_1175_153
theorem k_1175_154 : xm_gi xm_c1175 154 = some xm_e1175_154 := xm_gt d_1175_154
theorem d_1175_155 : List.drop 155 xm_c1175 = xm_c1175_155 := xm_dr d_1175_154
theorem k_1175_155 : xm_gi xm_c1175 155 = some xm_e1175_155 := xm_gt d_1175_155
theorem d_1175_156 : List.drop 156 xm_c1175 = xm_c1175_156 := xm_dr d_1175_155
theorem k_1175_156 : xm_gi xm_c1175 156 = some xm_e1175_156 := xm_gt d_1175_156
theorem d_1175_157 : List.drop 157 xm_c1175 = xm_c1175_157 := xm_dr d_1175_156
theorem k_1175_157 : xm_gi xm_c1175 157 = some xm_e1175_157 := xm_gt d_1175_157
theorem d_1175_158 : List.drop 158 xm_c1175 = xm_c1175_158 := xm_dr d_1175_157
theorem k_1175_158 : xm_gi xm_c1175 158 = some xm_e1175_158 := xm_gt d_1175_158
theorem d_1175_159 : List.drop 159 xm_c1175 = xm_c1175_159 := xm_dr d_1175_158
theorem k_1175_159 : xm_gi xm_c1175 159 = some xm_e1175_159 := xm_gt d_1175_159
theorem d_1175_160 : List.drop 160 xm_c1175 = xm_c1175_160 := xm_dr d_1175_159
theorem k_1175_160 : xm_gi xm_c1175 160 = some xm_e1175_160 := xm_gt d_1175_160
theorem d_1175_161 : List.drop 161 xm_c1175 = xm_c1175_161 := xm_dr d_1175_160
theorem k_1175_161 : xm_gi xm_c1175 161 = some xm_e1175_161 := xm_gt d_1175_161
theorem d_1175_162 : List.drop 162 xm_c1175 = xm_c1175_162 := xm_dr d_1175_161
theorem k_1175_162 : xm_gi xm_c1175 162 = some xm_e1175_162 := xm_gt d_1175_162
theorem d_1175_163 : List.drop 163 xm_c1175 = xm_c1175_163 := xm_dr d_1175_162
theorem k_1175_163 : xm_gi xm_c1175 163 = some xm_e1175_163 := xm_gt d_1175_163
theorem d_1175_164 : List.drop 164 xm_c1175 = xm_c1175_164 := xm_dr d_1175_163
theorem k_1175_164 : xm_gi xm_c1175 164 = some xm_e1175_164 := xm_gt d_1175_164
theorem d_1175_165 : List.drop 165 xm_c1175 = xm_c1175_165 := xm_dr d_1175_164
theorem k_1175_165 : xm_gi xm_c1175 165 = some xm_e1175_165 := xm_gt d_1175_165
theorem d_1175_166 : List.drop 166 xm_c1175 = xm_c1175_166 := xm_dr d_1175_165
theorem k_1175_166 : xm_gi xm_c1175 166 = some xm_e1175_166 := xm_gt d_1175_166
theorem d_1175_167 : List.drop 167 xm_c1175 = xm_c1175_167 := xm_dr d_1175_166
theorem k_1175_167 : xm_gi xm_c1175 167 = some xm_e1175_167 := xm_gt d_1175_167
theorem d_1175_168 : List.drop 168 xm_c1175 = xm_c1175_168 := xm_dr d_1175_167
theorem k_1175_168 : xm_gi xm_c1175 168 = some xm_e1175_168 := xm_gt d_1175_168
theorem d_1175_169 : List.drop 169 xm_c1175 = xm_c1175_169 := xm_dr d_1175_168
theorem k_1175_169 : xm_gi xm_c1175 169 = some xm_e1175_169 := xm_gt d_1175_169
theorem d_1175_170 : List.drop 170 xm_c1175 = xm_c1175_170 := xm_dr d_1175_169
theorem k_1175_170 : xm_gi xm_c1175 170 = some xm_e1175_170 := xm_gt d_1175_170
theorem d_1175_171 : List.drop 171 xm_c1175 = xm_c1175_171 := xm_dr d_1175_170
theorem k_1175_171 : xm_gi xm_c1175 171 = some xm_e1175_171 := xm_gt d_1175_171
theorem d_1175_172 : List.drop 172 xm_c1175 = xm_c1175_172 := xm_dr d_1175_171
theorem k_1175_172 : xm_gi xm_c1175 172 = some xm_e1175_172 := xm_gt d_1175_172
theorem d_1175_173 : List.drop 173 xm_c1175 = xm_c1175_173 := xm_dr d_1175_172
theorem k_1175_173 : xm_gi xm_c1175 173 = some xm_e1175_173 := xm_gt d_1175_173
theorem d_1175_174 : List.drop 174 xm_c1175 = xm_c1175_174 := xm_dr d_1175_173
theorem k_1175_174 : xm_gi xm_c1175 174 = some xm_e1175_174 := xm_gt d_1175_174
theorem d_1175_175 : List.drop 175 xm_c1175 = xm_c1175_175 := xm_dr d_1175_174
theorem k_1175_175 : xm_gi xm_c1175 175 = some xm_e1175_175 := xm_gt d_1175_175
theorem d_1175_176 : List.drop 176 xm_c1175 = xm_c1175_176 := xm_dr d_1175_175
theorem k_1175_176 : xm_gi xm_c1175 176 = some xm_e1175_176 := xm_gt d_1175_176
theorem d_1175_177 : List.drop 177 xm_c1175 = xm_c1175_177 := xm_dr d_1175_176
theorem k_1175_177 : xm_gi xm_c1175 177 = some xm_e1175_177 := xm_gt d_1175_177
theorem d_1175_178 : List.drop 178 xm_c1175 = xm_c1175_178 := xm_dr d_1175_177
theorem k_1175_178 : xm_gi xm_c1175 178 = some xm_e1175_178 := xm_gt d_1175_178
theorem d_1175_179 : List.drop 179 xm_c1175 = xm_c1175_179 := xm_dr d_1175_178
theorem k_1175_179 : xm_gi xm_c1175 179 = some xm_e1175_179 := xm_gt d_1175_179
theorem d_1175_180 : List.drop 180 xm_c1175 = xm_c1175_180 := xm_dr d_1175_179
theorem k_1175_180 : xm_gi xm_c1175 180 = some xm_e1175_180 := xm_gt d_1175_180
theorem d_1175_181 : List.drop 181 xm_c1175 = xm_c1175_181 := xm_dr d_1175_180
theorem k_1175_181 : xm_gi xm_c1175 181 = some xm_e1175_181 := xm_gt d_1175_181
theorem xb_1175_0 {sc : List Int} {f : Nat → List xm_V → xm_W → xm_R} {w : xm_W} {Q : Option xm_V × xm_W → Prop} {x0 : Nat} {x1 : Int} {x2 : Int} {x3 : Int} {x4 : Int}
  (h : xm_Oi (f 1110 [.inr (.inl (some x0)), .inl x1, .inl 0] w) (fun z2 w1 => xm_Oi (f 1110 [.inr (.inl (some x0)), .inl x1, .inl 2] w1) (fun z4 w3 => xm_Ov (f 1111 [.inr (.inl (some x0)), .inl x1, .inl 0, .inl x2] w3) (fun w5 => xm_Ov (f 1111 [.inr (.inl (some x0)), .inl x1, .inl 2, .inl x3] w5) (fun w6 => xm_EQ (xm_old sc) xm_sta f xm_c1175 26 [some (.inr (.inl (some x0))), some (.inl x1), some (.inl x2), some (.inl x3), some (.inl x4), some (.inl z2), some (.inl z4), some (.inl 0), some (.inl 1), some (.inl 0), none, none, none, none] [] w6 Q))))) :
  xm_EQ (xm_old sc) xm_sta f xm_c1175 0 [some (.inr (.inl (some x0))), some (.inl x1), some (.inl x2), some (.inl x3), some (.inl x4), none, none, none, none, none, none, none, none, none] [] w Q :=
  (xq_aload_n k_1175_0 rfl (xq_iload_n k_1175_1 rfl (xq_iconst k_1175_2 (xq_invv1 k_1175_3 xr_1110 rfl rfl rfl h (fun z2 w1 h => (xq_istore k_1175_4 rfl (xq_aload_n k_1175_5 rfl (xq_iload_n k_1175_6 rfl (xq_iconst k_1175_7 (xq_invv1 k_1175_8 xr_1110 rfl rfl rfl h (fun z4 w3 h => (xq_istore k_1175_9 rfl (xq_aload_n k_1175_10 rfl (xq_iload_n k_1175_11 rfl (xq_iconst k_1175_12 (xq_iload_n k_1175_13 rfl (xq_invv0 k_1175_14 xr_1111 rfl rfl rfl h (fun w5 h => (xq_aload_n k_1175_15 rfl (xq_iload_n k_1175_16 rfl (xq_iconst k_1175_17 (xq_iload_n k_1175_18 rfl (xq_invv0 k_1175_19 xr_1111 rfl rfl rfl h (fun w6 h => (xq_iconst k_1175_20 (xq_istore k_1175_21 rfl (xq_iconst k_1175_22 (xq_istore k_1175_23 rfl (xq_iconst k_1175_24 (xq_istore k_1175_25 rfl h))))))))))))))))))))))))))))))
theorem xb_1175_26 {sc : List Int} {f : Nat → List xm_V → xm_W → xm_R} {w : xm_W} {Q : Option xm_V × xm_W → Prop} {x0 : Nat} {x1 : Int} {x2 : Int} {x3 : Int} {x4 : Int} {x5 : Int} {x6 : Int} {x7 : Int} {x8 : Int} {x9 : Int} {u10 : Option xm_V} {u11 : Option xm_V} {u12 : Option xm_V} {u13 : Option xm_V}
  (h : xm_Oi (f 1110 [.inr (.inl (some x0)), .inl x1, .inl 4] w) (fun z2 w1 => if (x9 : Int) < z2 then (xm_O (xm_fr (xm_old sc) w1 x0 9 0) (fun r3 => xm_O (xm_ints (xm_old sc) w1 r3) (fun l4 => xm_O (xm_at l4 1) (fun z5 => if ((xm_w (x4 + x9)) : Int) < z5 then (xm_Oi (f 1110 [.inr (.inl (some x0)), .inl x1, .inl (xm_w (6 + x9))] w1) (fun z7 w6 => xm_Oi (f 1110 [.inr (.inl (some x0)), .inl x1, .inl 2] w6) (fun z9 w8 => xm_Oi (f 1139 [.inl z9, .inl z7] w8) (fun z11 w10 => xm_Oi (f 1136 [.inr (.inl (some x0)), .inl x1, .inl z7, .inl x9] w10) (fun z13 w12 => if (z11 : Int) = (-1) then (if (z11 : Int) = (-1) then (xm_Ov (f 1111 [.inr (.inl (some x0)), .inl x1, .inl 2, .inl z9] w12) (fun w15 => xm_EQ (xm_old sc) xm_sta f xm_c1175 26 [some (.inr (.inl (some x0))), some (.inl x1), some (.inl x2), some (.inl x3), some (.inl x4), some (.inl x5), some (.inl x6), some (.inl x7), some (.inl x8), some (.inl (xm_w (x9 + 1))), some (.inl z7), some (.inl z9), some (.inl z11), some (.inl z13)] [] w15 Q)) else (xm_Ov (f 1111 [.inr (.inl (some x0)), .inl x1, .inl 2, .inl z11] w12) (fun w14 => xm_EQ (xm_old sc) xm_sta f xm_c1175 26 [some (.inr (.inl (some x0))), some (.inl x1), some (.inl x2), some (.inl x3), some (.inl x4), some (.inl x5), some (.inl x6), some (.inl x7), some (.inl x8), some (.inl (xm_w (x9 + 1))), some (.inl z7), some (.inl z9), some (.inl z11), some (.inl z13)] [] w14 Q))) else (if (z13 : Int) = (-1) then (if (z11 : Int) = (-1) then (xm_Ov (f 1111 [.inr (.inl (some x0)), .inl x1, .inl 2, .inl z9] w12) (fun w17 => xm_EQ (xm_old sc) xm_sta f xm_c1175 26 [some (.inr (.inl (some x0))), some (.inl x1), some (.inl x2), some (.inl x3), some (.inl x4), some (.inl x5), some (.inl x6), some (.inl x7), some (.inl x8), some (.inl (xm_w (x9 + 1))), some (.inl z7), some (.inl z9), some (.inl z11), some (.inl z13)] [] w17 Q)) else (xm_Ov (f 1111 [.inr (.inl (some x0)), .inl x1, .inl 2, .inl z11] w12) (fun w16 => xm_EQ (xm_old sc) xm_sta f xm_c1175 26 [some (.inr (.inl (some x0))), some (.inl x1), some (.inl x2), some (.inl x3), some (.inl x4), some (.inl x5), some (.inl x6), some (.inl x7), some (.inl x8), some (.inl (xm_w (x9 + 1))), some (.inl z7), some (.inl z9), some (.inl z11), some (.inl z13)] [] w16 Q))) else (xm_Oi (f 1130 [.inr (.inl (some x0)), .inl z9] w12) (fun z19 w18 => if (0 : Int) < z19 then (xm_Oi (f 1131 [.inr (.inl (some x0)), .inl z9, .inl (xm_w (x4 + x9))] w18) (fun z23 w22 => if (z23 : Int) = 0 then (if (z11 : Int) = (-1) then (xm_Ov (f 1111 [.inr (.inl (some x0)), .inl x1, .inl 2, .inl z9] w22) (fun w25 => xm_EQ (xm_old sc) xm_sta f xm_c1175 26 [some (.inr (.inl (some x0))), some (.inl x1), some (.inl x2), some (.inl x3), some (.inl x4), some (.inl x5), some (.inl x6), some (.inl x7), some (.inl x8), some (.inl (xm_w (x9 + 1))), some (.inl z7), some (.inl z9), some (.inl z11), some (.inl z13)] [] w25 Q)) else (xm_Ov (f 1111 [.inr (.inl (some x0)), .inl x1, .inl 2, .inl z11] w22) (fun w24 => xm_EQ (xm_old sc) xm_sta f xm_c1175 26 [some (.inr (.inl (some x0))), some (.inl x1), some (.inl x2), some (.inl x3), some (.inl x4), some (.inl x5), some (.inl x6), some (.inl x7), some (.inl x8), some (.inl (xm_w (x9 + 1))), some (.inl z7), some (.inl z9), some (.inl z11), some (.inl z13)] [] w24 Q))) else (xm_EQ (xm_old sc) xm_sta f xm_c1175 79 [some (.inr (.inl (some x0))), some (.inl x1), some (.inl x2), some (.inl x3), some (.inl x4), some (.inl x5), some (.inl x6), some (.inl x7), some (.inl x8), some (.inl x9), some (.inl z7), some (.inl z9), some (.inl z11), some (.inl z13)] [] w22 Q))) else (if (z11 : Int) = (-1) then (xm_Ov (f 1111 [.inr (.inl (some x0)), .inl x1, .inl 2, .inl z9] w18) (fun w21 => xm_EQ (xm_old sc) xm_sta f xm_c1175 26 [some (.inr (.inl (some x0))), some (.inl x1), some (.inl x2), some (.inl x3), some (.inl x4), some (.inl x5), some (.inl x6), some (.inl x7), some (.inl x8), some (.inl (xm_w (x9 + 1))), some (.inl z7), some (.inl z9), some (.inl z11), some (.inl z13)] [] w21 Q)) else (xm_Ov (f 1111 [.inr (.inl (some x0)), .inl x1, .inl 2, .inl z11] w18) (fun w20 => xm_EQ (xm_old sc) xm_sta f xm_c1175 26 [some (.inr (.inl (some x0))), some (.inl x1), some (.inl x2), some (.inl x3), some (.inl x4), some (.inl x5), some (.inl x6), some (.inl x7), some (.inl x8), some (.inl (xm_w (x9 + 1))), some (.inl z7), some (.inl z9), some (.inl z11), some (.inl z13)] [] w20 Q))))))))))) else (xm_EQ (xm_old sc) xm_sta f xm_c1175 146 [some (.inr (.inl (some x0))), some (.inl x1), some (.inl x2), some (.inl x3), some (.inl x4), some (.inl x5), some (.inl x6), some (.inl x7), some (.inl x8), some (.inl x9), u10, u11, u12, u13] [] w1 Q))))) else (xm_EQ (xm_old sc) xm_sta f xm_c1175 146 [some (.inr (.inl (some x0))), some (.inl x1), some (.inl x2), some (.inl x3), some (.inl x4), some (.inl x5), some (.inl x6), some (.inl x7), some (.inl x8), some (.inl x9), u10, u11, u12, u13] [] w1 Q))) :
  xm_EQ (xm_old sc) xm_sta f xm_c1175 26 [some (.inr (.inl (some x0))), some (.inl x1), some (.inl x2), some (.inl x3), some (.inl x4), some (.inl x5), some (.inl x6), some (.inl x7), some (.inl x8), some (.inl x9), u10, u11, u12, u13] [] w Q :=
  (xq_iload k_1175_26 rfl (xq_aload_n k_1175_27 rfl (xq_iload_n k_1175_28 rfl (xq_iconst k_1175_29 (xq_invv1 k_1175_30 xr_1110 rfl rfl rfl h (fun z2 w1 h => (xq_ic_ge k_1175_31 h (fun h => (xq_iload k_1175_32 rfl (xq_iload k_1175_33 rfl (xq_iadd k_1175_34 (xq_aload_n k_1175_35 rfl (xq_getr k_1175_36 rfl h (fun r3 h => (xq_iconst k_1175_37 (xq_iaload k_1175_38 h (fun l4 h => h) (fun l4 z5 h => (xq_ic_ge k_1175_39 h (fun h => (xq_aload_n k_1175_40 rfl (xq_iload_n k_1175_41 rfl (xq_bipush k_1175_42 (xq_iload k_1175_43 rfl (xq_iadd k_1175_44 (xq_invv1 k_1175_45 xr_1110 rfl rfl rfl h (fun z7 w6 h => (xq_istore k_1175_46 rfl (xq_aload_n k_1175_47 rfl (xq_iload_n k_1175_48 rfl (xq_iconst k_1175_49 (xq_invv1 k_1175_50 xr_1110 rfl rfl rfl h (fun z9 w8 h => (xq_istore k_1175_51 rfl (xq_iload k_1175_52 rfl (xq_iload k_1175_53 rfl (xq_invs1 k_1175_54 xr_1139 rfl rfl rfl h (fun z11 w10 h => (xq_istore k_1175_55 rfl (xq_aload_n k_1175_56 rfl (xq_iload_n k_1175_57 rfl (xq_iload k_1175_58 rfl (xq_iload k_1175_59 rfl (xq_invv1 k_1175_60 xr_1136 rfl rfl rfl h (fun z13 w12 h => (xq_istore k_1175_61 rfl (xq_iload k_1175_62 rfl (xq_iconst k_1175_63 (xq_ic_eq k_1175_64 h (fun h => (xq_aload_n k_1175_134 rfl (xq_iload_n k_1175_135 rfl (xq_iconst k_1175_136 (xq_iload k_1175_137 rfl (xq_iconst k_1175_138 (xq_ic_ne k_1175_139 h (fun h => (xq_iload k_1175_140 rfl (xq_goto k_1175_141 (xq_invv0 k_1175_143 xr_1111 rfl rfl rfl h (fun w15 h => (xq_iinc k_1175_144 rfl rfl (xq_goto k_1175_145 h))))))) (fun h => (xq_iload k_1175_142 rfl (xq_invv0 k_1175_143 xr_1111 rfl rfl rfl h (fun w14 h => (xq_iinc k_1175_144 rfl rfl (xq_goto k_1175_145 h))))))))))))) (fun h => (xq_iload k_1175_65 rfl (xq_iconst k_1175_66 (xq_ic_eq k_1175_67 h (fun h => (xq_aload_n k_1175_134 rfl (xq_iload_n k_1175_135 rfl (xq_iconst k_1175_136 (xq_iload k_1175_137 rfl (xq_iconst k_1175_138 (xq_ic_ne k_1175_139 h (fun h => (xq_iload k_1175_140 rfl (xq_goto k_1175_141 (xq_invv0 k_1175_143 xr_1111 rfl rfl rfl h (fun w17 h => (xq_iinc k_1175_144 rfl rfl (xq_goto k_1175_145 h))))))) (fun h => (xq_iload k_1175_142 rfl (xq_invv0 k_1175_143 xr_1111 rfl rfl rfl h (fun w16 h => (xq_iinc k_1175_144 rfl rfl (xq_goto k_1175_145 h))))))))))))) (fun h => (xq_aload_n k_1175_68 rfl (xq_iload k_1175_69 rfl (xq_invv1 k_1175_70 xr_1130 rfl rfl rfl h (fun z19 w18 h => (xq_if_le k_1175_71 h (fun h => (xq_aload_n k_1175_72 rfl (xq_iload k_1175_73 rfl (xq_iload k_1175_74 rfl (xq_iload k_1175_75 rfl (xq_iadd k_1175_76 (xq_invv2 k_1175_77 xr_1131 rfl rfl rfl h (fun z23 w22 h => (xq_if_eq k_1175_78 h (fun h => (xq_aload_n k_1175_134 rfl (xq_iload_n k_1175_135 rfl (xq_iconst k_1175_136 (xq_iload k_1175_137 rfl (xq_iconst k_1175_138 (xq_ic_ne k_1175_139 h (fun h => (xq_iload k_1175_140 rfl (xq_goto k_1175_141 (xq_invv0 k_1175_143 xr_1111 rfl rfl rfl h (fun w25 h => (xq_iinc k_1175_144 rfl rfl (xq_goto k_1175_145 h))))))) (fun h => (xq_iload k_1175_142 rfl (xq_invv0 k_1175_143 xr_1111 rfl rfl rfl h (fun w24 h => (xq_iinc k_1175_144 rfl rfl (xq_goto k_1175_145 h))))))))))))) (fun h => h)))))))))) (fun h => (xq_aload_n k_1175_134 rfl (xq_iload_n k_1175_135 rfl (xq_iconst k_1175_136 (xq_iload k_1175_137 rfl (xq_iconst k_1175_138 (xq_ic_ne k_1175_139 h (fun h => (xq_iload k_1175_140 rfl (xq_goto k_1175_141 (xq_invv0 k_1175_143 xr_1111 rfl rfl rfl h (fun w21 h => (xq_iinc k_1175_144 rfl rfl (xq_goto k_1175_145 h))))))) (fun h => (xq_iload k_1175_142 rfl (xq_invv0 k_1175_143 xr_1111 rfl rfl rfl h (fun w20 h => (xq_iinc k_1175_144 rfl rfl (xq_goto k_1175_145 h))))))))))))))))))))))))))))))))))))))))))))))))))))) (fun h => h)))))))))))) (fun h => h))))))))
theorem xb_1175_79 {sc : List Int} {f : Nat → List xm_V → xm_W → xm_R} {w : xm_W} {Q : Option xm_V × xm_W → Prop} {x0 : Nat} {x1 : Int} {x2 : Int} {x3 : Int} {x4 : Int} {x5 : Int} {x6 : Int} {x7 : Int} {x8 : Int} {x9 : Int} {x10 : Int} {x11 : Int} {x12 : Int} {x13 : Int}
  (h : xm_O (xm_fr (xm_old sc) w x0 9 0) (fun r1 => xm_O (xm_ints (xm_old sc) w r1) (fun l2 => xm_O (xm_at l2 3) (fun z3 => if (x7 : Int) < z3 then (xm_Oi (f 1112 [.inr (.inl (some x0)), .inl x7, .inl 4] w) (fun z18 w17 => if (z18 : Int) = x1 then (if (x8 : Int) = 0 then (xm_EQ (xm_old sc) xm_sta f xm_c1175 132 [some (.inr (.inl (some x0))), some (.inl x1), some (.inl x2), some (.inl x3), some (.inl x4), some (.inl x5), some (.inl x6), some (.inl x7), some (.inl x8), some (.inl x9), some (.inl x10), some (.inl x11), some (.inl x12), some (.inl x13)] [.inl 0] w17 Q) else (xm_O (xm_fr (xm_old sc) w17 x0 9 0) (fun r19 => xm_O (xm_ints (xm_old sc) w17 r19) (fun l20 => xm_O (xm_at l20 3) (fun z21 => if (x7 : Int) < z21 then (xm_Oi (f 1112 [.inr (.inl (some x0)), .inl x7, .inl 0] w17) (fun z23 w22 => if (z23 : Int) = x11 then (xm_Oi (f 1112 [.inr (.inl (some x0)), .inl x7, .inl 1] w22) (fun z25 w24 => if (z25 : Int) = x13 then (xm_Oi (f 1112 [.inr (.inl (some x0)), .inl x7, .inl 2] w24) (fun z27 w26 => xm_Oi (f 1138 [.inr (.inl (some x0)), .inl x1] w26) (fun z29 w28 => if (z27 : Int) = z29 then (xm_Oi (f 1112 [.inr (.inl (some x0)), .inl x7, .inl 3] w28) (fun z31 w30 => if (z31 : Int) = (xm_w (x4 + x9)) then (xm_EQ (xm_old sc) xm_sta f xm_c1175 132 [some (.inr (.inl (some x0))), some (.inl x1), some (.inl x2), some (.inl x3), some (.inl x4), some (.inl x5), some (.inl x6), some (.inl x7), some (.inl x8), some (.inl x9), some (.inl x10), some (.inl x11), some (.inl x12), some (.inl x13)] [.inl 1] w30 Q) else (xm_EQ (xm_old sc) xm_sta f xm_c1175 132 [some (.inr (.inl (some x0))), some (.inl x1), some (.inl x2), some (.inl x3), some (.inl x4), some (.inl x5), some (.inl x6), some (.inl x7), some (.inl x8), some (.inl x9), some (.inl x10), some (.inl x11), some (.inl x12), some (.inl x13)] [.inl 0] w30 Q))) else (xm_EQ (xm_old sc) xm_sta f xm_c1175 132 [some (.inr (.inl (some x0))), some (.inl x1), some (.inl x2), some (.inl x3), some (.inl x4), some (.inl x5), some (.inl x6), some (.inl x7), some (.inl x8), some (.inl x9), some (.inl x10), some (.inl x11), some (.inl x12), some (.inl x13)] [.inl 0] w28 Q)))) else (xm_EQ (xm_old sc) xm_sta f xm_c1175 132 [some (.inr (.inl (some x0))), some (.inl x1), some (.inl x2), some (.inl x3), some (.inl x4), some (.inl x5), some (.inl x6), some (.inl x7), some (.inl x8), some (.inl x9), some (.inl x10), some (.inl x11), some (.inl x12), some (.inl x13)] [.inl 0] w24 Q))) else (xm_EQ (xm_old sc) xm_sta f xm_c1175 132 [some (.inr (.inl (some x0))), some (.inl x1), some (.inl x2), some (.inl x3), some (.inl x4), some (.inl x5), some (.inl x6), some (.inl x7), some (.inl x8), some (.inl x9), some (.inl x10), some (.inl x11), some (.inl x12), some (.inl x13)] [.inl 0] w22 Q))) else (xm_EQ (xm_old sc) xm_sta f xm_c1175 132 [some (.inr (.inl (some x0))), some (.inl x1), some (.inl x2), some (.inl x3), some (.inl x4), some (.inl x5), some (.inl x6), some (.inl x7), some (.inl x8), some (.inl x9), some (.inl x10), some (.inl x11), some (.inl x12), some (.inl x13)] [.inl 0] w17 Q)))))) else (xm_EQ (xm_old sc) xm_sta f xm_c1175 79 [some (.inr (.inl (some x0))), some (.inl x1), some (.inl x2), some (.inl x3), some (.inl x4), some (.inl x5), some (.inl x6), some (.inl (xm_w (x7 + 1))), some (.inl x8), some (.inl x9), some (.inl x10), some (.inl x11), some (.inl x12), some (.inl x13)] [] w17 Q))) else (if (x8 : Int) = 0 then (xm_EQ (xm_old sc) xm_sta f xm_c1175 132 [some (.inr (.inl (some x0))), some (.inl x1), some (.inl x2), some (.inl x3), some (.inl x4), some (.inl x5), some (.inl x6), some (.inl x7), some (.inl x8), some (.inl x9), some (.inl x10), some (.inl x11), some (.inl x12), some (.inl x13)] [.inl 0] w Q) else (xm_O (xm_fr (xm_old sc) w x0 9 0) (fun r4 => xm_O (xm_ints (xm_old sc) w r4) (fun l5 => xm_O (xm_at l5 3) (fun z6 => if (x7 : Int) < z6 then (xm_Oi (f 1112 [.inr (.inl (some x0)), .inl x7, .inl 0] w) (fun z8 w7 => if (z8 : Int) = x11 then (xm_Oi (f 1112 [.inr (.inl (some x0)), .inl x7, .inl 1] w7) (fun z10 w9 => if (z10 : Int) = x13 then (xm_Oi (f 1112 [.inr (.inl (some x0)), .inl x7, .inl 2] w9) (fun z12 w11 => xm_Oi (f 1138 [.inr (.inl (some x0)), .inl x1] w11) (fun z14 w13 => if (z12 : Int) = z14 then (xm_Oi (f 1112 [.inr (.inl (some x0)), .inl x7, .inl 3] w13) (fun z16 w15 => if (z16 : Int) = (xm_w (x4 + x9)) then (xm_EQ (xm_old sc) xm_sta f xm_c1175 132 [some (.inr (.inl (some x0))), some (.inl x1), some (.inl x2), some (.inl x3), some (.inl x4), some (.inl x5), some (.inl x6), some (.inl x7), some (.inl x8), some (.inl x9), some (.inl x10), some (.inl x11), some (.inl x12), some (.inl x13)] [.inl 1] w15 Q) else (xm_EQ (xm_old sc) xm_sta f xm_c1175 132 [some (.inr (.inl (some x0))), some (.inl x1), some (.inl x2), some (.inl x3), some (.inl x4), some (.inl x5), some (.inl x6), some (.inl x7), some (.inl x8), some (.inl x9), some (.inl x10), some (.inl x11), some (.inl x12), some (.inl x13)] [.inl 0] w15 Q))) else (xm_EQ (xm_old sc) xm_sta f xm_c1175 132 [some (.inr (.inl (some x0))), some (.inl x1), some (.inl x2), some (.inl x3), some (.inl x4), some (.inl x5), some (.inl x6), some (.inl x7), some (.inl x8), some (.inl x9), some (.inl x10), some (.inl x11), some (.inl x12), some (.inl x13)] [.inl 0] w13 Q)))) else (xm_EQ (xm_old sc) xm_sta f xm_c1175 132 [some (.inr (.inl (some x0))), some (.inl x1), some (.inl x2), some (.inl x3), some (.inl x4), some (.inl x5), some (.inl x6), some (.inl x7), some (.inl x8), some (.inl x9), some (.inl x10), some (.inl x11), some (.inl x12), some (.inl x13)] [.inl 0] w9 Q))) else (xm_EQ (xm_old sc) xm_sta f xm_c1175 132 [some (.inr (.inl (some x0))), some (.inl x1), some (.inl x2), some (.inl x3), some (.inl x4), some (.inl x5), some (.inl x6), some (.inl x7), some (.inl x8), some (.inl x9), some (.inl x10), some (.inl x11), some (.inl x12), some (.inl x13)] [.inl 0] w7 Q))) else (xm_EQ (xm_old sc) xm_sta f xm_c1175 132 [some (.inr (.inl (some x0))), some (.inl x1), some (.inl x2), some (.inl x3), some (.inl x4), some (.inl x5), some (.inl x6), some (.inl x7), some (.inl x8), some (.inl x9), some (.inl x10), some (.inl x11), some (.inl x12), some (.inl x13)] [.inl 0] w Q)))))))))) :
  xm_EQ (xm_old sc) xm_sta f xm_c1175 79 [some (.inr (.inl (some x0))), some (.inl x1), some (.inl x2), some (.inl x3), some (.inl x4), some (.inl x5), some (.inl x6), some (.inl x7), some (.inl x8), some (.inl x9), some (.inl x10), some (.inl x11), some (.inl x12), some (.inl x13)] [] w Q :=
  (xq_iload k_1175_79 rfl (xq_aload_n k_1175_80 rfl (xq_getr k_1175_81 rfl h (fun r1 h => (xq_iconst k_1175_82 (xq_iaload k_1175_83 h (fun l2 h => h) (fun l2 z3 h => (xq_ic_ge k_1175_84 h (fun h => (xq_aload_n k_1175_85 rfl (xq_iload k_1175_86 rfl (xq_iconst k_1175_87 (xq_invv1 k_1175_88 xr_1112 rfl rfl rfl h (fun z18 w17 h => (xq_iload_n k_1175_89 rfl (xq_ic_eq k_1175_90 h (fun h => (xq_iload k_1175_93 rfl (xq_if_eq k_1175_94 h (fun h => (xq_iconst k_1175_131 h)) (fun h => (xq_iload k_1175_95 rfl (xq_aload_n k_1175_96 rfl (xq_getr k_1175_97 rfl h (fun r19 h => (xq_iconst k_1175_98 (xq_iaload k_1175_99 h (fun l20 h => h) (fun l20 z21 h => (xq_ic_ge k_1175_100 h (fun h => (xq_aload_n k_1175_101 rfl (xq_iload k_1175_102 rfl (xq_iconst k_1175_103 (xq_invv1 k_1175_104 xr_1112 rfl rfl rfl h (fun z23 w22 h => (xq_iload k_1175_105 rfl (xq_ic_ne k_1175_106 h (fun h => (xq_aload_n k_1175_107 rfl (xq_iload k_1175_108 rfl (xq_iconst k_1175_109 (xq_invv1 k_1175_110 xr_1112 rfl rfl rfl h (fun z25 w24 h => (xq_iload k_1175_111 rfl (xq_ic_ne k_1175_112 h (fun h => (xq_aload_n k_1175_113 rfl (xq_iload k_1175_114 rfl (xq_iconst k_1175_115 (xq_invv1 k_1175_116 xr_1112 rfl rfl rfl h (fun z27 w26 h => (xq_aload_n k_1175_117 rfl (xq_iload_n k_1175_118 rfl (xq_invv1 k_1175_119 xr_1138 rfl rfl rfl h (fun z29 w28 h => (xq_ic_ne k_1175_120 h (fun h => (xq_aload_n k_1175_121 rfl (xq_iload k_1175_122 rfl (xq_iconst k_1175_123 (xq_invv1 k_1175_124 xr_1112 rfl rfl rfl h (fun z31 w30 h => (xq_iload k_1175_125 rfl (xq_iload k_1175_126 rfl (xq_iadd k_1175_127 (xq_ic_ne k_1175_128 h (fun h => (xq_iconst k_1175_129 (xq_goto k_1175_130 h))) (fun h => (xq_iconst k_1175_131 h)))))))))))) (fun h => (xq_iconst k_1175_131 h))))))))))))) (fun h => (xq_iconst k_1175_131 h)))))))))) (fun h => (xq_iconst k_1175_131 h)))))))))) (fun h => (xq_iconst k_1175_131 h)))))))))))))) (fun h => (xq_iinc k_1175_91 rfl rfl (xq_goto k_1175_92 h))))))))))) (fun h => (xq_iload k_1175_93 rfl (xq_if_eq k_1175_94 h (fun h => (xq_iconst k_1175_131 h)) (fun h => (xq_iload k_1175_95 rfl (xq_aload_n k_1175_96 rfl (xq_getr k_1175_97 rfl h (fun r4 h => (xq_iconst k_1175_98 (xq_iaload k_1175_99 h (fun l5 h => h) (fun l5 z6 h => (xq_ic_ge k_1175_100 h (fun h => (xq_aload_n k_1175_101 rfl (xq_iload k_1175_102 rfl (xq_iconst k_1175_103 (xq_invv1 k_1175_104 xr_1112 rfl rfl rfl h (fun z8 w7 h => (xq_iload k_1175_105 rfl (xq_ic_ne k_1175_106 h (fun h => (xq_aload_n k_1175_107 rfl (xq_iload k_1175_108 rfl (xq_iconst k_1175_109 (xq_invv1 k_1175_110 xr_1112 rfl rfl rfl h (fun z10 w9 h => (xq_iload k_1175_111 rfl (xq_ic_ne k_1175_112 h (fun h => (xq_aload_n k_1175_113 rfl (xq_iload k_1175_114 rfl (xq_iconst k_1175_115 (xq_invv1 k_1175_116 xr_1112 rfl rfl rfl h (fun z12 w11 h => (xq_aload_n k_1175_117 rfl (xq_iload_n k_1175_118 rfl (xq_invv1 k_1175_119 xr_1138 rfl rfl rfl h (fun z14 w13 h => (xq_ic_ne k_1175_120 h (fun h => (xq_aload_n k_1175_121 rfl (xq_iload k_1175_122 rfl (xq_iconst k_1175_123 (xq_invv1 k_1175_124 xr_1112 rfl rfl rfl h (fun z16 w15 h => (xq_iload k_1175_125 rfl (xq_iload k_1175_126 rfl (xq_iadd k_1175_127 (xq_ic_ne k_1175_128 h (fun h => (xq_iconst k_1175_129 (xq_goto k_1175_130 h))) (fun h => (xq_iconst k_1175_131 h)))))))))))) (fun h => (xq_iconst k_1175_131 h))))))))))))) (fun h => (xq_iconst k_1175_131 h)))))))))) (fun h => (xq_iconst k_1175_131 h)))))))))) (fun h => (xq_iconst k_1175_131 h))))))))))))))))))))))
theorem xb_1175_132 {sc : List Int} {f : Nat → List xm_V → xm_W → xm_R} {w : xm_W} {Q : Option xm_V × xm_W → Prop} {x0 : Nat} {x1 : Int} {x2 : Int} {x3 : Int} {x4 : Int} {x5 : Int} {x6 : Int} {x7 : Int} {x8 : Int} {x9 : Int} {x10 : Int} {x11 : Int} {x12 : Int} {x13 : Int} {t0 : Int}
  (h : if (x12 : Int) = (-1) then (xm_Ov (f 1111 [.inr (.inl (some x0)), .inl x1, .inl 2, .inl x11] w) (fun w2 => xm_EQ (xm_old sc) xm_sta f xm_c1175 26 [some (.inr (.inl (some x0))), some (.inl x1), some (.inl x2), some (.inl x3), some (.inl x4), some (.inl x5), some (.inl x6), some (.inl (xm_w (x7 + 1))), some (.inl t0), some (.inl (xm_w (x9 + 1))), some (.inl x10), some (.inl x11), some (.inl x12), some (.inl x13)] [] w2 Q)) else (xm_Ov (f 1111 [.inr (.inl (some x0)), .inl x1, .inl 2, .inl x12] w) (fun w1 => xm_EQ (xm_old sc) xm_sta f xm_c1175 26 [some (.inr (.inl (some x0))), some (.inl x1), some (.inl x2), some (.inl x3), some (.inl x4), some (.inl x5), some (.inl x6), some (.inl (xm_w (x7 + 1))), some (.inl t0), some (.inl (xm_w (x9 + 1))), some (.inl x10), some (.inl x11), some (.inl x12), some (.inl x13)] [] w1 Q))) :
  xm_EQ (xm_old sc) xm_sta f xm_c1175 132 [some (.inr (.inl (some x0))), some (.inl x1), some (.inl x2), some (.inl x3), some (.inl x4), some (.inl x5), some (.inl x6), some (.inl x7), some (.inl x8), some (.inl x9), some (.inl x10), some (.inl x11), some (.inl x12), some (.inl x13)] [.inl t0] w Q :=
  (xq_istore k_1175_132 rfl (xq_iinc k_1175_133 rfl rfl (xq_aload_n k_1175_134 rfl (xq_iload_n k_1175_135 rfl (xq_iconst k_1175_136 (xq_iload k_1175_137 rfl (xq_iconst k_1175_138 (xq_ic_ne k_1175_139 h (fun h => (xq_iload k_1175_140 rfl (xq_goto k_1175_141 (xq_invv0 k_1175_143 xr_1111 rfl rfl rfl h (fun w2 h => (xq_iinc k_1175_144 rfl rfl (xq_goto k_1175_145 h))))))) (fun h => (xq_iload k_1175_142 rfl (xq_invv0 k_1175_143 xr_1111 rfl rfl rfl h (fun w1 h => (xq_iinc k_1175_144 rfl rfl (xq_goto k_1175_145 h))))))))))))))
theorem xb_1175_146 {sc : List Int} {f : Nat → List xm_V → xm_W → xm_R} {w : xm_W} {Q : Option xm_V × xm_W → Prop} {x0 : Nat} {x1 : Int} {x2 : Int} {x3 : Int} {x4 : Int} {x5 : Int} {x6 : Int} {x7 : Int} {x8 : Int} {x9 : Int} {u10 : Option xm_V} {u11 : Option xm_V} {u12 : Option xm_V} {u13 : Option xm_V}
  (h : xm_O (xm_fr (xm_old sc) w x0 9 0) (fun r1 => xm_O (xm_ints (xm_old sc) w r1) (fun l2 => xm_O (xm_at l2 3) (fun z3 => if (x7 : Int) < z3 then (xm_Oi (f 1112 [.inr (.inl (some x0)), .inl x7, .inl 4] w) (fun z10 w9 => if (z10 : Int) = x1 then (xm_Ov (f 1111 [.inr (.inl (some x0)), .inl x1, .inl 0, .inl x5] w9) (fun w11 => xm_Ov (f 1111 [.inr (.inl (some x0)), .inl x1, .inl 2, .inl x6] w11) (fun w12 => if (x8 : Int) = 0 then (Q (some (.inl 0), w12)) else (xm_O (xm_fr (xm_old sc) w12 x0 9 0) (fun r13 => xm_O (xm_ints (xm_old sc) w12 r13) (fun l14 => xm_O (xm_at l14 3) (fun z15 => if (x7 : Int) < z15 then (Q (some (.inl 0), w12)) else (Q (some (.inl 1), w12))))))))) else (xm_EQ (xm_old sc) xm_sta f xm_c1175 146 [some (.inr (.inl (some x0))), some (.inl x1), some (.inl x2), some (.inl x3), some (.inl x4), some (.inl x5), some (.inl x6), some (.inl (xm_w (x7 + 1))), some (.inl x8), some (.inl x9), u10, u11, u12, u13] [] w9 Q))) else (xm_Ov (f 1111 [.inr (.inl (some x0)), .inl x1, .inl 0, .inl x5] w) (fun w4 => xm_Ov (f 1111 [.inr (.inl (some x0)), .inl x1, .inl 2, .inl x6] w4) (fun w5 => if (x8 : Int) = 0 then (Q (some (.inl 0), w5)) else (xm_O (xm_fr (xm_old sc) w5 x0 9 0) (fun r6 => xm_O (xm_ints (xm_old sc) w5 r6) (fun l7 => xm_O (xm_at l7 3) (fun z8 => if (x7 : Int) < z8 then (Q (some (.inl 0), w5)) else (Q (some (.inl 1), w5))))))))))))) :
  xm_EQ (xm_old sc) xm_sta f xm_c1175 146 [some (.inr (.inl (some x0))), some (.inl x1), some (.inl x2), some (.inl x3), some (.inl x4), some (.inl x5), some (.inl x6), some (.inl x7), some (.inl x8), some (.inl x9), u10, u11, u12, u13] [] w Q :=
  (xq_iload k_1175_146 rfl (xq_aload_n k_1175_147 rfl (xq_getr k_1175_148 rfl h (fun r1 h => (xq_iconst k_1175_149 (xq_iaload k_1175_150 h (fun l2 h => h) (fun l2 z3 h => (xq_ic_ge k_1175_151 h (fun h => (xq_aload_n k_1175_152 rfl (xq_iload k_1175_153 rfl (xq_iconst k_1175_154 (xq_invv1 k_1175_155 xr_1112 rfl rfl rfl h (fun z10 w9 h => (xq_iload_n k_1175_156 rfl (xq_ic_eq k_1175_157 h (fun h => (xq_aload_n k_1175_160 rfl (xq_iload_n k_1175_161 rfl (xq_iconst k_1175_162 (xq_iload k_1175_163 rfl (xq_invv0 k_1175_164 xr_1111 rfl rfl rfl h (fun w11 h => (xq_aload_n k_1175_165 rfl (xq_iload_n k_1175_166 rfl (xq_iconst k_1175_167 (xq_iload k_1175_168 rfl (xq_invv0 k_1175_169 xr_1111 rfl rfl rfl h (fun w12 h => (xq_iload k_1175_170 rfl (xq_if_eq k_1175_171 h (fun h => (xq_iconst k_1175_180 (xq_ireturn k_1175_181 h))) (fun h => (xq_iload k_1175_172 rfl (xq_aload_n k_1175_173 rfl (xq_getr k_1175_174 rfl h (fun r13 h => (xq_iconst k_1175_175 (xq_iaload k_1175_176 h (fun l14 h => h) (fun l14 z15 h => (xq_ic_lt k_1175_177 h (fun h => (xq_iconst k_1175_180 (xq_ireturn k_1175_181 h))) (fun h => (xq_iconst k_1175_178 (xq_goto k_1175_179 (xq_ireturn k_1175_181 h)))))))))))))))))))))))))))) (fun h => (xq_iinc k_1175_158 rfl rfl (xq_goto k_1175_159 h))))))))))) (fun h => (xq_aload_n k_1175_160 rfl (xq_iload_n k_1175_161 rfl (xq_iconst k_1175_162 (xq_iload k_1175_163 rfl (xq_invv0 k_1175_164 xr_1111 rfl rfl rfl h (fun w4 h => (xq_aload_n k_1175_165 rfl (xq_iload_n k_1175_166 rfl (xq_iconst k_1175_167 (xq_iload k_1175_168 rfl (xq_invv0 k_1175_169 xr_1111 rfl rfl rfl h (fun w5 h => (xq_iload k_1175_170 rfl (xq_if_eq k_1175_171 h (fun h => (xq_iconst k_1175_180 (xq_ireturn k_1175_181 h))) (fun h => (xq_iload k_1175_172 rfl (xq_aload_n k_1175_173 rfl (xq_getr k_1175_174 rfl h (fun r6 h => (xq_iconst k_1175_175 (xq_iaload k_1175_176 h (fun l7 h => h) (fun l7 z8 h => (xq_ic_lt k_1175_177 h (fun h => (xq_iconst k_1175_180 (xq_ireturn k_1175_181 h))) (fun h => (xq_iconst k_1175_178 (xq_goto k_1175_179 (xq_ireturn k_1175_181 h))))))))))))))))))))))))))))))))))))
/-- ShodBackwardsModel.kinds(III)I -/
theorem d_1176_0 : List.drop 0 xm_c1176 = xm_c1176 := rfl
theorem k_1176_0 : xm_gi xm_c1176 0 = some xm_e1176_0 := xm_gt d_1176_0
theorem d_1176_1 : List.drop 1 xm_c1176 = xm_c1176_1 := xm_dr d_1176_0
theorem k_1176_1 : xm_gi xm_c1176 1 = some xm_e1176_1 := xm_gt d_1176_1
theorem d_1176_2 : List.drop 2 xm_c1176 = xm_c1176_2 := xm_dr d_1176_1
theorem k_1176_2 : xm_gi xm_c1176 2 = some xm_e1176_2 := xm_gt d_1176_2
theorem d_1176_3 : List.drop 3 xm_c1176 = xm_c1176_3 := xm_dr d_1176_2
theorem k_1176_3 : xm_gi xm_c1176 3 = some xm_e1176_3 := xm_gt d_1176_3
theorem d_1176_4 : List.drop 4 xm_c1176 = xm_c1176_4 := xm_dr d_1176_3
theorem k_1176_4 : xm_gi xm_c1176 4 = some xm_e1176_4 := xm_gt d_1176_4
theorem d_1176_5 : List.drop 5 xm_c1176 = xm_c1176_5 := xm_dr d_1176_4
theorem k_1176_5 : xm_gi xm_c1176 5 = some xm_e1176_5 := xm_gt d_1176_5
theorem d_1176_6 : List.drop 6 xm_c1176 = xm_c1176_6 := xm_dr d_1176_5
theorem k_1176_6 : xm_gi xm_c1176 6 = some xm_e1176_6 := xm_gt d_1176_6
theorem d_1176_7 : List.drop 7 xm_c1176 = xm_c1176_7 := xm_dr d_1176_6
theorem k_1176_7 : xm_gi xm_c1176 7 = some xm_e1176_7 := xm_gt d_1176_7
theorem d_1176_8 : List.drop 8 xm_c1176 = xm_c1176_8 := xm_dr d_1176_7
theorem k_1176_8 : xm_gi xm_c1176 8 = some xm_e1176_8 := xm_gt d_1176_8
theorem d_1176_9 : List.drop 9 xm_c1176 = xm_c1176_9 := xm_dr d_1176_8
theorem k_1176_9 : xm_gi xm_c1176 9 = some xm_e1176_9 := xm_gt d_1176_9
theorem d_1176_10 : List.drop 10 xm_c1176 = xm_c1176_10 := xm_dr d_1176_9
theorem k_1176_10 : xm_gi xm_c1176 10 = some xm_e1176_10 := xm_gt d_1176_10
theorem d_1176_11 : List.drop 11 xm_c1176 = xm_c1176_11 := xm_dr d_1176_10
theorem k_1176_11 : xm_gi xm_c1176 11 = some xm_e1176_11 := xm_gt d_1176_11
theorem d_1176_12 : List.drop 12 xm_c1176 = xm_c1176_12 := xm_dr d_1176_11
theorem k_1176_12 : xm_gi xm_c1176 12 = some xm_e1176_12 := xm_gt d_1176_12
theorem d_1176_13 : List.drop 13 xm_c1176 = xm_c1176_13 := xm_dr d_1176_12
theorem k_1176_13 : xm_gi xm_c1176 13 = some xm_e1176_13 := xm_gt d_1176_13
theorem d_1176_14 : List.drop 14 xm_c1176 = xm_c1176_14 := xm_dr d_1176_13
theorem k_1176_14 : xm_gi xm_c1176 14 = some xm_e1176_14 := xm_gt d_1176_14
theorem d_1176_15 : List.drop 15 xm_c1176 = xm_c1176_15 := xm_dr d_1176_14
theorem k_1176_15 : xm_gi xm_c1176 15 = some xm_e1176_15 := xm_gt d_1176_15
theorem d_1176_16 : List.drop 16 xm_c1176 = xm_c1176_16 := xm_dr d_1176_15
theorem k_1176_16 : xm_gi xm_c1176 16 = some xm_e1176_16 := xm_gt d_1176_16
theorem d_1176_17 : List.drop 17 xm_c1176 = xm_c1176_17 := xm_dr d_1176_16
theorem k_1176_17 : xm_gi xm_c1176 17 = some xm_e1176_17 := xm_gt d_1176_17
theorem d_1176_18 : List.drop 18 xm_c1176 = xm_c1176_18 := xm_dr d_1176_17
theorem k_1176_18 : xm_gi xm_c1176 18 = some xm_e1176_18 := xm_gt d_1176_18
theorem d_1176_19 : List.drop 19 xm_c1176 = xm_c1176_19 := xm_dr d_1176_18
theorem k_1176_19 : xm_gi xm_c1176 19 = some xm_e1176_19 := xm_gt d_1176_19
theorem d_1176_20 : List.drop 20 xm_c1176 = xm_c1176_20 := xm_dr d_1176_19
theorem k_1176_20 : xm_gi xm_c1176 20 = some xm_e1176_20 := xm_gt d_1176_20
theorem d_1176_21 : List.drop 21 xm_c1176 = xm_c1176_21 := xm_dr d_1176_20
theorem k_1176_21 : xm_gi xm_c1176 21 = some xm_e1176_21 := xm_gt d_1176_21
theorem d_1176_22 : List.drop 22 xm_c1176 = xm_c1176_22 := xm_dr d_1176_21
theorem k_1176_22 : xm_gi xm_c1176 22 = some xm_e1176_22 := xm_gt d_1176_22
theorem d_1176_23 : List.drop 23 xm_c1176 = xm_c1176_23 := xm_dr d_1176_22
theorem k_1176_23 : xm_gi xm_c1176 23 = some xm_e1176_23 := xm_gt d_1176_23
theorem d_1176_24 : List.drop 24 xm_c1176 = xm_c1176_24 := xm_dr d_1176_23
theorem k_1176_24 : xm_gi xm_c1176 24 = some xm_e1176_24 := xm_gt d_1176_24
theorem d_1176_25 : List.drop 25 xm_c1176 = xm_c1176_25 := xm_dr d_1176_24
theorem k_1176_25 : xm_gi xm_c1176 25 = some xm_e1176_25 := xm_gt d_1176_25
theorem d_1176_26 : List.drop 26 xm_c1176 = xm_c1176_26 := xm_dr d_1176_25
theorem k_1176_26 : xm_gi xm_c1176 26 = some xm_e1176_26 := xm_gt d_1176_26
theorem d_1176_27 : List.drop 27 xm_c1176 = xm_c1176_27 := xm_dr d_1176_26
theorem k_1176_27 : xm_gi xm_c1176 27 = some xm_e1176_27 := xm_gt d_1176_27
theorem d_1176_28 : List.drop 28 xm_c1176 = xm_c1176_28 := xm_dr d_1176_27
theorem k_1176_28 : xm_gi xm_c1176 28 = some xm_e1176_28 := xm_gt d_1176_28
theorem d_1176_29 : List.drop 29 xm_c1176 = xm_c1176_29 := xm_dr d_1176_28
theorem k_1176_29 : xm_gi xm_c1176 29 = some xm_e1176_29 := xm_gt d_1176_29
theorem d_1176_30 : List.drop 30 xm_c1176 = xm_c1176_30 := xm_dr d_1176_29
theorem k_1176_30 : xm_gi xm_c1176 30 = some xm_e1176_30 := xm_gt d_1176_30
theorem d_1176_31 : List.drop 31 xm_c1176 = xm_c1176_31 := xm_dr d_1176_30
theorem k_1176_31 : xm_gi xm_c1176 31 = some xm_e1176_31 := xm_gt d_1176_31
theorem d_1176_32 : List.drop 32 xm_c1176 = xm_c1176_32 := xm_dr d_1176_31
theorem k_1176_32 : xm_gi xm_c1176 32 = some xm_e1176_32 := xm_gt d_1176_32
theorem d_1176_33 : List.drop 33 xm_c1176 = xm_c1176_33 := xm_dr d_1176_32
theorem k_1176_33 : xm_gi xm_c1176 33 = some xm_e1176_33 := xm_gt d_1176_33
theorem d_1176_34 : List.drop 34 xm_c1176 = xm_c1176_34 := xm_dr d_1176_33
theorem k_1176_34 : xm_gi xm_c1176 34 = some xm_e1176_34 := xm_gt d_1176_34
theorem d_1176_35 : List.drop 35 xm_c1176 = xm_c1176_35 := xm_dr d_1176_34
theorem k_1176_35 : xm_gi xm_c1176 35 = some xm_e1176_35 := xm_gt d_1176_35
theorem d_1176_36 : List.drop 36 xm_c1176 = xm_c1176_36 := xm_dr d_1176_35
theorem k_1176_36 : xm_gi xm_c1176 36 = some xm_e1176_36 := xm_gt d_1176_36
theorem d_1176_37 : List.drop 37 xm_c1176 = xm_c1176_37 := xm_dr d_1176_36
theorem k_1176_37 : xm_gi xm_c1176 37 = some xm_e1176_37 := xm_gt d_1176_37
theorem d_1176_38 : List.drop 38 xm_c1176 = xm_c1176_38 := xm_dr d_1176_37
theorem k_1176_38 : xm_gi xm_c1176 38 = some xm_e1176_38 := xm_gt d_1176_38
theorem d_1176_39 : List.drop 39 xm_c1176 = xm_c1176_39 := xm_dr d_1176_38
theorem k_1176_39 : xm_gi xm_c1176 39 = some xm_e1176_39 := xm_gt d_1176_39
theorem d_1176_40 : List.drop 40 xm_c1176 = xm_c1176_40 := xm_dr d_1176_39
theorem k_1176_40 : xm_gi xm_c1176 40 = some xm_e1176_40 := xm_gt d_1176_40
theorem d_1176_41 : List.drop 41 xm_c1176 = xm_c1176_41 := xm_dr d_1176_40
theorem k_1176_41 : xm_gi xm_c1176 41 = some xm_e1176_41 := xm_gt d_1176_41
theorem d_1176_42 : List.drop 42 xm_c1176 = xm_c1176_42 := xm_dr d_1176_41
theorem k_1176_42 : xm_gi xm_c1176 42 = some xm_e1176_42 := xm_gt d_1176_42
theorem d_1176_43 : List.drop 43 xm_c1176 = xm_c1176_43 := xm_dr d_1176_42
theorem k_1176_43 : xm_gi xm_c1176 43 = some xm_e1176_43 := xm_gt d_1176_43
theorem d_1176_44 : List.drop 44 xm_c1176 = xm_c1176_44 := xm_dr d_1176_43
theorem k_1176_44 : xm_gi xm_c1176 44 = some xm_e1176_44 := xm_gt d_1176_44
theorem xb_1176_0 {sc : List Int} {f : Nat → List xm_V → xm_W → xm_R} {w : xm_W} {Q : Option xm_V × xm_W → Prop} {x0 : Nat} {x1 : Int} {x2 : Int} {x3 : Int}
  (h : xm_Oi (f 1109 [.inr (.inl (some x0)), .inl x1] w) (fun z2 w1 => if (z2 : Int) = 0 then (xm_Oi (f 1102 [.inr (.inl (some x0)), .inl 1] w1) (fun z4 w3 => Q (some (.inl z4), w3))) else (xm_Oi (f 1108 [.inl x2] w1) (fun z6 w5 => if (z6 : Int) = 0 then (xm_Oi (f 1102 [.inr (.inl (some x0)), .inl 1] w5) (fun z8 w7 => Q (some (.inl z8), w7))) else (xm_O (xm_fr (xm_old sc) w5 x0 9 0) (fun r9 => xm_O (xm_ints (xm_old sc) w5 r9) (fun l10 => xm_O (xm_at l10 1) (fun z11 => xm_Oi (f 1103 [.inl x3, .inl 0, .inl z11] w5) (fun z13 w12 => if (z13 : Int) = 0 then (xm_Oi (f 1102 [.inr (.inl (some x0)), .inl 1] w12) (fun z15 w14 => Q (some (.inl z15), w14))) else (xm_EQ (xm_old sc) xm_sta f xm_c1176 23 [some (.inr (.inl (some x0))), some (.inl x1), some (.inl x2), some (.inl x3), some (.inl 0), some (.inl 0)] [] w12 Q)))))))))) :
  xm_EQ (xm_old sc) xm_sta f xm_c1176 0 [some (.inr (.inl (some x0))), some (.inl x1), some (.inl x2), some (.inl x3), none, none] [] w Q :=
  (xq_aload_n k_1176_0 rfl (xq_iload_n k_1176_1 rfl (xq_invv2 k_1176_2 xr_1109 rfl rfl rfl h (fun z2 w1 h => (xq_if_eq k_1176_3 h (fun h => (xq_aload_n k_1176_15 rfl (xq_iconst k_1176_16 (xq_invv1 k_1176_17 xr_1102 rfl rfl rfl h (fun z4 w3 h => (xq_ireturn k_1176_18 h)))))) (fun h => (xq_iload_n k_1176_4 rfl (xq_invs2 k_1176_5 xr_1108 rfl rfl rfl h (fun z6 w5 h => (xq_if_eq k_1176_6 h (fun h => (xq_aload_n k_1176_15 rfl (xq_iconst k_1176_16 (xq_invv1 k_1176_17 xr_1102 rfl rfl rfl h (fun z8 w7 h => (xq_ireturn k_1176_18 h)))))) (fun h => (xq_iload_n k_1176_7 rfl (xq_iconst k_1176_8 (xq_aload_n k_1176_9 rfl (xq_getr k_1176_10 rfl h (fun r9 h => (xq_iconst k_1176_11 (xq_iaload k_1176_12 h (fun l10 h => h) (fun l10 z11 h => (xq_invs2 k_1176_13 xr_1103 rfl rfl rfl h (fun z13 w12 h => (xq_if_ne k_1176_14 h (fun h => (xq_aload_n k_1176_15 rfl (xq_iconst k_1176_16 (xq_invv1 k_1176_17 xr_1102 rfl rfl rfl h (fun z15 w14 h => (xq_ireturn k_1176_18 h)))))) (fun h => (xq_iconst k_1176_19 (xq_istore k_1176_20 rfl (xq_iconst k_1176_21 (xq_istore k_1176_22 rfl h)))))))))))))))))))))))))))
theorem xb_1176_23 {sc : List Int} {f : Nat → List xm_V → xm_W → xm_R} {w : xm_W} {Q : Option xm_V × xm_W → Prop} {x0 : Nat} {x1 : Int} {x2 : Int} {x3 : Int} {x4 : Int} {x5 : Int}
  (h : if (x5 : Int) < 6 then (xm_Oi (f 1175 [.inr (.inl (some x0)), .inl x1, .inl x5, .inl x2, .inl x3] w) (fun z2 w1 => if (z2 : Int) = 0 then (xm_EQ (xm_old sc) xm_sta f xm_c1176 23 [some (.inr (.inl (some x0))), some (.inl x1), some (.inl x2), some (.inl x3), some (.inl (xm_or x4 0)), some (.inl (xm_w (x5 + 1)))] [] w1 Q) else (xm_EQ (xm_old sc) xm_sta f xm_c1176 23 [some (.inr (.inl (some x0))), some (.inl x1), some (.inl x2), some (.inl x3), some (.inl (xm_or x4 (xm_shl 1 x5))), some (.inl (xm_w (x5 + 1)))] [] w1 Q))) else (Q (some (.inl x4), w))) :
  xm_EQ (xm_old sc) xm_sta f xm_c1176 23 [some (.inr (.inl (some x0))), some (.inl x1), some (.inl x2), some (.inl x3), some (.inl x4), some (.inl x5)] [] w Q :=
  (xq_iload k_1176_23 rfl (xq_bipush k_1176_24 (xq_ic_ge k_1176_25 h (fun h => (xq_iload k_1176_26 rfl (xq_aload_n k_1176_27 rfl (xq_iload_n k_1176_28 rfl (xq_iload k_1176_29 rfl (xq_iload_n k_1176_30 rfl (xq_iload_n k_1176_31 rfl (xq_invv2 k_1176_32 xr_1175 rfl rfl rfl h (fun z2 w1 h => (xq_if_eq k_1176_33 h (fun h => (xq_iconst k_1176_38 (xq_ior k_1176_39 (xq_istore k_1176_40 rfl (xq_iinc k_1176_41 rfl rfl (xq_goto k_1176_42 h)))))) (fun h => (xq_iconst k_1176_34 (xq_iload k_1176_35 rfl (xq_ishl k_1176_36 (xq_goto k_1176_37 (xq_ior k_1176_39 (xq_istore k_1176_40 rfl (xq_iinc k_1176_41 rfl rfl (xq_goto k_1176_42 h))))))))))))))))))) (fun h => (xq_iload k_1176_43 rfl (xq_ireturn k_1176_44 h))))))
/-- ShodBackwardsModel.far(II)I -/
theorem d_1177_0 : List.drop 0 xm_c1177 = xm_c1177 := rfl
theorem k_1177_0 : xm_gi xm_c1177 0 = some xm_e1177_0 := xm_gt d_1177_0
theorem d_1177_1 : List.drop 1 xm_c1177 = xm_c1177_1 := xm_dr d_1177_0
theorem k_1177_1 : xm_gi xm_c1177 1 = some xm_e1177_1 := xm_gt d_1177_1
theorem d_1177_2 : List.drop 2 xm_c1177 = xm_c1177_2 := xm_dr d_1177_1
theorem k_1177_2 : xm_gi xm_c1177 2 = some xm_e1177_2 := xm_gt d_1177_2
theorem d_1177_3 : List.drop 3 xm_c1177 = xm_c1177_3 := xm_dr d_1177_2
theorem k_1177_3 : xm_gi xm_c1177 3 = some xm_e1177_3 := xm_gt d_1177_3
theorem d_1177_4 : List.drop 4 xm_c1177 = xm_c1177_4 := xm_dr d_1177_3
theorem k_1177_4 : xm_gi xm_c1177 4 = some xm_e1177_4 := xm_gt d_1177_4
theorem d_1177_5 : List.drop 5 xm_c1177 = xm_c1177_5 := xm_dr d_1177_4
theorem k_1177_5 : xm_gi xm_c1177 5 = some xm_e1177_5 := xm_gt d_1177_5
theorem d_1177_6 : List.drop 6 xm_c1177 = xm_c1177_6 := xm_dr d_1177_5
theorem k_1177_6 : xm_gi xm_c1177 6 = some xm_e1177_6 := xm_gt d_1177_6
theorem d_1177_7 : List.drop 7 xm_c1177 = xm_c1177_7 := xm_dr d_1177_6
theorem k_1177_7 : xm_gi xm_c1177 7 = some xm_e1177_7 := xm_gt d_1177_7
theorem d_1177_8 : List.drop 8 xm_c1177 = xm_c1177_8 := xm_dr d_1177_7
theorem k_1177_8 : xm_gi xm_c1177 8 = some xm_e1177_8 := xm_gt d_1177_8
theorem d_1177_9 : List.drop 9 xm_c1177 = xm_c1177_9 := xm_dr d_1177_8
theorem k_1177_9 : xm_gi xm_c1177 9 = some xm_e1177_9 := xm_gt d_1177_9
theorem d_1177_10 : List.drop 10 xm_c1177 = xm_c1177_10 := xm_dr d_1177_9
theorem k_1177_10 : xm_gi xm_c1177 10 = some xm_e1177_10 := xm_gt d_1177_10
theorem d_1177_11 : List.drop 11 xm_c1177 = xm_c1177_11 := xm_dr d_1177_10
theorem k_1177_11 : xm_gi xm_c1177 11 = some xm_e1177_11 := xm_gt d_1177_11
theorem d_1177_12 : List.drop 12 xm_c1177 = xm_c1177_12 := xm_dr d_1177_11
theorem k_1177_12 : xm_gi xm_c1177 12 = some xm_e1177_12 := xm_gt d_1177_12
theorem d_1177_13 : List.drop 13 xm_c1177 = xm_c1177_13 := xm_dr d_1177_12
theorem k_1177_13 : xm_gi xm_c1177 13 = some xm_e1177_13 := xm_gt d_1177_13
theorem d_1177_14 : List.drop 14 xm_c1177 = xm_c1177_14 := xm_dr d_1177_13
theorem k_1177_14 : xm_gi xm_c1177 14 = some xm_e1177_14 := xm_gt d_1177_14
theorem d_1177_15 : List.drop 15 xm_c1177 = xm_c1177_15 := xm_dr d_1177_14
theorem k_1177_15 : xm_gi xm_c1177 15 = some xm_e1177_15 := xm_gt d_1177_15
theorem d_1177_16 : List.drop 16 xm_c1177 = xm_c1177_16 := xm_dr d_1177_15
theorem k_1177_16 : xm_gi xm_c1177 16 = some xm_e1177_16 := xm_gt d_1177_16
theorem d_1177_17 : List.drop 17 xm_c1177 = xm_c1177_17 := xm_dr d_1177_16
theorem k_1177_17 : xm_gi xm_c1177 17 = some xm_e1177_17 := xm_gt d_1177_17
theorem d_1177_18 : List.drop 18 xm_c1177 = xm_c1177_18 := xm_dr d_1177_17
theorem k_1177_18 : xm_gi xm_c1177 18 = some xm_e1177_18 := xm_gt d_1177_18
theorem d_1177_19 : List.drop 19 xm_c1177 = xm_c1177_19 := xm_dr d_1177_18
theorem k_1177_19 : xm_gi xm_c1177 19 = some xm_e1177_19 := xm_gt d_1177_19
theorem d_1177_20 : List.drop 20 xm_c1177 = xm_c1177_20 := xm_dr d_1177_19
theorem k_1177_20 : xm_gi xm_c1177 20 = some xm_e1177_20 := xm_gt d_1177_20
theorem d_1177_21 : List.drop 21 xm_c1177 = xm_c1177_21 := xm_dr d_1177_20
theorem k_1177_21 : xm_gi xm_c1177 21 = some xm_e1177_21 := xm_gt d_1177_21
theorem d_1177_22 : List.drop 22 xm_c1177 = xm_c1177_22 := xm_dr d_1177_21
theorem k_1177_22 : xm_gi xm_c1177 22 = some xm_e1177_22 := xm_gt d_1177_22
theorem d_1177_23 : List.drop 23 xm_c1177 = xm_c1177_23 := xm_dr d_1177_22
theorem k_1177_23 : xm_gi xm_c1177 23 = some xm_e1177_23 := xm_gt d_1177_23
theorem d_1177_24 : List.drop 24 xm_c1177 = xm_c1177_24 := xm_dr d_1177_23
theorem k_1177_24 : xm_gi xm_c1177 24 = some xm_e1177_24 := xm_gt d_1177_24
theorem d_1177_25 : List.drop 25 xm_c1177 = xm_c1177_25 := xm_dr d_1177_24
theorem k_1177_25 : xm_gi xm_c1177 25 = some xm_e1177_25 := xm_gt d_1177_25
theorem d_1177_26 : List.drop 26 xm_c1177 = xm_c1177_26 := xm_dr d_1177_25
theorem k_1177_26 : xm_gi xm_c1177 26 = some xm_e1177_26 := xm_gt d_1177_26
theorem d_1177_27 : List.drop 27 xm_c1177 = xm_c1177_27 := xm_dr d_1177_26
theorem k_1177_27 : xm_gi xm_c1177 27 = some xm_e1177_27 := xm_gt d_1177_27
theorem d_1177_28 : List.drop 28 xm_c1177 = xm_c1177_28 := xm_dr d_1177_27
theorem k_1177_28 : xm_gi xm_c1177 28 = some xm_e1177_28 := xm_gt d_1177_28
theorem d_1177_29 : List.drop 29 xm_c1177 = xm_c1177_29 := xm_dr d_1177_28
theorem k_1177_29 : xm_gi xm_c1177 29 = some xm_e1177_29 := xm_gt d_1177_29
theorem xb_1177_0 {sc : List Int} {f : Nat → List xm_V → xm_W → xm_R} {w : xm_W} {Q : Option xm_V × xm_W → Prop} {x0 : Int} {x1 : Int}
  (h : (6 : Int) ≠ 0 ∧ ((6 : Int) ≠ 0 ∧ ((6 : Int) ≠ 0 ∧ ((6 : Int) ≠ 0 ∧ (if ((xm_w ((xm_w (Int.tdiv x0 6)) - (xm_w (Int.tdiv x1 6)))) : Int) < 0 then (if ((xm_w ((Int.tmod x0 6) - (Int.tmod x1 6))) : Int) < 0 then (Q (some (.inl (xm_w ((xm_w (-(xm_w ((xm_w (Int.tdiv x0 6)) - (xm_w (Int.tdiv x1 6)))))) + (xm_w (-(xm_w ((Int.tmod x0 6) - (Int.tmod x1 6)))))))), w)) else (Q (some (.inl (xm_w ((xm_w (-(xm_w ((xm_w (Int.tdiv x0 6)) - (xm_w (Int.tdiv x1 6)))))) + (xm_w ((Int.tmod x0 6) - (Int.tmod x1 6)))))), w))) else (if ((xm_w ((Int.tmod x0 6) - (Int.tmod x1 6))) : Int) < 0 then (Q (some (.inl (xm_w ((xm_w ((xm_w (Int.tdiv x0 6)) - (xm_w (Int.tdiv x1 6)))) + (xm_w (-(xm_w ((Int.tmod x0 6) - (Int.tmod x1 6)))))))), w)) else (Q (some (.inl (xm_w ((xm_w ((xm_w (Int.tdiv x0 6)) - (xm_w (Int.tdiv x1 6)))) + (xm_w ((Int.tmod x0 6) - (Int.tmod x1 6)))))), w)))))))) :
  xm_EQ (xm_old sc) xm_sta f xm_c1177 0 [some (.inl x0), some (.inl x1), none, none] [] w Q :=
  (xq_iload_n k_1177_0 rfl (xq_bipush k_1177_1 (xq_idiv k_1177_2 h (fun h => (xq_iload_n k_1177_3 rfl (xq_bipush k_1177_4 (xq_idiv k_1177_5 h (fun h => (xq_isub k_1177_6 (xq_istore_n k_1177_7 rfl (xq_iload_n k_1177_8 rfl (xq_bipush k_1177_9 (xq_irem k_1177_10 h (fun h => (xq_iload_n k_1177_11 rfl (xq_bipush k_1177_12 (xq_irem k_1177_13 h (fun h => (xq_isub k_1177_14 (xq_istore_n k_1177_15 rfl (xq_iload_n k_1177_16 rfl (xq_if_ge k_1177_17 h (fun h => (xq_iload_n k_1177_18 rfl (xq_ineg k_1177_19 (xq_goto k_1177_20 (xq_iload_n k_1177_22 rfl (xq_if_ge k_1177_23 h (fun h => (xq_iload_n k_1177_24 rfl (xq_ineg k_1177_25 (xq_goto k_1177_26 (xq_iadd k_1177_28 (xq_ireturn k_1177_29 h)))))) (fun h => (xq_iload_n k_1177_27 rfl (xq_iadd k_1177_28 (xq_ireturn k_1177_29 h)))))))))) (fun h => (xq_iload_n k_1177_21 rfl (xq_iload_n k_1177_22 rfl (xq_if_ge k_1177_23 h (fun h => (xq_iload_n k_1177_24 rfl (xq_ineg k_1177_25 (xq_goto k_1177_26 (xq_iadd k_1177_28 (xq_ireturn k_1177_29 h)))))) (fun h => (xq_iload_n k_1177_27 rfl (xq_iadd k_1177_28 (xq_ireturn k_1177_29 h))))))))))))))))))))))))))))))
/-- ShodBackwardsModel.leastFound(II)I -/
theorem d_1178_0 : List.drop 0 xm_c1178 = xm_c1178 := rfl
theorem k_1178_0 : xm_gi xm_c1178 0 = some xm_e1178_0 := xm_gt d_1178_0
theorem d_1178_1 : List.drop 1 xm_c1178 = xm_c1178_1 := xm_dr d_1178_0
theorem k_1178_1 : xm_gi xm_c1178 1 = some xm_e1178_1 := xm_gt d_1178_1
theorem d_1178_2 : List.drop 2 xm_c1178 = xm_c1178_2 := xm_dr d_1178_1
theorem k_1178_2 : xm_gi xm_c1178 2 = some xm_e1178_2 := xm_gt d_1178_2
theorem d_1178_3 : List.drop 3 xm_c1178 = xm_c1178_3 := xm_dr d_1178_2
theorem k_1178_3 : xm_gi xm_c1178 3 = some xm_e1178_3 := xm_gt d_1178_3
theorem d_1178_4 : List.drop 4 xm_c1178 = xm_c1178_4 := xm_dr d_1178_3
theorem k_1178_4 : xm_gi xm_c1178 4 = some xm_e1178_4 := xm_gt d_1178_4
theorem d_1178_5 : List.drop 5 xm_c1178 = xm_c1178_5 := xm_dr d_1178_4
theorem k_1178_5 : xm_gi xm_c1178 5 = some xm_e1178_5 := xm_gt d_1178_5
theorem d_1178_6 : List.drop 6 xm_c1178 = xm_c1178_6 := xm_dr d_1178_5
theorem k_1178_6 : xm_gi xm_c1178 6 = some xm_e1178_6 := xm_gt d_1178_6
theorem d_1178_7 : List.drop 7 xm_c1178 = xm_c1178_7 := xm_dr d_1178_6
theorem k_1178_7 : xm_gi xm_c1178 7 = some xm_e1178_7 := xm_gt d_1178_7
theorem d_1178_8 : List.drop 8 xm_c1178 = xm_c1178_8 := xm_dr d_1178_7
theorem k_1178_8 : xm_gi xm_c1178 8 = some xm_e1178_8 := xm_gt d_1178_8
theorem d_1178_9 : List.drop 9 xm_c1178 = xm_c1178_9 := xm_dr d_1178_8
theorem k_1178_9 : xm_gi xm_c1178 9 = some xm_e1178_9 := xm_gt d_1178_9
theorem d_1178_10 : List.drop 10 xm_c1178 = xm_c1178_10 := xm_dr d_1178_9
theorem k_1178_10 : xm_gi xm_c1178 10 = some xm_e1178_10 := xm_gt d_1178_10
theorem d_1178_11 : List.drop 11 xm_c1178 = xm_c1178_11 := xm_dr d_1178_10
theorem k_1178_11 : xm_gi xm_c1178 11 = some xm_e1178_11 := xm_gt d_1178_11
theorem d_1178_12 : List.drop 12 xm_c1178 = xm_c1178_12 := xm_dr d_1178_11
theorem k_1178_12 : xm_gi xm_c1178 12 = some xm_e1178_12 := xm_gt d_1178_12
theorem d_1178_13 : List.drop 13 xm_c1178 = xm_c1178_13 := xm_dr d_1178_12
theorem k_1178_13 : xm_gi xm_c1178 13 = some xm_e1178_13 := xm_gt d_1178_13
theorem d_1178_14 : List.drop 14 xm_c1178 = xm_c1178_14 := xm_dr d_1178_13
theorem k_1178_14 : xm_gi xm_c1178 14 = some xm_e1178_14 := xm_gt d_1178_14
theorem d_1178_15 : List.drop 15 xm_c1178 = xm_c1178_15 := xm_dr d_1178_14
theorem k_1178_15 : xm_gi xm_c1178 15 = some xm_e1178_15 := xm_gt d_1178_15
theorem d_1178_16 : List.drop 16 xm_c1178 = xm_c1178_16 := xm_dr d_1178_15
theorem k_1178_16 : xm_gi xm_c1178 16 = some xm_e1178_16 := xm_gt d_1178_16
theorem d_1178_17 : List.drop 17 xm_c1178 = xm_c1178_17 := xm_dr d_1178_16
theorem k_1178_17 : xm_gi xm_c1178 17 = some xm_e1178_17 := xm_gt d_1178_17
theorem d_1178_18 : List.drop 18 xm_c1178 = xm_c1178_18 := xm_dr d_1178_17
theorem k_1178_18 : xm_gi xm_c1178 18 = some xm_e1178_18 := xm_gt d_1178_18
theorem d_1178_19 : List.drop 19 xm_c1178 = xm_c1178_19 := xm_dr d_1178_18
theorem k_1178_19 : xm_gi xm_c1178 19 = some xm_e1178_19 := xm_gt d_1178_19
theorem d_1178_20 : List.drop 20 xm_c1178 = xm_c1178_20 := xm_dr d_1178_19
theorem k_1178_20 : xm_gi xm_c1178 20 = some xm_e1178_20 := xm_gt d_1178_20
theorem d_1178_21 : List.drop 21 xm_c1178 = xm_c1178_21 := xm_dr d_1178_20
theorem k_1178_21 : xm_gi xm_c1178 21 = some xm_e1178_21 := xm_gt d_1178_21
theorem d_1178_22 : List.drop 22 xm_c1178 = xm_c1178_22 := xm_dr d_1178_21
theorem k_1178_22 : xm_gi xm_c1178 22 = some xm_e1178_22 := xm_gt d_1178_22
theorem d_1178_23 : List.drop 23 xm_c1178 = xm_c1178_23 := xm_dr d_1178_22
theorem k_1178_23 : xm_gi xm_c1178 23 = some xm_e1178_23 := xm_gt d_1178_23
theorem d_1178_24 : List.drop 24 xm_c1178 = xm_c1178_24 := xm_dr d_1178_23
theorem k_1178_24 : xm_gi xm_c1178 24 = some xm_e1178_24 := xm_gt d_1178_24
theorem d_1178_25 : List.drop 25 xm_c1178 = xm_c1178_25 := xm_dr d_1178_24
theorem k_1178_25 : xm_gi xm_c1178 25 = some xm_e1178_25 := xm_gt d_1178_25
theorem d_1178_26 : List.drop 26 xm_c1178 = xm_c1178_26 := xm_dr d_1178_25
theorem k_1178_26 : xm_gi xm_c1178 26 = some xm_e1178_26 := xm_gt d_1178_26
theorem d_1178_27 : List.drop 27 xm_c1178 = xm_c1178_27 := xm_dr d_1178_26
theorem k_1178_27 : xm_gi xm_c1178 27 = some xm_e1178_27 := xm_gt d_1178_27
theorem d_1178_28 : List.drop 28 xm_c1178 = xm_c1178_28 := xm_dr d_1178_27
theorem k_1178_28 : xm_gi xm_c1178 28 = some xm_e1178_28 := xm_gt d_1178_28
theorem d_1178_29 : List.drop 29 xm_c1178 = xm_c1178_29 := xm_dr d_1178_28
theorem k_1178_29 : xm_gi xm_c1178 29 = some xm_e1178_29 := xm_gt d_1178_29
theorem d_1178_30 : List.drop 30 xm_c1178 = xm_c1178_30 := xm_dr d_1178_29
theorem k_1178_30 : xm_gi xm_c1178 30 = some xm_e1178_30 := xm_gt d_1178_30
theorem d_1178_31 : List.drop 31 xm_c1178 = xm_c1178_31 := xm_dr d_1178_30
theorem k_1178_31 : xm_gi xm_c1178 31 = some xm_e1178_31 := xm_gt d_1178_31
theorem d_1178_32 : List.drop 32 xm_c1178 = xm_c1178_32 := xm_dr d_1178_31
theorem k_1178_32 : xm_gi xm_c1178 32 = some xm_e1178_32 := xm_gt d_1178_32
theorem d_1178_33 : List.drop 33 xm_c1178 = xm_c1178_33 := xm_dr d_1178_32
theorem k_1178_33 : xm_gi xm_c1178 33 = some xm_e1178_33 := xm_gt d_1178_33
theorem d_1178_34 : List.drop 34 xm_c1178 = xm_c1178_34 := xm_dr d_1178_33
theorem k_1178_34 : xm_gi xm_c1178 34 = some xm_e1178_34 := xm_gt d_1178_34
theorem d_1178_35 : List.drop 35 xm_c1178 = xm_c1178_35 := xm_dr d_1178_34
theorem k_1178_35 : xm_gi xm_c1178 35 = some xm_e1178_35 := xm_gt d_1178_35
theorem d_1178_36 : List.drop 36 xm_c1178 = xm_c1178_36 := xm_dr d_1178_35
theorem k_1178_36 : xm_gi xm_c1178 36 = some xm_e1178_36 := xm_gt d_1178_36
theorem d_1178_37 : List.drop 37 xm_c1178 = xm_c1178_37 := xm_dr d_1178_36
theorem k_1178_37 : xm_gi xm_c1178 37 = some xm_e1178_37 := xm_gt d_1178_37
theorem d_1178_38 : List.drop 38 xm_c1178 = xm_c1178_38 := xm_dr d_1178_37
theorem k_1178_38 : xm_gi xm_c1178 38 = some xm_e1178_38 := xm_gt d_1178_38
theorem d_1178_39 : List.drop 39 xm_c1178 = xm_c1178_39 := xm_dr d_1178_38
theorem k_1178_39 : xm_gi xm_c1178 39 = some xm_e1178_39 := xm_gt d_1178_39
theorem d_1178_40 : List.drop 40 xm_c1178 = xm_c1178_40 := xm_dr d_1178_39
theorem k_1178_40 : xm_gi xm_c1178 40 = some xm_e1178_40 := xm_gt d_1178_40
theorem d_1178_41 : List.drop 41 xm_c1178 = xm_c1178_41 := xm_dr d_1178_40
theorem k_1178_41 : xm_gi xm_c1178 41 = some xm_e1178_41 := xm_gt d_1178_41
theorem d_1178_42 : List.drop 42 xm_c1178 = xm_c1178_42 := xm_dr d_1178_41
theorem k_1178_42 : xm_gi xm_c1178 42 = some xm_e1178_42 := xm_gt d_1178_42
theorem d_1178_43 : List.drop 43 xm_c1178 = xm_c1178_43 := xm_dr d_1178_42
theorem k_1178_43 : xm_gi xm_c1178 43 = some xm_e1178_43 := xm_gt d_1178_43
theorem d_1178_44 : List.drop 44 xm_c1178 = xm_c1178_44 := xm_dr d_1178_43
theorem k_1178_44 : xm_gi xm_c1178 44 = some xm_e1178_44 := xm_gt d_1178_44
theorem d_1178_45 : List.drop 45 xm_c1178 = xm_c1178_45 := xm_dr d_1178_44
theorem k_1178_45 : xm_gi xm_c1178 45 = some xm_e1178_45 := xm_gt d_1178_45
theorem d_1178_46 : List.drop 46 xm_c1178 = xm_c1178_46 := xm_dr d_1178_45
theorem k_1178_46 : xm_gi xm_c1178 46 = some xm_e1178_46 := xm_gt d_1178_46
theorem d_1178_47 : List.drop 47 xm_c1178 = xm_c1178_47 := xm_dr d_1178_46
theorem k_1178_47 : xm_gi xm_c1178 47 = some xm_e1178_47 := xm_gt d_1178_47
theorem d_1178_48 : List.drop 48 xm_c1178 = xm_c1178_48 := xm_dr d_1178_47
theorem k_1178_48 : xm_gi xm_c1178 48 = some xm_e1178_48 := xm_gt d_1178_48
theorem d_1178_49 : List.drop 49 xm_c1178 = xm_c1178_49 := xm_dr d_1178_48
theorem k_1178_49 : xm_gi xm_c1178 49 = some xm_e1178_49 := xm_gt d_1178_49
theorem d_1178_50 : List.drop 50 xm_c1178 = xm_c1178_50 := xm_dr d_1178_49
theorem k_1178_50 : xm_gi xm_c1178 50 = some xm_e1178_50 := xm_gt d_1178_50
theorem d_1178_51 : List.drop 51 xm_c1178 = xm_c1178_51 := xm_dr d_1178_50
theorem k_1178_51 : xm_gi xm_c1178 51 = some xm_e1178_51 := xm_gt d_1178_51
theorem d_1178_52 : List.drop 52 xm_c1178 = xm_c1178_52 := xm_dr d_1178_51
theorem k_1178_52 : xm_gi xm_c1178 52 = some xm_e1178_52 := xm_gt d_1178_52
theorem d_1178_53 : List.drop 53 xm_c1178 = xm_c1178_53 := xm_dr d_1178_52
theorem k_1178_53 : xm_gi xm_c1178 53 = some xm_e1178_53 := xm_gt d_1178_53
theorem d_1178_54 : List.drop 54 xm_c1178 = xm_c1178_54 := xm_dr d_1178_53
theorem k_1178_54 : xm_gi xm_c1178 54 = some xm_e1178_54 := xm_gt d_1178_54
theorem d_1178_55 : List.drop 55 xm_c1178 = xm_c1178_55 := xm_dr d_1178_54
theorem k_1178_55 : xm_gi xm_c1178 55 = some xm_e1178_55 := xm_gt d_1178_55
theorem d_1178_56 : List.drop 56 xm_c1178 = xm_c1178_56 := xm_dr d_1178_55
theorem k_1178_56 : xm_gi xm_c1178 56 = some xm_e1178_56 := xm_gt d_1178_56
theorem d_1178_57 : List.drop 57 xm_c1178 = xm_c1178_57 := xm_dr d_1178_56
theorem k_1178_57 : xm_gi xm_c1178 57 = some xm_e1178_57 := xm_gt d_1178_57
theorem d_1178_58 : List.drop 58 xm_c1178 = xm_c1178_58 := xm_dr d_1178_57
theorem k_1178_58 : xm_gi xm_c1178 58 = some xm_e1178_58 := xm_gt d_1178_58
theorem d_1178_59 : List.drop 59 xm_c1178 = xm_c1178_59 := xm_dr d_1178_58
theorem k_1178_59 : xm_gi xm_c1178 59 = some xm_e1178_59 := xm_gt d_1178_59
theorem d_1178_60 : List.drop 60 xm_c1178 = xm_c1178_60 := xm_dr d_1178_59
theorem k_1178_60 : xm_gi xm_c1178 60 = some xm_e1178_60 := xm_gt d_1178_60
theorem d_1178_61 : List.drop 61 xm_c1178 = xm_c1178_61 := xm_dr d_1178_60
theorem k_1178_61 : xm_gi xm_c1178 61 = some xm_e1178_61 := xm_gt d_1178_61
theorem d_1178_62 : List.drop 62 xm_c1178 = xm_c1178_62 := xm_dr d_1178_61
theorem k_1178_62 : xm_gi xm_c1178 62 = some xm_e1178_62 := xm_gt d_1178_62
theorem d_1178_63 : List.drop 63 xm_c1178 = xm_c1178_63 := xm_dr d_1178_62
theorem k_1178_63 : xm_gi xm_c1178 63 = some xm_e1178_63 := xm_gt d_1178_63
theorem xb_1178_0 {sc : List Int} {f : Nat → List xm_V → xm_W → xm_R} {w : xm_W} {Q : Option xm_V × xm_W → Prop} {x0 : Nat} {x1 : Int} {x2 : Int}
  (h : xm_Oi (f 1109 [.inr (.inl (some x0)), .inl x1] w) (fun z2 w1 => if (z2 : Int) = 0 then (xm_Oi (f 1102 [.inr (.inl (some x0)), .inl 1] w1) (fun z4 w3 => Q (some (.inl z4), w3))) else (xm_Oi (f 1103 [.inl x2, .inl 1, .inl 12] w1) (fun z6 w5 => if (z6 : Int) = 0 then (xm_Oi (f 1102 [.inr (.inl (some x0)), .inl 1] w5) (fun z10 w9 => Q (some (.inl z10), w9))) else (xm_Oi (f 1110 [.inr (.inl (some x0)), .inl x1, .inl 2] w5) (fun z8 w7 => xm_EQ (xm_old sc) xm_sta f xm_c1178 24 [some (.inr (.inl (some x0))), some (.inl x1), some (.inl x2), some (.inl z8), some (.inl (-1)), some (.inl 0), some (.inl 0), none] [] w7 Q)))))) :
  xm_EQ (xm_old sc) xm_sta f xm_c1178 0 [some (.inr (.inl (some x0))), some (.inl x1), some (.inl x2), none, none, none, none, none] [] w Q :=
  (xq_aload_n k_1178_0 rfl (xq_iload_n k_1178_1 rfl (xq_invv2 k_1178_2 xr_1109 rfl rfl rfl h (fun z2 w1 h => (xq_if_eq k_1178_3 h (fun h => (xq_aload_n k_1178_9 rfl (xq_iconst k_1178_10 (xq_invv1 k_1178_11 xr_1102 rfl rfl rfl h (fun z4 w3 h => (xq_ireturn k_1178_12 h)))))) (fun h => (xq_iload_n k_1178_4 rfl (xq_iconst k_1178_5 (xq_bipush k_1178_6 (xq_invs2 k_1178_7 xr_1103 rfl rfl rfl h (fun z6 w5 h => (xq_if_ne k_1178_8 h (fun h => (xq_aload_n k_1178_9 rfl (xq_iconst k_1178_10 (xq_invv1 k_1178_11 xr_1102 rfl rfl rfl h (fun z10 w9 h => (xq_ireturn k_1178_12 h)))))) (fun h => (xq_aload_n k_1178_13 rfl (xq_iload_n k_1178_14 rfl (xq_iconst k_1178_15 (xq_invv1 k_1178_16 xr_1110 rfl rfl rfl h (fun z8 w7 h => (xq_istore_n k_1178_17 rfl (xq_iconst k_1178_18 (xq_istore k_1178_19 rfl (xq_iconst k_1178_20 (xq_istore k_1178_21 rfl (xq_iconst k_1178_22 (xq_istore k_1178_23 rfl h)))))))))))))))))))))))))
theorem xb_1178_24 {sc : List Int} {f : Nat → List xm_V → xm_W → xm_R} {w : xm_W} {Q : Option xm_V × xm_W → Prop} {x0 : Nat} {x1 : Int} {x2 : Int} {x3 : Int} {x4 : Int} {x5 : Int} {x6 : Int} {u7 : Option xm_V}
  (h : if (x6 : Int) < 6 then (xm_Ov (f 1106 [.inr (.inl (some x0))] w) (fun w1 => xm_Ov (f 1111 [.inr (.inl (some x0)), .inl x1, .inl 0, .inl x6] w1) (fun w2 => xm_Ov (f 1157 [.inr (.inl (some x0)), .inl x2] w2) (fun w3 => xm_Oi (f 1169 [.inr (.inl (some x0)), .inl x3, .inl 1, .inl 40] w3) (fun z5 w4 => xm_Oi (f 1110 [.inr (.inl (some x0)), .inl x1, .inl 2] w4) (fun z7 w6 => xm_Oi (f 1177 [.inl z5, .inl z7] w6) (fun z9 w8 => xm_Ov (f 1107 [.inr (.inl (some x0))] w8) (fun w10 => if (x4 : Int) = (-1) then (xm_EQ (xm_old sc) xm_sta f xm_c1178 24 [some (.inr (.inl (some x0))), some (.inl x1), some (.inl x2), some (.inl x3), some (.inl x6), some (.inl z9), some (.inl (xm_w (x6 + 1))), some (.inl z9)] [] w10 Q) else (if (x5 : Int) < z9 then (xm_EQ (xm_old sc) xm_sta f xm_c1178 24 [some (.inr (.inl (some x0))), some (.inl x1), some (.inl x2), some (.inl x3), some (.inl x6), some (.inl z9), some (.inl (xm_w (x6 + 1))), some (.inl z9)] [] w10 Q) else (xm_EQ (xm_old sc) xm_sta f xm_c1178 24 [some (.inr (.inl (some x0))), some (.inl x1), some (.inl x2), some (.inl x3), some (.inl x4), some (.inl x5), some (.inl (xm_w (x6 + 1))), some (.inl z9)] [] w10 Q)))))))))) else (Q (some (.inl x4), w))) :
  xm_EQ (xm_old sc) xm_sta f xm_c1178 24 [some (.inr (.inl (some x0))), some (.inl x1), some (.inl x2), some (.inl x3), some (.inl x4), some (.inl x5), some (.inl x6), u7] [] w Q :=
  (xq_iload k_1178_24 rfl (xq_bipush k_1178_25 (xq_ic_ge k_1178_26 h (fun h => (xq_aload_n k_1178_27 rfl (xq_invv0 k_1178_28 xr_1106 rfl rfl rfl h (fun w1 h => (xq_aload_n k_1178_29 rfl (xq_iload_n k_1178_30 rfl (xq_iconst k_1178_31 (xq_iload k_1178_32 rfl (xq_invv0 k_1178_33 xr_1111 rfl rfl rfl h (fun w2 h => (xq_aload_n k_1178_34 rfl (xq_iload_n k_1178_35 rfl (xq_invv0 k_1178_36 xr_1157 rfl rfl rfl h (fun w3 h => (xq_aload_n k_1178_37 rfl (xq_iload_n k_1178_38 rfl (xq_iconst k_1178_39 (xq_bipush k_1178_40 (xq_invv1 k_1178_41 xr_1169 rfl rfl rfl h (fun z5 w4 h => (xq_aload_n k_1178_42 rfl (xq_iload_n k_1178_43 rfl (xq_iconst k_1178_44 (xq_invv1 k_1178_45 xr_1110 rfl rfl rfl h (fun z7 w6 h => (xq_invs1 k_1178_46 xr_1177 rfl rfl rfl h (fun z9 w8 h => (xq_istore k_1178_47 rfl (xq_aload_n k_1178_48 rfl (xq_invv0 k_1178_49 xr_1107 rfl rfl rfl h (fun w10 h => (xq_iload k_1178_50 rfl (xq_iconst k_1178_51 (xq_ic_eq k_1178_52 h (fun h => (xq_iload k_1178_56 rfl (xq_istore k_1178_57 rfl (xq_iload k_1178_58 rfl (xq_istore k_1178_59 rfl (xq_iinc k_1178_60 rfl rfl (xq_goto k_1178_61 h))))))) (fun h => (xq_iload k_1178_53 rfl (xq_iload k_1178_54 rfl (xq_ic_le k_1178_55 h (fun h => (xq_iload k_1178_56 rfl (xq_istore k_1178_57 rfl (xq_iload k_1178_58 rfl (xq_istore k_1178_59 rfl (xq_iinc k_1178_60 rfl rfl (xq_goto k_1178_61 h))))))) (fun h => (xq_iinc k_1178_60 rfl rfl (xq_goto k_1178_61 h))))))))))))))))))))))))))))))))))))))))) (fun h => (xq_iload k_1178_62 rfl (xq_ireturn k_1178_63 h))))))
/-- ShodBackwardsModel.endBehind(II)I -/
theorem d_1179_0 : List.drop 0 xm_c1179 = xm_c1179 := rfl
theorem k_1179_0 : xm_gi xm_c1179 0 = some xm_e1179_0 := xm_gt d_1179_0
theorem d_1179_1 : List.drop 1 xm_c1179 = xm_c1179_1 := xm_dr d_1179_0
theorem k_1179_1 : xm_gi xm_c1179 1 = some xm_e1179_1 := xm_gt d_1179_1
theorem d_1179_2 : List.drop 2 xm_c1179 = xm_c1179_2 := xm_dr d_1179_1
theorem k_1179_2 : xm_gi xm_c1179 2 = some xm_e1179_2 := xm_gt d_1179_2
theorem d_1179_3 : List.drop 3 xm_c1179 = xm_c1179_3 := xm_dr d_1179_2
theorem k_1179_3 : xm_gi xm_c1179 3 = some xm_e1179_3 := xm_gt d_1179_3
theorem d_1179_4 : List.drop 4 xm_c1179 = xm_c1179_4 := xm_dr d_1179_3
theorem k_1179_4 : xm_gi xm_c1179 4 = some xm_e1179_4 := xm_gt d_1179_4
theorem d_1179_5 : List.drop 5 xm_c1179 = xm_c1179_5 := xm_dr d_1179_4
theorem k_1179_5 : xm_gi xm_c1179 5 = some xm_e1179_5 := xm_gt d_1179_5
theorem d_1179_6 : List.drop 6 xm_c1179 = xm_c1179_6 := xm_dr d_1179_5
theorem k_1179_6 : xm_gi xm_c1179 6 = some xm_e1179_6 := xm_gt d_1179_6
theorem d_1179_7 : List.drop 7 xm_c1179 = xm_c1179_7 := xm_dr d_1179_6
theorem k_1179_7 : xm_gi xm_c1179 7 = some xm_e1179_7 := xm_gt d_1179_7
theorem d_1179_8 : List.drop 8 xm_c1179 = xm_c1179_8 := xm_dr d_1179_7
theorem k_1179_8 : xm_gi xm_c1179 8 = some xm_e1179_8 := xm_gt d_1179_8
theorem d_1179_9 : List.drop 9 xm_c1179 = xm_c1179_9 := xm_dr d_1179_8
theorem k_1179_9 : xm_gi xm_c1179 9 = some xm_e1179_9 := xm_gt d_1179_9
theorem d_1179_10 : List.drop 10 xm_c1179 = xm_c1179_10 := xm_dr d_1179_9
theorem k_1179_10 : xm_gi xm_c1179 10 = some xm_e1179_10 := xm_gt d_1179_10
theorem d_1179_11 : List.drop 11 xm_c1179 = xm_c1179_11 := xm_dr d_1179_10
theorem k_1179_11 : xm_gi xm_c1179 11 = some xm_e1179_11 := xm_gt d_1179_11
theorem d_1179_12 : List.drop 12 xm_c1179 = xm_c1179_12 := xm_dr d_1179_11
theorem k_1179_12 : xm_gi xm_c1179 12 = some xm_e1179_12 := xm_gt d_1179_12
theorem d_1179_13 : List.drop 13 xm_c1179 = xm_c1179_13 := xm_dr d_1179_12
theorem k_1179_13 : xm_gi xm_c1179 13 = some xm_e1179_13 := xm_gt d_1179_13
theorem d_1179_14 : List.drop 14 xm_c1179 = xm_c1179_14 := xm_dr d_1179_13
theorem k_1179_14 : xm_gi xm_c1179 14 = some xm_e1179_14 := xm_gt d_1179_14
theorem xb_1179_0 {sc : List Int} {f : Nat → List xm_V → xm_W → xm_R} {w : xm_W} {Q : Option xm_V × xm_W → Prop} {x0 : Nat} {x1 : Int} {x2 : Int}
  (h : xm_Ov (f 1106 [.inr (.inl (some x0))] w) (fun w1 => xm_Ov (f 1157 [.inr (.inl (some x0)), .inl x1] w1) (fun w2 => xm_Oi (f 1169 [.inr (.inl (some x0)), .inl x2, .inl 1, .inl 40] w2) (fun z4 w3 => xm_Ov (f 1107 [.inr (.inl (some x0))] w3) (fun w5 => Q (some (.inl z4), w5)))))) :
  xm_EQ (xm_old sc) xm_sta f xm_c1179 0 [some (.inr (.inl (some x0))), some (.inl x1), some (.inl x2), none] [] w Q :=
  (xq_aload_n k_1179_0 rfl (xq_invv0 k_1179_1 xr_1106 rfl rfl rfl h (fun w1 h => (xq_aload_n k_1179_2 rfl (xq_iload_n k_1179_3 rfl (xq_invv0 k_1179_4 xr_1157 rfl rfl rfl h (fun w2 h => (xq_aload_n k_1179_5 rfl (xq_iload_n k_1179_6 rfl (xq_iconst k_1179_7 (xq_bipush k_1179_8 (xq_invv1 k_1179_9 xr_1169 rfl rfl rfl h (fun z4 w3 h => (xq_istore_n k_1179_10 rfl (xq_aload_n k_1179_11 rfl (xq_invv0 k_1179_12 xr_1107 rfl rfl rfl h (fun w5 h => (xq_iload_n k_1179_13 rfl (xq_ireturn k_1179_14 h)))))))))))))))))))
/-- ShodBackwardsModel.decoy(III)I -/
theorem d_1180_0 : List.drop 0 xm_c1180 = xm_c1180 := rfl
theorem k_1180_0 : xm_gi xm_c1180 0 = some xm_e1180_0 := xm_gt d_1180_0
theorem d_1180_1 : List.drop 1 xm_c1180 = xm_c1180_1 := xm_dr d_1180_0
theorem k_1180_1 : xm_gi xm_c1180 1 = some xm_e1180_1 := xm_gt d_1180_1
theorem d_1180_2 : List.drop 2 xm_c1180 = xm_c1180_2 := xm_dr d_1180_1
theorem k_1180_2 : xm_gi xm_c1180 2 = some xm_e1180_2 := xm_gt d_1180_2
theorem d_1180_3 : List.drop 3 xm_c1180 = xm_c1180_3 := xm_dr d_1180_2
theorem k_1180_3 : xm_gi xm_c1180 3 = some xm_e1180_3 := xm_gt d_1180_3
theorem d_1180_4 : List.drop 4 xm_c1180 = xm_c1180_4 := xm_dr d_1180_3
theorem k_1180_4 : xm_gi xm_c1180 4 = some xm_e1180_4 := xm_gt d_1180_4
theorem d_1180_5 : List.drop 5 xm_c1180 = xm_c1180_5 := xm_dr d_1180_4
theorem k_1180_5 : xm_gi xm_c1180 5 = some xm_e1180_5 := xm_gt d_1180_5
theorem d_1180_6 : List.drop 6 xm_c1180 = xm_c1180_6 := xm_dr d_1180_5
theorem k_1180_6 : xm_gi xm_c1180 6 = some xm_e1180_6 := xm_gt d_1180_6
theorem d_1180_7 : List.drop 7 xm_c1180 = xm_c1180_7 := xm_dr d_1180_6
theorem k_1180_7 : xm_gi xm_c1180 7 = some xm_e1180_7 := xm_gt d_1180_7
theorem d_1180_8 : List.drop 8 xm_c1180 = xm_c1180_8 := xm_dr d_1180_7
theorem k_1180_8 : xm_gi xm_c1180 8 = some xm_e1180_8 := xm_gt d_1180_8
theorem d_1180_9 : List.drop 9 xm_c1180 = xm_c1180_9 := xm_dr d_1180_8
theorem k_1180_9 : xm_gi xm_c1180 9 = some xm_e1180_9 := xm_gt d_1180_9
theorem d_1180_10 : List.drop 10 xm_c1180 = xm_c1180_10 := xm_dr d_1180_9
theorem k_1180_10 : xm_gi xm_c1180 10 = some xm_e1180_10 := xm_gt d_1180_10
theorem d_1180_11 : List.drop 11 xm_c1180 = xm_c1180_11 := xm_dr d_1180_10
theorem k_1180_11 : xm_gi xm_c1180 11 = some xm_e1180_11 := xm_gt d_1180_11
theorem d_1180_12 : List.drop 12 xm_c1180 = xm_c1180_12 := xm_dr d_1180_11
theorem k_1180_12 : xm_gi xm_c1180 12 = some xm_e1180_12 := xm_gt d_1180_12
theorem d_1180_13 : List.drop 13 xm_c1180 = xm_c1180_13 := xm_dr d_1180_12
theorem k_1180_13 : xm_gi xm_c1180 13 = some xm_e1180_13 := xm_gt d_1180_13
theorem d_1180_14 : List.drop 14 xm_c1180 = xm_c1180_14 := xm_dr d_1180_13
theorem k_1180_14 : xm_gi xm_c1180 14 = some xm_e1180_14 := xm_gt d_1180_14
theorem d_1180_15 : List.drop 15 xm_c1180 = xm_c1180_15 := xm_dr d_1180_14
theorem k_1180_15 : xm_gi xm_c1180 15 = some xm_e1180_15 := xm_gt d_1180_15
theorem d_1180_16 : List.drop 16 xm_c1180 = xm_c1180_16 := xm_dr d_1180_15
theorem k_1180_16 : xm_gi xm_c1180 16 = some xm_e1180_16 := xm_gt d_1180_16
theorem d_1180_17 : List.drop 17 xm_c1180 = xm_c1180_17 := xm_dr d_1180_16
theorem k_1180_17 : xm_gi xm_c1180 17 = some xm_e1180_17 := xm_gt d_1180_17
theorem d_1180_18 : List.drop 18 xm_c1180 = xm_c1180_18 := xm_dr d_1180_17
theorem k_1180_18 : xm_gi xm_c1180 18 = some xm_e1180_18 := xm_gt d_1180_18
theorem d_1180_19 : List.drop 19 xm_c1180 = xm_c1180_19 := xm_dr d_1180_18
theorem k_1180_19 : xm_gi xm_c1180 19 = some xm_e1180_19 := xm_gt d_1180_19
theorem d_1180_20 : List.drop 20 xm_c1180 = xm_c1180_20 := xm_dr d_1180_19
theorem k_1180_20 : xm_gi xm_c1180 20 = some xm_e1180_20 := xm_gt d_1180_20
theorem d_1180_21 : List.drop 21 xm_c1180 = xm_c1180_21 := xm_dr d_1180_20
theorem k_1180_21 : xm_gi xm_c1180 21 = some xm_e1180_21 := xm_gt d_1180_21
theorem d_1180_22 : List.drop 22 xm_c1180 = xm_c1180_22 := xm_dr d_1180_21
theorem k_1180_22 : xm_gi xm_c1180 22 = some xm_e1180_22 := xm_gt d_1180_22
theorem d_1180_23 : List.drop 23 xm_c1180 = xm_c1180_23 := xm_dr d_1180_22
theorem k_1180_23 : xm_gi xm_c1180 23 = some xm_e1180_23 := xm_gt d_1180_23
theorem d_1180_24 : List.drop 24 xm_c1180 = xm_c1180_24 := xm_dr d_1180_23
theorem k_1180_24 : xm_gi xm_c1180 24 = some xm_e1180_24 := xm_gt d_1180_24
theorem d_1180_25 : List.drop 25 xm_c1180 = xm_c1180_25 := xm_dr d_1180_24
theorem k_1180_25 : xm_gi xm_c1180 25 = some xm_e1180_25 := xm_gt d_1180_25
theorem d_1180_26 : List.drop 26 xm_c1180 = xm_c1180_26 := xm_dr d_1180_25
theorem k_1180_26 : xm_gi xm_c1180 26 = some xm_e1180_26 := xm_gt d_1180_26
theorem d_1180_27 : List.drop 27 xm_c1180 = xm_c1180_27 := xm_dr d_1180_26
theorem k_1180_27 : xm_gi xm_c1180 27 = some xm_e1180_27 := xm_gt d_1180_27
theorem d_1180_28 : List.drop 28 xm_c1180 = xm_c1180_28 := xm_dr d_1180_27
theorem k_1180_28 : xm_gi xm_c1180 28 = some xm_e1180_28 := xm_gt d_1180_28
theorem d_1180_29 : List.drop 29 xm_c1180 = xm_c1180_29 := xm_dr d_1180_28
theorem k_1180_29 : xm_gi xm_c1180 29 = some xm_e1180_29 := xm_gt d_1180_29
theorem d_1180_30 : List.drop 30 xm_c1180 = xm_c1180_30 := xm_dr d_1180_29
theorem k_1180_30 : xm_gi xm_c1180 30 = some xm_e1180_30 := xm_gt d_1180_30
theorem d_1180_31 : List.drop 31 xm_c1180 = xm_c1180_31 := xm_dr d_1180_30
theorem k_1180_31 : xm_gi xm_c1180 31 = some xm_e1180_31 := xm_gt d_1180_31
theorem d_1180_32 : List.drop 32 xm_c1180 = xm_c1180_32 := xm_dr d_1180_31
theorem k_1180_32 : xm_gi xm_c1180 32 = some xm_e1180_32 := xm_gt d_1180_32
theorem d_1180_33 : List.drop 33 xm_c1180 = xm_c1180_33 := xm_dr d_1180_32
theorem k_1180_33 : xm_gi xm_c1180 33 = some xm_e1180_33 := xm_gt d_1180_33
theorem d_1180_34 : List.drop 34 xm_c1180 = xm_c1180_34 := xm_dr d_1180_33
theorem k_1180_34 : xm_gi xm_c1180 34 = some xm_e1180_34 := xm_gt d_1180_34
theorem d_1180_35 : List.drop 35 xm_c1180 = xm_c1180_35 := xm_dr d_1180_34
theorem k_1180_35 : xm_gi xm_c1180 35 = some xm_e1180_35 := xm_gt d_1180_35
theorem xb_1180_0 {sc : List Int} {f : Nat → List xm_V → xm_W → xm_R} {w : xm_W} {Q : Option xm_V × xm_W → Prop} {x0 : Nat} {x1 : Int} {x2 : Int} {x3 : Int}
  (h : xm_Oi (f 1109 [.inr (.inl (some x0)), .inl x1] w) (fun z2 w1 => if (z2 : Int) = 0 then (xm_Oi (f 1102 [.inr (.inl (some x0)), .inl 1] w1) (fun z4 w3 => Q (some (.inl z4), w3))) else (xm_Oi (f 1103 [.inl x2, .inl 1, .inl 12] w1) (fun z6 w5 => if (z6 : Int) = 0 then (xm_Oi (f 1102 [.inr (.inl (some x0)), .inl 1] w5) (fun z8 w7 => Q (some (.inl z8), w7))) else (xm_Oi (f 1108 [.inl x3] w5) (fun z10 w9 => if (z10 : Int) = 0 then (xm_Oi (f 1102 [.inr (.inl (some x0)), .inl 1] w9) (fun z20 w19 => Q (some (.inl z20), w19))) else (xm_Oi (f 1179 [.inr (.inl (some x0)), .inl x2, .inl x3] w9) (fun z12 w11 => xm_O (xm_setf w11 x0 9 3 0 (.inl x1)) (fun w13 => xm_Oi (f 1179 [.inr (.inl (some x0)), .inl x2, .inl x3] w13) (fun z15 w14 => xm_O (xm_setf w14 x0 9 3 0 (.inl (-1))) (fun w16 => xm_Oi (f 1177 [.inl z12, .inl z15] w16) (fun z18 w17 => Q (some (.inl z18), w17))))))))))))) :
  xm_EQ (xm_old sc) xm_sta f xm_c1180 0 [some (.inr (.inl (some x0))), some (.inl x1), some (.inl x2), some (.inl x3), none, none] [] w Q :=
  (xq_aload_n k_1180_0 rfl (xq_iload_n k_1180_1 rfl (xq_invv2 k_1180_2 xr_1109 rfl rfl rfl h (fun z2 w1 h => (xq_if_eq k_1180_3 h (fun h => (xq_aload_n k_1180_12 rfl (xq_iconst k_1180_13 (xq_invv1 k_1180_14 xr_1102 rfl rfl rfl h (fun z4 w3 h => (xq_ireturn k_1180_15 h)))))) (fun h => (xq_iload_n k_1180_4 rfl (xq_iconst k_1180_5 (xq_bipush k_1180_6 (xq_invs2 k_1180_7 xr_1103 rfl rfl rfl h (fun z6 w5 h => (xq_if_eq k_1180_8 h (fun h => (xq_aload_n k_1180_12 rfl (xq_iconst k_1180_13 (xq_invv1 k_1180_14 xr_1102 rfl rfl rfl h (fun z8 w7 h => (xq_ireturn k_1180_15 h)))))) (fun h => (xq_iload_n k_1180_9 rfl (xq_invs2 k_1180_10 xr_1108 rfl rfl rfl h (fun z10 w9 h => (xq_if_ne k_1180_11 h (fun h => (xq_aload_n k_1180_12 rfl (xq_iconst k_1180_13 (xq_invv1 k_1180_14 xr_1102 rfl rfl rfl h (fun z20 w19 h => (xq_ireturn k_1180_15 h)))))) (fun h => (xq_aload_n k_1180_16 rfl (xq_iload_n k_1180_17 rfl (xq_iload_n k_1180_18 rfl (xq_invv1 k_1180_19 xr_1179 rfl rfl rfl h (fun z12 w11 h => (xq_istore k_1180_20 rfl (xq_aload_n k_1180_21 rfl (xq_iload_n k_1180_22 rfl (xq_put k_1180_23 rfl h (fun w13 h => (xq_aload_n k_1180_24 rfl (xq_iload_n k_1180_25 rfl (xq_iload_n k_1180_26 rfl (xq_invv1 k_1180_27 xr_1179 rfl rfl rfl h (fun z15 w14 h => (xq_istore k_1180_28 rfl (xq_aload_n k_1180_29 rfl (xq_iconst k_1180_30 (xq_put k_1180_31 rfl h (fun w16 h => (xq_iload k_1180_32 rfl (xq_iload k_1180_33 rfl (xq_invs1 k_1180_34 xr_1177 rfl rfl rfl h (fun z18 w17 h => (xq_ireturn k_1180_35 h)))))))))))))))))))))))))))))))))))))))))))
/-- ShodBackwardsModel.divisor(II)I -/
theorem d_1181_0 : List.drop 0 xm_c1181 = xm_c1181 := rfl
theorem k_1181_0 : xm_gi xm_c1181 0 = some xm_e1181_0 := xm_gt d_1181_0
theorem d_1181_1 : List.drop 1 xm_c1181 = xm_c1181_1 := xm_dr d_1181_0
theorem k_1181_1 : xm_gi xm_c1181 1 = some xm_e1181_1 := xm_gt d_1181_1
theorem d_1181_2 : List.drop 2 xm_c1181 = xm_c1181_2 := xm_dr d_1181_1
theorem k_1181_2 : xm_gi xm_c1181 2 = some xm_e1181_2 := xm_gt d_1181_2
theorem d_1181_3 : List.drop 3 xm_c1181 = xm_c1181_3 := xm_dr d_1181_2
theorem k_1181_3 : xm_gi xm_c1181 3 = some xm_e1181_3 := xm_gt d_1181_3
theorem d_1181_4 : List.drop 4 xm_c1181 = xm_c1181_4 := xm_dr d_1181_3
theorem k_1181_4 : xm_gi xm_c1181 4 = some xm_e1181_4 := xm_gt d_1181_4
theorem d_1181_5 : List.drop 5 xm_c1181 = xm_c1181_5 := xm_dr d_1181_4
theorem k_1181_5 : xm_gi xm_c1181 5 = some xm_e1181_5 := xm_gt d_1181_5
theorem d_1181_6 : List.drop 6 xm_c1181 = xm_c1181_6 := xm_dr d_1181_5
theorem k_1181_6 : xm_gi xm_c1181 6 = some xm_e1181_6 := xm_gt d_1181_6
theorem d_1181_7 : List.drop 7 xm_c1181 = xm_c1181_7 := xm_dr d_1181_6
theorem k_1181_7 : xm_gi xm_c1181 7 = some xm_e1181_7 := xm_gt d_1181_7
theorem d_1181_8 : List.drop 8 xm_c1181 = xm_c1181_8 := xm_dr d_1181_7
theorem k_1181_8 : xm_gi xm_c1181 8 = some xm_e1181_8 := xm_gt d_1181_8
theorem d_1181_9 : List.drop 9 xm_c1181 = xm_c1181_9 := xm_dr d_1181_8
theorem k_1181_9 : xm_gi xm_c1181 9 = some xm_e1181_9 := xm_gt d_1181_9
theorem d_1181_10 : List.drop 10 xm_c1181 = xm_c1181_10 := xm_dr d_1181_9
theorem k_1181_10 : xm_gi xm_c1181 10 = some xm_e1181_10 := xm_gt d_1181_10
theorem d_1181_11 : List.drop 11 xm_c1181 = xm_c1181_11 := xm_dr d_1181_10
theorem k_1181_11 : xm_gi xm_c1181 11 = some xm_e1181_11 := xm_gt d_1181_11
theorem d_1181_12 : List.drop 12 xm_c1181 = xm_c1181_12 := xm_dr d_1181_11
theorem k_1181_12 : xm_gi xm_c1181 12 = some xm_e1181_12 := xm_gt d_1181_12
theorem d_1181_13 : List.drop 13 xm_c1181 = xm_c1181_13 := xm_dr d_1181_12
theorem k_1181_13 : xm_gi xm_c1181 13 = some xm_e1181_13 := xm_gt d_1181_13
theorem d_1181_14 : List.drop 14 xm_c1181 = xm_c1181_14 := xm_dr d_1181_13
theorem k_1181_14 : xm_gi xm_c1181 14 = some xm_e1181_14 := xm_gt d_1181_14
theorem d_1181_15 : List.drop 15 xm_c1181 = xm_c1181_15 := xm_dr d_1181_14
theorem k_1181_15 : xm_gi xm_c1181 15 = some xm_e1181_15 := xm_gt d_1181_15
theorem d_1181_16 : List.drop 16 xm_c1181 = xm_c1181_16 := xm_dr d_1181_15
theorem k_1181_16 : xm_gi xm_c1181 16 = some xm_e1181_16 := xm_gt d_1181_16
theorem d_1181_17 : List.drop 17 xm_c1181 = xm_c1181_17 := xm_dr d_1181_16
theorem k_1181_17 : xm_gi xm_c1181 17 = some xm_e1181_17 := xm_gt d_1181_17
theorem d_1181_18 : List.drop 18 xm_c1181 = xm_c1181_18 := xm_dr d_1181_17
theorem k_1181_18 : xm_gi xm_c1181 18 = some xm_e1181_18 := xm_gt d_1181_18
theorem d_1181_19 : List.drop 19 xm_c1181 = xm_c1181_19 := xm_dr d_1181_18
theorem k_1181_19 : xm_gi xm_c1181 19 = some xm_e1181_19 := xm_gt d_1181_19
theorem d_1181_20 : List.drop 20 xm_c1181 = xm_c1181_20 := xm_dr d_1181_19
theorem k_1181_20 : xm_gi xm_c1181 20 = some xm_e1181_20 := xm_gt d_1181_20
theorem d_1181_21 : List.drop 21 xm_c1181 = xm_c1181_21 := xm_dr d_1181_20
theorem k_1181_21 : xm_gi xm_c1181 21 = some xm_e1181_21 := xm_gt d_1181_21
theorem d_1181_22 : List.drop 22 xm_c1181 = xm_c1181_22 := xm_dr d_1181_21
theorem k_1181_22 : xm_gi xm_c1181 22 = some xm_e1181_22 := xm_gt d_1181_22
theorem d_1181_23 : List.drop 23 xm_c1181 = xm_c1181_23 := xm_dr d_1181_22
theorem k_1181_23 : xm_gi xm_c1181 23 = some xm_e1181_23 := xm_gt d_1181_23
theorem d_1181_24 : List.drop 24 xm_c1181 = xm_c1181_24 := xm_dr d_1181_23
theorem k_1181_24 : xm_gi xm_c1181 24 = some xm_e1181_24 := xm_gt d_1181_24
theorem d_1181_25 : List.drop 25 xm_c1181 = xm_c1181_25 := xm_dr d_1181_24
theorem k_1181_25 : xm_gi xm_c1181 25 = some xm_e1181_25 := xm_gt d_1181_25
theorem d_1181_26 : List.drop 26 xm_c1181 = xm_c1181_26 := xm_dr d_1181_25
theorem k_1181_26 : xm_gi xm_c1181 26 = some xm_e1181_26 := xm_gt d_1181_26
theorem xb_1181_0 {sc : List Int} {f : Nat → List xm_V → xm_W → xm_R} {w : xm_W} {Q : Option xm_V × xm_W → Prop} {x0 : Int} {x1 : Int}
  (h : if (x0 : Int) < 0 then (if (x1 : Int) < 0 then (xm_EQ (xm_old sc) xm_sta f xm_c1181 14 [some (.inl x0), some (.inl x1), some (.inl (xm_w (-x0))), some (.inl (xm_w (-x1))), none] [] w Q) else (xm_EQ (xm_old sc) xm_sta f xm_c1181 14 [some (.inl x0), some (.inl x1), some (.inl (xm_w (-x0))), some (.inl x1), none] [] w Q)) else (if (x1 : Int) < 0 then (xm_EQ (xm_old sc) xm_sta f xm_c1181 14 [some (.inl x0), some (.inl x1), some (.inl x0), some (.inl (xm_w (-x1))), none] [] w Q) else (xm_EQ (xm_old sc) xm_sta f xm_c1181 14 [some (.inl x0), some (.inl x1), some (.inl x0), some (.inl x1), none] [] w Q))) :
  xm_EQ (xm_old sc) xm_sta f xm_c1181 0 [some (.inl x0), some (.inl x1), none, none, none] [] w Q :=
  (xq_iload_n k_1181_0 rfl (xq_if_ge k_1181_1 h (fun h => (xq_iload_n k_1181_2 rfl (xq_ineg k_1181_3 (xq_goto k_1181_4 (xq_istore_n k_1181_6 rfl (xq_iload_n k_1181_7 rfl (xq_if_ge k_1181_8 h (fun h => (xq_iload_n k_1181_9 rfl (xq_ineg k_1181_10 (xq_goto k_1181_11 (xq_istore_n k_1181_13 rfl h))))) (fun h => (xq_iload_n k_1181_12 rfl (xq_istore_n k_1181_13 rfl h)))))))))) (fun h => (xq_iload_n k_1181_5 rfl (xq_istore_n k_1181_6 rfl (xq_iload_n k_1181_7 rfl (xq_if_ge k_1181_8 h (fun h => (xq_iload_n k_1181_9 rfl (xq_ineg k_1181_10 (xq_goto k_1181_11 (xq_istore_n k_1181_13 rfl h))))) (fun h => (xq_iload_n k_1181_12 rfl (xq_istore_n k_1181_13 rfl h))))))))))
theorem xb_1181_14 {sc : List Int} {f : Nat → List xm_V → xm_W → xm_R} {w : xm_W} {Q : Option xm_V × xm_W → Prop} {x0 : Int} {x1 : Int} {x2 : Int} {x3 : Int} {u4 : Option xm_V}
  (h : if (x3 : Int) = 0 then (Q (some (.inl x2), w)) else ((x3 : Int) ≠ 0 ∧ (xm_EQ (xm_old sc) xm_sta f xm_c1181 14 [some (.inl x0), some (.inl x1), some (.inl x3), some (.inl (Int.tmod x2 x3)), some (.inl (Int.tmod x2 x3))] [] w Q))) :
  xm_EQ (xm_old sc) xm_sta f xm_c1181 14 [some (.inl x0), some (.inl x1), some (.inl x2), some (.inl x3), u4] [] w Q :=
  (xq_iload_n k_1181_14 rfl (xq_if_eq k_1181_15 h (fun h => (xq_iload_n k_1181_25 rfl (xq_ireturn k_1181_26 h))) (fun h => (xq_iload_n k_1181_16 rfl (xq_iload_n k_1181_17 rfl (xq_irem k_1181_18 h (fun h => (xq_istore k_1181_19 rfl (xq_iload_n k_1181_20 rfl (xq_istore_n k_1181_21 rfl (xq_iload k_1181_22 rfl (xq_istore_n k_1181_23 rfl (xq_goto k_1181_24 h)))))))))))))
/-- ShodBackwardsModel.least(II)I -/
theorem d_1182_0 : List.drop 0 xm_c1182 = xm_c1182 := rfl
theorem k_1182_0 : xm_gi xm_c1182 0 = some xm_e1182_0 := xm_gt d_1182_0
theorem d_1182_1 : List.drop 1 xm_c1182 = xm_c1182_1 := xm_dr d_1182_0
theorem k_1182_1 : xm_gi xm_c1182 1 = some xm_e1182_1 := xm_gt d_1182_1
theorem d_1182_2 : List.drop 2 xm_c1182 = xm_c1182_2 := xm_dr d_1182_1
theorem k_1182_2 : xm_gi xm_c1182 2 = some xm_e1182_2 := xm_gt d_1182_2
theorem d_1182_3 : List.drop 3 xm_c1182 = xm_c1182_3 := xm_dr d_1182_2
theorem k_1182_3 : xm_gi xm_c1182 3 = some xm_e1182_3 := xm_gt d_1182_3
theorem d_1182_4 : List.drop 4 xm_c1182 = xm_c1182_4 := xm_dr d_1182_3
theorem k_1182_4 : xm_gi xm_c1182 4 = some xm_e1182_4 := xm_gt d_1182_4
theorem d_1182_5 : List.drop 5 xm_c1182 = xm_c1182_5 := xm_dr d_1182_4
theorem k_1182_5 : xm_gi xm_c1182 5 = some xm_e1182_5 := xm_gt d_1182_5
theorem d_1182_6 : List.drop 6 xm_c1182 = xm_c1182_6 := xm_dr d_1182_5
theorem k_1182_6 : xm_gi xm_c1182 6 = some xm_e1182_6 := xm_gt d_1182_6
theorem xb_1182_0 {sc : List Int} {f : Nat → List xm_V → xm_W → xm_R} {w : xm_W} {Q : Option xm_V × xm_W → Prop} {x0 : Int} {x1 : Int}
  (h : if (x0 : Int) < x1 then (Q (some (.inl x0), w)) else (Q (some (.inl x1), w))) :
  xm_EQ (xm_old sc) xm_sta f xm_c1182 0 [some (.inl x0), some (.inl x1)] [] w Q :=
  (xq_iload_n k_1182_0 rfl (xq_iload_n k_1182_1 rfl (xq_ic_ge k_1182_2 h (fun h => (xq_iload_n k_1182_3 rfl (xq_goto k_1182_4 (xq_ireturn k_1182_6 h)))) (fun h => (xq_iload_n k_1182_5 rfl (xq_ireturn k_1182_6 h))))))
/-- ShodBackwardsModel.greatest(II)I -/
theorem d_1183_0 : List.drop 0 xm_c1183 = xm_c1183 := rfl
theorem k_1183_0 : xm_gi xm_c1183 0 = some xm_e1183_0 := xm_gt d_1183_0
theorem d_1183_1 : List.drop 1 xm_c1183 = xm_c1183_1 := xm_dr d_1183_0
theorem k_1183_1 : xm_gi xm_c1183 1 = some xm_e1183_1 := xm_gt d_1183_1
theorem d_1183_2 : List.drop 2 xm_c1183 = xm_c1183_2 := xm_dr d_1183_1
theorem k_1183_2 : xm_gi xm_c1183 2 = some xm_e1183_2 := xm_gt d_1183_2
theorem d_1183_3 : List.drop 3 xm_c1183 = xm_c1183_3 := xm_dr d_1183_2
theorem k_1183_3 : xm_gi xm_c1183 3 = some xm_e1183_3 := xm_gt d_1183_3
theorem d_1183_4 : List.drop 4 xm_c1183 = xm_c1183_4 := xm_dr d_1183_3
theorem k_1183_4 : xm_gi xm_c1183 4 = some xm_e1183_4 := xm_gt d_1183_4
theorem d_1183_5 : List.drop 5 xm_c1183 = xm_c1183_5 := xm_dr d_1183_4
theorem k_1183_5 : xm_gi xm_c1183 5 = some xm_e1183_5 := xm_gt d_1183_5
theorem d_1183_6 : List.drop 6 xm_c1183 = xm_c1183_6 := xm_dr d_1183_5
theorem k_1183_6 : xm_gi xm_c1183 6 = some xm_e1183_6 := xm_gt d_1183_6
theorem xb_1183_0 {sc : List Int} {f : Nat → List xm_V → xm_W → xm_R} {w : xm_W} {Q : Option xm_V × xm_W → Prop} {x0 : Int} {x1 : Int}
  (h : if (x1 : Int) < x0 then (Q (some (.inl x0), w)) else (Q (some (.inl x1), w))) :
  xm_EQ (xm_old sc) xm_sta f xm_c1183 0 [some (.inl x0), some (.inl x1)] [] w Q :=
  (xq_iload_n k_1183_0 rfl (xq_iload_n k_1183_1 rfl (xq_ic_le k_1183_2 h (fun h => (xq_iload_n k_1183_3 rfl (xq_goto k_1183_4 (xq_ireturn k_1183_6 h)))) (fun h => (xq_iload_n k_1183_5 rfl (xq_ireturn k_1183_6 h))))))
/-- ShodBackwardsModel.lowest(IIZ)I -/
theorem d_1184_0 : List.drop 0 xm_c1184 = xm_c1184 := rfl
theorem k_1184_0 : xm_gi xm_c1184 0 = some xm_e1184_0 := xm_gt d_1184_0
theorem d_1184_1 : List.drop 1 xm_c1184 = xm_c1184_1 := xm_dr d_1184_0
theorem k_1184_1 : xm_gi xm_c1184 1 = some xm_e1184_1 := xm_gt d_1184_1
theorem d_1184_2 : List.drop 2 xm_c1184 = xm_c1184_2 := xm_dr d_1184_1
theorem k_1184_2 : xm_gi xm_c1184 2 = some xm_e1184_2 := xm_gt d_1184_2
theorem d_1184_3 : List.drop 3 xm_c1184 = xm_c1184_3 := xm_dr d_1184_2
theorem k_1184_3 : xm_gi xm_c1184 3 = some xm_e1184_3 := xm_gt d_1184_3
theorem d_1184_4 : List.drop 4 xm_c1184 = xm_c1184_4 := xm_dr d_1184_3
theorem k_1184_4 : xm_gi xm_c1184 4 = some xm_e1184_4 := xm_gt d_1184_4
theorem d_1184_5 : List.drop 5 xm_c1184 = xm_c1184_5 := xm_dr d_1184_4
theorem k_1184_5 : xm_gi xm_c1184 5 = some xm_e1184_5 := xm_gt d_1184_5
theorem d_1184_6 : List.drop 6 xm_c1184 = xm_c1184_6 := xm_dr d_1184_5
theorem k_1184_6 : xm_gi xm_c1184 6 = some xm_e1184_6 := xm_gt d_1184_6
theorem d_1184_7 : List.drop 7 xm_c1184 = xm_c1184_7 := xm_dr d_1184_6
theorem k_1184_7 : xm_gi xm_c1184 7 = some xm_e1184_7 := xm_gt d_1184_7
theorem d_1184_8 : List.drop 8 xm_c1184 = xm_c1184_8 := xm_dr d_1184_7
theorem k_1184_8 : xm_gi xm_c1184 8 = some xm_e1184_8 := xm_gt d_1184_8
theorem d_1184_9 : List.drop 9 xm_c1184 = xm_c1184_9 := xm_dr d_1184_8
theorem k_1184_9 : xm_gi xm_c1184 9 = some xm_e1184_9 := xm_gt d_1184_9
theorem d_1184_10 : List.drop 10 xm_c1184 = xm_c1184_10 := xm_dr d_1184_9
theorem k_1184_10 : xm_gi xm_c1184 10 = some xm_e1184_10 := xm_gt d_1184_10
theorem d_1184_11 : List.drop 11 xm_c1184 = xm_c1184_11 := xm_dr d_1184_10
theorem k_1184_11 : xm_gi xm_c1184 11 = some xm_e1184_11 := xm_gt d_1184_11
theorem d_1184_12 : List.drop 12 xm_c1184 = xm_c1184_12 := xm_dr d_1184_11
theorem k_1184_12 : xm_gi xm_c1184 12 = some xm_e1184_12 := xm_gt d_1184_12
theorem d_1184_13 : List.drop 13 xm_c1184 = xm_c1184_13 := xm_dr d_1184_12
theorem k_1184_13 : xm_gi xm_c1184 13 = some xm_e1184_13 := xm_gt d_1184_13
theorem d_1184_14 : List.drop 14 xm_c1184 = xm_c1184_14 := xm_dr d_1184_13
theorem k_1184_14 : xm_gi xm_c1184 14 = some xm_e1184_14 := xm_gt d_1184_14
theorem d_1184_15 : List.drop 15 xm_c1184 = xm_c1184_15 := xm_dr d_1184_14
theorem k_1184_15 : xm_gi xm_c1184 15 = some xm_e1184_15 := xm_gt d_1184_15
theorem d_1184_16 : List.drop 16 xm_c1184 = xm_c1184_16 := xm_dr d_1184_15
theorem k_1184_16 : xm_gi xm_c1184 16 = some xm_e1184_16 := xm_gt d_1184_16
theorem d_1184_17 : List.drop 17 xm_c1184 = xm_c1184_17 := xm_dr d_1184_16
theorem k_1184_17 : xm_gi xm_c1184 17 = some xm_e1184_17 := xm_gt d_1184_17
theorem d_1184_18 : List.drop 18 xm_c1184 = xm_c1184_18 := xm_dr d_1184_17
theorem k_1184_18 : xm_gi xm_c1184 18 = some xm_e1184_18 := xm_gt d_1184_18
theorem d_1184_19 : List.drop 19 xm_c1184 = xm_c1184_19 := xm_dr d_1184_18
theorem k_1184_19 : xm_gi xm_c1184 19 = some xm_e1184_19 := xm_gt d_1184_19
theorem d_1184_20 : List.drop 20 xm_c1184 = xm_c1184_20 := xm_dr d_1184_19
theorem k_1184_20 : xm_gi xm_c1184 20 = some xm_e1184_20 := xm_gt d_1184_20
theorem xb_1184_0 {sc : List Int} {f : Nat → List xm_V → xm_W → xm_R} {w : xm_W} {Q : Option xm_V × xm_W → Prop} {x0 : Int} {x1 : Int} {x2 : Int}
  (h : xm_Oi (f 1181 [.inl x0, .inl x1] w) (fun z2 w1 => if (x1 : Int) < 0 then (if (x2 : Int) = 0 then (((xm_w (-z2)) : Int) ≠ 0 ∧ (Q (some (.inl (xm_w (Int.tdiv x0 (xm_w (-z2))))), w1))) else (((xm_w (-z2)) : Int) ≠ 0 ∧ (Q (some (.inl (xm_w (Int.tdiv x1 (xm_w (-z2))))), w1)))) else (if (x2 : Int) = 0 then ((z2 : Int) ≠ 0 ∧ (Q (some (.inl (xm_w (Int.tdiv x0 z2))), w1))) else ((z2 : Int) ≠ 0 ∧ (Q (some (.inl (xm_w (Int.tdiv x1 z2))), w1)))))) :
  xm_EQ (xm_old sc) xm_sta f xm_c1184 0 [some (.inl x0), some (.inl x1), some (.inl x2), none] [] w Q :=
  (xq_iload_n k_1184_0 rfl (xq_iload_n k_1184_1 rfl (xq_invs1 k_1184_2 xr_1181 rfl rfl rfl h (fun z2 w1 h => (xq_istore_n k_1184_3 rfl (xq_iload_n k_1184_4 rfl (xq_if_ge k_1184_5 h (fun h => (xq_iload_n k_1184_6 rfl (xq_ineg k_1184_7 (xq_goto k_1184_8 (xq_istore_n k_1184_10 rfl (xq_iload_n k_1184_11 rfl (xq_if_eq k_1184_12 h (fun h => (xq_iload_n k_1184_17 rfl (xq_iload_n k_1184_18 rfl (xq_idiv k_1184_19 h (fun h => (xq_ireturn k_1184_20 h)))))) (fun h => (xq_iload_n k_1184_13 rfl (xq_iload_n k_1184_14 rfl (xq_idiv k_1184_15 h (fun h => (xq_goto k_1184_16 (xq_ireturn k_1184_20 h)))))))))))))) (fun h => (xq_iload_n k_1184_9 rfl (xq_istore_n k_1184_10 rfl (xq_iload_n k_1184_11 rfl (xq_if_eq k_1184_12 h (fun h => (xq_iload_n k_1184_17 rfl (xq_iload_n k_1184_18 rfl (xq_idiv k_1184_19 h (fun h => (xq_ireturn k_1184_20 h)))))) (fun h => (xq_iload_n k_1184_13 rfl (xq_iload_n k_1184_14 rfl (xq_idiv k_1184_15 h (fun h => (xq_goto k_1184_16 (xq_ireturn k_1184_20 h)))))))))))))))))))
/-- ShodBackwardsModel.rest(II)I -/
theorem d_1185_0 : List.drop 0 xm_c1185 = xm_c1185 := rfl
theorem k_1185_0 : xm_gi xm_c1185 0 = some xm_e1185_0 := xm_gt d_1185_0
theorem d_1185_1 : List.drop 1 xm_c1185 = xm_c1185_1 := xm_dr d_1185_0
theorem k_1185_1 : xm_gi xm_c1185 1 = some xm_e1185_1 := xm_gt d_1185_1
theorem d_1185_2 : List.drop 2 xm_c1185 = xm_c1185_2 := xm_dr d_1185_1
theorem k_1185_2 : xm_gi xm_c1185 2 = some xm_e1185_2 := xm_gt d_1185_2
theorem d_1185_3 : List.drop 3 xm_c1185 = xm_c1185_3 := xm_dr d_1185_2
theorem k_1185_3 : xm_gi xm_c1185 3 = some xm_e1185_3 := xm_gt d_1185_3
theorem d_1185_4 : List.drop 4 xm_c1185 = xm_c1185_4 := xm_dr d_1185_3
theorem k_1185_4 : xm_gi xm_c1185 4 = some xm_e1185_4 := xm_gt d_1185_4
theorem d_1185_5 : List.drop 5 xm_c1185 = xm_c1185_5 := xm_dr d_1185_4
theorem k_1185_5 : xm_gi xm_c1185 5 = some xm_e1185_5 := xm_gt d_1185_5
theorem d_1185_6 : List.drop 6 xm_c1185 = xm_c1185_6 := xm_dr d_1185_5
theorem k_1185_6 : xm_gi xm_c1185 6 = some xm_e1185_6 := xm_gt d_1185_6
theorem d_1185_7 : List.drop 7 xm_c1185 = xm_c1185_7 := xm_dr d_1185_6
theorem k_1185_7 : xm_gi xm_c1185 7 = some xm_e1185_7 := xm_gt d_1185_7
theorem d_1185_8 : List.drop 8 xm_c1185 = xm_c1185_8 := xm_dr d_1185_7
theorem k_1185_8 : xm_gi xm_c1185 8 = some xm_e1185_8 := xm_gt d_1185_8
theorem d_1185_9 : List.drop 9 xm_c1185 = xm_c1185_9 := xm_dr d_1185_8
theorem k_1185_9 : xm_gi xm_c1185 9 = some xm_e1185_9 := xm_gt d_1185_9
theorem d_1185_10 : List.drop 10 xm_c1185 = xm_c1185_10 := xm_dr d_1185_9
theorem k_1185_10 : xm_gi xm_c1185 10 = some xm_e1185_10 := xm_gt d_1185_10
theorem d_1185_11 : List.drop 11 xm_c1185 = xm_c1185_11 := xm_dr d_1185_10
theorem k_1185_11 : xm_gi xm_c1185 11 = some xm_e1185_11 := xm_gt d_1185_11
theorem d_1185_12 : List.drop 12 xm_c1185 = xm_c1185_12 := xm_dr d_1185_11
theorem k_1185_12 : xm_gi xm_c1185 12 = some xm_e1185_12 := xm_gt d_1185_12
theorem d_1185_13 : List.drop 13 xm_c1185 = xm_c1185_13 := xm_dr d_1185_12
theorem k_1185_13 : xm_gi xm_c1185 13 = some xm_e1185_13 := xm_gt d_1185_13
theorem d_1185_14 : List.drop 14 xm_c1185 = xm_c1185_14 := xm_dr d_1185_13
theorem k_1185_14 : xm_gi xm_c1185 14 = some xm_e1185_14 := xm_gt d_1185_14
theorem d_1185_15 : List.drop 15 xm_c1185 = xm_c1185_15 := xm_dr d_1185_14
theorem k_1185_15 : xm_gi xm_c1185 15 = some xm_e1185_15 := xm_gt d_1185_15
theorem d_1185_16 : List.drop 16 xm_c1185 = xm_c1185_16 := xm_dr d_1185_15
theorem k_1185_16 : xm_gi xm_c1185 16 = some xm_e1185_16 := xm_gt d_1185_16
theorem d_1185_17 : List.drop 17 xm_c1185 = xm_c1185_17 := xm_dr d_1185_16
theorem k_1185_17 : xm_gi xm_c1185 17 = some xm_e1185_17 := xm_gt d_1185_17
theorem d_1185_18 : List.drop 18 xm_c1185 = xm_c1185_18 := xm_dr d_1185_17
theorem k_1185_18 : xm_gi xm_c1185 18 = some xm_e1185_18 := xm_gt d_1185_18
theorem d_1185_19 : List.drop 19 xm_c1185 = xm_c1185_19 := xm_dr d_1185_18
theorem k_1185_19 : xm_gi xm_c1185 19 = some xm_e1185_19 := xm_gt d_1185_19
theorem d_1185_20 : List.drop 20 xm_c1185 = xm_c1185_20 := xm_dr d_1185_19
theorem k_1185_20 : xm_gi xm_c1185 20 = some xm_e1185_20 := xm_gt d_1185_20
theorem d_1185_21 : List.drop 21 xm_c1185 = xm_c1185_21 := xm_dr d_1185_20
theorem k_1185_21 : xm_gi xm_c1185 21 = some xm_e1185_21 := xm_gt d_1185_21
theorem d_1185_22 : List.drop 22 xm_c1185 = xm_c1185_22 := xm_dr d_1185_21
theorem k_1185_22 : xm_gi xm_c1185 22 = some xm_e1185_22 := xm_gt d_1185_22
theorem d_1185_23 : List.drop 23 xm_c1185 = xm_c1185_23 := xm_dr d_1185_22
theorem k_1185_23 : xm_gi xm_c1185 23 = some xm_e1185_23 := xm_gt d_1185_23
theorem d_1185_24 : List.drop 24 xm_c1185 = xm_c1185_24 := xm_dr d_1185_23
theorem k_1185_24 : xm_gi xm_c1185 24 = some xm_e1185_24 := xm_gt d_1185_24
theorem d_1185_25 : List.drop 25 xm_c1185 = xm_c1185_25 := xm_dr d_1185_24
theorem k_1185_25 : xm_gi xm_c1185 25 = some xm_e1185_25 := xm_gt d_1185_25
theorem d_1185_26 : List.drop 26 xm_c1185 = xm_c1185_26 := xm_dr d_1185_25
theorem k_1185_26 : xm_gi xm_c1185 26 = some xm_e1185_26 := xm_gt d_1185_26
theorem d_1185_27 : List.drop 27 xm_c1185 = xm_c1185_27 := xm_dr d_1185_26
theorem k_1185_27 : xm_gi xm_c1185 27 = some xm_e1185_27 := xm_gt d_1185_27
theorem d_1185_28 : List.drop 28 xm_c1185 = xm_c1185_28 := xm_dr d_1185_27
theorem k_1185_28 : xm_gi xm_c1185 28 = some xm_e1185_28 := xm_gt d_1185_28
theorem d_1185_29 : List.drop 29 xm_c1185 = xm_c1185_29 := xm_dr d_1185_28
theorem k_1185_29 : xm_gi xm_c1185 29 = some xm_e1185_29 := xm_gt d_1185_29
theorem d_1185_30 : List.drop 30 xm_c1185 = xm_c1185_30 := xm_dr d_1185_29
theorem k_1185_30 : xm_gi xm_c1185 30 = some xm_e1185_30 := xm_gt d_1185_30
theorem d_1185_31 : List.drop 31 xm_c1185 = xm_c1185_31 := xm_dr d_1185_30
theorem k_1185_31 : xm_gi xm_c1185 31 = some xm_e1185_31 := xm_gt d_1185_31
theorem d_1185_32 : List.drop 32 xm_c1185 = xm_c1185_32 := xm_dr d_1185_31
theorem k_1185_32 : xm_gi xm_c1185 32 = some xm_e1185_32 := xm_gt d_1185_32
theorem d_1185_33 : List.drop 33 xm_c1185 = xm_c1185_33 := xm_dr d_1185_32
theorem k_1185_33 : xm_gi xm_c1185 33 = some xm_e1185_33 := xm_gt d_1185_33
theorem d_1185_34 : List.drop 34 xm_c1185 = xm_c1185_34 := xm_dr d_1185_33
theorem k_1185_34 : xm_gi xm_c1185 34 = some xm_e1185_34 := xm_gt d_1185_34
theorem d_1185_35 : List.drop 35 xm_c1185 = xm_c1185_35 := xm_dr d_1185_34
theorem k_1185_35 : xm_gi xm_c1185 35 = some xm_e1185_35 := xm_gt d_1185_35
theorem d_1185_36 : List.drop 36 xm_c1185 = xm_c1185_36 := xm_dr d_1185_35
theorem k_1185_36 : xm_gi xm_c1185 36 = some xm_e1185_36 := xm_gt d_1185_36
theorem d_1185_37 : List.drop 37 xm_c1185 = xm_c1185_37 := xm_dr d_1185_36
theorem k_1185_37 : xm_gi xm_c1185 37 = some xm_e1185_37 := xm_gt d_1185_37
theorem d_1185_38 : List.drop 38 xm_c1185 = xm_c1185_38 := xm_dr d_1185_37
theorem k_1185_38 : xm_gi xm_c1185 38 = some xm_e1185_38 := xm_gt d_1185_38
theorem d_1185_39 : List.drop 39 xm_c1185 = xm_c1185_39 := xm_dr d_1185_38
theorem k_1185_39 : xm_gi xm_c1185 39 = some xm_e1185_39 := xm_gt d_1185_39
theorem d_1185_40 : List.drop 40 xm_c1185 = xm_c1185_40 := xm_dr d_1185_39
theorem k_1185_40 : xm_gi xm_c1185 40 = some xm_e1185_40 := xm_gt d_1185_40
theorem d_1185_41 : List.drop 41 xm_c1185 = xm_c1185_41 := xm_dr d_1185_40
theorem k_1185_41 : xm_gi xm_c1185 41 = some xm_e1185_41 := xm_gt d_1185_41
theorem d_1185_42 : List.drop 42 xm_c1185 = xm_c1185_42 := xm_dr d_1185_41
theorem k_1185_42 : xm_gi xm_c1185 42 = some xm_e1185_42 := xm_gt d_1185_42
theorem d_1185_43 : List.drop 43 xm_c1185 = xm_c1185_43 := xm_dr d_1185_42
theorem k_1185_43 : xm_gi xm_c1185 43 = some xm_e1185_43 := xm_gt d_1185_43
theorem d_1185_44 : List.drop 44 xm_c1185 = xm_c1185_44 := xm_dr d_1185_43
theorem k_1185_44 : xm_gi xm_c1185 44 = some xm_e1185_44 := xm_gt d_1185_44
theorem d_1185_45 : List.drop 45 xm_c1185 = xm_c1185_45 := xm_dr d_1185_44
theorem k_1185_45 : xm_gi xm_c1185 45 = some xm_e1185_45 := xm_gt d_1185_45
theorem d_1185_46 : List.drop 46 xm_c1185 = xm_c1185_46 := xm_dr d_1185_45
theorem k_1185_46 : xm_gi xm_c1185 46 = some xm_e1185_46 := xm_gt d_1185_46
theorem d_1185_47 : List.drop 47 xm_c1185 = xm_c1185_47 := xm_dr d_1185_46
theorem k_1185_47 : xm_gi xm_c1185 47 = some xm_e1185_47 := xm_gt d_1185_47
theorem d_1185_48 : List.drop 48 xm_c1185 = xm_c1185_48 := xm_dr d_1185_47
theorem k_1185_48 : xm_gi xm_c1185 48 = some xm_e1185_48 := xm_gt d_1185_48
theorem d_1185_49 : List.drop 49 xm_c1185 = xm_c1185_49 := xm_dr d_1185_48
theorem k_1185_49 : xm_gi xm_c1185 49 = some xm_e1185_49 := xm_gt d_1185_49
theorem d_1185_50 : List.drop 50 xm_c1185 = xm_c1185_50 := xm_dr d_1185_49
theorem k_1185_50 : xm_gi xm_c1185 50 = some xm_e1185_50 := xm_gt d_1185_50
theorem d_1185_51 : List.drop 51 xm_c1185 = xm_c1185_51 := xm_dr d_1185_50
theorem k_1185_51 : xm_gi xm_c1185 51 = some xm_e1185_51 := xm_gt d_1185_51
theorem d_1185_52 : List.drop 52 xm_c1185 = xm_c1185_52 := xm_dr d_1185_51
theorem k_1185_52 : xm_gi xm_c1185 52 = some xm_e1185_52 := xm_gt d_1185_52
theorem d_1185_53 : List.drop 53 xm_c1185 = xm_c1185_53 := xm_dr d_1185_52
theorem k_1185_53 : xm_gi xm_c1185 53 = some xm_e1185_53 := xm_gt d_1185_53
theorem d_1185_54 : List.drop 54 xm_c1185 = xm_c1185_54 := xm_dr d_1185_53
theorem k_1185_54 : xm_gi xm_c1185 54 = some xm_e1185_54 := xm_gt d_1185_54
theorem d_1185_55 : List.drop 55 xm_c1185 = xm_c1185_55 := xm_dr d_1185_54
theorem k_1185_55 : xm_gi xm_c1185 55 = some xm_e1185_55 := xm_gt d_1185_55
theorem d_1185_56 : List.drop 56 xm_c1185 = xm_c1185_56 := xm_dr d_1185_55
theorem k_1185_56 : xm_gi xm_c1185 56 = some xm_e1185_56 := xm_gt d_1185_56
theorem d_1185_57 : List.drop 57 xm_c1185 = xm_c1185_57 := xm_dr d_1185_56
theorem k_1185_57 : xm_gi xm_c1185 57 = some xm_e1185_57 := xm_gt d_1185_57
theorem d_1185_58 : List.drop 58 xm_c1185 = xm_c1185_58 := xm_dr d_1185_57
theorem k_1185_58 : xm_gi xm_c1185 58 = some xm_e1185_58 := xm_gt d_1185_58
theorem d_1185_59 : List.drop 59 xm_c1185 = xm_c1185_59 := xm_dr d_1185_58
theorem k_1185_59 : xm_gi xm_c1185 59 = some xm_e1185_59 := xm_gt d_1185_59
theorem d_1185_60 : List.drop 60 xm_c1185 = xm_c1185_60 := xm_dr d_1185_59
theorem k_1185_60 : xm_gi xm_c1185 60 = some xm_e1185_60 := xm_gt d_1185_60
theorem d_1185_61 : List.drop 61 xm_c1185 = xm_c1185_61 := xm_dr d_1185_60
theorem k_1185_61 : xm_gi xm_c1185 61 = some xm_e1185_61 := xm_gt d_1185_61
theorem d_1185_62 : List.drop 62 xm_c1185 = xm_c1185_62 := xm_dr d_1185_61
theorem k_1185_62 : xm_gi xm_c1185 62 = some xm_e1185_62 := xm_gt d_1185_62
theorem d_1185_63 : List.drop 63 xm_c1185 = xm_c1185_63 := xm_dr d_1185_62
theorem k_1185_63 : xm_gi xm_c1185 63 = some xm_e1185_63 := xm_gt d_1185_63
theorem d_1185_64 : List.drop 64 xm_c1185 = xm_c1185_64 := xm_dr d_1185_63
theorem k_1185_64 : xm_gi xm_c1185 64 = some xm_e1185_64 := xm_gt d_1185_64
theorem d_1185_65 : List.drop 65 xm_c1185 = xm_c1185_65 := xm_dr d_1185_64
theorem k_1185_65 : xm_gi xm_c1185 65 = some xm_e1185_65 := xm_gt d_1185_65
theorem d_1185_66 : List.drop 66 xm_c1185 = xm_c1185_66 := xm_dr d_1185_65
theorem k_1185_66 : xm_gi xm_c1185 66 = some xm_e1185_66 := xm_gt d_1185_66
theorem d_1185_67 : List.drop 67 xm_c1185 = xm_c1185_67 := xm_dr d_1185_66
theorem k_1185_67 : xm_gi xm_c1185 67 = some xm_e1185_67 := xm_gt d_1185_67
theorem d_1185_68 : List.drop 68 xm_c1185 = xm_c1185_68 := xm_dr d_1185_67
theorem k_1185_68 : xm_gi xm_c1185 68 = some xm_e1185_68 := xm_gt d_1185_68
theorem d_1185_69 : List.drop 69 xm_c1185 = xm_c1185_69 := xm_dr d_1185_68
theorem k_1185_69 : xm_gi xm_c1185 69 = some xm_e1185_69 := xm_gt d_1185_69
theorem d_1185_70 : List.drop 70 xm_c1185 = xm_c1185_70 := xm_dr d_1185_69
theorem k_1185_70 : xm_gi xm_c1185 70 = some xm_e1185_70 := xm_gt d_1185_70
theorem d_1185_71 : List.drop 71 xm_c1185 = xm_c1185_71 := xm_dr d_1185_70
theorem k_1185_71 : xm_gi xm_c1185 71 = some xm_e1185_71 := xm_gt d_1185_71
theorem d_1185_72 : List.drop 72 xm_c1185 = xm_c1185_72 := xm_dr d_1185_71
theorem k_1185_72 : xm_gi xm_c1185 72 = some xm_e1185_72 := xm_gt d_1185_72
theorem d_1185_73 : List.drop 73 xm_c1185 = xm_c1185_73 := xm_dr d_1185_72
theorem k_1185_73 : xm_gi xm_c1185 73 = some xm_e1185_73 := xm_gt d_1185_73
theorem d_1185_74 : List.drop 74 xm_c1185 = xm_c1185_74 := xm_dr d_1185_73
theorem k_1185_74 : xm_gi xm_c1185 74 = some xm_e1185_74 := xm_gt d_1185_74
theorem d_1185_75 : List.drop 75 xm_c1185 = xm_c1185_75 := xm_dr d_1185_74
theorem k_1185_75 : xm_gi xm_c1185 75 = some xm_e1185_75 := xm_gt d_1185_75
theorem d_1185_76 : List.drop 76 xm_c1185 = xm_c1185_76 := xm_dr d_1185_75
theorem k_1185_76 : xm_gi xm_c1185 76 = some xm_e1185_76 := xm_gt d_1185_76
theorem d_1185_77 : List.drop 77 xm_c1185 = xm_c1185_77 := xm_dr d_1185_76
theorem k_1185_77 : xm_gi xm_c1185 77 = some xm_e1185_77 := xm_gt d_1185_77
theorem d_1185_78 : List.drop 78 xm_c1185 = xm_c1185_78 := xm_dr d_1185_77
theorem k_1185_78 : xm_gi xm_c1185 78 = some xm_e1185_78 := xm_gt d_1185_78
theorem d_1185_79 : List.drop 79 xm_c1185 = xm_c1185_79 := xm_dr d_1185_78
theorem k_1185_79 : xm_gi xm_c1185 79 = some xm_e1185_79 := xm_gt d_1185_79
theorem d_1185_80 : List.drop 80 xm_c1185 = xm_c1185_80 := xm_dr d_1185_79
theorem k_1185_80 : xm_gi xm_c1185 80 = some xm_e1185_80 := xm_gt d_1185_80
theorem d_1185_81 : List.drop 81 xm_c1185 = xm_c1185_81 := xm_dr d_1185_80
theorem k_1185_81 : xm_gi xm_c1185 81 = some xm_e1185_81 := xm_gt d_1185_81
theorem d_1185_82 : List.drop 82 xm_c1185 = xm_c1185_82 := xm_dr d_1185_81
theorem k_1185_82 : xm_gi xm_c1185 82 = some xm_e1185_82 := xm_gt d_1185_82
theorem d_1185_83 : List.drop 83 xm_c1185 = xm_c1185_83 := xm_dr d_1185_82
theorem k_1185_83 : xm_gi xm_c1185 83 = some xm_e1185_83 := xm_gt d_1185_83
theorem d_1185_84 : List.drop 84 xm_c1185 = xm_c1185_84 := xm_dr d_1185_83
theorem k_1185_84 : xm_gi xm_c1185 84 = some xm_e1185_84 := xm_gt d_1185_84
theorem d_1185_85 : List.drop 85 xm_c1185 = xm_c1185_85 := xm_dr d_1185_84
theorem k_1185_85 : xm_gi xm_c1185 85 = some xm_e1185_85 := xm_gt d_1185_85
theorem d_1185_86 : List.drop 86 xm_c1185 = xm_c1185_86 := xm_dr d_1185_85
theorem k_1185_86 : xm_gi xm_c1185 86 = some xm_e1185_86 := xm_gt d_1185_86
theorem d_1185_87 : List.drop 87 xm_c1185 = xm_c1185_87 := xm_dr d_1185_86
theorem k_1185_87 : xm_gi xm_c1185 87 = some xm_e1185_87 := xm_gt d_1185_87
theorem d_1185_88 : List.drop 88 xm_c1185 = xm_c1185_88 := xm_dr d_1185_87
theorem k_1185_88 : xm_gi xm_c1185 88 = some xm_e1185_88 := xm_gt d_1185_88
theorem d_1185_89 : List.drop 89 xm_c1185 = xm_c1185_89 := xm_dr d_1185_88
theorem k_1185_89 : xm_gi xm_c1185 89 = some xm_e1185_89 := xm_gt d_1185_89
theorem d_1185_90 : List.drop 90 xm_c1185 = xm_c1185_90 := xm_dr d_1185_89
theorem k_1185_90 : xm_gi xm_c1185 90 = some xm_e1185_90 := xm_gt d_1185_90
theorem d_1185_91 : List.drop 91 xm_c1185 = xm_c1185_91 := xm_dr d_1185_90
theorem k_1185_91 : xm_gi xm_c1185 91 = some xm_e1185_91 := xm_gt d_1185_91
theorem d_1185_92 : List.drop 92 xm_c1185 = xm_c1185_92 := xm_dr d_1185_91
theorem k_1185_92 : xm_gi xm_c1185 92 = some xm_e1185_92 := xm_gt d_1185_92
theorem d_1185_93 : List.drop 93 xm_c1185 = xm_c1185_93 := xm_dr d_1185_92
theorem k_1185_93 : xm_gi xm_c1185 93 = some xm_e1185_93 := xm_gt d_1185_93
theorem d_1185_94 : List.drop 94 xm_c1185 = xm_c1185_94 := xm_dr d_1185_93
theorem k_1185_94 : xm_gi xm_c1185 94 = some xm_e1185_94 := xm_gt d_1185_94
theorem d_1185_95 : List.drop 95 xm_c1185 = xm_c1185_95 := xm_dr d_1185_94
theorem k_1185_95 : xm_gi xm_c1185 95 = some xm_e1185_95 := xm_gt d_1185_95
theorem d_1185_96 : List.drop 96 xm_c1185 = xm_c1185_96 := xm_dr d_1185_95
theorem k_1185_96 : xm_gi xm_c1185 96 = some xm_e1185_96 := xm_gt d_1185_96
theorem d_1185_97 : List.drop 97 xm_c1185 = xm_c1185_97 := xm_dr d_1185_96
theorem k_1185_97 : xm_gi xm_c1185 97 = some xm_e1185_97 := xm_gt d_1185_97
theorem d_1185_98 : List.drop 98 xm_c1185 = xm_c1185_98 := xm_dr d_1185_97
theorem k_1185_98 : xm_gi xm_c1185 98 = some xm_e1185_98 := xm_gt d_1185_98
theorem d_1185_99 : List.drop 99 xm_c1185 = xm_c1185_99 := xm_dr d_1185_98
theorem k_1185_99 : xm_gi xm_c1185 99 = some xm_e1185_99 := xm_gt d_1185_99
theorem d_1185_100 : List.drop 100 xm_c1185 = xm_c1185_100 := xm_dr d_1185_99
theorem k_1185_100 : xm_gi xm_c1185 100 = some xm_e1185_100 := xm_gt d_1185_100
theorem d_1185_101 : List.drop 101 xm_c1185 = xm_c1185_101 := xm_dr d_1185_100
theorem k_1185_101 : xm_gi xm_c1185 101 = some xm_e1185_101 := xm_gt d_1185_101
theorem d_1185_102 : List.drop 102 xm_c1185 = xm_c1185_102 := xm_dr d_1185_101
theorem k_1185_102 : xm_gi xm_c1185 102 = some xm_e1185_102 := xm_gt d_1185_102
theorem d_1185_103 : List.drop 103 xm_c1185 = xm_c1185_103 := xm_dr d_1185_102
theorem k_1185_103 : xm_gi xm_c1185 103 = some xm_e1185_103 := xm_gt d_1185_103
theorem d_1185_104 : List.drop 104 xm_c1185 = xm_c1185_104 := xm_dr d_1185_103
theorem k_1185_104 : xm_gi xm_c1185 104 = some xm_e1185_104 := xm_gt d_1185_104
theorem d_1185_105 : List.drop 105 xm_c1185 = xm_c1185_105 := xm_dr d_1185_104
theorem k_1185_105 : xm_gi xm_c1185 105 = some xm_e1185_105 := xm_gt d_1185_105
theorem d_1185_106 : List.drop 106 xm_c1185 = xm_c1185_106 := xm_dr d_1185_105
theorem k_1185_106 : xm_gi xm_c1185 106 = some xm_e1185_106 := xm_gt d_1185_106
theorem d_1185_107 : List.drop 107 xm_c1185 = xm_c1185_107 := xm_dr d_1185_106
theorem k_1185_107 : xm_gi xm_c1185 107 = some xm_e1185_107 := xm_gt d_1185_107
theorem d_1185_108 : List.drop 108 xm_c1185 = xm_c1185_108 := xm_dr d_1185_107
theorem k_1185_108 : xm_gi xm_c1185 108 = some xm_e1185_108 := xm_gt d_1185_108
theorem d_1185_109 : List.drop 109 xm_c1185 = xm_c1185_109 := xm_dr d_1185_108
theorem k_1185_109 : xm_gi xm_c1185 109 = some xm_e1185_109 := xm_gt d_1185_109
theorem d_1185_110 : List.drop 110 xm_c1185 = xm_c1185_110 := xm_dr d_1185_109
theorem k_1185_110 : xm_gi xm_c1185 110 = some xm_e1185_110 := xm_gt d_1185_110
theorem d_1185_111 : List.drop 111 xm_c1185 = xm_c1185_111 := xm_dr d_1185_110
theorem k_1185_111 : xm_gi xm_c1185 111 = some xm_e1185_111 := xm_gt d_1185_111
theorem d_1185_112 : List.drop 112 xm_c1185 = xm_c1185_112 := xm_dr d_1185_111
theorem k_1185_112 : xm_gi xm_c1185 112 = some xm_e1185_112 := xm_gt d_1185_112
theorem d_1185_113 : List.drop 113 xm_c1185 = xm_c1185_113 := xm_dr d_1185_112
theorem k_1185_113 : xm_gi xm_c1185 113 = some xm_e1185_113 := xm_gt d_1185_113
theorem d_1185_114 : List.drop 114 xm_c1185 = xm_c1185_114 := xm_dr d_1185_113
theorem k_1185_114 : xm_gi xm_c1185 114 = some xm_e1185_114 := xm_gt d_1185_114
theorem d_1185_115 : List.drop 115 xm_c1185 = xm_c1185_115 := xm_dr d_1185_114
theorem k_1185_115 : xm_gi xm_c1185 115 = some xm_e1185_115 := xm_gt d_1185_115
theorem d_1185_116 : List.drop 116 xm_c1185 = xm_c1185_116 := xm_dr d_1185_115
theorem k_1185_116 : xm_gi xm_c1185 116 = some xm_e1185_116 := xm_gt d_1185_116
theorem d_1185_117 : List.drop 117 xm_c1185 = xm_c1185_117 := xm_dr d_1185_116
theorem k_1185_117 : xm_gi xm_c1185 117 = some xm_e1185_117 := xm_gt d_1185_117
theorem d_1185_118 : List.drop 118 xm_c1185 = xm_c1185_118 := xm_dr d_1185_117
theorem k_1185_118 : xm_gi xm_c1185 118 = some xm_e1185_118 := xm_gt d_1185_118
theorem d_1185_119 : List.drop 119 xm_c1185 = xm_c1185_119 := xm_dr d_1185_118
theorem k_1185_119 : xm_gi xm_c1185 119 = some xm_e1185_119 := xm_gt d_1185_119
theorem d_1185_120 : List.drop 120 xm_c1185 = xm_c1185_120 := xm_dr d_1185_119
theorem k_1185_120 : xm_gi xm_c1185 120 = some xm_e1185_120 := xm_gt d_1185_120
theorem d_1185_121 : List.drop 121 xm_c1185 = xm_c1185_121 := xm_dr d_1185_120
theorem k_1185_121 : xm_gi xm_c1185 121 = some xm_e1185_121 := xm_gt d_1185_121
theorem d_1185_122 : List.drop 122 xm_c1185 = xm_c1185_122 := xm_dr d_1185_121
theorem k_1185_122 : xm_gi xm_c1185 122 = some xm_e1185_122 := xm_gt d_1185_122
theorem d_1185_123 : List.drop 123 xm_c1185 = xm_c1185_123 := xm_dr d_1185_122
theorem k_1185_123 : xm_gi xm_c1185 123 = some xm_e1185_123 := xm_gt d_1185_123
theorem d_1185_124 : List.drop 124 xm_c1185 = xm_c1185_124 := xm_dr d_1185_123
theorem k_1185_124 : xm_gi xm_c1185 124 = some xm_e1185_124 := xm_gt d_1185_124
theorem d_1185_125 : List.drop 125 xm_c1185 = xm_c1185_125 := xm_dr d_1185_124
theorem k_1185_125 : xm_gi xm_c1185 125 = some xm_e1185_125 := xm_gt d_1185_125
theorem d_1185_126 : List.drop 126 xm_c1185 = xm_c1185_126 := xm_dr d_1185_125
theorem k_1185_126 : xm_gi xm_c1185 126 = some xm_e1185_126 := xm_gt d_1185_126
theorem d_1185_127 : List.drop 127 xm_c1185 = xm_c1185_127 := xm_dr d_1185_126
theorem k_1185_127 : xm_gi xm_c1185 127 = some xm_e1185_127 := xm_gt d_1185_127
theorem d_1185_128 : List.drop 128 xm_c1185 = xm_c1185_128 := xm_dr d_1185_127
theorem k_1185_128 : xm_gi xm_c1185 128 = some xm_e1185_128 := xm_gt d_1185_128
theorem d_1185_129 : List.drop 129 xm_c1185 = xm_c1185_129 := xm_dr d_1185_128
theorem k_1185_129 : xm_gi xm_c1185 129 = some xm_e1185_129 := xm_gt d_1185_129
theorem d_1185_130 : List.drop 130 xm_c1185 = xm_c1185_130 := xm_dr d_1185_129
theorem k_1185_130 : xm_gi xm_c1185 130 = some xm_e1185_130 := xm_gt d_1185_130
theorem d_1185_131 : List.drop 131 xm_c1185 = xm_c1185_131 := xm_dr d_1185_130
theorem k_1185_131 : xm_gi xm_c1185 131 = some xm_e1185_131 := xm_gt d_1185_131
theorem d_1185_132 : List.drop 132 xm_c1185 = xm_c1185_132 := xm_dr d_1185_131
theorem k_1185_132 : xm_gi xm_c1185 132 = some xm_e1185_132 := xm_gt d_1185_132
theorem d_1185_133 : List.drop 133 xm_c1185 = xm_c1185_133 := xm_dr d_1185_132
theorem k_1185_133 : xm_gi xm_c1185 133 = some xm_e1185_133 := xm_gt d_1185_133
theorem d_1185_134 : List.drop 134 xm_c1185 = xm_c1185_134 := xm_dr d_1185_133
theorem k_1185_134 : xm_gi xm_c1185 134 = some xm_e1185_134 := xm_gt d_1185_134
theorem d_1185_135 : List.drop 135 xm_c1185 = xm_c1185_135 := xm_dr d_1185_134
theorem k_1185_135 : xm_gi xm_c1185 135 = some xm_e1185_135 := xm_gt d_1185_135
theorem d_1185_136 : List.drop 136 xm_c1185 = xm_c1185_136 := xm_dr d_1185_135
theorem k_1185_136 : xm_gi xm_c1185 136 = some xm_e1185_136 := xm_gt d_1185_136
theorem d_1185_137 : List.drop 137 xm_c1185 = xm_c1185_137 := xm_dr d_1185_136
theorem k_1185_137 : xm_gi xm_c1185 137 = some xm_e1185_137 := xm_gt d_1185_137
theorem d_1185_138 : List.drop 138 xm_c1185 = xm_c1185_138 := xm_dr d_1185_137
theorem k_1185_138 : xm_gi xm_c1185 138 = some xm_e1185_138 := xm_gt d_1185_138
theorem d_1185_139 : List.drop 139 xm_c1185 = xm_c1185_139 := xm_dr d_1185_138
theorem k_1185_139 : xm_gi xm_c1185 139 = some xm_e1185_139 := xm_gt d_1185_139
theorem d_1185_140 : List.drop 140 xm_c1185 = xm_c1185_140 := xm_dr d_1185_139
theorem k_1185_140 : xm_gi xm_c1185 140 = some xm_e1185_140 := xm_gt d_1185_140
theorem d_1185_141 : List.drop 141 xm_c1185 = xm_c1185_141 := xm_dr d_1185_140
theorem k_1185_141 : xm_gi xm_c1185 141 = some xm_e1185_141 := xm_gt d_1185_141
theorem d_1185_142 : List.drop 142 xm_c1185 = xm_c1185_142 := xm_dr d_1185_141
theorem k_1185_142 : xm_gi xm_c1185 142 = some xm_e1185_142 := xm_gt d_1185_142
theorem d_1185_143 : List.drop 143 xm_c1185 = xm_c1185_143 := xm_dr d_1185_142
theorem k_1185_143 : xm_gi xm_c1185 143 = some xm_e1185_143 := xm_gt d_1185_143
theorem d_1185_144 : List.drop 144 xm_c1185 = xm_c1185_144 := xm_dr d_1185_143
theorem k_1185_144 : xm_gi xm_c1185 144 = some xm_e1185_144 := xm_gt d_1185_144
theorem d_1185_145 : List.drop 145 xm_c1185 = xm_c1185_145 := xm_dr d_1185_144
theorem k_1185_145 : xm_gi xm_c1185 145 = some xm_e1185_145 := xm_gt d_1185_145
theorem d_1185_146 : List.drop 146 xm_c1185 = xm_c1185_146 := xm_dr d_1185_145
theorem k_1185_146 : xm_gi xm_c1185 146 = some xm_e1185_146 := xm_gt d_1185_146
theorem d_1185_147 : List.drop 147 xm_c1185 = xm_c1185_147 := xm_dr d_1185_146
theorem k_1185_147 : xm_gi xm_c1185 147 = some xm_e1185_147 := xm_gt d_1185_147
theorem d_1185_148 : List.drop 148 xm_c1185 = xm_c1185_148 := xm_dr d_1185_147
theorem k_1185_148 : xm_gi xm_c1185 148 = some xm_e1185_148 := xm_gt d_1185_148
theorem d_1185_149 : List.drop 149 xm_c1185 = xm_c1185_149 := xm_dr d_1185_148
theorem k_1185_149 : xm_gi xm_c1185 149 = some xm_e1185_149 := xm_gt d_1185_149
theorem d_1185_150 : List.drop 150 xm_c1185 = xm_c1185_150 := xm_dr d_1185_149
theorem k_1185_150 : xm_gi xm_c1185 150 = some xm_e1185_150 := xm_gt d_1185_150
theorem d_1185_151 : List.drop 151 xm_c1185 = xm_c1185_151 := xm_dr d_1185_150
theorem k_1185_151 : xm_gi xm_c1185 151 = some xm_e1185_151 := xm_gt d_1185_151
theorem d_1185_152 : List.drop 152 xm_c1185 = xm_c1185_152 := xm_dr d_1185_151
theorem k_1185_152 : xm_gi xm_c1185 152 = some xm_e1185_152 := xm_gt d_1185_152
theorem d_1185_153 : List.drop 153 xm_c1185 = xm_c1185_153 := xm_dr d_1185_152
theorem k_1185_153 : xm_gi xm_c1185 153 = some xm_e1185_153 := xm_gt d_1185_153
theorem d_1185_154 : List.drop 154 xm_c1185 = xm_c1185_154 := xm_dr d_1185_153
theorem k_1185_154 : xm_gi xm_c1185 154 = some xm_e1185_154 := xm_gt d_1185_154
theorem d_1185_155 : List.drop 155 xm_c1185 = xm_c1185_155 := xm_dr d_1185_154
theorem k_1185_155 : xm_gi xm_c1185 155 = some xm_e1185_155 := xm_gt d_1185_155
theorem d_1185_156 : List.drop 156 xm_c1185 = xm_c1185_156 := xm_dr d_1185_155
theorem k_1185_156 : xm_gi xm_c1185 156 = some xm_e1185_156 := xm_gt d_1185_156
theorem d_1185_157 : List.drop 157 xm_c1185 = xm_c1185_157 := xm_dr d_1185_156
theorem k_1185_157 : xm_gi xm_c1185 157 = some xm_e1185_157 := xm_gt d_1185_157
theorem d_1185_158 : List.drop 158 xm_c1185 = xm_c1185_158 := xm_dr d_1185_157
theorem k_1185_158 : xm_gi xm_c1185 158 = some xm_e1185_158 := xm_gt d_1185_158
theorem d_1185_159 : List.drop 159 xm_c1185 = xm_c1185_159 := xm_dr d_1185_158
theorem k_1185_159 : xm_gi xm_c1185 159 = some xm_e1185_159 := xm_gt d_1185_159
theorem d_1185_160 : List.drop 160 xm_c1185 = xm_c1185_160 := xm_dr d_1185_159
theorem k_1185_160 : xm_gi xm_c1185 160 = some xm_e1185_160 := xm_gt d_1185_160
theorem d_1185_161 : List.drop 161 xm_c1185 = xm_c1185_161 := xm_dr d_1185_160
theorem k_1185_161 : xm_gi xm_c1185 161 = some xm_e1185_161 := xm_gt d_1185_161
theorem d_1185_162 : List.drop 162 xm_c1185 = xm_c1185_162 := xm_dr d_1185_161
theorem k_1185_162 : xm_gi xm_c1185 162 = some xm_e1185_162 := xm_gt d_1185_162
theorem d_1185_163 : List.drop 163 xm_c1185 = xm_c1185_163 := xm_dr d_1185_162
theorem k_1185_163 : xm_gi xm_c1185 163 = some xm_e1185_163 := xm_gt d_1185_163
theorem d_1185_164 : List.drop 164 xm_c1185 = xm_c1185_164 := xm_dr d_1185_163
theorem k_1185_164 : xm_gi xm_c1185 164 = some xm_e1185_164 := xm_gt d_1185_164
theorem d_1185_165 : List.drop 165 xm_c1185 = xm_c1185_165 := xm_dr d_1185_164
theorem k_1185_165 : xm_gi xm_c1185 165 = some xm_e1185_165 := xm_gt d_1185_165
theorem d_1185_166 : List.drop 166 xm_c1185 = xm_c1185_166 := xm_dr d_1185_165
theorem k_1185_166 : xm_gi xm_c1185 166 = some xm_e1185_166 := xm_gt d_1185_166
theorem xb_1185_0 {sc : List Int} {f : Nat → List xm_V → xm_W → xm_R} {w : xm_W} {Q : Option xm_V × xm_W → Prop} {x0 : Nat} {x1 : Int} {x2 : Int}
  (h : xm_Oi (f 1196 [.inl x1] w) (fun z2 w1 => if (z2 : Int) = 0 then (xm_Oi (f 1102 [.inr (.inl (some x0)), .inl 1] w1) (fun z4 w3 => Q (some (.inl z4), w3))) else (xm_Oi (f 1103 [.inl x2, .inl 0, .inl 4] w1) (fun z6 w5 => if (z6 : Int) = 0 then (xm_Oi (f 1102 [.inr (.inl (some x0)), .inl 1] w5) (fun z58 w57 => Q (some (.inl z58), w57))) else (xm_O (xm_fr (xm_old sc) w5 x0 9 18) (fun r7 => xm_O (xm_ints (xm_old sc) w5 r7) (fun l8 => xm_O (xm_at l8 x1) (fun z9 => if (z9 : Int) = 0 then (xm_Oi (f 1102 [.inr (.inl (some x0)), .inl 2] w5) (fun z11 w10 => Q (some (.inl z11), w10))) else (xm_O (xm_fr (xm_old sc) w5 x0 9 19) (fun r12 => xm_O (xm_ints (xm_old sc) w5 r12) (fun l13 => xm_O (xm_at l13 x1) (fun z14 => if (z14 : Int) < 4 then (xm_Oi (f 1102 [.inr (.inl (some x0)), .inl 2] w5) (fun z56 w55 => Q (some (.inl z56), w55))) else (xm_O (xm_fr (xm_old sc) w5 x0 9 20) (fun r15 => xm_O (xm_ints (xm_old sc) w5 r15) (fun l16 => xm_O (xm_at l16 (xm_w (24 * x1))) (fun z17 => xm_O (xm_fr (xm_old sc) w5 x0 9 20) (fun r18 => xm_O (xm_ints (xm_old sc) w5 r18) (fun l19 => xm_O (xm_at l19 (xm_w ((xm_w (24 * x1)) + 1))) (fun z20 => xm_O (xm_fr (xm_old sc) w5 x0 9 20) (fun r21 => xm_O (xm_ints (xm_old sc) w5 r21) (fun l22 => xm_O (xm_at l22 (xm_w ((xm_w (24 * x1)) + 2))) (fun z23 => xm_O (xm_fr (xm_old sc) w5 x0 9 20) (fun r24 => xm_O (xm_ints (xm_old sc) w5 r24) (fun l25 => xm_O (xm_at l25 (xm_w ((xm_w (24 * x1)) + 3))) (fun z26 => xm_Oi (f 1103 [.inl z17, .inl (-999), .inl 999] w5) (fun z28 w27 => if (z28 : Int) = 0 then (xm_Oi (f 1102 [.inr (.inl (some x0)), .inl 1] w27) (fun z30 w29 => Q (some (.inl z30), w29))) else (xm_Oi (f 1103 [.inl z20, .inl (-999), .inl 999] w27) (fun z32 w31 => if (z32 : Int) = 0 then (xm_Oi (f 1102 [.inr (.inl (some x0)), .inl 1] w31) (fun z34 w33 => Q (some (.inl z34), w33))) else (xm_Oi (f 1103 [.inl z23, .inl (-999), .inl 999] w31) (fun z36 w35 => if (z36 : Int) = 0 then (xm_Oi (f 1102 [.inr (.inl (some x0)), .inl 1] w35) (fun z38 w37 => Q (some (.inl z38), w37))) else (xm_Oi (f 1103 [.inl z26, .inl (-999), .inl 999] w35) (fun z40 w39 => if (z40 : Int) = 0 then (xm_Oi (f 1102 [.inr (.inl (some x0)), .inl 1] w39) (fun z54 w53 => Q (some (.inl z54), w53))) else (xm_Oi (f 1182 [.inl z17, .inl z20] w39) (fun z42 w41 => xm_Oi (f 1182 [.inl z23, .inl z26] w41) (fun z44 w43 => xm_Oi (f 1183 [.inl z42, .inl z44] w43) (fun z46 w45 => xm_Oi (f 1183 [.inl z17, .inl z23] w45) (fun z48 w47 => xm_Oi (f 1183 [.inl z20, .inl z26] w47) (fun z50 w49 => xm_Oi (f 1182 [.inl z48, .inl z50] w49) (fun z52 w51 => if (z46 : Int) = z52 then (xm_EQ (xm_old sc) xm_sta f xm_c1185 101 [some (.inr (.inl (some x0))), some (.inl x1), some (.inl x2), some (.inl (xm_w (24 * x1))), some (.inl z17), some (.inl z20), some (.inl z23), some (.inl z26), some (.inl z46), none, none] [.inl 1] w51 Q) else (xm_EQ (xm_old sc) xm_sta f xm_c1185 101 [some (.inr (.inl (some x0))), some (.inl x1), some (.inl x2), some (.inl (xm_w (24 * x1))), some (.inl z17), some (.inl z20), some (.inl z23), some (.inl z26), some (.inl z46), none, none] [.inl 0] w51 Q)))))))))))))))))))))))))))))))))))))))) :
  xm_EQ (xm_old sc) xm_sta f xm_c1185 0 [some (.inr (.inl (some x0))), some (.inl x1), some (.inl x2), none, none, none, none, none, none, none, none] [] w Q :=
  (xq_iload_n k_1185_0 rfl (xq_invs2 k_1185_1 xr_1196 rfl rfl rfl h (fun z2 w1 h => (xq_if_eq k_1185_2 h (fun h => (xq_aload_n k_1185_8 rfl (xq_iconst k_1185_9 (xq_invv1 k_1185_10 xr_1102 rfl rfl rfl h (fun z4 w3 h => (xq_ireturn k_1185_11 h)))))) (fun h => (xq_iload_n k_1185_3 rfl (xq_iconst k_1185_4 (xq_iconst k_1185_5 (xq_invs2 k_1185_6 xr_1103 rfl rfl rfl h (fun z6 w5 h => (xq_if_ne k_1185_7 h (fun h => (xq_aload_n k_1185_8 rfl (xq_iconst k_1185_9 (xq_invv1 k_1185_10 xr_1102 rfl rfl rfl h (fun z58 w57 h => (xq_ireturn k_1185_11 h)))))) (fun h => (xq_aload_n k_1185_12 rfl (xq_getr k_1185_13 rfl h (fun r7 h => (xq_iload_n k_1185_14 rfl (xq_iaload k_1185_15 h (fun l8 h => h) (fun l8 z9 h => (xq_if_eq k_1185_16 h (fun h => (xq_aload_n k_1185_23 rfl (xq_iconst k_1185_24 (xq_invv1 k_1185_25 xr_1102 rfl rfl rfl h (fun z11 w10 h => (xq_ireturn k_1185_26 h)))))) (fun h => (xq_aload_n k_1185_17 rfl (xq_getr k_1185_18 rfl h (fun r12 h => (xq_iload_n k_1185_19 rfl (xq_iaload k_1185_20 h (fun l13 h => h) (fun l13 z14 h => (xq_iconst k_1185_21 (xq_ic_ge k_1185_22 h (fun h => (xq_aload_n k_1185_23 rfl (xq_iconst k_1185_24 (xq_invv1 k_1185_25 xr_1102 rfl rfl rfl h (fun z56 w55 h => (xq_ireturn k_1185_26 h)))))) (fun h => (xq_bipush k_1185_27 (xq_iload_n k_1185_28 rfl (xq_imul k_1185_29 (xq_istore_n k_1185_30 rfl (xq_aload_n k_1185_31 rfl (xq_getr k_1185_32 rfl h (fun r15 h => (xq_iload_n k_1185_33 rfl (xq_iaload k_1185_34 h (fun l16 h => h) (fun l16 z17 h => (xq_istore k_1185_35 rfl (xq_aload_n k_1185_36 rfl (xq_getr k_1185_37 rfl h (fun r18 h => (xq_iload_n k_1185_38 rfl (xq_iconst k_1185_39 (xq_iadd k_1185_40 (xq_iaload k_1185_41 h (fun l19 h => h) (fun l19 z20 h => (xq_istore k_1185_42 rfl (xq_aload_n k_1185_43 rfl (xq_getr k_1185_44 rfl h (fun r21 h => (xq_iload_n k_1185_45 rfl (xq_iconst k_1185_46 (xq_iadd k_1185_47 (xq_iaload k_1185_48 h (fun l22 h => h) (fun l22 z23 h => (xq_istore k_1185_49 rfl (xq_aload_n k_1185_50 rfl (xq_getr k_1185_51 rfl h (fun r24 h => (xq_iload_n k_1185_52 rfl (xq_iconst k_1185_53 (xq_iadd k_1185_54 (xq_iaload k_1185_55 h (fun l25 h => h) (fun l25 z26 h => (xq_istore k_1185_56 rfl (xq_iload k_1185_57 rfl (xq_sipush k_1185_58 (xq_sipush k_1185_59 (xq_invs2 k_1185_60 xr_1103 rfl rfl rfl h (fun z28 w27 h => (xq_if_eq k_1185_61 h (fun h => (xq_aload_n k_1185_77 rfl (xq_iconst k_1185_78 (xq_invv1 k_1185_79 xr_1102 rfl rfl rfl h (fun z30 w29 h => (xq_ireturn k_1185_80 h)))))) (fun h => (xq_iload k_1185_62 rfl (xq_sipush k_1185_63 (xq_sipush k_1185_64 (xq_invs2 k_1185_65 xr_1103 rfl rfl rfl h (fun z32 w31 h => (xq_if_eq k_1185_66 h (fun h => (xq_aload_n k_1185_77 rfl (xq_iconst k_1185_78 (xq_invv1 k_1185_79 xr_1102 rfl rfl rfl h (fun z34 w33 h => (xq_ireturn k_1185_80 h)))))) (fun h => (xq_iload k_1185_67 rfl (xq_sipush k_1185_68 (xq_sipush k_1185_69 (xq_invs2 k_1185_70 xr_1103 rfl rfl rfl h (fun z36 w35 h => (xq_if_eq k_1185_71 h (fun h => (xq_aload_n k_1185_77 rfl (xq_iconst k_1185_78 (xq_invv1 k_1185_79 xr_1102 rfl rfl rfl h (fun z38 w37 h => (xq_ireturn k_1185_80 h)))))) (fun h => (xq_iload k_1185_72 rfl (xq_sipush k_1185_73 (xq_sipush k_1185_74 (xq_invs2 k_1185_75 xr_1103 rfl rfl rfl h (fun z40 w39 h => (xq_if_ne k_1185_76 h (fun h => (xq_aload_n k_1185_77 rfl (xq_iconst k_1185_78 (xq_invv1 k_1185_79 xr_1102 rfl rfl rfl h (fun z54 w53 h => (xq_ireturn k_1185_80 h)))))) (fun h => (xq_iload k_1185_81 rfl (xq_iload k_1185_82 rfl (xq_invs1 k_1185_83 xr_1182 rfl rfl rfl h (fun z42 w41 h => (xq_iload k_1185_84 rfl (xq_iload k_1185_85 rfl (xq_invs1 k_1185_86 xr_1182 rfl rfl rfl h (fun z44 w43 h => (xq_invs1 k_1185_87 xr_1183 rfl rfl rfl h (fun z46 w45 h => (xq_istore k_1185_88 rfl (xq_iload k_1185_89 rfl (xq_iload k_1185_90 rfl (xq_iload k_1185_91 rfl (xq_invs1 k_1185_92 xr_1183 rfl rfl rfl h (fun z48 w47 h => (xq_iload k_1185_93 rfl (xq_iload k_1185_94 rfl (xq_invs1 k_1185_95 xr_1183 rfl rfl rfl h (fun z50 w49 h => (xq_invs1 k_1185_96 xr_1182 rfl rfl rfl h (fun z52 w51 h => (xq_ic_ne k_1185_97 h (fun h => (xq_iconst k_1185_98 (xq_goto k_1185_99 h))) (fun h => (xq_iconst k_1185_100 h))))))))))))))))))))))))))))))))))))))))))))))))))))))))))))))))))))))))))))))))))))))))))))))))))))))))))))))))))))))))
theorem xb_1185_101 {sc : List Int} {f : Nat → List xm_V → xm_W → xm_R} {w : xm_W} {Q : Option xm_V × xm_W → Prop} {x0 : Nat} {x1 : Int} {x2 : Int} {x3 : Int} {x4 : Int} {x5 : Int} {x6 : Int} {x7 : Int} {x8 : Int} {t0 : Int} {u9 : Option xm_V} {u10 : Option xm_V}
  (h : if (x2 : Int) = 0 then (if (t0 : Int) = 0 then (Q (some (.inl 0), w)) else (Q (some (.inl 1), w))) else (if (x2 : Int) < 3 then (if (t0 : Int) = 0 then (if (t0 : Int) = 0 then (if (x2 : Int) < 3 then (if (x2 : Int) = 2 then (xm_Oi (f 1184 [.inl (xm_w (x4 - x5)), .inl (xm_w ((xm_w ((xm_w (x4 - x5)) + x7)) - x6)), .inl 1] w) (fun z16 w15 => Q (some (.inl z16), w15))) else (xm_Oi (f 1184 [.inl (xm_w (x4 - x5)), .inl (xm_w ((xm_w ((xm_w (x4 - x5)) + x7)) - x6)), .inl 0] w) (fun z14 w13 => Q (some (.inl z14), w13)))) else (if (x2 : Int) = 4 then (xm_Oi (f 1184 [.inl (xm_w ((xm_w (x4 * x7)) - (xm_w (x5 * x6)))), .inl (xm_w ((xm_w ((xm_w (x4 - x5)) + x7)) - x6)), .inl 1] w) (fun z12 w11 => Q (some (.inl z12), w11))) else (xm_Oi (f 1184 [.inl (xm_w ((xm_w (x4 * x7)) - (xm_w (x5 * x6)))), .inl (xm_w ((xm_w ((xm_w (x4 - x5)) + x7)) - x6)), .inl 0] w) (fun z10 w9 => Q (some (.inl z10), w9))))) else (if (x2 : Int) = 3 then (Q (some (.inl x8), w)) else (Q (some (.inl 1), w)))) else (xm_Oi (f 1102 [.inr (.inl (some x0)), .inl 2] w) (fun z18 w17 => Q (some (.inl z18), w17)))) else (if (t0 : Int) = 0 then (if (x2 : Int) < 3 then (if (x2 : Int) = 2 then (xm_Oi (f 1184 [.inl (xm_w (x4 - x5)), .inl (xm_w ((xm_w ((xm_w (x4 - x5)) + x7)) - x6)), .inl 1] w) (fun z8 w7 => Q (some (.inl z8), w7))) else (xm_Oi (f 1184 [.inl (xm_w (x4 - x5)), .inl (xm_w ((xm_w ((xm_w (x4 - x5)) + x7)) - x6)), .inl 0] w) (fun z6 w5 => Q (some (.inl z6), w5)))) else (if (x2 : Int) = 4 then (xm_Oi (f 1184 [.inl (xm_w ((xm_w (x4 * x7)) - (xm_w (x5 * x6)))), .inl (xm_w ((xm_w ((xm_w (x4 - x5)) + x7)) - x6)), .inl 1] w) (fun z4 w3 => Q (some (.inl z4), w3))) else (xm_Oi (f 1184 [.inl (xm_w ((xm_w (x4 * x7)) - (xm_w (x5 * x6)))), .inl (xm_w ((xm_w ((xm_w (x4 - x5)) + x7)) - x6)), .inl 0] w) (fun z2 w1 => Q (some (.inl z2), w1))))) else (if (x2 : Int) = 3 then (Q (some (.inl x8), w)) else (Q (some (.inl 1), w)))))) :
  xm_EQ (xm_old sc) xm_sta f xm_c1185 101 [some (.inr (.inl (some x0))), some (.inl x1), some (.inl x2), some (.inl x3), some (.inl x4), some (.inl x5), some (.inl x6), some (.inl x7), some (.inl x8), u9, u10] [.inl t0] w Q :=
  (xq_istore k_1185_101 rfl (xq_iload_n k_1185_102 rfl (xq_if_ne k_1185_103 h (fun h => (xq_iload k_1185_104 rfl (xq_if_eq k_1185_105 h (fun h => (xq_iconst k_1185_108 (xq_ireturn k_1185_109 h))) (fun h => (xq_iconst k_1185_106 (xq_goto k_1185_107 (xq_ireturn k_1185_109 h))))))) (fun h => (xq_iload_n k_1185_110 rfl (xq_iconst k_1185_111 (xq_ic_ge k_1185_112 h (fun h => (xq_iload k_1185_113 rfl (xq_if_eq k_1185_114 h (fun h => (xq_iload k_1185_119 rfl (xq_if_eq k_1185_120 h (fun h => (xq_iload k_1185_128 rfl (xq_iload k_1185_129 rfl (xq_isub k_1185_130 (xq_iload k_1185_131 rfl (xq_iadd k_1185_132 (xq_iload k_1185_133 rfl (xq_isub k_1185_134 (xq_istore k_1185_135 rfl (xq_iload_n k_1185_136 rfl (xq_iconst k_1185_137 (xq_ic_ge k_1185_138 h (fun h => (xq_iload k_1185_139 rfl (xq_iload k_1185_140 rfl (xq_isub k_1185_141 (xq_iload k_1185_142 rfl (xq_iload_n k_1185_143 rfl (xq_iconst k_1185_144 (xq_ic_ne k_1185_145 h (fun h => (xq_iconst k_1185_146 (xq_goto k_1185_147 (xq_invs1 k_1185_149 xr_1184 rfl rfl rfl h (fun z16 w15 h => (xq_goto k_1185_150 (xq_ireturn k_1185_166 h))))))) (fun h => (xq_iconst k_1185_148 (xq_invs1 k_1185_149 xr_1184 rfl rfl rfl h (fun z14 w13 h => (xq_goto k_1185_150 (xq_ireturn k_1185_166 h)))))))))))))) (fun h => (xq_iload k_1185_151 rfl (xq_iload k_1185_152 rfl (xq_imul k_1185_153 (xq_iload k_1185_154 rfl (xq_iload k_1185_155 rfl (xq_imul k_1185_156 (xq_isub k_1185_157 (xq_iload k_1185_158 rfl (xq_iload_n k_1185_159 rfl (xq_iconst k_1185_160 (xq_ic_ne k_1185_161 h (fun h => (xq_iconst k_1185_162 (xq_goto k_1185_163 (xq_invs1 k_1185_165 xr_1184 rfl rfl rfl h (fun z12 w11 h => (xq_ireturn k_1185_166 h)))))) (fun h => (xq_iconst k_1185_164 (xq_invs1 k_1185_165 xr_1184 rfl rfl rfl h (fun z10 w9 h => (xq_ireturn k_1185_166 h))))))))))))))))))))))))))))) (fun h => (xq_iload_n k_1185_121 rfl (xq_iconst k_1185_122 (xq_ic_ne k_1185_123 h (fun h => (xq_iload k_1185_124 rfl (xq_goto k_1185_125 (xq_ireturn k_1185_127 h)))) (fun h => (xq_iconst k_1185_126 (xq_ireturn k_1185_127 h)))))))))) (fun h => (xq_aload_n k_1185_115 rfl (xq_iconst k_1185_116 (xq_invv1 k_1185_117 xr_1102 rfl rfl rfl h (fun z18 w17 h => (xq_ireturn k_1185_118 h))))))))) (fun h => (xq_iload k_1185_119 rfl (xq_if_eq k_1185_120 h (fun h => (xq_iload k_1185_128 rfl (xq_iload k_1185_129 rfl (xq_isub k_1185_130 (xq_iload k_1185_131 rfl (xq_iadd k_1185_132 (xq_iload k_1185_133 rfl (xq_isub k_1185_134 (xq_istore k_1185_135 rfl (xq_iload_n k_1185_136 rfl (xq_iconst k_1185_137 (xq_ic_ge k_1185_138 h (fun h => (xq_iload k_1185_139 rfl (xq_iload k_1185_140 rfl (xq_isub k_1185_141 (xq_iload k_1185_142 rfl (xq_iload_n k_1185_143 rfl (xq_iconst k_1185_144 (xq_ic_ne k_1185_145 h (fun h => (xq_iconst k_1185_146 (xq_goto k_1185_147 (xq_invs1 k_1185_149 xr_1184 rfl rfl rfl h (fun z8 w7 h => (xq_goto k_1185_150 (xq_ireturn k_1185_166 h))))))) (fun h => (xq_iconst k_1185_148 (xq_invs1 k_1185_149 xr_1184 rfl rfl rfl h (fun z6 w5 h => (xq_goto k_1185_150 (xq_ireturn k_1185_166 h)))))))))))))) (fun h => (xq_iload k_1185_151 rfl (xq_iload k_1185_152 rfl (xq_imul k_1185_153 (xq_iload k_1185_154 rfl (xq_iload k_1185_155 rfl (xq_imul k_1185_156 (xq_isub k_1185_157 (xq_iload k_1185_158 rfl (xq_iload_n k_1185_159 rfl (xq_iconst k_1185_160 (xq_ic_ne k_1185_161 h (fun h => (xq_iconst k_1185_162 (xq_goto k_1185_163 (xq_invs1 k_1185_165 xr_1184 rfl rfl rfl h (fun z4 w3 h => (xq_ireturn k_1185_166 h)))))) (fun h => (xq_iconst k_1185_164 (xq_invs1 k_1185_165 xr_1184 rfl rfl rfl h (fun z2 w1 h => (xq_ireturn k_1185_166 h))))))))))))))))))))))))))))) (fun h => (xq_iload_n k_1185_121 rfl (xq_iconst k_1185_122 (xq_ic_ne k_1185_123 h (fun h => (xq_iload k_1185_124 rfl (xq_goto k_1185_125 (xq_ireturn k_1185_127 h)))) (fun h => (xq_iconst k_1185_126 (xq_ireturn k_1185_127 h)))))))))))))))))
/-- ShodBackwardsModel.begins(I)V -/
theorem d_1186_0 : List.drop 0 xm_c1186 = xm_c1186 := rfl
theorem k_1186_0 : xm_gi xm_c1186 0 = some xm_e1186_0 := xm_gt d_1186_0
theorem d_1186_1 : List.drop 1 xm_c1186 = xm_c1186_1 := xm_dr d_1186_0
theorem k_1186_1 : xm_gi xm_c1186 1 = some xm_e1186_1 := xm_gt d_1186_1
theorem d_1186_2 : List.drop 2 xm_c1186 = xm_c1186_2 := xm_dr d_1186_1
theorem k_1186_2 : xm_gi xm_c1186 2 = some xm_e1186_2 := xm_gt d_1186_2
theorem d_1186_3 : List.drop 3 xm_c1186 = xm_c1186_3 := xm_dr d_1186_2
theorem k_1186_3 : xm_gi xm_c1186 3 = some xm_e1186_3 := xm_gt d_1186_3
theorem d_1186_4 : List.drop 4 xm_c1186 = xm_c1186_4 := xm_dr d_1186_3
theorem k_1186_4 : xm_gi xm_c1186 4 = some xm_e1186_4 := xm_gt d_1186_4
theorem d_1186_5 : List.drop 5 xm_c1186 = xm_c1186_5 := xm_dr d_1186_4
theorem k_1186_5 : xm_gi xm_c1186 5 = some xm_e1186_5 := xm_gt d_1186_5
theorem d_1186_6 : List.drop 6 xm_c1186 = xm_c1186_6 := xm_dr d_1186_5
theorem k_1186_6 : xm_gi xm_c1186 6 = some xm_e1186_6 := xm_gt d_1186_6
theorem d_1186_7 : List.drop 7 xm_c1186 = xm_c1186_7 := xm_dr d_1186_6
theorem k_1186_7 : xm_gi xm_c1186 7 = some xm_e1186_7 := xm_gt d_1186_7
theorem d_1186_8 : List.drop 8 xm_c1186 = xm_c1186_8 := xm_dr d_1186_7
theorem k_1186_8 : xm_gi xm_c1186 8 = some xm_e1186_8 := xm_gt d_1186_8
theorem d_1186_9 : List.drop 9 xm_c1186 = xm_c1186_9 := xm_dr d_1186_8
theorem k_1186_9 : xm_gi xm_c1186 9 = some xm_e1186_9 := xm_gt d_1186_9
theorem d_1186_10 : List.drop 10 xm_c1186 = xm_c1186_10 := xm_dr d_1186_9
theorem k_1186_10 : xm_gi xm_c1186 10 = some xm_e1186_10 := xm_gt d_1186_10
theorem d_1186_11 : List.drop 11 xm_c1186 = xm_c1186_11 := xm_dr d_1186_10
theorem k_1186_11 : xm_gi xm_c1186 11 = some xm_e1186_11 := xm_gt d_1186_11
theorem d_1186_12 : List.drop 12 xm_c1186 = xm_c1186_12 := xm_dr d_1186_11
theorem k_1186_12 : xm_gi xm_c1186 12 = some xm_e1186_12 := xm_gt d_1186_12
theorem d_1186_13 : List.drop 13 xm_c1186 = xm_c1186_13 := xm_dr d_1186_12
theorem k_1186_13 : xm_gi xm_c1186 13 = some xm_e1186_13 := xm_gt d_1186_13
theorem d_1186_14 : List.drop 14 xm_c1186 = xm_c1186_14 := xm_dr d_1186_13
theorem k_1186_14 : xm_gi xm_c1186 14 = some xm_e1186_14 := xm_gt d_1186_14
theorem d_1186_15 : List.drop 15 xm_c1186 = xm_c1186_15 := xm_dr d_1186_14
theorem k_1186_15 : xm_gi xm_c1186 15 = some xm_e1186_15 := xm_gt d_1186_15
theorem d_1186_16 : List.drop 16 xm_c1186 = xm_c1186_16 := xm_dr d_1186_15
theorem k_1186_16 : xm_gi xm_c1186 16 = some xm_e1186_16 := xm_gt d_1186_16
theorem xb_1186_0 {sc : List Int} {f : Nat → List xm_V → xm_W → xm_R} {w : xm_W} {Q : Option xm_V × xm_W → Prop} {x0 : Nat} {x1 : Int}
  (h : xm_O (xm_fi (xm_old sc) w x0 9 15) (fun z1 => if (z1 : Int) < 30 then (xm_O (xm_fr (xm_old sc) w x0 9 14) (fun r2 => xm_O (xm_fi (xm_old sc) w x0 9 15) (fun z3 => xm_O (xm_seti w r2 z3 x1) (fun w4 => xm_O (xm_fi (xm_old sc) w4 x0 9 15) (fun z5 => xm_O (xm_setf w4 x0 9 15 0 (.inl (xm_w (z5 + 1)))) (fun w6 => Q (none, w6))))))) else (Q (none, w)))) :
  xm_EQ (xm_old sc) xm_sta f xm_c1186 0 [some (.inr (.inl (some x0))), some (.inl x1)] [] w Q :=
  (xq_aload_n k_1186_0 rfl (xq_geti0 k_1186_1 rfl h (fun z1 h => (xq_bipush k_1186_2 (xq_ic_ge k_1186_3 h (fun h => (xq_aload_n k_1186_4 rfl (xq_getr k_1186_5 rfl h (fun r2 h => (xq_aload_n k_1186_6 rfl (xq_geti0 k_1186_7 rfl h (fun z3 h => (xq_iload_n k_1186_8 rfl (xq_iastore k_1186_9 h (fun w4 h => (xq_aload_n k_1186_10 rfl (xq_dupr k_1186_11 (xq_geti0 k_1186_12 rfl h (fun z5 h => (xq_iconst k_1186_13 (xq_iadd k_1186_14 (xq_put k_1186_15 rfl h (fun w6 h => (xq_return k_1186_16 h))))))))))))))))))) (fun h => (xq_return k_1186_16 h)))))))
/-- ShodBackwardsModel.above(I)I -/
theorem d_1187_0 : List.drop 0 xm_c1187 = xm_c1187 := rfl
theorem k_1187_0 : xm_gi xm_c1187 0 = some xm_e1187_0 := xm_gt d_1187_0
theorem d_1187_1 : List.drop 1 xm_c1187 = xm_c1187_1 := xm_dr d_1187_0
theorem k_1187_1 : xm_gi xm_c1187 1 = some xm_e1187_1 := xm_gt d_1187_1
theorem d_1187_2 : List.drop 2 xm_c1187 = xm_c1187_2 := xm_dr d_1187_1
theorem k_1187_2 : xm_gi xm_c1187 2 = some xm_e1187_2 := xm_gt d_1187_2
theorem d_1187_3 : List.drop 3 xm_c1187 = xm_c1187_3 := xm_dr d_1187_2
theorem k_1187_3 : xm_gi xm_c1187 3 = some xm_e1187_3 := xm_gt d_1187_3
theorem d_1187_4 : List.drop 4 xm_c1187 = xm_c1187_4 := xm_dr d_1187_3
theorem k_1187_4 : xm_gi xm_c1187 4 = some xm_e1187_4 := xm_gt d_1187_4
theorem d_1187_5 : List.drop 5 xm_c1187 = xm_c1187_5 := xm_dr d_1187_4
theorem k_1187_5 : xm_gi xm_c1187 5 = some xm_e1187_5 := xm_gt d_1187_5
theorem d_1187_6 : List.drop 6 xm_c1187 = xm_c1187_6 := xm_dr d_1187_5
theorem k_1187_6 : xm_gi xm_c1187 6 = some xm_e1187_6 := xm_gt d_1187_6
theorem d_1187_7 : List.drop 7 xm_c1187 = xm_c1187_7 := xm_dr d_1187_6
theorem k_1187_7 : xm_gi xm_c1187 7 = some xm_e1187_7 := xm_gt d_1187_7
theorem d_1187_8 : List.drop 8 xm_c1187 = xm_c1187_8 := xm_dr d_1187_7
theorem k_1187_8 : xm_gi xm_c1187 8 = some xm_e1187_8 := xm_gt d_1187_8
theorem d_1187_9 : List.drop 9 xm_c1187 = xm_c1187_9 := xm_dr d_1187_8
theorem k_1187_9 : xm_gi xm_c1187 9 = some xm_e1187_9 := xm_gt d_1187_9
theorem d_1187_10 : List.drop 10 xm_c1187 = xm_c1187_10 := xm_dr d_1187_9
theorem k_1187_10 : xm_gi xm_c1187 10 = some xm_e1187_10 := xm_gt d_1187_10
theorem d_1187_11 : List.drop 11 xm_c1187 = xm_c1187_11 := xm_dr d_1187_10
theorem k_1187_11 : xm_gi xm_c1187 11 = some xm_e1187_11 := xm_gt d_1187_11
theorem xb_1187_0 {sc : List Int} {f : Nat → List xm_V → xm_W → xm_R} {w : xm_W} {Q : Option xm_V × xm_W → Prop} {x0 : Int}
  (h : if (x0 : Int) = 4 then (Q (some (.inl 1), w)) else (if (x0 : Int) = 5 then (Q (some (.inl 2), w)) else (Q (some (.inl 0), w)))) :
  xm_EQ (xm_old sc) xm_sta f xm_c1187 0 [some (.inl x0)] [] w Q :=
  (xq_iload_n k_1187_0 rfl (xq_iconst k_1187_1 (xq_ic_ne k_1187_2 h (fun h => (xq_iconst k_1187_3 (xq_goto k_1187_4 (xq_ireturn k_1187_11 h)))) (fun h => (xq_iload_n k_1187_5 rfl (xq_iconst k_1187_6 (xq_ic_ne k_1187_7 h (fun h => (xq_iconst k_1187_8 (xq_goto k_1187_9 (xq_ireturn k_1187_11 h)))) (fun h => (xq_iconst k_1187_10 (xq_ireturn k_1187_11 h))))))))))
/-- ShodBackwardsModel.kindNow()I -/
theorem d_1188_0 : List.drop 0 xm_c1188 = xm_c1188 := rfl
theorem k_1188_0 : xm_gi xm_c1188 0 = some xm_e1188_0 := xm_gt d_1188_0
theorem d_1188_1 : List.drop 1 xm_c1188 = xm_c1188_1 := xm_dr d_1188_0
theorem k_1188_1 : xm_gi xm_c1188 1 = some xm_e1188_1 := xm_gt d_1188_1
theorem d_1188_2 : List.drop 2 xm_c1188 = xm_c1188_2 := xm_dr d_1188_1
theorem k_1188_2 : xm_gi xm_c1188 2 = some xm_e1188_2 := xm_gt d_1188_2
theorem d_1188_3 : List.drop 3 xm_c1188 = xm_c1188_3 := xm_dr d_1188_2
theorem k_1188_3 : xm_gi xm_c1188 3 = some xm_e1188_3 := xm_gt d_1188_3
theorem d_1188_4 : List.drop 4 xm_c1188 = xm_c1188_4 := xm_dr d_1188_3
theorem k_1188_4 : xm_gi xm_c1188 4 = some xm_e1188_4 := xm_gt d_1188_4
theorem d_1188_5 : List.drop 5 xm_c1188 = xm_c1188_5 := xm_dr d_1188_4
theorem k_1188_5 : xm_gi xm_c1188 5 = some xm_e1188_5 := xm_gt d_1188_5
theorem xb_1188_0 {sc : List Int} {f : Nat → List xm_V → xm_W → xm_R} {w : xm_W} {Q : Option xm_V × xm_W → Prop} {x0 : Nat}
  (h : xm_O (xm_fi (xm_old sc) w x0 9 16) (fun z1 => xm_Oi (f 1110 [.inr (.inl (some x0)), .inl z1, .inl 0] w) (fun z3 w2 => Q (some (.inl z3), w2)))) :
  xm_EQ (xm_old sc) xm_sta f xm_c1188 0 [some (.inr (.inl (some x0)))] [] w Q :=
  (xq_aload_n k_1188_0 rfl (xq_aload_n k_1188_1 rfl (xq_geti0 k_1188_2 rfl h (fun z1 h => (xq_iconst k_1188_3 (xq_invv1 k_1188_4 xr_1110 rfl rfl rfl h (fun z3 w2 h => (xq_ireturn k_1188_5 h))))))))
/-- ShodBackwardsModel.mNow()I -/
theorem d_1189_0 : List.drop 0 xm_c1189 = xm_c1189 := rfl
theorem k_1189_0 : xm_gi xm_c1189 0 = some xm_e1189_0 := xm_gt d_1189_0
theorem d_1189_1 : List.drop 1 xm_c1189 = xm_c1189_1 := xm_dr d_1189_0
theorem k_1189_1 : xm_gi xm_c1189 1 = some xm_e1189_1 := xm_gt d_1189_1
theorem d_1189_2 : List.drop 2 xm_c1189 = xm_c1189_2 := xm_dr d_1189_1
theorem k_1189_2 : xm_gi xm_c1189 2 = some xm_e1189_2 := xm_gt d_1189_2
theorem d_1189_3 : List.drop 3 xm_c1189 = xm_c1189_3 := xm_dr d_1189_2
theorem k_1189_3 : xm_gi xm_c1189 3 = some xm_e1189_3 := xm_gt d_1189_3
theorem d_1189_4 : List.drop 4 xm_c1189 = xm_c1189_4 := xm_dr d_1189_3
theorem k_1189_4 : xm_gi xm_c1189 4 = some xm_e1189_4 := xm_gt d_1189_4
theorem d_1189_5 : List.drop 5 xm_c1189 = xm_c1189_5 := xm_dr d_1189_4
theorem k_1189_5 : xm_gi xm_c1189 5 = some xm_e1189_5 := xm_gt d_1189_5
theorem xb_1189_0 {sc : List Int} {f : Nat → List xm_V → xm_W → xm_R} {w : xm_W} {Q : Option xm_V × xm_W → Prop} {x0 : Nat}
  (h : xm_O (xm_fi (xm_old sc) w x0 9 16) (fun z1 => xm_Oi (f 1110 [.inr (.inl (some x0)), .inl z1, .inl 1] w) (fun z3 w2 => Q (some (.inl z3), w2)))) :
  xm_EQ (xm_old sc) xm_sta f xm_c1189 0 [some (.inr (.inl (some x0)))] [] w Q :=
  (xq_aload_n k_1189_0 rfl (xq_aload_n k_1189_1 rfl (xq_geti0 k_1189_2 rfl h (fun z1 h => (xq_iconst k_1189_3 (xq_invv1 k_1189_4 xr_1110 rfl rfl rfl h (fun z3 w2 h => (xq_ireturn k_1189_5 h))))))))
/-- ShodBackwardsModel.ridesAs(II)I -/
theorem d_1190_0 : List.drop 0 xm_c1190 = xm_c1190 := rfl
theorem k_1190_0 : xm_gi xm_c1190 0 = some xm_e1190_0 := xm_gt d_1190_0
theorem d_1190_1 : List.drop 1 xm_c1190 = xm_c1190_1 := xm_dr d_1190_0
theorem k_1190_1 : xm_gi xm_c1190 1 = some xm_e1190_1 := xm_gt d_1190_1
theorem d_1190_2 : List.drop 2 xm_c1190 = xm_c1190_2 := xm_dr d_1190_1
theorem k_1190_2 : xm_gi xm_c1190 2 = some xm_e1190_2 := xm_gt d_1190_2
theorem d_1190_3 : List.drop 3 xm_c1190 = xm_c1190_3 := xm_dr d_1190_2
theorem k_1190_3 : xm_gi xm_c1190 3 = some xm_e1190_3 := xm_gt d_1190_3
theorem d_1190_4 : List.drop 4 xm_c1190 = xm_c1190_4 := xm_dr d_1190_3
theorem k_1190_4 : xm_gi xm_c1190 4 = some xm_e1190_4 := xm_gt d_1190_4
theorem d_1190_5 : List.drop 5 xm_c1190 = xm_c1190_5 := xm_dr d_1190_4
theorem k_1190_5 : xm_gi xm_c1190 5 = some xm_e1190_5 := xm_gt d_1190_5
theorem d_1190_6 : List.drop 6 xm_c1190 = xm_c1190_6 := xm_dr d_1190_5
theorem k_1190_6 : xm_gi xm_c1190 6 = some xm_e1190_6 := xm_gt d_1190_6
theorem d_1190_7 : List.drop 7 xm_c1190 = xm_c1190_7 := xm_dr d_1190_6
theorem k_1190_7 : xm_gi xm_c1190 7 = some xm_e1190_7 := xm_gt d_1190_7
theorem d_1190_8 : List.drop 8 xm_c1190 = xm_c1190_8 := xm_dr d_1190_7
theorem k_1190_8 : xm_gi xm_c1190 8 = some xm_e1190_8 := xm_gt d_1190_8
theorem d_1190_9 : List.drop 9 xm_c1190 = xm_c1190_9 := xm_dr d_1190_8
theorem k_1190_9 : xm_gi xm_c1190 9 = some xm_e1190_9 := xm_gt d_1190_9
theorem d_1190_10 : List.drop 10 xm_c1190 = xm_c1190_10 := xm_dr d_1190_9
theorem k_1190_10 : xm_gi xm_c1190 10 = some xm_e1190_10 := xm_gt d_1190_10
theorem d_1190_11 : List.drop 11 xm_c1190 = xm_c1190_11 := xm_dr d_1190_10
theorem k_1190_11 : xm_gi xm_c1190 11 = some xm_e1190_11 := xm_gt d_1190_11
theorem d_1190_12 : List.drop 12 xm_c1190 = xm_c1190_12 := xm_dr d_1190_11
theorem k_1190_12 : xm_gi xm_c1190 12 = some xm_e1190_12 := xm_gt d_1190_12
theorem d_1190_13 : List.drop 13 xm_c1190 = xm_c1190_13 := xm_dr d_1190_12
theorem k_1190_13 : xm_gi xm_c1190 13 = some xm_e1190_13 := xm_gt d_1190_13
theorem d_1190_14 : List.drop 14 xm_c1190 = xm_c1190_14 := xm_dr d_1190_13
theorem k_1190_14 : xm_gi xm_c1190 14 = some xm_e1190_14 := xm_gt d_1190_14
theorem d_1190_15 : List.drop 15 xm_c1190 = xm_c1190_15 := xm_dr d_1190_14
theorem k_1190_15 : xm_gi xm_c1190 15 = some xm_e1190_15 := xm_gt d_1190_15
theorem d_1190_16 : List.drop 16 xm_c1190 = xm_c1190_16 := xm_dr d_1190_15
theorem k_1190_16 : xm_gi xm_c1190 16 = some xm_e1190_16 := xm_gt d_1190_16
theorem d_1190_17 : List.drop 17 xm_c1190 = xm_c1190_17 := xm_dr d_1190_16
theorem k_1190_17 : xm_gi xm_c1190 17 = some xm_e1190_17 := xm_gt d_1190_17
theorem d_1190_18 : List.drop 18 xm_c1190 = xm_c1190_18 := xm_dr d_1190_17
theorem k_1190_18 : xm_gi xm_c1190 18 = some xm_e1190_18 := xm_gt d_1190_18
theorem d_1190_19 : List.drop 19 xm_c1190 = xm_c1190_19 := xm_dr d_1190_18
theorem k_1190_19 : xm_gi xm_c1190 19 = some xm_e1190_19 := xm_gt d_1190_19
theorem d_1190_20 : List.drop 20 xm_c1190 = xm_c1190_20 := xm_dr d_1190_19
theorem k_1190_20 : xm_gi xm_c1190 20 = some xm_e1190_20 := xm_gt d_1190_20
theorem d_1190_21 : List.drop 21 xm_c1190 = xm_c1190_21 := xm_dr d_1190_20
theorem k_1190_21 : xm_gi xm_c1190 21 = some xm_e1190_21 := xm_gt d_1190_21
theorem d_1190_22 : List.drop 22 xm_c1190 = xm_c1190_22 := xm_dr d_1190_21
theorem k_1190_22 : xm_gi xm_c1190 22 = some xm_e1190_22 := xm_gt d_1190_22
theorem d_1190_23 : List.drop 23 xm_c1190 = xm_c1190_23 := xm_dr d_1190_22
theorem k_1190_23 : xm_gi xm_c1190 23 = some xm_e1190_23 := xm_gt d_1190_23
theorem d_1190_24 : List.drop 24 xm_c1190 = xm_c1190_24 := xm_dr d_1190_23
theorem k_1190_24 : xm_gi xm_c1190 24 = some xm_e1190_24 := xm_gt d_1190_24
theorem d_1190_25 : List.drop 25 xm_c1190 = xm_c1190_25 := xm_dr d_1190_24
theorem k_1190_25 : xm_gi xm_c1190 25 = some xm_e1190_25 := xm_gt d_1190_25
theorem d_1190_26 : List.drop 26 xm_c1190 = xm_c1190_26 := xm_dr d_1190_25
theorem k_1190_26 : xm_gi xm_c1190 26 = some xm_e1190_26 := xm_gt d_1190_26
theorem d_1190_27 : List.drop 27 xm_c1190 = xm_c1190_27 := xm_dr d_1190_26
theorem k_1190_27 : xm_gi xm_c1190 27 = some xm_e1190_27 := xm_gt d_1190_27
theorem d_1190_28 : List.drop 28 xm_c1190 = xm_c1190_28 := xm_dr d_1190_27
theorem k_1190_28 : xm_gi xm_c1190 28 = some xm_e1190_28 := xm_gt d_1190_28
theorem d_1190_29 : List.drop 29 xm_c1190 = xm_c1190_29 := xm_dr d_1190_28
theorem k_1190_29 : xm_gi xm_c1190 29 = some xm_e1190_29 := xm_gt d_1190_29
theorem d_1190_30 : List.drop 30 xm_c1190 = xm_c1190_30 := xm_dr d_1190_29
theorem k_1190_30 : xm_gi xm_c1190 30 = some xm_e1190_30 := xm_gt d_1190_30
theorem d_1190_31 : List.drop 31 xm_c1190 = xm_c1190_31 := xm_dr d_1190_30
theorem k_1190_31 : xm_gi xm_c1190 31 = some xm_e1190_31 := xm_gt d_1190_31
theorem d_1190_32 : List.drop 32 xm_c1190 = xm_c1190_32 := xm_dr d_1190_31
theorem k_1190_32 : xm_gi xm_c1190 32 = some xm_e1190_32 := xm_gt d_1190_32
theorem d_1190_33 : List.drop 33 xm_c1190 = xm_c1190_33 := xm_dr d_1190_32
theorem k_1190_33 : xm_gi xm_c1190 33 = some xm_e1190_33 := xm_gt d_1190_33
theorem d_1190_34 : List.drop 34 xm_c1190 = xm_c1190_34 := xm_dr d_1190_33
theorem k_1190_34 : xm_gi xm_c1190 34 = some xm_e1190_34 := xm_gt d_1190_34
theorem d_1190_35 : List.drop 35 xm_c1190 = xm_c1190_35 := xm_dr d_1190_34
theorem k_1190_35 : xm_gi xm_c1190 35 = some xm_e1190_35 := xm_gt d_1190_35
theorem d_1190_36 : List.drop 36 xm_c1190 = xm_c1190_36 := xm_dr d_1190_35
theorem k_1190_36 : xm_gi xm_c1190 36 = some xm_e1190_36 := xm_gt d_1190_36
theorem d_1190_37 : List.drop 37 xm_c1190 = xm_c1190_37 := xm_dr d_1190_36
theorem k_1190_37 : xm_gi xm_c1190 37 = some xm_e1190_37 := xm_gt d_1190_37
theorem d_1190_38 : List.drop 38 xm_c1190 = xm_c1190_38 := xm_dr d_1190_37
theorem k_1190_38 : xm_gi xm_c1190 38 = some xm_e1190_38 := xm_gt d_1190_38
theorem d_1190_39 : List.drop 39 xm_c1190 = xm_c1190_39 := xm_dr d_1190_38
theorem k_1190_39 : xm_gi xm_c1190 39 = some xm_e1190_39 := xm_gt d_1190_39
theorem d_1190_40 : List.drop 40 xm_c1190 = xm_c1190_40 := xm_dr d_1190_39
theorem k_1190_40 : xm_gi xm_c1190 40 = some xm_e1190_40 := xm_gt d_1190_40
theorem d_1190_41 : List.drop 41 xm_c1190 = xm_c1190_41 := xm_dr d_1190_40
theorem k_1190_41 : xm_gi xm_c1190 41 = some xm_e1190_41 := xm_gt d_1190_41
theorem d_1190_42 : List.drop 42 xm_c1190 = xm_c1190_42 := xm_dr d_1190_41
theorem k_1190_42 : xm_gi xm_c1190 42 = some xm_e1190_42 := xm_gt d_1190_42
theorem xb_1190_0 {sc : List Int} {f : Nat → List xm_V → xm_W → xm_R} {w : xm_W} {Q : Option xm_V × xm_W → Prop} {x0 : Nat} {x1 : Int} {x2 : Int}
  (h : if (x1 : Int) = 0 then (xm_Ov (f 1186 [.inr (.inl (some x0)), .inl 10] w) (fun w28 => xm_O (xm_fi (xm_old sc) w28 x0 9 16) (fun z29 => Q (some (.inl (xm_w (x2 + z29))), w28)))) else (if (x1 : Int) = 1 then (xm_Ov (f 1186 [.inr (.inl (some x0)), .inl 20] w) (fun w23 => xm_Oi (f 1187 [.inl 1] w23) (fun z25 w24 => xm_Oi (f 1190 [.inr (.inl (some x0)), .inl z25, .inl x2] w24) (fun z27 w26 => Q (some (.inl (xm_w (z27 - 7))), w26))))) else (if (x1 : Int) = 2 then (xm_Oi (f 1187 [.inl x1] w) (fun z20 w19 => xm_Oi (f 1190 [.inr (.inl (some x0)), .inl z20, .inl x2] w19) (fun z22 w21 => Q (some (.inl z22), w21)))) else (if (x1 : Int) = 3 then (xm_Oi (f 1187 [.inl x1] w) (fun z16 w15 => xm_Oi (f 1190 [.inr (.inl (some x0)), .inl z16, .inl x2] w15) (fun z18 w17 => Q (some (.inl z18), w17)))) else (if (x1 : Int) = 4 then (xm_Ov (f 1186 [.inr (.inl (some x0)), .inl 50] w) (fun w10 => xm_Oi (f 1187 [.inl 4] w10) (fun z12 w11 => xm_Oi (f 1190 [.inr (.inl (some x0)), .inl z12, .inl x2] w11) (fun z14 w13 => Q (some (.inl (xm_w (z14 * 3))), w13))))) else (if (x1 : Int) = 5 then (xm_Oi (f 1187 [.inl x1] w) (fun z7 w6 => xm_Oi (f 1190 [.inr (.inl (some x0)), .inl z7, .inl x2] w6) (fun z9 w8 => Q (some (.inl z9), w8)))) else (if (x1 : Int) = 6 then (xm_Ov (f 1186 [.inr (.inl (some x0)), .inl 70] w) (fun w5 => Q (some (.inl 5), w5))) else (xm_Oi (f 1187 [.inl x1] w) (fun z2 w1 => xm_Oi (f 1190 [.inr (.inl (some x0)), .inl z2, .inl x2] w1) (fun z4 w3 => Q (some (.inl z4), w3))))))))))) :
  xm_EQ (xm_old sc) xm_sta f xm_c1190 0 [some (.inr (.inl (some x0))), some (.inl x1), some (.inl x2)] [] w Q :=
  (xq_iload_n k_1190_0 rfl (xq_tsw k_1190_1 (xs_swc h (fun h => (xq_aload_n k_1190_2 rfl (xq_bipush k_1190_3 (xq_invv0 k_1190_4 xr_1186 rfl rfl rfl h (fun w28 h => (xq_iload_n k_1190_5 rfl (xq_aload_n k_1190_6 rfl (xq_geti0 k_1190_7 rfl h (fun z29 h => (xq_iadd k_1190_8 (xq_ireturn k_1190_9 h))))))))))) (fun h => (xs_swc h (fun h => (xq_aload_n k_1190_10 rfl (xq_bipush k_1190_11 (xq_invv0 k_1190_12 xr_1186 rfl rfl rfl h (fun w23 h => (xq_aload_n k_1190_13 rfl (xq_iconst k_1190_14 (xq_invs1 k_1190_15 xr_1187 rfl rfl rfl h (fun z25 w24 h => (xq_iload_n k_1190_16 rfl (xq_invv1 k_1190_17 xr_1190 rfl rfl rfl h (fun z27 w26 h => (xq_bipush k_1190_18 (xq_isub k_1190_19 (xq_ireturn k_1190_20 h))))))))))))))) (fun h => (xs_swc h (fun h => (xq_aload_n k_1190_37 rfl (xq_iload_n k_1190_38 rfl (xq_invs1 k_1190_39 xr_1187 rfl rfl rfl h (fun z20 w19 h => (xq_iload_n k_1190_40 rfl (xq_invv1 k_1190_41 xr_1190 rfl rfl rfl h (fun z22 w21 h => (xq_ireturn k_1190_42 h))))))))) (fun h => (xs_swc h (fun h => (xq_aload_n k_1190_37 rfl (xq_iload_n k_1190_38 rfl (xq_invs1 k_1190_39 xr_1187 rfl rfl rfl h (fun z16 w15 h => (xq_iload_n k_1190_40 rfl (xq_invv1 k_1190_41 xr_1190 rfl rfl rfl h (fun z18 w17 h => (xq_ireturn k_1190_42 h))))))))) (fun h => (xs_swc h (fun h => (xq_aload_n k_1190_21 rfl (xq_bipush k_1190_22 (xq_invv0 k_1190_23 xr_1186 rfl rfl rfl h (fun w10 h => (xq_aload_n k_1190_24 rfl (xq_iconst k_1190_25 (xq_invs1 k_1190_26 xr_1187 rfl rfl rfl h (fun z12 w11 h => (xq_iload_n k_1190_27 rfl (xq_invv1 k_1190_28 xr_1190 rfl rfl rfl h (fun z14 w13 h => (xq_iconst k_1190_29 (xq_imul k_1190_30 (xq_ireturn k_1190_31 h))))))))))))))) (fun h => (xs_swc h (fun h => (xq_aload_n k_1190_37 rfl (xq_iload_n k_1190_38 rfl (xq_invs1 k_1190_39 xr_1187 rfl rfl rfl h (fun z7 w6 h => (xq_iload_n k_1190_40 rfl (xq_invv1 k_1190_41 xr_1190 rfl rfl rfl h (fun z9 w8 h => (xq_ireturn k_1190_42 h))))))))) (fun h => (xs_swc h (fun h => (xq_aload_n k_1190_32 rfl (xq_bipush k_1190_33 (xq_invv0 k_1190_34 xr_1186 rfl rfl rfl h (fun w5 h => (xq_iconst k_1190_35 (xq_ireturn k_1190_36 h))))))) (fun h => (xq_aload_n k_1190_37 rfl (xq_iload_n k_1190_38 rfl (xq_invs1 k_1190_39 xr_1187 rfl rfl rfl h (fun z2 w1 h => (xq_iload_n k_1190_40 rfl (xq_invv1 k_1190_41 xr_1190 rfl rfl rfl h (fun z4 w3 h => (xq_ireturn k_1190_42 h))))))))))))))))))))))))
/-- ShodBackwardsModel.showsAs(II)I -/
theorem d_1191_0 : List.drop 0 xm_c1191 = xm_c1191 := rfl
theorem k_1191_0 : xm_gi xm_c1191 0 = some xm_e1191_0 := xm_gt d_1191_0
theorem d_1191_1 : List.drop 1 xm_c1191 = xm_c1191_1 := xm_dr d_1191_0
theorem k_1191_1 : xm_gi xm_c1191 1 = some xm_e1191_1 := xm_gt d_1191_1
theorem d_1191_2 : List.drop 2 xm_c1191 = xm_c1191_2 := xm_dr d_1191_1
theorem k_1191_2 : xm_gi xm_c1191 2 = some xm_e1191_2 := xm_gt d_1191_2
theorem d_1191_3 : List.drop 3 xm_c1191 = xm_c1191_3 := xm_dr d_1191_2
theorem k_1191_3 : xm_gi xm_c1191 3 = some xm_e1191_3 := xm_gt d_1191_3
theorem d_1191_4 : List.drop 4 xm_c1191 = xm_c1191_4 := xm_dr d_1191_3
theorem k_1191_4 : xm_gi xm_c1191 4 = some xm_e1191_4 := xm_gt d_1191_4
theorem d_1191_5 : List.drop 5 xm_c1191 = xm_c1191_5 := xm_dr d_1191_4
theorem k_1191_5 : xm_gi xm_c1191 5 = some xm_e1191_5 := xm_gt d_1191_5
theorem d_1191_6 : List.drop 6 xm_c1191 = xm_c1191_6 := xm_dr d_1191_5
theorem k_1191_6 : xm_gi xm_c1191 6 = some xm_e1191_6 := xm_gt d_1191_6
theorem d_1191_7 : List.drop 7 xm_c1191 = xm_c1191_7 := xm_dr d_1191_6
theorem k_1191_7 : xm_gi xm_c1191 7 = some xm_e1191_7 := xm_gt d_1191_7
theorem d_1191_8 : List.drop 8 xm_c1191 = xm_c1191_8 := xm_dr d_1191_7
theorem k_1191_8 : xm_gi xm_c1191 8 = some xm_e1191_8 := xm_gt d_1191_8
theorem d_1191_9 : List.drop 9 xm_c1191 = xm_c1191_9 := xm_dr d_1191_8
theorem k_1191_9 : xm_gi xm_c1191 9 = some xm_e1191_9 := xm_gt d_1191_9
theorem d_1191_10 : List.drop 10 xm_c1191 = xm_c1191_10 := xm_dr d_1191_9
theorem k_1191_10 : xm_gi xm_c1191 10 = some xm_e1191_10 := xm_gt d_1191_10
theorem d_1191_11 : List.drop 11 xm_c1191 = xm_c1191_11 := xm_dr d_1191_10
theorem k_1191_11 : xm_gi xm_c1191 11 = some xm_e1191_11 := xm_gt d_1191_11
theorem d_1191_12 : List.drop 12 xm_c1191 = xm_c1191_12 := xm_dr d_1191_11
theorem k_1191_12 : xm_gi xm_c1191 12 = some xm_e1191_12 := xm_gt d_1191_12
theorem d_1191_13 : List.drop 13 xm_c1191 = xm_c1191_13 := xm_dr d_1191_12
theorem k_1191_13 : xm_gi xm_c1191 13 = some xm_e1191_13 := xm_gt d_1191_13
theorem d_1191_14 : List.drop 14 xm_c1191 = xm_c1191_14 := xm_dr d_1191_13
theorem k_1191_14 : xm_gi xm_c1191 14 = some xm_e1191_14 := xm_gt d_1191_14
theorem d_1191_15 : List.drop 15 xm_c1191 = xm_c1191_15 := xm_dr d_1191_14
theorem k_1191_15 : xm_gi xm_c1191 15 = some xm_e1191_15 := xm_gt d_1191_15
theorem d_1191_16 : List.drop 16 xm_c1191 = xm_c1191_16 := xm_dr d_1191_15
theorem k_1191_16 : xm_gi xm_c1191 16 = some xm_e1191_16 := xm_gt d_1191_16
theorem d_1191_17 : List.drop 17 xm_c1191 = xm_c1191_17 := xm_dr d_1191_16
theorem k_1191_17 : xm_gi xm_c1191 17 = some xm_e1191_17 := xm_gt d_1191_17
theorem d_1191_18 : List.drop 18 xm_c1191 = xm_c1191_18 := xm_dr d_1191_17
theorem k_1191_18 : xm_gi xm_c1191 18 = some xm_e1191_18 := xm_gt d_1191_18
theorem d_1191_19 : List.drop 19 xm_c1191 = xm_c1191_19 := xm_dr d_1191_18
theorem k_1191_19 : xm_gi xm_c1191 19 = some xm_e1191_19 := xm_gt d_1191_19
theorem d_1191_20 : List.drop 20 xm_c1191 = xm_c1191_20 := xm_dr d_1191_19
theorem k_1191_20 : xm_gi xm_c1191 20 = some xm_e1191_20 := xm_gt d_1191_20
theorem d_1191_21 : List.drop 21 xm_c1191 = xm_c1191_21 := xm_dr d_1191_20
theorem k_1191_21 : xm_gi xm_c1191 21 = some xm_e1191_21 := xm_gt d_1191_21
theorem d_1191_22 : List.drop 22 xm_c1191 = xm_c1191_22 := xm_dr d_1191_21
theorem k_1191_22 : xm_gi xm_c1191 22 = some xm_e1191_22 := xm_gt d_1191_22
theorem d_1191_23 : List.drop 23 xm_c1191 = xm_c1191_23 := xm_dr d_1191_22
theorem k_1191_23 : xm_gi xm_c1191 23 = some xm_e1191_23 := xm_gt d_1191_23
theorem d_1191_24 : List.drop 24 xm_c1191 = xm_c1191_24 := xm_dr d_1191_23
theorem k_1191_24 : xm_gi xm_c1191 24 = some xm_e1191_24 := xm_gt d_1191_24
theorem d_1191_25 : List.drop 25 xm_c1191 = xm_c1191_25 := xm_dr d_1191_24
theorem k_1191_25 : xm_gi xm_c1191 25 = some xm_e1191_25 := xm_gt d_1191_25
theorem d_1191_26 : List.drop 26 xm_c1191 = xm_c1191_26 := xm_dr d_1191_25
theorem k_1191_26 : xm_gi xm_c1191 26 = some xm_e1191_26 := xm_gt d_1191_26
theorem d_1191_27 : List.drop 27 xm_c1191 = xm_c1191_27 := xm_dr d_1191_26
theorem k_1191_27 : xm_gi xm_c1191 27 = some xm_e1191_27 := xm_gt d_1191_27
theorem d_1191_28 : List.drop 28 xm_c1191 = xm_c1191_28 := xm_dr d_1191_27
theorem k_1191_28 : xm_gi xm_c1191 28 = some xm_e1191_28 := xm_gt d_1191_28
theorem d_1191_29 : List.drop 29 xm_c1191 = xm_c1191_29 := xm_dr d_1191_28
theorem k_1191_29 : xm_gi xm_c1191 29 = some xm_e1191_29 := xm_gt d_1191_29
theorem d_1191_30 : List.drop 30 xm_c1191 = xm_c1191_30 := xm_dr d_1191_29
theorem k_1191_30 : xm_gi xm_c1191 30 = some xm_e1191_30 := xm_gt d_1191_30
theorem d_1191_31 : List.drop 31 xm_c1191 = xm_c1191_31 := xm_dr d_1191_30
theorem k_1191_31 : xm_gi xm_c1191 31 = some xm_e1191_31 := xm_gt d_1191_31
theorem d_1191_32 : List.drop 32 xm_c1191 = xm_c1191_32 := xm_dr d_1191_31
theorem k_1191_32 : xm_gi xm_c1191 32 = some xm_e1191_32 := xm_gt d_1191_32
theorem d_1191_33 : List.drop 33 xm_c1191 = xm_c1191_33 := xm_dr d_1191_32
theorem k_1191_33 : xm_gi xm_c1191 33 = some xm_e1191_33 := xm_gt d_1191_33
theorem d_1191_34 : List.drop 34 xm_c1191 = xm_c1191_34 := xm_dr d_1191_33
theorem k_1191_34 : xm_gi xm_c1191 34 = some xm_e1191_34 := xm_gt d_1191_34
theorem d_1191_35 : List.drop 35 xm_c1191 = xm_c1191_35 := xm_dr d_1191_34
theorem k_1191_35 : xm_gi xm_c1191 35 = some xm_e1191_35 := xm_gt d_1191_35
theorem d_1191_36 : List.drop 36 xm_c1191 = xm_c1191_36 := xm_dr d_1191_35
theorem k_1191_36 : xm_gi xm_c1191 36 = some xm_e1191_36 := xm_gt d_1191_36
theorem d_1191_37 : List.drop 37 xm_c1191 = xm_c1191_37 := xm_dr d_1191_36
theorem k_1191_37 : xm_gi xm_c1191 37 = some xm_e1191_37 := xm_gt d_1191_37
theorem d_1191_38 : List.drop 38 xm_c1191 = xm_c1191_38 := xm_dr d_1191_37
theorem k_1191_38 : xm_gi xm_c1191 38 = some xm_e1191_38 := xm_gt d_1191_38
theorem d_1191_39 : List.drop 39 xm_c1191 = xm_c1191_39 := xm_dr d_1191_38
theorem k_1191_39 : xm_gi xm_c1191 39 = some xm_e1191_39 := xm_gt d_1191_39
theorem d_1191_40 : List.drop 40 xm_c1191 = xm_c1191_40 := xm_dr d_1191_39
theorem k_1191_40 : xm_gi xm_c1191 40 = some xm_e1191_40 := xm_gt d_1191_40
theorem d_1191_41 : List.drop 41 xm_c1191 = xm_c1191_41 := xm_dr d_1191_40
theorem k_1191_41 : xm_gi xm_c1191 41 = some xm_e1191_41 := xm_gt d_1191_41
theorem d_1191_42 : List.drop 42 xm_c1191 = xm_c1191_42 := xm_dr d_1191_41
theorem k_1191_42 : xm_gi xm_c1191 42 = some xm_e1191_42 := xm_gt d_1191_42
theorem d_1191_43 : List.drop 43 xm_c1191 = xm_c1191_43 := xm_dr d_1191_42
theorem k_1191_43 : xm_gi xm_c1191 43 = some xm_e1191_43 := xm_gt d_1191_43
theorem d_1191_44 : List.drop 44 xm_c1191 = xm_c1191_44 := xm_dr d_1191_43
theorem k_1191_44 : xm_gi xm_c1191 44 = some xm_e1191_44 := xm_gt d_1191_44
theorem d_1191_45 : List.drop 45 xm_c1191 = xm_c1191_45 := xm_dr d_1191_44
theorem k_1191_45 : xm_gi xm_c1191 45 = some xm_e1191_45 := xm_gt d_1191_45
theorem d_1191_46 : List.drop 46 xm_c1191 = xm_c1191_46 := xm_dr d_1191_45
theorem k_1191_46 : xm_gi xm_c1191 46 = some xm_e1191_46 := xm_gt d_1191_46
theorem d_1191_47 : List.drop 47 xm_c1191 = xm_c1191_47 := xm_dr d_1191_46
theorem k_1191_47 : xm_gi xm_c1191 47 = some xm_e1191_47 := xm_gt d_1191_47
theorem d_1191_48 : List.drop 48 xm_c1191 = xm_c1191_48 := xm_dr d_1191_47
theorem k_1191_48 : xm_gi xm_c1191 48 = some xm_e1191_48 := xm_gt d_1191_48
theorem d_1191_49 : List.drop 49 xm_c1191 = xm_c1191_49 := xm_dr d_1191_48
theorem k_1191_49 : xm_gi xm_c1191 49 = some xm_e1191_49 := xm_gt d_1191_49
theorem d_1191_50 : List.drop 50 xm_c1191 = xm_c1191_50 := xm_dr d_1191_49
theorem k_1191_50 : xm_gi xm_c1191 50 = some xm_e1191_50 := xm_gt d_1191_50
theorem d_1191_51 : List.drop 51 xm_c1191 = xm_c1191_51 := xm_dr d_1191_50
theorem k_1191_51 : xm_gi xm_c1191 51 = some xm_e1191_51 := xm_gt d_1191_51
theorem d_1191_52 : List.drop 52 xm_c1191 = xm_c1191_52 := xm_dr d_1191_51
theorem k_1191_52 : xm_gi xm_c1191 52 = some xm_e1191_52 := xm_gt d_1191_52
theorem xb_1191_0 {sc : List Int} {f : Nat → List xm_V → xm_W → xm_R} {w : xm_W} {Q : Option xm_V × xm_W → Prop} {x0 : Nat} {x1 : Int} {x2 : Int}
  (h : if (x1 : Int) = 0 then (xm_Ov (f 1186 [.inr (.inl (some x0)), .inl 11] w) (fun w34 => xm_Oi (f 1188 [.inr (.inl (some x0))] w34) (fun z36 w35 => xm_Oi (f 1190 [.inr (.inl (some x0)), .inl z36, .inl x2] w35) (fun z38 w37 => Q (some (.inl (xm_w (z38 * 2))), w37))))) else (if (x1 : Int) = 1 then (xm_Oi (f 1187 [.inl x1] w) (fun z31 w30 => xm_Oi (f 1191 [.inr (.inl (some x0)), .inl z31, .inl x2] w30) (fun z33 w32 => Q (some (.inl z33), w32)))) else (if (x1 : Int) = 2 then (xm_Ov (f 1186 [.inr (.inl (some x0)), .inl 30] w) (fun w25 => xm_Oi (f 1187 [.inl 2] w25) (fun z27 w26 => xm_Oi (f 1191 [.inr (.inl (some x0)), .inl z27, .inl x2] w26) (fun z29 w28 => Q (some (.inl (xm_w (0 - z29))), w28))))) else (if (x1 : Int) = 3 then (xm_Oi (f 1187 [.inl x1] w) (fun z22 w21 => xm_Oi (f 1191 [.inr (.inl (some x0)), .inl z22, .inl x2] w21) (fun z24 w23 => Q (some (.inl z24), w23)))) else (if (x1 : Int) = 4 then (xm_Oi (f 1187 [.inl x1] w) (fun z18 w17 => xm_Oi (f 1191 [.inr (.inl (some x0)), .inl z18, .inl x2] w17) (fun z20 w19 => Q (some (.inl z20), w19)))) else (if (x1 : Int) = 5 then (xm_Ov (f 1186 [.inr (.inl (some x0)), .inl 60] w) (fun w12 => xm_Oi (f 1187 [.inl 5] w12) (fun z14 w13 => xm_Oi (f 1191 [.inr (.inl (some x0)), .inl z14, .inl (xm_w (x2 + 1))] w13) (fun z16 w15 => Q (some (.inl z16), w15))))) else (if (x1 : Int) = 6 then (xm_Ov (f 1186 [.inr (.inl (some x0)), .inl 71] w) (fun w5 => xm_Oi (f 1187 [.inl 6] w5) (fun z7 w6 => xm_Oi (f 1191 [.inr (.inl (some x0)), .inl z7, .inl x2] w6) (fun z9 w8 => xm_Oi (f 1189 [.inr (.inl (some x0))] w8) (fun z11 w10 => Q (some (.inl (xm_w (z9 + z11))), w10)))))) else (xm_Oi (f 1187 [.inl x1] w) (fun z2 w1 => xm_Oi (f 1191 [.inr (.inl (some x0)), .inl z2, .inl x2] w1) (fun z4 w3 => Q (some (.inl z4), w3))))))))))) :
  xm_EQ (xm_old sc) xm_sta f xm_c1191 0 [some (.inr (.inl (some x0))), some (.inl x1), some (.inl x2)] [] w Q :=
  (xq_iload_n k_1191_0 rfl (xq_tsw k_1191_1 (xs_swc h (fun h => (xq_aload_n k_1191_2 rfl (xq_bipush k_1191_3 (xq_invv0 k_1191_4 xr_1186 rfl rfl rfl h (fun w34 h => (xq_aload_n k_1191_5 rfl (xq_aload_n k_1191_6 rfl (xq_invv1 k_1191_7 xr_1188 rfl rfl rfl h (fun z36 w35 h => (xq_iload_n k_1191_8 rfl (xq_invv1 k_1191_9 xr_1190 rfl rfl rfl h (fun z38 w37 h => (xq_iconst k_1191_10 (xq_imul k_1191_11 (xq_ireturn k_1191_12 h))))))))))))))) (fun h => (xs_swc h (fun h => (xq_aload_n k_1191_47 rfl (xq_iload_n k_1191_48 rfl (xq_invs1 k_1191_49 xr_1187 rfl rfl rfl h (fun z31 w30 h => (xq_iload_n k_1191_50 rfl (xq_invv1 k_1191_51 xr_1191 rfl rfl rfl h (fun z33 w32 h => (xq_ireturn k_1191_52 h))))))))) (fun h => (xs_swc h (fun h => (xq_aload_n k_1191_13 rfl (xq_bipush k_1191_14 (xq_invv0 k_1191_15 xr_1186 rfl rfl rfl h (fun w25 h => (xq_iconst k_1191_16 (xq_aload_n k_1191_17 rfl (xq_iconst k_1191_18 (xq_invs1 k_1191_19 xr_1187 rfl rfl rfl h (fun z27 w26 h => (xq_iload_n k_1191_20 rfl (xq_invv1 k_1191_21 xr_1191 rfl rfl rfl h (fun z29 w28 h => (xq_isub k_1191_22 (xq_ireturn k_1191_23 h))))))))))))))) (fun h => (xs_swc h (fun h => (xq_aload_n k_1191_47 rfl (xq_iload_n k_1191_48 rfl (xq_invs1 k_1191_49 xr_1187 rfl rfl rfl h (fun z22 w21 h => (xq_iload_n k_1191_50 rfl (xq_invv1 k_1191_51 xr_1191 rfl rfl rfl h (fun z24 w23 h => (xq_ireturn k_1191_52 h))))))))) (fun h => (xs_swc h (fun h => (xq_aload_n k_1191_47 rfl (xq_iload_n k_1191_48 rfl (xq_invs1 k_1191_49 xr_1187 rfl rfl rfl h (fun z18 w17 h => (xq_iload_n k_1191_50 rfl (xq_invv1 k_1191_51 xr_1191 rfl rfl rfl h (fun z20 w19 h => (xq_ireturn k_1191_52 h))))))))) (fun h => (xs_swc h (fun h => (xq_aload_n k_1191_24 rfl (xq_bipush k_1191_25 (xq_invv0 k_1191_26 xr_1186 rfl rfl rfl h (fun w12 h => (xq_aload_n k_1191_27 rfl (xq_iconst k_1191_28 (xq_invs1 k_1191_29 xr_1187 rfl rfl rfl h (fun z14 w13 h => (xq_iload_n k_1191_30 rfl (xq_iconst k_1191_31 (xq_iadd k_1191_32 (xq_invv1 k_1191_33 xr_1191 rfl rfl rfl h (fun z16 w15 h => (xq_ireturn k_1191_34 h))))))))))))))) (fun h => (xs_swc h (fun h => (xq_aload_n k_1191_35 rfl (xq_bipush k_1191_36 (xq_invv0 k_1191_37 xr_1186 rfl rfl rfl h (fun w5 h => (xq_aload_n k_1191_38 rfl (xq_bipush k_1191_39 (xq_invs1 k_1191_40 xr_1187 rfl rfl rfl h (fun z7 w6 h => (xq_iload_n k_1191_41 rfl (xq_invv1 k_1191_42 xr_1191 rfl rfl rfl h (fun z9 w8 h => (xq_aload_n k_1191_43 rfl (xq_invv1 k_1191_44 xr_1189 rfl rfl rfl h (fun z11 w10 h => (xq_iadd k_1191_45 (xq_ireturn k_1191_46 h))))))))))))))))) (fun h => (xq_aload_n k_1191_47 rfl (xq_iload_n k_1191_48 rfl (xq_invs1 k_1191_49 xr_1187 rfl rfl rfl h (fun z2 w1 h => (xq_iload_n k_1191_50 rfl (xq_invv1 k_1191_51 xr_1191 rfl rfl rfl h (fun z4 w3 h => (xq_ireturn k_1191_52 h))))))))))))))))))))))))
/-- ShodBackwardsModel.sinksAs(II)I -/
theorem d_1192_0 : List.drop 0 xm_c1192 = xm_c1192 := rfl
theorem k_1192_0 : xm_gi xm_c1192 0 = some xm_e1192_0 := xm_gt d_1192_0
theorem d_1192_1 : List.drop 1 xm_c1192 = xm_c1192_1 := xm_dr d_1192_0
theorem k_1192_1 : xm_gi xm_c1192 1 = some xm_e1192_1 := xm_gt d_1192_1
theorem d_1192_2 : List.drop 2 xm_c1192 = xm_c1192_2 := xm_dr d_1192_1
theorem k_1192_2 : xm_gi xm_c1192 2 = some xm_e1192_2 := xm_gt d_1192_2
theorem d_1192_3 : List.drop 3 xm_c1192 = xm_c1192_3 := xm_dr d_1192_2
theorem k_1192_3 : xm_gi xm_c1192 3 = some xm_e1192_3 := xm_gt d_1192_3
theorem d_1192_4 : List.drop 4 xm_c1192 = xm_c1192_4 := xm_dr d_1192_3
theorem k_1192_4 : xm_gi xm_c1192 4 = some xm_e1192_4 := xm_gt d_1192_4
theorem d_1192_5 : List.drop 5 xm_c1192 = xm_c1192_5 := xm_dr d_1192_4
theorem k_1192_5 : xm_gi xm_c1192 5 = some xm_e1192_5 := xm_gt d_1192_5
theorem d_1192_6 : List.drop 6 xm_c1192 = xm_c1192_6 := xm_dr d_1192_5
theorem k_1192_6 : xm_gi xm_c1192 6 = some xm_e1192_6 := xm_gt d_1192_6
theorem d_1192_7 : List.drop 7 xm_c1192 = xm_c1192_7 := xm_dr d_1192_6
theorem k_1192_7 : xm_gi xm_c1192 7 = some xm_e1192_7 := xm_gt d_1192_7
theorem d_1192_8 : List.drop 8 xm_c1192 = xm_c1192_8 := xm_dr d_1192_7
theorem k_1192_8 : xm_gi xm_c1192 8 = some xm_e1192_8 := xm_gt d_1192_8
theorem d_1192_9 : List.drop 9 xm_c1192 = xm_c1192_9 := xm_dr d_1192_8
theorem k_1192_9 : xm_gi xm_c1192 9 = some xm_e1192_9 := xm_gt d_1192_9
theorem d_1192_10 : List.drop 10 xm_c1192 = xm_c1192_10 := xm_dr d_1192_9
theorem k_1192_10 : xm_gi xm_c1192 10 = some xm_e1192_10 := xm_gt d_1192_10
theorem d_1192_11 : List.drop 11 xm_c1192 = xm_c1192_11 := xm_dr d_1192_10
theorem k_1192_11 : xm_gi xm_c1192 11 = some xm_e1192_11 := xm_gt d_1192_11
theorem d_1192_12 : List.drop 12 xm_c1192 = xm_c1192_12 := xm_dr d_1192_11
theorem k_1192_12 : xm_gi xm_c1192 12 = some xm_e1192_12 := xm_gt d_1192_12
theorem d_1192_13 : List.drop 13 xm_c1192 = xm_c1192_13 := xm_dr d_1192_12
theorem k_1192_13 : xm_gi xm_c1192 13 = some xm_e1192_13 := xm_gt d_1192_13
theorem d_1192_14 : List.drop 14 xm_c1192 = xm_c1192_14 := xm_dr d_1192_13
theorem k_1192_14 : xm_gi xm_c1192 14 = some xm_e1192_14 := xm_gt d_1192_14
theorem d_1192_15 : List.drop 15 xm_c1192 = xm_c1192_15 := xm_dr d_1192_14
theorem k_1192_15 : xm_gi xm_c1192 15 = some xm_e1192_15 := xm_gt d_1192_15
theorem d_1192_16 : List.drop 16 xm_c1192 = xm_c1192_16 := xm_dr d_1192_15
theorem k_1192_16 : xm_gi xm_c1192 16 = some xm_e1192_16 := xm_gt d_1192_16
theorem d_1192_17 : List.drop 17 xm_c1192 = xm_c1192_17 := xm_dr d_1192_16
theorem k_1192_17 : xm_gi xm_c1192 17 = some xm_e1192_17 := xm_gt d_1192_17
theorem d_1192_18 : List.drop 18 xm_c1192 = xm_c1192_18 := xm_dr d_1192_17
theorem k_1192_18 : xm_gi xm_c1192 18 = some xm_e1192_18 := xm_gt d_1192_18
theorem d_1192_19 : List.drop 19 xm_c1192 = xm_c1192_19 := xm_dr d_1192_18
theorem k_1192_19 : xm_gi xm_c1192 19 = some xm_e1192_19 := xm_gt d_1192_19
theorem d_1192_20 : List.drop 20 xm_c1192 = xm_c1192_20 := xm_dr d_1192_19
theorem k_1192_20 : xm_gi xm_c1192 20 = some xm_e1192_20 := xm_gt d_1192_20
theorem d_1192_21 : List.drop 21 xm_c1192 = xm_c1192_21 := xm_dr d_1192_20
theorem k_1192_21 : xm_gi xm_c1192 21 = some xm_e1192_21 := xm_gt d_1192_21
theorem d_1192_22 : List.drop 22 xm_c1192 = xm_c1192_22 := xm_dr d_1192_21
theorem k_1192_22 : xm_gi xm_c1192 22 = some xm_e1192_22 := xm_gt d_1192_22
theorem d_1192_23 : List.drop 23 xm_c1192 = xm_c1192_23 := xm_dr d_1192_22
theorem k_1192_23 : xm_gi xm_c1192 23 = some xm_e1192_23 := xm_gt d_1192_23
theorem d_1192_24 : List.drop 24 xm_c1192 = xm_c1192_24 := xm_dr d_1192_23
theorem k_1192_24 : xm_gi xm_c1192 24 = some xm_e1192_24 := xm_gt d_1192_24
theorem d_1192_25 : List.drop 25 xm_c1192 = xm_c1192_25 := xm_dr d_1192_24
theorem k_1192_25 : xm_gi xm_c1192 25 = some xm_e1192_25 := xm_gt d_1192_25
theorem d_1192_26 : List.drop 26 xm_c1192 = xm_c1192_26 := xm_dr d_1192_25
theorem k_1192_26 : xm_gi xm_c1192 26 = some xm_e1192_26 := xm_gt d_1192_26
theorem d_1192_27 : List.drop 27 xm_c1192 = xm_c1192_27 := xm_dr d_1192_26
theorem k_1192_27 : xm_gi xm_c1192 27 = some xm_e1192_27 := xm_gt d_1192_27
theorem d_1192_28 : List.drop 28 xm_c1192 = xm_c1192_28 := xm_dr d_1192_27
theorem k_1192_28 : xm_gi xm_c1192 28 = some xm_e1192_28 := xm_gt d_1192_28
theorem d_1192_29 : List.drop 29 xm_c1192 = xm_c1192_29 := xm_dr d_1192_28
theorem k_1192_29 : xm_gi xm_c1192 29 = some xm_e1192_29 := xm_gt d_1192_29
theorem d_1192_30 : List.drop 30 xm_c1192 = xm_c1192_30 := xm_dr d_1192_29
theorem k_1192_30 : xm_gi xm_c1192 30 = some xm_e1192_30 := xm_gt d_1192_30
theorem d_1192_31 : List.drop 31 xm_c1192 = xm_c1192_31 := xm_dr d_1192_30
theorem k_1192_31 : xm_gi xm_c1192 31 = some xm_e1192_31 := xm_gt d_1192_31
theorem d_1192_32 : List.drop 32 xm_c1192 = xm_c1192_32 := xm_dr d_1192_31
theorem k_1192_32 : xm_gi xm_c1192 32 = some xm_e1192_32 := xm_gt d_1192_32
theorem d_1192_33 : List.drop 33 xm_c1192 = xm_c1192_33 := xm_dr d_1192_32
theorem k_1192_33 : xm_gi xm_c1192 33 = some xm_e1192_33 := xm_gt d_1192_33
theorem d_1192_34 : List.drop 34 xm_c1192 = xm_c1192_34 := xm_dr d_1192_33
theorem k_1192_34 : xm_gi xm_c1192 34 = some xm_e1192_34 := xm_gt d_1192_34
theorem d_1192_35 : List.drop 35 xm_c1192 = xm_c1192_35 := xm_dr d_1192_34
theorem k_1192_35 : xm_gi xm_c1192 35 = some xm_e1192_35 := xm_gt d_1192_35
theorem d_1192_36 : List.drop 36 xm_c1192 = xm_c1192_36 := xm_dr d_1192_35
theorem k_1192_36 : xm_gi xm_c1192 36 = some xm_e1192_36 := xm_gt d_1192_36
theorem d_1192_37 : List.drop 37 xm_c1192 = xm_c1192_37 := xm_dr d_1192_36
theorem k_1192_37 : xm_gi xm_c1192 37 = some xm_e1192_37 := xm_gt d_1192_37
theorem d_1192_38 : List.drop 38 xm_c1192 = xm_c1192_38 := xm_dr d_1192_37
theorem k_1192_38 : xm_gi xm_c1192 38 = some xm_e1192_38 := xm_gt d_1192_38
theorem d_1192_39 : List.drop 39 xm_c1192 = xm_c1192_39 := xm_dr d_1192_38
theorem k_1192_39 : xm_gi xm_c1192 39 = some xm_e1192_39 := xm_gt d_1192_39
theorem d_1192_40 : List.drop 40 xm_c1192 = xm_c1192_40 := xm_dr d_1192_39
theorem k_1192_40 : xm_gi xm_c1192 40 = some xm_e1192_40 := xm_gt d_1192_40
theorem d_1192_41 : List.drop 41 xm_c1192 = xm_c1192_41 := xm_dr d_1192_40
theorem k_1192_41 : xm_gi xm_c1192 41 = some xm_e1192_41 := xm_gt d_1192_41
theorem d_1192_42 : List.drop 42 xm_c1192 = xm_c1192_42 := xm_dr d_1192_41
theorem k_1192_42 : xm_gi xm_c1192 42 = some xm_e1192_42 := xm_gt d_1192_42
theorem xb_1192_0 {sc : List Int} {f : Nat → List xm_V → xm_W → xm_R} {w : xm_W} {Q : Option xm_V × xm_W → Prop} {x0 : Nat} {x1 : Int} {x2 : Int}
  (h : if (x1 : Int) = 0 then (xm_Ov (f 1186 [.inr (.inl (some x0)), .inl 12] w) (fun w24 => xm_Oi (f 1188 [.inr (.inl (some x0))] w24) (fun z26 w25 => xm_Oi (f 1191 [.inr (.inl (some x0)), .inl z26, .inl x2] w25) (fun z28 w27 => xm_Oi (f 1189 [.inr (.inl (some x0))] w27) (fun z30 w29 => Q (some (.inl (xm_w (z28 - z30))), w29)))))) else (if (x1 : Int) = 1 then (xm_Oi (f 1187 [.inl x1] w) (fun z21 w20 => xm_Oi (f 1192 [.inr (.inl (some x0)), .inl z21, .inl x2] w20) (fun z23 w22 => Q (some (.inl z23), w22)))) else (if (x1 : Int) = 2 then (xm_Oi (f 1187 [.inl x1] w) (fun z17 w16 => xm_Oi (f 1192 [.inr (.inl (some x0)), .inl z17, .inl x2] w16) (fun z19 w18 => Q (some (.inl z19), w18)))) else (if (x1 : Int) = 3 then (xm_Ov (f 1186 [.inr (.inl (some x0)), .inl 40] w) (fun w11 => xm_Oi (f 1187 [.inl 3] w11) (fun z13 w12 => (2 : Int) ≠ 0 ∧ (xm_Oi (f 1192 [.inr (.inl (some x0)), .inl z13, .inl (xm_w (Int.tdiv x2 2))] w12) (fun z15 w14 => Q (some (.inl z15), w14)))))) else (if (x1 : Int) = 4 then (xm_Ov (f 1186 [.inr (.inl (some x0)), .inl 51] w) (fun w5 => xm_Oi (f 1187 [.inl 4] w5) (fun z7 w6 => xm_Oi (f 1192 [.inr (.inl (some x0)), .inl z7, .inl x2] w6) (fun z9 w8 => xm_O (xm_fi (xm_old sc) w8 x0 9 16) (fun z10 => Q (some (.inl (xm_xor z9 z10)), w8)))))) else (xm_Oi (f 1187 [.inl x1] w) (fun z2 w1 => xm_Oi (f 1192 [.inr (.inl (some x0)), .inl z2, .inl x2] w1) (fun z4 w3 => Q (some (.inl z4), w3))))))))) :
  xm_EQ (xm_old sc) xm_sta f xm_c1192 0 [some (.inr (.inl (some x0))), some (.inl x1), some (.inl x2)] [] w Q :=
  (xq_iload_n k_1192_0 rfl (xq_tsw k_1192_1 (xs_swc h (fun h => (xq_aload_n k_1192_2 rfl (xq_bipush k_1192_3 (xq_invv0 k_1192_4 xr_1186 rfl rfl rfl h (fun w24 h => (xq_aload_n k_1192_5 rfl (xq_aload_n k_1192_6 rfl (xq_invv1 k_1192_7 xr_1188 rfl rfl rfl h (fun z26 w25 h => (xq_iload_n k_1192_8 rfl (xq_invv1 k_1192_9 xr_1191 rfl rfl rfl h (fun z28 w27 h => (xq_aload_n k_1192_10 rfl (xq_invv1 k_1192_11 xr_1189 rfl rfl rfl h (fun z30 w29 h => (xq_isub k_1192_12 (xq_ireturn k_1192_13 h))))))))))))))))) (fun h => (xs_swc h (fun h => (xq_aload_n k_1192_37 rfl (xq_iload_n k_1192_38 rfl (xq_invs1 k_1192_39 xr_1187 rfl rfl rfl h (fun z21 w20 h => (xq_iload_n k_1192_40 rfl (xq_invv1 k_1192_41 xr_1192 rfl rfl rfl h (fun z23 w22 h => (xq_ireturn k_1192_42 h))))))))) (fun h => (xs_swc h (fun h => (xq_aload_n k_1192_37 rfl (xq_iload_n k_1192_38 rfl (xq_invs1 k_1192_39 xr_1187 rfl rfl rfl h (fun z17 w16 h => (xq_iload_n k_1192_40 rfl (xq_invv1 k_1192_41 xr_1192 rfl rfl rfl h (fun z19 w18 h => (xq_ireturn k_1192_42 h))))))))) (fun h => (xs_swc h (fun h => (xq_aload_n k_1192_14 rfl (xq_bipush k_1192_15 (xq_invv0 k_1192_16 xr_1186 rfl rfl rfl h (fun w11 h => (xq_aload_n k_1192_17 rfl (xq_iconst k_1192_18 (xq_invs1 k_1192_19 xr_1187 rfl rfl rfl h (fun z13 w12 h => (xq_iload_n k_1192_20 rfl (xq_iconst k_1192_21 (xq_idiv k_1192_22 h (fun h => (xq_invv1 k_1192_23 xr_1192 rfl rfl rfl h (fun z15 w14 h => (xq_ireturn k_1192_24 h)))))))))))))))) (fun h => (xs_swc h (fun h => (xq_aload_n k_1192_25 rfl (xq_bipush k_1192_26 (xq_invv0 k_1192_27 xr_1186 rfl rfl rfl h (fun w5 h => (xq_aload_n k_1192_28 rfl (xq_iconst k_1192_29 (xq_invs1 k_1192_30 xr_1187 rfl rfl rfl h (fun z7 w6 h => (xq_iload_n k_1192_31 rfl (xq_invv1 k_1192_32 xr_1192 rfl rfl rfl h (fun z9 w8 h => (xq_aload_n k_1192_33 rfl (xq_geti0 k_1192_34 rfl h (fun z10 h => (xq_ixor k_1192_35 (xq_ireturn k_1192_36 h))))))))))))))))) (fun h => (xq_aload_n k_1192_37 rfl (xq_iload_n k_1192_38 rfl (xq_invs1 k_1192_39 xr_1187 rfl rfl rfl h (fun z2 w1 h => (xq_iload_n k_1192_40 rfl (xq_invv1 k_1192_41 xr_1192 rfl rfl rfl h (fun z4 w3 h => (xq_ireturn k_1192_42 h))))))))))))))))))))
/-- ShodBackwardsModel.partsAs(II)I -/
theorem d_1193_0 : List.drop 0 xm_c1193 = xm_c1193 := rfl
theorem k_1193_0 : xm_gi xm_c1193 0 = some xm_e1193_0 := xm_gt d_1193_0
theorem d_1193_1 : List.drop 1 xm_c1193 = xm_c1193_1 := xm_dr d_1193_0
theorem k_1193_1 : xm_gi xm_c1193 1 = some xm_e1193_1 := xm_gt d_1193_1
theorem d_1193_2 : List.drop 2 xm_c1193 = xm_c1193_2 := xm_dr d_1193_1
theorem k_1193_2 : xm_gi xm_c1193 2 = some xm_e1193_2 := xm_gt d_1193_2
theorem d_1193_3 : List.drop 3 xm_c1193 = xm_c1193_3 := xm_dr d_1193_2
theorem k_1193_3 : xm_gi xm_c1193 3 = some xm_e1193_3 := xm_gt d_1193_3
theorem d_1193_4 : List.drop 4 xm_c1193 = xm_c1193_4 := xm_dr d_1193_3
theorem k_1193_4 : xm_gi xm_c1193 4 = some xm_e1193_4 := xm_gt d_1193_4
theorem d_1193_5 : List.drop 5 xm_c1193 = xm_c1193_5 := xm_dr d_1193_4
theorem k_1193_5 : xm_gi xm_c1193 5 = some xm_e1193_5 := xm_gt d_1193_5
theorem d_1193_6 : List.drop 6 xm_c1193 = xm_c1193_6 := xm_dr d_1193_5
theorem k_1193_6 : xm_gi xm_c1193 6 = some xm_e1193_6 := xm_gt d_1193_6
theorem d_1193_7 : List.drop 7 xm_c1193 = xm_c1193_7 := xm_dr d_1193_6
theorem k_1193_7 : xm_gi xm_c1193 7 = some xm_e1193_7 := xm_gt d_1193_7
theorem d_1193_8 : List.drop 8 xm_c1193 = xm_c1193_8 := xm_dr d_1193_7
theorem k_1193_8 : xm_gi xm_c1193 8 = some xm_e1193_8 := xm_gt d_1193_8
theorem d_1193_9 : List.drop 9 xm_c1193 = xm_c1193_9 := xm_dr d_1193_8
theorem k_1193_9 : xm_gi xm_c1193 9 = some xm_e1193_9 := xm_gt d_1193_9
theorem d_1193_10 : List.drop 10 xm_c1193 = xm_c1193_10 := xm_dr d_1193_9
theorem k_1193_10 : xm_gi xm_c1193 10 = some xm_e1193_10 := xm_gt d_1193_10
theorem d_1193_11 : List.drop 11 xm_c1193 = xm_c1193_11 := xm_dr d_1193_10
theorem k_1193_11 : xm_gi xm_c1193 11 = some xm_e1193_11 := xm_gt d_1193_11
theorem d_1193_12 : List.drop 12 xm_c1193 = xm_c1193_12 := xm_dr d_1193_11
theorem k_1193_12 : xm_gi xm_c1193 12 = some xm_e1193_12 := xm_gt d_1193_12
theorem d_1193_13 : List.drop 13 xm_c1193 = xm_c1193_13 := xm_dr d_1193_12
theorem k_1193_13 : xm_gi xm_c1193 13 = some xm_e1193_13 := xm_gt d_1193_13
theorem d_1193_14 : List.drop 14 xm_c1193 = xm_c1193_14 := xm_dr d_1193_13
theorem k_1193_14 : xm_gi xm_c1193 14 = some xm_e1193_14 := xm_gt d_1193_14
theorem d_1193_15 : List.drop 15 xm_c1193 = xm_c1193_15 := xm_dr d_1193_14
theorem k_1193_15 : xm_gi xm_c1193 15 = some xm_e1193_15 := xm_gt d_1193_15
theorem d_1193_16 : List.drop 16 xm_c1193 = xm_c1193_16 := xm_dr d_1193_15
theorem k_1193_16 : xm_gi xm_c1193 16 = some xm_e1193_16 := xm_gt d_1193_16
theorem d_1193_17 : List.drop 17 xm_c1193 = xm_c1193_17 := xm_dr d_1193_16
theorem k_1193_17 : xm_gi xm_c1193 17 = some xm_e1193_17 := xm_gt d_1193_17
theorem d_1193_18 : List.drop 18 xm_c1193 = xm_c1193_18 := xm_dr d_1193_17
theorem k_1193_18 : xm_gi xm_c1193 18 = some xm_e1193_18 := xm_gt d_1193_18
theorem d_1193_19 : List.drop 19 xm_c1193 = xm_c1193_19 := xm_dr d_1193_18
theorem k_1193_19 : xm_gi xm_c1193 19 = some xm_e1193_19 := xm_gt d_1193_19
theorem d_1193_20 : List.drop 20 xm_c1193 = xm_c1193_20 := xm_dr d_1193_19
theorem k_1193_20 : xm_gi xm_c1193 20 = some xm_e1193_20 := xm_gt d_1193_20
theorem d_1193_21 : List.drop 21 xm_c1193 = xm_c1193_21 := xm_dr d_1193_20
theorem k_1193_21 : xm_gi xm_c1193 21 = some xm_e1193_21 := xm_gt d_1193_21
theorem d_1193_22 : List.drop 22 xm_c1193 = xm_c1193_22 := xm_dr d_1193_21
theorem k_1193_22 : xm_gi xm_c1193 22 = some xm_e1193_22 := xm_gt d_1193_22
theorem d_1193_23 : List.drop 23 xm_c1193 = xm_c1193_23 := xm_dr d_1193_22
theorem k_1193_23 : xm_gi xm_c1193 23 = some xm_e1193_23 := xm_gt d_1193_23
theorem d_1193_24 : List.drop 24 xm_c1193 = xm_c1193_24 := xm_dr d_1193_23
theorem k_1193_24 : xm_gi xm_c1193 24 = some xm_e1193_24 := xm_gt d_1193_24
theorem d_1193_25 : List.drop 25 xm_c1193 = xm_c1193_25 := xm_dr d_1193_24
theorem k_1193_25 : xm_gi xm_c1193 25 = some xm_e1193_25 := xm_gt d_1193_25
theorem d_1193_26 : List.drop 26 xm_c1193 = xm_c1193_26 := xm_dr d_1193_25
theorem k_1193_26 : xm_gi xm_c1193 26 = some xm_e1193_26 := xm_gt d_1193_26
theorem d_1193_27 : List.drop 27 xm_c1193 = xm_c1193_27 := xm_dr d_1193_26
theorem k_1193_27 : xm_gi xm_c1193 27 = some xm_e1193_27 := xm_gt d_1193_27
theorem d_1193_28 : List.drop 28 xm_c1193 = xm_c1193_28 := xm_dr d_1193_27
theorem k_1193_28 : xm_gi xm_c1193 28 = some xm_e1193_28 := xm_gt d_1193_28
theorem d_1193_29 : List.drop 29 xm_c1193 = xm_c1193_29 := xm_dr d_1193_28
theorem k_1193_29 : xm_gi xm_c1193 29 = some xm_e1193_29 := xm_gt d_1193_29
theorem d_1193_30 : List.drop 30 xm_c1193 = xm_c1193_30 := xm_dr d_1193_29
theorem k_1193_30 : xm_gi xm_c1193 30 = some xm_e1193_30 := xm_gt d_1193_30
theorem d_1193_31 : List.drop 31 xm_c1193 = xm_c1193_31 := xm_dr d_1193_30
theorem k_1193_31 : xm_gi xm_c1193 31 = some xm_e1193_31 := xm_gt d_1193_31
theorem d_1193_32 : List.drop 32 xm_c1193 = xm_c1193_32 := xm_dr d_1193_31
theorem k_1193_32 : xm_gi xm_c1193 32 = some xm_e1193_32 := xm_gt d_1193_32
theorem d_1193_33 : List.drop 33 xm_c1193 = xm_c1193_33 := xm_dr d_1193_32
theorem k_1193_33 : xm_gi xm_c1193 33 = some xm_e1193_33 := xm_gt d_1193_33
theorem d_1193_34 : List.drop 34 xm_c1193 = xm_c1193_34 := xm_dr d_1193_33
theorem k_1193_34 : xm_gi xm_c1193 34 = some xm_e1193_34 := xm_gt d_1193_34
theorem d_1193_35 : List.drop 35 xm_c1193 = xm_c1193_35 := xm_dr d_1193_34
theorem k_1193_35 : xm_gi xm_c1193 35 = some xm_e1193_35 := xm_gt d_1193_35
theorem d_1193_36 : List.drop 36 xm_c1193 = xm_c1193_36 := xm_dr d_1193_35
theorem k_1193_36 : xm_gi xm_c1193 36 = some xm_e1193_36 := xm_gt d_1193_36
theorem d_1193_37 : List.drop 37 xm_c1193 = xm_c1193_37 := xm_dr d_1193_36
theorem k_1193_37 : xm_gi xm_c1193 37 = some xm_e1193_37 := xm_gt d_1193_37
theorem d_1193_38 : List.drop 38 xm_c1193 = xm_c1193_38 := xm_dr d_1193_37
theorem k_1193_38 : xm_gi xm_c1193 38 = some xm_e1193_38 := xm_gt d_1193_38
theorem d_1193_39 : List.drop 39 xm_c1193 = xm_c1193_39 := xm_dr d_1193_38
theorem k_1193_39 : xm_gi xm_c1193 39 = some xm_e1193_39 := xm_gt d_1193_39
theorem d_1193_40 : List.drop 40 xm_c1193 = xm_c1193_40 := xm_dr d_1193_39
theorem k_1193_40 : xm_gi xm_c1193 40 = some xm_e1193_40 := xm_gt d_1193_40
theorem d_1193_41 : List.drop 41 xm_c1193 = xm_c1193_41 := xm_dr d_1193_40
theorem k_1193_41 : xm_gi xm_c1193 41 = some xm_e1193_41 := xm_gt d_1193_41
theorem d_1193_42 : List.drop 42 xm_c1193 = xm_c1193_42 := xm_dr d_1193_41
theorem k_1193_42 : xm_gi xm_c1193 42 = some xm_e1193_42 := xm_gt d_1193_42
theorem d_1193_43 : List.drop 43 xm_c1193 = xm_c1193_43 := xm_dr d_1193_42
theorem k_1193_43 : xm_gi xm_c1193 43 = some xm_e1193_43 := xm_gt d_1193_43
theorem d_1193_44 : List.drop 44 xm_c1193 = xm_c1193_44 := xm_dr d_1193_43
theorem k_1193_44 : xm_gi xm_c1193 44 = some xm_e1193_44 := xm_gt d_1193_44
theorem d_1193_45 : List.drop 45 xm_c1193 = xm_c1193_45 := xm_dr d_1193_44
theorem k_1193_45 : xm_gi xm_c1193 45 = some xm_e1193_45 := xm_gt d_1193_45
theorem d_1193_46 : List.drop 46 xm_c1193 = xm_c1193_46 := xm_dr d_1193_45
theorem k_1193_46 : xm_gi xm_c1193 46 = some xm_e1193_46 := xm_gt d_1193_46
theorem d_1193_47 : List.drop 47 xm_c1193 = xm_c1193_47 := xm_dr d_1193_46
theorem k_1193_47 : xm_gi xm_c1193 47 = some xm_e1193_47 := xm_gt d_1193_47
theorem d_1193_48 : List.drop 48 xm_c1193 = xm_c1193_48 := xm_dr d_1193_47
theorem k_1193_48 : xm_gi xm_c1193 48 = some xm_e1193_48 := xm_gt d_1193_48
theorem d_1193_49 : List.drop 49 xm_c1193 = xm_c1193_49 := xm_dr d_1193_48
theorem k_1193_49 : xm_gi xm_c1193 49 = some xm_e1193_49 := xm_gt d_1193_49
theorem d_1193_50 : List.drop 50 xm_c1193 = xm_c1193_50 := xm_dr d_1193_49
theorem k_1193_50 : xm_gi xm_c1193 50 = some xm_e1193_50 := xm_gt d_1193_50
theorem d_1193_51 : List.drop 51 xm_c1193 = xm_c1193_51 := xm_dr d_1193_50
theorem k_1193_51 : xm_gi xm_c1193 51 = some xm_e1193_51 := xm_gt d_1193_51
theorem d_1193_52 : List.drop 52 xm_c1193 = xm_c1193_52 := xm_dr d_1193_51
theorem k_1193_52 : xm_gi xm_c1193 52 = some xm_e1193_52 := xm_gt d_1193_52
theorem d_1193_53 : List.drop 53 xm_c1193 = xm_c1193_53 := xm_dr d_1193_52
theorem k_1193_53 : xm_gi xm_c1193 53 = some xm_e1193_53 := xm_gt d_1193_53
theorem d_1193_54 : List.drop 54 xm_c1193 = xm_c1193_54 := xm_dr d_1193_53
theorem k_1193_54 : xm_gi xm_c1193 54 = some xm_e1193_54 := xm_gt d_1193_54
theorem d_1193_55 : List.drop 55 xm_c1193 = xm_c1193_55 := xm_dr d_1193_54
theorem k_1193_55 : xm_gi xm_c1193 55 = some xm_e1193_55 := xm_gt d_1193_55
theorem d_1193_56 : List.drop 56 xm_c1193 = xm_c1193_56 := xm_dr d_1193_55
theorem k_1193_56 : xm_gi xm_c1193 56 = some xm_e1193_56 := xm_gt d_1193_56
theorem d_1193_57 : List.drop 57 xm_c1193 = xm_c1193_57 := xm_dr d_1193_56
theorem k_1193_57 : xm_gi xm_c1193 57 = some xm_e1193_57 := xm_gt d_1193_57
theorem d_1193_58 : List.drop 58 xm_c1193 = xm_c1193_58 := xm_dr d_1193_57
theorem k_1193_58 : xm_gi xm_c1193 58 = some xm_e1193_58 := xm_gt d_1193_58
theorem d_1193_59 : List.drop 59 xm_c1193 = xm_c1193_59 := xm_dr d_1193_58
theorem k_1193_59 : xm_gi xm_c1193 59 = some xm_e1193_59 := xm_gt d_1193_59
theorem xb_1193_0 {sc : List Int} {f : Nat → List xm_V → xm_W → xm_R} {w : xm_W} {Q : Option xm_V × xm_W → Prop} {x0 : Nat} {x1 : Int} {x2 : Int}
  (h : if (x1 : Int) = 0 then (xm_Ov (f 1186 [.inr (.inl (some x0)), .inl 13] w) (fun w15 => xm_Oi (f 1189 [.inr (.inl (some x0))] w15) (fun z17 w16 => xm_O (xm_fi (xm_old sc) w16 x0 9 16) (fun z18 => if ((xm_w (z17 - z18)) : Int) = 0 then (xm_O (xm_setf w16 x0 9 17 1 (.inl 1)) (fun w20 => if ((xm_w (z17 - z18)) : Int) = 0 then (Q (some (.inl 0), w20)) else (if ((xm_w (z17 - z18)) : Int) = (-1) then (Q (some (.inl (xm_w (-x2))), w20)) else (((xm_w (z17 - z18)) : Int) ≠ 0 ∧ (Q (some (.inl (xm_w (Int.tdiv x2 (xm_w (z17 - z18))))), w20)))))) else (xm_O (xm_setf w16 x0 9 17 1 (.inl 0)) (fun w19 => if ((xm_w (z17 - z18)) : Int) = 0 then (Q (some (.inl 0), w19)) else (if ((xm_w (z17 - z18)) : Int) = (-1) then (Q (some (.inl (xm_w (-x2))), w19)) else (((xm_w (z17 - z18)) : Int) ≠ 0 ∧ (Q (some (.inl (xm_w (Int.tdiv x2 (xm_w (z17 - z18))))), w19)))))))))) else (if (x1 : Int) = 1 then (xm_Ov (f 1186 [.inr (.inl (some x0)), .inl 21] w) (fun w5 => xm_Oi (f 1187 [.inl 1] w5) (fun z7 w6 => xm_Oi (f 1193 [.inr (.inl (some x0)), .inl z7, .inl x2] w6) (fun z9 w8 => xm_O (xm_fi (xm_old sc) w8 x0 9 17) (fun z10 => if (z10 : Int) = 0 then (xm_Oi (f 1188 [.inr (.inl (some x0))] w8) (fun z12 w11 => xm_Oi (f 1191 [.inr (.inl (some x0)), .inl z12, .inl 1] w11) (fun z14 w13 => Q (some (.inl (xm_w (z9 + z14))), w13)))) else (Q (some (.inl 0), w8))))))) else (xm_Oi (f 1187 [.inl x1] w) (fun z2 w1 => xm_Oi (f 1193 [.inr (.inl (some x0)), .inl z2, .inl x2] w1) (fun z4 w3 => Q (some (.inl z4), w3)))))) :
  xm_EQ (xm_old sc) xm_sta f xm_c1193 0 [some (.inr (.inl (some x0))), some (.inl x1), some (.inl x2), none, none] [] w Q :=
  (xq_iload_n k_1193_0 rfl (xq_lsw k_1193_1 (xs_swc h (fun h => (xq_aload_n k_1193_2 rfl (xq_bipush k_1193_3 (xq_invv0 k_1193_4 xr_1186 rfl rfl rfl h (fun w15 h => (xq_aload_n k_1193_5 rfl (xq_invv1 k_1193_6 xr_1189 rfl rfl rfl h (fun z17 w16 h => (xq_aload_n k_1193_7 rfl (xq_geti0 k_1193_8 rfl h (fun z18 h => (xq_isub k_1193_9 (xq_istore_n k_1193_10 rfl (xq_aload_n k_1193_11 rfl (xq_iload_n k_1193_12 rfl (xq_if_ne k_1193_13 h (fun h => (xq_iconst k_1193_14 (xq_goto k_1193_15 (xq_put k_1193_17 rfl h (fun w20 h => (xq_iload_n k_1193_18 rfl (xq_if_ne k_1193_19 h (fun h => (xq_iconst k_1193_20 (xq_goto k_1193_21 (xq_ireturn k_1193_31 h)))) (fun h => (xq_iload_n k_1193_22 rfl (xq_iconst k_1193_23 (xq_ic_ne k_1193_24 h (fun h => (xq_iload_n k_1193_25 rfl (xq_ineg k_1193_26 (xq_goto k_1193_27 (xq_ireturn k_1193_31 h))))) (fun h => (xq_iload_n k_1193_28 rfl (xq_iload_n k_1193_29 rfl (xq_idiv k_1193_30 h (fun h => (xq_ireturn k_1193_31 h))))))))))))))))) (fun h => (xq_iconst k_1193_16 (xq_put k_1193_17 rfl h (fun w19 h => (xq_iload_n k_1193_18 rfl (xq_if_ne k_1193_19 h (fun h => (xq_iconst k_1193_20 (xq_goto k_1193_21 (xq_ireturn k_1193_31 h)))) (fun h => (xq_iload_n k_1193_22 rfl (xq_iconst k_1193_23 (xq_ic_ne k_1193_24 h (fun h => (xq_iload_n k_1193_25 rfl (xq_ineg k_1193_26 (xq_goto k_1193_27 (xq_ireturn k_1193_31 h))))) (fun h => (xq_iload_n k_1193_28 rfl (xq_iload_n k_1193_29 rfl (xq_idiv k_1193_30 h (fun h => (xq_ireturn k_1193_31 h)))))))))))))))))))))))))))))))) (fun h => (xs_swc h (fun h => (xq_aload_n k_1193_32 rfl (xq_bipush k_1193_33 (xq_invv0 k_1193_34 xr_1186 rfl rfl rfl h (fun w5 h => (xq_aload_n k_1193_35 rfl (xq_iconst k_1193_36 (xq_invs1 k_1193_37 xr_1187 rfl rfl rfl h (fun z7 w6 h => (xq_iload_n k_1193_38 rfl (xq_invv1 k_1193_39 xr_1193 rfl rfl rfl h (fun z9 w8 h => (xq_istore k_1193_40 rfl (xq_aload_n k_1193_41 rfl (xq_geti1 k_1193_42 rfl h (fun z10 h => (xq_if_eq k_1193_43 h (fun h => (xq_iload k_1193_46 rfl (xq_aload_n k_1193_47 rfl (xq_aload_n k_1193_48 rfl (xq_invv1 k_1193_49 xr_1188 rfl rfl rfl h (fun z12 w11 h => (xq_iconst k_1193_50 (xq_invv1 k_1193_51 xr_1191 rfl rfl rfl h (fun z14 w13 h => (xq_iadd k_1193_52 (xq_ireturn k_1193_53 h))))))))))) (fun h => (xq_iconst k_1193_44 (xq_goto k_1193_45 (xq_ireturn k_1193_53 h))))))))))))))))))))) (fun h => (xq_aload_n k_1193_54 rfl (xq_iload_n k_1193_55 rfl (xq_invs1 k_1193_56 xr_1187 rfl rfl rfl h (fun z2 w1 h => (xq_iload_n k_1193_57 rfl (xq_invv1 k_1193_58 xr_1193 rfl rfl rfl h (fun z4 w3 h => (xq_ireturn k_1193_59 h))))))))))))))
/-- ShodBackwardsModel.voice(III)I -/
theorem d_1194_0 : List.drop 0 xm_c1194 = xm_c1194 := rfl
theorem k_1194_0 : xm_gi xm_c1194 0 = some xm_e1194_0 := xm_gt d_1194_0
theorem d_1194_1 : List.drop 1 xm_c1194 = xm_c1194_1 := xm_dr d_1194_0
theorem k_1194_1 : xm_gi xm_c1194 1 = some xm_e1194_1 := xm_gt d_1194_1
theorem d_1194_2 : List.drop 2 xm_c1194 = xm_c1194_2 := xm_dr d_1194_1
theorem k_1194_2 : xm_gi xm_c1194 2 = some xm_e1194_2 := xm_gt d_1194_2
theorem d_1194_3 : List.drop 3 xm_c1194 = xm_c1194_3 := xm_dr d_1194_2
theorem k_1194_3 : xm_gi xm_c1194 3 = some xm_e1194_3 := xm_gt d_1194_3
theorem d_1194_4 : List.drop 4 xm_c1194 = xm_c1194_4 := xm_dr d_1194_3
theorem k_1194_4 : xm_gi xm_c1194 4 = some xm_e1194_4 := xm_gt d_1194_4
theorem d_1194_5 : List.drop 5 xm_c1194 = xm_c1194_5 := xm_dr d_1194_4
theorem k_1194_5 : xm_gi xm_c1194 5 = some xm_e1194_5 := xm_gt d_1194_5
theorem d_1194_6 : List.drop 6 xm_c1194 = xm_c1194_6 := xm_dr d_1194_5
theorem k_1194_6 : xm_gi xm_c1194 6 = some xm_e1194_6 := xm_gt d_1194_6
theorem d_1194_7 : List.drop 7 xm_c1194 = xm_c1194_7 := xm_dr d_1194_6
theorem k_1194_7 : xm_gi xm_c1194 7 = some xm_e1194_7 := xm_gt d_1194_7
theorem d_1194_8 : List.drop 8 xm_c1194 = xm_c1194_8 := xm_dr d_1194_7
theorem k_1194_8 : xm_gi xm_c1194 8 = some xm_e1194_8 := xm_gt d_1194_8
theorem d_1194_9 : List.drop 9 xm_c1194 = xm_c1194_9 := xm_dr d_1194_8
theorem k_1194_9 : xm_gi xm_c1194 9 = some xm_e1194_9 := xm_gt d_1194_9
theorem d_1194_10 : List.drop 10 xm_c1194 = xm_c1194_10 := xm_dr d_1194_9
theorem k_1194_10 : xm_gi xm_c1194 10 = some xm_e1194_10 := xm_gt d_1194_10
theorem d_1194_11 : List.drop 11 xm_c1194 = xm_c1194_11 := xm_dr d_1194_10
theorem k_1194_11 : xm_gi xm_c1194 11 = some xm_e1194_11 := xm_gt d_1194_11
theorem d_1194_12 : List.drop 12 xm_c1194 = xm_c1194_12 := xm_dr d_1194_11
theorem k_1194_12 : xm_gi xm_c1194 12 = some xm_e1194_12 := xm_gt d_1194_12
theorem d_1194_13 : List.drop 13 xm_c1194 = xm_c1194_13 := xm_dr d_1194_12
theorem k_1194_13 : xm_gi xm_c1194 13 = some xm_e1194_13 := xm_gt d_1194_13
theorem d_1194_14 : List.drop 14 xm_c1194 = xm_c1194_14 := xm_dr d_1194_13
theorem k_1194_14 : xm_gi xm_c1194 14 = some xm_e1194_14 := xm_gt d_1194_14
theorem d_1194_15 : List.drop 15 xm_c1194 = xm_c1194_15 := xm_dr d_1194_14
theorem k_1194_15 : xm_gi xm_c1194 15 = some xm_e1194_15 := xm_gt d_1194_15
theorem d_1194_16 : List.drop 16 xm_c1194 = xm_c1194_16 := xm_dr d_1194_15
theorem k_1194_16 : xm_gi xm_c1194 16 = some xm_e1194_16 := xm_gt d_1194_16
theorem d_1194_17 : List.drop 17 xm_c1194 = xm_c1194_17 := xm_dr d_1194_16
theorem k_1194_17 : xm_gi xm_c1194 17 = some xm_e1194_17 := xm_gt d_1194_17
theorem d_1194_18 : List.drop 18 xm_c1194 = xm_c1194_18 := xm_dr d_1194_17
theorem k_1194_18 : xm_gi xm_c1194 18 = some xm_e1194_18 := xm_gt d_1194_18
theorem d_1194_19 : List.drop 19 xm_c1194 = xm_c1194_19 := xm_dr d_1194_18
theorem k_1194_19 : xm_gi xm_c1194 19 = some xm_e1194_19 := xm_gt d_1194_19
theorem d_1194_20 : List.drop 20 xm_c1194 = xm_c1194_20 := xm_dr d_1194_19
theorem k_1194_20 : xm_gi xm_c1194 20 = some xm_e1194_20 := xm_gt d_1194_20
theorem d_1194_21 : List.drop 21 xm_c1194 = xm_c1194_21 := xm_dr d_1194_20
theorem k_1194_21 : xm_gi xm_c1194 21 = some xm_e1194_21 := xm_gt d_1194_21
theorem d_1194_22 : List.drop 22 xm_c1194 = xm_c1194_22 := xm_dr d_1194_21
theorem k_1194_22 : xm_gi xm_c1194 22 = some xm_e1194_22 := xm_gt d_1194_22
theorem d_1194_23 : List.drop 23 xm_c1194 = xm_c1194_23 := xm_dr d_1194_22
theorem k_1194_23 : xm_gi xm_c1194 23 = some xm_e1194_23 := xm_gt d_1194_23
theorem d_1194_24 : List.drop 24 xm_c1194 = xm_c1194_24 := xm_dr d_1194_23
theorem k_1194_24 : xm_gi xm_c1194 24 = some xm_e1194_24 := xm_gt d_1194_24
theorem d_1194_25 : List.drop 25 xm_c1194 = xm_c1194_25 := xm_dr d_1194_24
theorem k_1194_25 : xm_gi xm_c1194 25 = some xm_e1194_25 := xm_gt d_1194_25
theorem d_1194_26 : List.drop 26 xm_c1194 = xm_c1194_26 := xm_dr d_1194_25
theorem k_1194_26 : xm_gi xm_c1194 26 = some xm_e1194_26 := xm_gt d_1194_26
theorem d_1194_27 : List.drop 27 xm_c1194 = xm_c1194_27 := xm_dr d_1194_26
theorem k_1194_27 : xm_gi xm_c1194 27 = some xm_e1194_27 := xm_gt d_1194_27
theorem d_1194_28 : List.drop 28 xm_c1194 = xm_c1194_28 := xm_dr d_1194_27
theorem k_1194_28 : xm_gi xm_c1194 28 = some xm_e1194_28 := xm_gt d_1194_28
theorem d_1194_29 : List.drop 29 xm_c1194 = xm_c1194_29 := xm_dr d_1194_28
theorem k_1194_29 : xm_gi xm_c1194 29 = some xm_e1194_29 := xm_gt d_1194_29
theorem d_1194_30 : List.drop 30 xm_c1194 = xm_c1194_30 := xm_dr d_1194_29
theorem k_1194_30 : xm_gi xm_c1194 30 = some xm_e1194_30 := xm_gt d_1194_30
theorem d_1194_31 : List.drop 31 xm_c1194 = xm_c1194_31 := xm_dr d_1194_30
theorem k_1194_31 : xm_gi xm_c1194 31 = some xm_e1194_31 := xm_gt d_1194_31
theorem d_1194_32 : List.drop 32 xm_c1194 = xm_c1194_32 := xm_dr d_1194_31
theorem k_1194_32 : xm_gi xm_c1194 32 = some xm_e1194_32 := xm_gt d_1194_32
theorem d_1194_33 : List.drop 33 xm_c1194 = xm_c1194_33 := xm_dr d_1194_32
theorem k_1194_33 : xm_gi xm_c1194 33 = some xm_e1194_33 := xm_gt d_1194_33
theorem d_1194_34 : List.drop 34 xm_c1194 = xm_c1194_34 := xm_dr d_1194_33
theorem k_1194_34 : xm_gi xm_c1194 34 = some xm_e1194_34 := xm_gt d_1194_34
theorem d_1194_35 : List.drop 35 xm_c1194 = xm_c1194_35 := xm_dr d_1194_34
theorem k_1194_35 : xm_gi xm_c1194 35 = some xm_e1194_35 := xm_gt d_1194_35
theorem d_1194_36 : List.drop 36 xm_c1194 = xm_c1194_36 := xm_dr d_1194_35
theorem k_1194_36 : xm_gi xm_c1194 36 = some xm_e1194_36 := xm_gt d_1194_36
theorem d_1194_37 : List.drop 37 xm_c1194 = xm_c1194_37 := xm_dr d_1194_36
theorem k_1194_37 : xm_gi xm_c1194 37 = some xm_e1194_37 := xm_gt d_1194_37
theorem d_1194_38 : List.drop 38 xm_c1194 = xm_c1194_38 := xm_dr d_1194_37
theorem k_1194_38 : xm_gi xm_c1194 38 = some xm_e1194_38 := xm_gt d_1194_38
theorem d_1194_39 : List.drop 39 xm_c1194 = xm_c1194_39 := xm_dr d_1194_38
theorem k_1194_39 : xm_gi xm_c1194 39 = some xm_e1194_39 := xm_gt d_1194_39
theorem d_1194_40 : List.drop 40 xm_c1194 = xm_c1194_40 := xm_dr d_1194_39
theorem k_1194_40 : xm_gi xm_c1194 40 = some xm_e1194_40 := xm_gt d_1194_40
theorem d_1194_41 : List.drop 41 xm_c1194 = xm_c1194_41 := xm_dr d_1194_40
theorem k_1194_41 : xm_gi xm_c1194 41 = some xm_e1194_41 := xm_gt d_1194_41
theorem d_1194_42 : List.drop 42 xm_c1194 = xm_c1194_42 := xm_dr d_1194_41
theorem k_1194_42 : xm_gi xm_c1194 42 = some xm_e1194_42 := xm_gt d_1194_42
theorem d_1194_43 : List.drop 43 xm_c1194 = xm_c1194_43 := xm_dr d_1194_42
theorem k_1194_43 : xm_gi xm_c1194 43 = some xm_e1194_43 := xm_gt d_1194_43
theorem d_1194_44 : List.drop 44 xm_c1194 = xm_c1194_44 := xm_dr d_1194_43
theorem k_1194_44 : xm_gi xm_c1194 44 = some xm_e1194_44 := xm_gt d_1194_44
theorem d_1194_45 : List.drop 45 xm_c1194 = xm_c1194_45 := xm_dr d_1194_44
theorem k_1194_45 : xm_gi xm_c1194 45 = some xm_e1194_45 := xm_gt d_1194_45
theorem d_1194_46 : List.drop 46 xm_c1194 = xm_c1194_46 := xm_dr d_1194_45
theorem k_1194_46 : xm_gi xm_c1194 46 = some xm_e1194_46 := xm_gt d_1194_46
theorem d_1194_47 : List.drop 47 xm_c1194 = xm_c1194_47 := xm_dr d_1194_46
theorem k_1194_47 : xm_gi xm_c1194 47 = some xm_e1194_47 := xm_gt d_1194_47
theorem d_1194_48 : List.drop 48 xm_c1194 = xm_c1194_48 := xm_dr d_1194_47
theorem k_1194_48 : xm_gi xm_c1194 48 = some xm_e1194_48 := xm_gt d_1194_48
theorem d_1194_49 : List.drop 49 xm_c1194 = xm_c1194_49 := xm_dr d_1194_48
theorem k_1194_49 : xm_gi xm_c1194 49 = some xm_e1194_49 := xm_gt d_1194_49
theorem d_1194_50 : List.drop 50 xm_c1194 = xm_c1194_50 := xm_dr d_1194_49
theorem k_1194_50 : xm_gi xm_c1194 50 = some xm_e1194_50 := xm_gt d_1194_50
theorem d_1194_51 : List.drop 51 xm_c1194 = xm_c1194_51 := xm_dr d_1194_50
theorem k_1194_51 : xm_gi xm_c1194 51 = some xm_e1194_51 := xm_gt d_1194_51
theorem d_1194_52 : List.drop 52 xm_c1194 = xm_c1194_52 := xm_dr d_1194_51
theorem k_1194_52 : xm_gi xm_c1194 52 = some xm_e1194_52 := xm_gt d_1194_52
theorem d_1194_53 : List.drop 53 xm_c1194 = xm_c1194_53 := xm_dr d_1194_52
theorem k_1194_53 : xm_gi xm_c1194 53 = some xm_e1194_53 := xm_gt d_1194_53
theorem d_1194_54 : List.drop 54 xm_c1194 = xm_c1194_54 := xm_dr d_1194_53
theorem k_1194_54 : xm_gi xm_c1194 54 = some xm_e1194_54 := xm_gt d_1194_54
theorem d_1194_55 : List.drop 55 xm_c1194 = xm_c1194_55 := xm_dr d_1194_54
theorem k_1194_55 : xm_gi xm_c1194 55 = some xm_e1194_55 := xm_gt d_1194_55
theorem d_1194_56 : List.drop 56 xm_c1194 = xm_c1194_56 := xm_dr d_1194_55
theorem k_1194_56 : xm_gi xm_c1194 56 = some xm_e1194_56 := xm_gt d_1194_56
theorem d_1194_57 : List.drop 57 xm_c1194 = xm_c1194_57 := xm_dr d_1194_56
theorem k_1194_57 : xm_gi xm_c1194 57 = some xm_e1194_57 := xm_gt d_1194_57
theorem d_1194_58 : List.drop 58 xm_c1194 = xm_c1194_58 := xm_dr d_1194_57
theorem k_1194_58 : xm_gi xm_c1194 58 = some xm_e1194_58 := xm_gt d_1194_58
theorem d_1194_59 : List.drop 59 xm_c1194 = xm_c1194_59 := xm_dr d_1194_58
theorem k_1194_59 : xm_gi xm_c1194 59 = some xm_e1194_59 := xm_gt d_1194_59
theorem d_1194_60 : List.drop 60 xm_c1194 = xm_c1194_60 := xm_dr d_1194_59
theorem k_1194_60 : xm_gi xm_c1194 60 = some xm_e1194_60 := xm_gt d_1194_60
theorem d_1194_61 : List.drop 61 xm_c1194 = xm_c1194_61 := xm_dr d_1194_60
theorem k_1194_61 : xm_gi xm_c1194 61 = some xm_e1194_61 := xm_gt d_1194_61
theorem xb_1194_0 {sc : List Int} {f : Nat → List xm_V → xm_W → xm_R} {w : xm_W} {Q : Option xm_V × xm_W → Prop} {x0 : Nat} {x1 : Int} {x2 : Int} {x3 : Int}
  (h : xm_Oi (f 1109 [.inr (.inl (some x0)), .inl x1] w) (fun z2 w1 => if (z2 : Int) = 0 then (xm_Oi (f 1102 [.inr (.inl (some x0)), .inl 1] w1) (fun z4 w3 => Q (some (.inl z4), w3))) else (xm_Oi (f 1103 [.inl x2, .inl 0, .inl 3] w1) (fun z6 w5 => if (z6 : Int) = 0 then (xm_Oi (f 1102 [.inr (.inl (some x0)), .inl 1] w5) (fun z33 w32 => Q (some (.inl z33), w32))) else (xm_O (xm_setf w5 x0 9 15 0 (.inl 0)) (fun w7 => xm_O (xm_setf w7 x0 9 16 0 (.inl x1)) (fun w8 => xm_O (xm_setf w8 x0 9 17 1 (.inl 0)) (fun w9 => xm_Oi (f 1188 [.inr (.inl (some x0))] w9) (fun z11 w10 => if (x2 : Int) = 0 then (xm_Oi (f 1190 [.inr (.inl (some x0)), .inl z11, .inl x3] w10) (fun z28 w27 => xm_O (xm_fi (xm_old sc) w27 x0 9 17) (fun z29 => if (z29 : Int) = 0 then (Q (some (.inl z28), w27)) else (xm_Oi (f 1102 [.inr (.inl (some x0)), .inl 6] w27) (fun z31 w30 => Q (some (.inl z31), w30)))))) else (if (x2 : Int) = 1 then (xm_Oi (f 1191 [.inr (.inl (some x0)), .inl z11, .inl x3] w10) (fun z23 w22 => xm_O (xm_fi (xm_old sc) w22 x0 9 17) (fun z24 => if (z24 : Int) = 0 then (Q (some (.inl z23), w22)) else (xm_Oi (f 1102 [.inr (.inl (some x0)), .inl 6] w22) (fun z26 w25 => Q (some (.inl z26), w25)))))) else (if (x2 : Int) = 2 then (xm_Oi (f 1192 [.inr (.inl (some x0)), .inl z11, .inl x3] w10) (fun z18 w17 => xm_O (xm_fi (xm_old sc) w17 x0 9 17) (fun z19 => if (z19 : Int) = 0 then (Q (some (.inl z18), w17)) else (xm_Oi (f 1102 [.inr (.inl (some x0)), .inl 6] w17) (fun z21 w20 => Q (some (.inl z21), w20)))))) else (xm_Oi (f 1193 [.inr (.inl (some x0)), .inl z11, .inl x3] w10) (fun z13 w12 => xm_O (xm_fi (xm_old sc) w12 x0 9 17) (fun z14 => if (z14 : Int) = 0 then (Q (some (.inl z13), w12)) else (xm_Oi (f 1102 [.inr (.inl (some x0)), .inl 6] w12) (fun z16 w15 => Q (some (.inl z16), w15))))))))))))))))) :
  xm_EQ (xm_old sc) xm_sta f xm_c1194 0 [some (.inr (.inl (some x0))), some (.inl x1), some (.inl x2), some (.inl x3), none, none] [] w Q :=
  (xq_aload_n k_1194_0 rfl (xq_iload_n k_1194_1 rfl (xq_invv2 k_1194_2 xr_1109 rfl rfl rfl h (fun z2 w1 h => (xq_if_eq k_1194_3 h (fun h => (xq_aload_n k_1194_9 rfl (xq_iconst k_1194_10 (xq_invv1 k_1194_11 xr_1102 rfl rfl rfl h (fun z4 w3 h => (xq_ireturn k_1194_12 h)))))) (fun h => (xq_iload_n k_1194_4 rfl (xq_iconst k_1194_5 (xq_iconst k_1194_6 (xq_invs2 k_1194_7 xr_1103 rfl rfl rfl h (fun z6 w5 h => (xq_if_ne k_1194_8 h (fun h => (xq_aload_n k_1194_9 rfl (xq_iconst k_1194_10 (xq_invv1 k_1194_11 xr_1102 rfl rfl rfl h (fun z33 w32 h => (xq_ireturn k_1194_12 h)))))) (fun h => (xq_aload_n k_1194_13 rfl (xq_iconst k_1194_14 (xq_put k_1194_15 rfl h (fun w7 h => (xq_aload_n k_1194_16 rfl (xq_iload_n k_1194_17 rfl (xq_put k_1194_18 rfl h (fun w8 h => (xq_aload_n k_1194_19 rfl (xq_iconst k_1194_20 (xq_put k_1194_21 rfl h (fun w9 h => (xq_aload_n k_1194_22 rfl (xq_invv1 k_1194_23 xr_1188 rfl rfl rfl h (fun z11 w10 h => (xq_istore k_1194_24 rfl (xq_iload_n k_1194_25 rfl (xq_if_ne k_1194_26 h (fun h => (xq_aload_n k_1194_27 rfl (xq_iload k_1194_28 rfl (xq_iload_n k_1194_29 rfl (xq_invv1 k_1194_30 xr_1190 rfl rfl rfl h (fun z28 w27 h => (xq_goto k_1194_31 (xq_istore k_1194_52 rfl (xq_aload_n k_1194_53 rfl (xq_geti1 k_1194_54 rfl h (fun z29 h => (xq_if_eq k_1194_55 h (fun h => (xq_iload k_1194_60 rfl (xq_ireturn k_1194_61 h))) (fun h => (xq_aload_n k_1194_56 rfl (xq_bipush k_1194_57 (xq_invv1 k_1194_58 xr_1102 rfl rfl rfl h (fun z31 w30 h => (xq_goto k_1194_59 (xq_ireturn k_1194_61 h))))))))))))))))))) (fun h => (xq_iload_n k_1194_32 rfl (xq_iconst k_1194_33 (xq_ic_ne k_1194_34 h (fun h => (xq_aload_n k_1194_35 rfl (xq_iload k_1194_36 rfl (xq_iload_n k_1194_37 rfl (xq_invv1 k_1194_38 xr_1191 rfl rfl rfl h (fun z23 w22 h => (xq_goto k_1194_39 (xq_istore k_1194_52 rfl (xq_aload_n k_1194_53 rfl (xq_geti1 k_1194_54 rfl h (fun z24 h => (xq_if_eq k_1194_55 h (fun h => (xq_iload k_1194_60 rfl (xq_ireturn k_1194_61 h))) (fun h => (xq_aload_n k_1194_56 rfl (xq_bipush k_1194_57 (xq_invv1 k_1194_58 xr_1102 rfl rfl rfl h (fun z26 w25 h => (xq_goto k_1194_59 (xq_ireturn k_1194_61 h))))))))))))))))))) (fun h => (xq_iload_n k_1194_40 rfl (xq_iconst k_1194_41 (xq_ic_ne k_1194_42 h (fun h => (xq_aload_n k_1194_43 rfl (xq_iload k_1194_44 rfl (xq_iload_n k_1194_45 rfl (xq_invv1 k_1194_46 xr_1192 rfl rfl rfl h (fun z18 w17 h => (xq_goto k_1194_47 (xq_istore k_1194_52 rfl (xq_aload_n k_1194_53 rfl (xq_geti1 k_1194_54 rfl h (fun z19 h => (xq_if_eq k_1194_55 h (fun h => (xq_iload k_1194_60 rfl (xq_ireturn k_1194_61 h))) (fun h => (xq_aload_n k_1194_56 rfl (xq_bipush k_1194_57 (xq_invv1 k_1194_58 xr_1102 rfl rfl rfl h (fun z21 w20 h => (xq_goto k_1194_59 (xq_ireturn k_1194_61 h))))))))))))))))))) (fun h => (xq_aload_n k_1194_48 rfl (xq_iload k_1194_49 rfl (xq_iload_n k_1194_50 rfl (xq_invv1 k_1194_51 xr_1193 rfl rfl rfl h (fun z13 w12 h => (xq_istore k_1194_52 rfl (xq_aload_n k_1194_53 rfl (xq_geti1 k_1194_54 rfl h (fun z14 h => (xq_if_eq k_1194_55 h (fun h => (xq_iload k_1194_60 rfl (xq_ireturn k_1194_61 h))) (fun h => (xq_aload_n k_1194_56 rfl (xq_bipush k_1194_57 (xq_invv1 k_1194_58 xr_1102 rfl rfl rfl h (fun z16 w15 h => (xq_goto k_1194_59 (xq_ireturn k_1194_61 h)))))))))))))))))))))))))))))))))))))))))))))))))))))))))
/-- ShodBackwardsModel.body(I)I -/
theorem d_1195_0 : List.drop 0 xm_c1195 = xm_c1195 := rfl
theorem k_1195_0 : xm_gi xm_c1195 0 = some xm_e1195_0 := xm_gt d_1195_0
theorem d_1195_1 : List.drop 1 xm_c1195 = xm_c1195_1 := xm_dr d_1195_0
theorem k_1195_1 : xm_gi xm_c1195 1 = some xm_e1195_1 := xm_gt d_1195_1
theorem d_1195_2 : List.drop 2 xm_c1195 = xm_c1195_2 := xm_dr d_1195_1
theorem k_1195_2 : xm_gi xm_c1195 2 = some xm_e1195_2 := xm_gt d_1195_2
theorem d_1195_3 : List.drop 3 xm_c1195 = xm_c1195_3 := xm_dr d_1195_2
theorem k_1195_3 : xm_gi xm_c1195 3 = some xm_e1195_3 := xm_gt d_1195_3
theorem d_1195_4 : List.drop 4 xm_c1195 = xm_c1195_4 := xm_dr d_1195_3
theorem k_1195_4 : xm_gi xm_c1195 4 = some xm_e1195_4 := xm_gt d_1195_4
theorem d_1195_5 : List.drop 5 xm_c1195 = xm_c1195_5 := xm_dr d_1195_4
theorem k_1195_5 : xm_gi xm_c1195 5 = some xm_e1195_5 := xm_gt d_1195_5
theorem d_1195_6 : List.drop 6 xm_c1195 = xm_c1195_6 := xm_dr d_1195_5
theorem k_1195_6 : xm_gi xm_c1195 6 = some xm_e1195_6 := xm_gt d_1195_6
theorem d_1195_7 : List.drop 7 xm_c1195 = xm_c1195_7 := xm_dr d_1195_6
theorem k_1195_7 : xm_gi xm_c1195 7 = some xm_e1195_7 := xm_gt d_1195_7
theorem d_1195_8 : List.drop 8 xm_c1195 = xm_c1195_8 := xm_dr d_1195_7
theorem k_1195_8 : xm_gi xm_c1195 8 = some xm_e1195_8 := xm_gt d_1195_8
theorem d_1195_9 : List.drop 9 xm_c1195 = xm_c1195_9 := xm_dr d_1195_8
theorem k_1195_9 : xm_gi xm_c1195 9 = some xm_e1195_9 := xm_gt d_1195_9
theorem d_1195_10 : List.drop 10 xm_c1195 = xm_c1195_10 := xm_dr d_1195_9
theorem k_1195_10 : xm_gi xm_c1195 10 = some xm_e1195_10 := xm_gt d_1195_10
theorem d_1195_11 : List.drop 11 xm_c1195 = xm_c1195_11 := xm_dr d_1195_10
theorem k_1195_11 : xm_gi xm_c1195 11 = some xm_e1195_11 := xm_gt d_1195_11
theorem d_1195_12 : List.drop 12 xm_c1195 = xm_c1195_12 := xm_dr d_1195_11
theorem k_1195_12 : xm_gi xm_c1195 12 = some xm_e1195_12 := xm_gt d_1195_12
theorem d_1195_13 : List.drop 13 xm_c1195 = xm_c1195_13 := xm_dr d_1195_12
theorem k_1195_13 : xm_gi xm_c1195 13 = some xm_e1195_13 := xm_gt d_1195_13
theorem d_1195_14 : List.drop 14 xm_c1195 = xm_c1195_14 := xm_dr d_1195_13
theorem k_1195_14 : xm_gi xm_c1195 14 = some xm_e1195_14 := xm_gt d_1195_14
theorem d_1195_15 : List.drop 15 xm_c1195 = xm_c1195_15 := xm_dr d_1195_14
theorem k_1195_15 : xm_gi xm_c1195 15 = some xm_e1195_15 := xm_gt d_1195_15
theorem d_1195_16 : List.drop 16 xm_c1195 = xm_c1195_16 := xm_dr d_1195_15
theorem k_1195_16 : xm_gi xm_c1195 16 = some xm_e1195_16 := xm_gt d_1195_16
theorem xb_1195_0 {sc : List Int} {f : Nat → List xm_V → xm_W → xm_R} {w : xm_W} {Q : Option xm_V × xm_W → Prop} {x0 : Nat} {x1 : Int}
  (h : xm_O (xm_fi (xm_old sc) w x0 9 15) (fun z1 => xm_Oi (f 1103 [.inl x1, .inl 0, .inl (xm_w (z1 - 1))] w) (fun z3 w2 => if (z3 : Int) = 0 then (xm_Oi (f 1102 [.inr (.inl (some x0)), .inl 2] w2) (fun z5 w4 => Q (some (.inl z5), w4))) else (xm_O (xm_fr (xm_old sc) w2 x0 9 14) (fun r6 => xm_O (xm_ints (xm_old sc) w2 r6) (fun l7 => xm_O (xm_at l7 x1) (fun z8 => Q (some (.inl z8), w2)))))))) :
  xm_EQ (xm_old sc) xm_sta f xm_c1195 0 [some (.inr (.inl (some x0))), some (.inl x1)] [] w Q :=
  (xq_iload_n k_1195_0 rfl (xq_iconst k_1195_1 (xq_aload_n k_1195_2 rfl (xq_geti0 k_1195_3 rfl h (fun z1 h => (xq_iconst k_1195_4 (xq_isub k_1195_5 (xq_invs2 k_1195_6 xr_1103 rfl rfl rfl h (fun z3 w2 h => (xq_if_eq k_1195_7 h (fun h => (xq_aload_n k_1195_13 rfl (xq_iconst k_1195_14 (xq_invv1 k_1195_15 xr_1102 rfl rfl rfl h (fun z5 w4 h => (xq_ireturn k_1195_16 h)))))) (fun h => (xq_aload_n k_1195_8 rfl (xq_getr k_1195_9 rfl h (fun r6 h => (xq_iload_n k_1195_10 rfl (xq_iaload k_1195_11 h (fun l7 h => h) (fun l7 z8 h => (xq_goto k_1195_12 (xq_ireturn k_1195_16 h)))))))))))))))))))
/-- ShodBackwardsModel.isSheet(I)Z -/
theorem d_1196_0 : List.drop 0 xm_c1196 = xm_c1196 := rfl
theorem k_1196_0 : xm_gi xm_c1196 0 = some xm_e1196_0 := xm_gt d_1196_0
theorem d_1196_1 : List.drop 1 xm_c1196 = xm_c1196_1 := xm_dr d_1196_0
theorem k_1196_1 : xm_gi xm_c1196 1 = some xm_e1196_1 := xm_gt d_1196_1
theorem d_1196_2 : List.drop 2 xm_c1196 = xm_c1196_2 := xm_dr d_1196_1
theorem k_1196_2 : xm_gi xm_c1196 2 = some xm_e1196_2 := xm_gt d_1196_2
theorem d_1196_3 : List.drop 3 xm_c1196 = xm_c1196_3 := xm_dr d_1196_2
theorem k_1196_3 : xm_gi xm_c1196 3 = some xm_e1196_3 := xm_gt d_1196_3
theorem d_1196_4 : List.drop 4 xm_c1196 = xm_c1196_4 := xm_dr d_1196_3
theorem k_1196_4 : xm_gi xm_c1196 4 = some xm_e1196_4 := xm_gt d_1196_4
theorem xb_1196_0 {sc : List Int} {f : Nat → List xm_V → xm_W → xm_R} {w : xm_W} {Q : Option xm_V × xm_W → Prop} {x0 : Int}
  (h : xm_Oi (f 1103 [.inl x0, .inl 0, .inl 3] w) (fun z2 w1 => Q (some (.inl z2), w1))) :
  xm_EQ (xm_old sc) xm_sta f xm_c1196 0 [some (.inl x0)] [] w Q :=
  (xq_iload_n k_1196_0 rfl (xq_iconst k_1196_1 (xq_iconst k_1196_2 (xq_invs2 k_1196_3 xr_1103 rfl rfl rfl h (fun z2 w1 h => (xq_ireturn k_1196_4 h))))))
/-- ShodBackwardsModel.sheet(III)I -/
theorem d_1197_0 : List.drop 0 xm_c1197 = xm_c1197 := rfl
theorem k_1197_0 : xm_gi xm_c1197 0 = some xm_e1197_0 := xm_gt d_1197_0
theorem d_1197_1 : List.drop 1 xm_c1197 = xm_c1197_1 := xm_dr d_1197_0
theorem k_1197_1 : xm_gi xm_c1197 1 = some xm_e1197_1 := xm_gt d_1197_1
theorem d_1197_2 : List.drop 2 xm_c1197 = xm_c1197_2 := xm_dr d_1197_1
theorem k_1197_2 : xm_gi xm_c1197 2 = some xm_e1197_2 := xm_gt d_1197_2
theorem d_1197_3 : List.drop 3 xm_c1197 = xm_c1197_3 := xm_dr d_1197_2
theorem k_1197_3 : xm_gi xm_c1197 3 = some xm_e1197_3 := xm_gt d_1197_3
theorem d_1197_4 : List.drop 4 xm_c1197 = xm_c1197_4 := xm_dr d_1197_3
theorem k_1197_4 : xm_gi xm_c1197 4 = some xm_e1197_4 := xm_gt d_1197_4
theorem d_1197_5 : List.drop 5 xm_c1197 = xm_c1197_5 := xm_dr d_1197_4
theorem k_1197_5 : xm_gi xm_c1197 5 = some xm_e1197_5 := xm_gt d_1197_5
theorem d_1197_6 : List.drop 6 xm_c1197 = xm_c1197_6 := xm_dr d_1197_5
theorem k_1197_6 : xm_gi xm_c1197 6 = some xm_e1197_6 := xm_gt d_1197_6
theorem d_1197_7 : List.drop 7 xm_c1197 = xm_c1197_7 := xm_dr d_1197_6
theorem k_1197_7 : xm_gi xm_c1197 7 = some xm_e1197_7 := xm_gt d_1197_7
theorem d_1197_8 : List.drop 8 xm_c1197 = xm_c1197_8 := xm_dr d_1197_7
theorem k_1197_8 : xm_gi xm_c1197 8 = some xm_e1197_8 := xm_gt d_1197_8
theorem d_1197_9 : List.drop 9 xm_c1197 = xm_c1197_9 := xm_dr d_1197_8
theorem k_1197_9 : xm_gi xm_c1197 9 = some xm_e1197_9 := xm_gt d_1197_9
theorem d_1197_10 : List.drop 10 xm_c1197 = xm_c1197_10 := xm_dr d_1197_9
theorem k_1197_10 : xm_gi xm_c1197 10 = some xm_e1197_10 := xm_gt d_1197_10
theorem d_1197_11 : List.drop 11 xm_c1197 = xm_c1197_11 := xm_dr d_1197_10
theorem k_1197_11 : xm_gi xm_c1197 11 = some xm_e1197_11 := xm_gt d_1197_11
theorem d_1197_12 : List.drop 12 xm_c1197 = xm_c1197_12 := xm_dr d_1197_11
theorem k_1197_12 : xm_gi xm_c1197 12 = some xm_e1197_12 := xm_gt d_1197_12
theorem d_1197_13 : List.drop 13 xm_c1197 = xm_c1197_13 := xm_dr d_1197_12
theorem k_1197_13 : xm_gi xm_c1197 13 = some xm_e1197_13 := xm_gt d_1197_13
theorem d_1197_14 : List.drop 14 xm_c1197 = xm_c1197_14 := xm_dr d_1197_13
theorem k_1197_14 : xm_gi xm_c1197 14 = some xm_e1197_14 := xm_gt d_1197_14
theorem d_1197_15 : List.drop 15 xm_c1197 = xm_c1197_15 := xm_dr d_1197_14
theorem k_1197_15 : xm_gi xm_c1197 15 = some xm_e1197_15 := xm_gt d_1197_15
theorem d_1197_16 : List.drop 16 xm_c1197 = xm_c1197_16 := xm_dr d_1197_15
theorem k_1197_16 : xm_gi xm_c1197 16 = some xm_e1197_16 := xm_gt d_1197_16
theorem d_1197_17 : List.drop 17 xm_c1197 = xm_c1197_17 := xm_dr d_1197_16
theorem k_1197_17 : xm_gi xm_c1197 17 = some xm_e1197_17 := xm_gt d_1197_17
theorem d_1197_18 : List.drop 18 xm_c1197 = xm_c1197_18 := xm_dr d_1197_17
theorem k_1197_18 : xm_gi xm_c1197 18 = some xm_e1197_18 := xm_gt d_1197_18
theorem d_1197_19 : List.drop 19 xm_c1197 = xm_c1197_19 := xm_dr d_1197_18
theorem k_1197_19 : xm_gi xm_c1197 19 = some xm_e1197_19 := xm_gt d_1197_19
theorem d_1197_20 : List.drop 20 xm_c1197 = xm_c1197_20 := xm_dr d_1197_19
theorem k_1197_20 : xm_gi xm_c1197 20 = some xm_e1197_20 := xm_gt d_1197_20
theorem d_1197_21 : List.drop 21 xm_c1197 = xm_c1197_21 := xm_dr d_1197_20
theorem k_1197_21 : xm_gi xm_c1197 21 = some xm_e1197_21 := xm_gt d_1197_21
theorem d_1197_22 : List.drop 22 xm_c1197 = xm_c1197_22 := xm_dr d_1197_21
theorem k_1197_22 : xm_gi xm_c1197 22 = some xm_e1197_22 := xm_gt d_1197_22
theorem d_1197_23 : List.drop 23 xm_c1197 = xm_c1197_23 := xm_dr d_1197_22
theorem k_1197_23 : xm_gi xm_c1197 23 = some xm_e1197_23 := xm_gt d_1197_23
theorem d_1197_24 : List.drop 24 xm_c1197 = xm_c1197_24 := xm_dr d_1197_23
theorem k_1197_24 : xm_gi xm_c1197 24 = some xm_e1197_24 := xm_gt d_1197_24
theorem d_1197_25 : List.drop 25 xm_c1197 = xm_c1197_25 := xm_dr d_1197_24
theorem k_1197_25 : xm_gi xm_c1197 25 = some xm_e1197_25 := xm_gt d_1197_25
theorem d_1197_26 : List.drop 26 xm_c1197 = xm_c1197_26 := xm_dr d_1197_25
theorem k_1197_26 : xm_gi xm_c1197 26 = some xm_e1197_26 := xm_gt d_1197_26
theorem d_1197_27 : List.drop 27 xm_c1197 = xm_c1197_27 := xm_dr d_1197_26
theorem k_1197_27 : xm_gi xm_c1197 27 = some xm_e1197_27 := xm_gt d_1197_27
theorem d_1197_28 : List.drop 28 xm_c1197 = xm_c1197_28 := xm_dr d_1197_27
theorem k_1197_28 : xm_gi xm_c1197 28 = some xm_e1197_28 := xm_gt d_1197_28
theorem d_1197_29 : List.drop 29 xm_c1197 = xm_c1197_29 := xm_dr d_1197_28
theorem k_1197_29 : xm_gi xm_c1197 29 = some xm_e1197_29 := xm_gt d_1197_29
theorem d_1197_30 : List.drop 30 xm_c1197 = xm_c1197_30 := xm_dr d_1197_29
theorem k_1197_30 : xm_gi xm_c1197 30 = some xm_e1197_30 := xm_gt d_1197_30
theorem d_1197_31 : List.drop 31 xm_c1197 = xm_c1197_31 := xm_dr d_1197_30
theorem k_1197_31 : xm_gi xm_c1197 31 = some xm_e1197_31 := xm_gt d_1197_31
theorem d_1197_32 : List.drop 32 xm_c1197 = xm_c1197_32 := xm_dr d_1197_31
theorem k_1197_32 : xm_gi xm_c1197 32 = some xm_e1197_32 := xm_gt d_1197_32
theorem d_1197_33 : List.drop 33 xm_c1197 = xm_c1197_33 := xm_dr d_1197_32
theorem k_1197_33 : xm_gi xm_c1197 33 = some xm_e1197_33 := xm_gt d_1197_33
theorem d_1197_34 : List.drop 34 xm_c1197 = xm_c1197_34 := xm_dr d_1197_33
theorem k_1197_34 : xm_gi xm_c1197 34 = some xm_e1197_34 := xm_gt d_1197_34
theorem d_1197_35 : List.drop 35 xm_c1197 = xm_c1197_35 := xm_dr d_1197_34
theorem k_1197_35 : xm_gi xm_c1197 35 = some xm_e1197_35 := xm_gt d_1197_35
theorem d_1197_36 : List.drop 36 xm_c1197 = xm_c1197_36 := xm_dr d_1197_35
theorem k_1197_36 : xm_gi xm_c1197 36 = some xm_e1197_36 := xm_gt d_1197_36
theorem d_1197_37 : List.drop 37 xm_c1197 = xm_c1197_37 := xm_dr d_1197_36
theorem k_1197_37 : xm_gi xm_c1197 37 = some xm_e1197_37 := xm_gt d_1197_37
theorem d_1197_38 : List.drop 38 xm_c1197 = xm_c1197_38 := xm_dr d_1197_37
theorem k_1197_38 : xm_gi xm_c1197 38 = some xm_e1197_38 := xm_gt d_1197_38
theorem d_1197_39 : List.drop 39 xm_c1197 = xm_c1197_39 := xm_dr d_1197_38
theorem k_1197_39 : xm_gi xm_c1197 39 = some xm_e1197_39 := xm_gt d_1197_39
theorem d_1197_40 : List.drop 40 xm_c1197 = xm_c1197_40 := xm_dr d_1197_39
theorem k_1197_40 : xm_gi xm_c1197 40 = some xm_e1197_40 := xm_gt d_1197_40
theorem d_1197_41 : List.drop 41 xm_c1197 = xm_c1197_41 := xm_dr d_1197_40
theorem k_1197_41 : xm_gi xm_c1197 41 = some xm_e1197_41 := xm_gt d_1197_41
theorem d_1197_42 : List.drop 42 xm_c1197 = xm_c1197_42 := xm_dr d_1197_41
theorem k_1197_42 : xm_gi xm_c1197 42 = some xm_e1197_42 := xm_gt d_1197_42
theorem d_1197_43 : List.drop 43 xm_c1197 = xm_c1197_43 := xm_dr d_1197_42
theorem k_1197_43 : xm_gi xm_c1197 43 = some xm_e1197_43 := xm_gt d_1197_43
theorem d_1197_44 : List.drop 44 xm_c1197 = xm_c1197_44 := xm_dr d_1197_43
theorem k_1197_44 : xm_gi xm_c1197 44 = some xm_e1197_44 := xm_gt d_1197_44
theorem d_1197_45 : List.drop 45 xm_c1197 = xm_c1197_45 := xm_dr d_1197_44
theorem k_1197_45 : xm_gi xm_c1197 45 = some xm_e1197_45 := xm_gt d_1197_45
theorem d_1197_46 : List.drop 46 xm_c1197 = xm_c1197_46 := xm_dr d_1197_45
theorem k_1197_46 : xm_gi xm_c1197 46 = some xm_e1197_46 := xm_gt d_1197_46
theorem d_1197_47 : List.drop 47 xm_c1197 = xm_c1197_47 := xm_dr d_1197_46
theorem k_1197_47 : xm_gi xm_c1197 47 = some xm_e1197_47 := xm_gt d_1197_47
theorem d_1197_48 : List.drop 48 xm_c1197 = xm_c1197_48 := xm_dr d_1197_47
theorem k_1197_48 : xm_gi xm_c1197 48 = some xm_e1197_48 := xm_gt d_1197_48
theorem d_1197_49 : List.drop 49 xm_c1197 = xm_c1197_49 := xm_dr d_1197_48
theorem k_1197_49 : xm_gi xm_c1197 49 = some xm_e1197_49 := xm_gt d_1197_49
theorem d_1197_50 : List.drop 50 xm_c1197 = xm_c1197_50 := xm_dr d_1197_49
theorem k_1197_50 : xm_gi xm_c1197 50 = some xm_e1197_50 := xm_gt d_1197_50
theorem d_1197_51 : List.drop 51 xm_c1197 = xm_c1197_51 := xm_dr d_1197_50
theorem k_1197_51 : xm_gi xm_c1197 51 = some xm_e1197_51 := xm_gt d_1197_51
theorem d_1197_52 : List.drop 52 xm_c1197 = xm_c1197_52 := xm_dr d_1197_51
theorem k_1197_52 : xm_gi xm_c1197 52 = some xm_e1197_52 := xm_gt d_1197_52
theorem d_1197_53 : List.drop 53 xm_c1197 = xm_c1197_53 := xm_dr d_1197_52
theorem k_1197_53 : xm_gi xm_c1197 53 = some xm_e1197_53 := xm_gt d_1197_53
theorem d_1197_54 : List.drop 54 xm_c1197 = xm_c1197_54 := xm_dr d_1197_53
theorem k_1197_54 : xm_gi xm_c1197 54 = some xm_e1197_54 := xm_gt d_1197_54
theorem d_1197_55 : List.drop 55 xm_c1197 = xm_c1197_55 := xm_dr d_1197_54
theorem k_1197_55 : xm_gi xm_c1197 55 = some xm_e1197_55 := xm_gt d_1197_55
theorem d_1197_56 : List.drop 56 xm_c1197 = xm_c1197_56 := xm_dr d_1197_55
theorem k_1197_56 : xm_gi xm_c1197 56 = some xm_e1197_56 := xm_gt d_1197_56
theorem d_1197_57 : List.drop 57 xm_c1197 = xm_c1197_57 := xm_dr d_1197_56
theorem k_1197_57 : xm_gi xm_c1197 57 = some xm_e1197_57 := xm_gt d_1197_57
theorem d_1197_58 : List.drop 58 xm_c1197 = xm_c1197_58 := xm_dr d_1197_57
theorem k_1197_58 : xm_gi xm_c1197 58 = some xm_e1197_58 := xm_gt d_1197_58
theorem d_1197_59 : List.drop 59 xm_c1197 = xm_c1197_59 := xm_dr d_1197_58
theorem k_1197_59 : xm_gi xm_c1197 59 = some xm_e1197_59 := xm_gt d_1197_59
theorem d_1197_60 : List.drop 60 xm_c1197 = xm_c1197_60 := xm_dr d_1197_59
theorem k_1197_60 : xm_gi xm_c1197 60 = some xm_e1197_60 := xm_gt d_1197_60
theorem d_1197_61 : List.drop 61 xm_c1197 = xm_c1197_61 := xm_dr d_1197_60
theorem k_1197_61 : xm_gi xm_c1197 61 = some xm_e1197_61 := xm_gt d_1197_61
theorem d_1197_62 : List.drop 62 xm_c1197 = xm_c1197_62 := xm_dr d_1197_61
theorem k_1197_62 : xm_gi xm_c1197 62 = some xm_e1197_62 := xm_gt d_1197_62
theorem d_1197_63 : List.drop 63 xm_c1197 = xm_c1197_63 := xm_dr d_1197_62
theorem k_1197_63 : xm_gi xm_c1197 63 = some xm_e1197_63 := xm_gt d_1197_63
theorem d_1197_64 : List.drop 64 xm_c1197 = xm_c1197_64 := xm_dr d_1197_63
theorem k_1197_64 : xm_gi xm_c1197 64 = some xm_e1197_64 := xm_gt d_1197_64
theorem d_1197_65 : List.drop 65 xm_c1197 = xm_c1197_65 := xm_dr d_1197_64
theorem k_1197_65 : xm_gi xm_c1197 65 = some xm_e1197_65 := xm_gt d_1197_65
theorem d_1197_66 : List.drop 66 xm_c1197 = xm_c1197_66 := xm_dr d_1197_65
theorem k_1197_66 : xm_gi xm_c1197 66 = some xm_e1197_66 := xm_gt d_1197_66
theorem xb_1197_0 {sc : List Int} {f : Nat → List xm_V → xm_W → xm_R} {w : xm_W} {Q : Option xm_V × xm_W → Prop} {x0 : Nat} {x1 : Int} {x2 : Int} {x3 : Int}
  (h : xm_Oi (f 1196 [.inl x1] w) (fun z2 w1 => if (z2 : Int) = 0 then (xm_Oi (f 1102 [.inr (.inl (some x0)), .inl 1] w1) (fun z4 w3 => Q (some (.inl z4), w3))) else (if (x2 : Int) = 0 then (if (x2 : Int) = 0 then (xm_EQ (xm_old sc) xm_sta f xm_c1197 26 [some (.inr (.inl (some x0))), some (.inl x1), some (.inl x2), some (.inl x3), none] [] w1 Q) else (if (x3 : Int) < 0 then (xm_Oi (f 1102 [.inr (.inl (some x0)), .inl 3] w1) (fun z6 w5 => Q (some (.inl z6), w5))) else (xm_EQ (xm_old sc) xm_sta f xm_c1197 26 [some (.inr (.inl (some x0))), some (.inl x1), some (.inl x2), some (.inl x3), none] [] w1 Q))) else (if (x2 : Int) = 8 then (if (x2 : Int) = 0 then (xm_EQ (xm_old sc) xm_sta f xm_c1197 26 [some (.inr (.inl (some x0))), some (.inl x1), some (.inl x2), some (.inl x3), none] [] w1 Q) else (if (x3 : Int) < 0 then (xm_Oi (f 1102 [.inr (.inl (some x0)), .inl 3] w1) (fun z8 w7 => Q (some (.inl z8), w7))) else (xm_EQ (xm_old sc) xm_sta f xm_c1197 26 [some (.inr (.inl (some x0))), some (.inl x1), some (.inl x2), some (.inl x3), none] [] w1 Q))) else (if (x2 : Int) = 16 then (if (x2 : Int) = 0 then (xm_EQ (xm_old sc) xm_sta f xm_c1197 26 [some (.inr (.inl (some x0))), some (.inl x1), some (.inl x2), some (.inl x3), none] [] w1 Q) else (if (x3 : Int) < 0 then (xm_Oi (f 1102 [.inr (.inl (some x0)), .inl 3] w1) (fun z10 w9 => Q (some (.inl z10), w9))) else (xm_EQ (xm_old sc) xm_sta f xm_c1197 26 [some (.inr (.inl (some x0))), some (.inl x1), some (.inl x2), some (.inl x3), none] [] w1 Q))) else (if (x2 : Int) = 32 then (if (x2 : Int) = 0 then (xm_EQ (xm_old sc) xm_sta f xm_c1197 26 [some (.inr (.inl (some x0))), some (.inl x1), some (.inl x2), some (.inl x3), none] [] w1 Q) else (if (x3 : Int) < 0 then (xm_Oi (f 1102 [.inr (.inl (some x0)), .inl 3] w1) (fun z12 w11 => Q (some (.inl z12), w11))) else (xm_EQ (xm_old sc) xm_sta f xm_c1197 26 [some (.inr (.inl (some x0))), some (.inl x1), some (.inl x2), some (.inl x3), none] [] w1 Q))) else (xm_Oi (f 1102 [.inr (.inl (some x0)), .inl 1] w1) (fun z14 w13 => Q (some (.inl z14), w13))))))))) :
  xm_EQ (xm_old sc) xm_sta f xm_c1197 0 [some (.inr (.inl (some x0))), some (.inl x1), some (.inl x2), some (.inl x3), none] [] w Q :=
  (xq_iload_n k_1197_0 rfl (xq_invs2 k_1197_1 xr_1196 rfl rfl rfl h (fun z2 w1 h => (xq_if_eq k_1197_2 h (fun h => (xq_aload_n k_1197_14 rfl (xq_iconst k_1197_15 (xq_invv1 k_1197_16 xr_1102 rfl rfl rfl h (fun z4 w3 h => (xq_ireturn k_1197_17 h)))))) (fun h => (xq_iload_n k_1197_3 rfl (xq_if_eq k_1197_4 h (fun h => (xq_iload_n k_1197_18 rfl (xq_if_eq k_1197_19 h (fun h => h) (fun h => (xq_iload_n k_1197_20 rfl (xq_if_ge k_1197_21 h (fun h => (xq_aload_n k_1197_22 rfl (xq_iconst k_1197_23 (xq_invv1 k_1197_24 xr_1102 rfl rfl rfl h (fun z6 w5 h => (xq_ireturn k_1197_25 h)))))) (fun h => h))))))) (fun h => (xq_iload_n k_1197_5 rfl (xq_bipush k_1197_6 (xq_ic_eq k_1197_7 h (fun h => (xq_iload_n k_1197_18 rfl (xq_if_eq k_1197_19 h (fun h => h) (fun h => (xq_iload_n k_1197_20 rfl (xq_if_ge k_1197_21 h (fun h => (xq_aload_n k_1197_22 rfl (xq_iconst k_1197_23 (xq_invv1 k_1197_24 xr_1102 rfl rfl rfl h (fun z8 w7 h => (xq_ireturn k_1197_25 h)))))) (fun h => h))))))) (fun h => (xq_iload_n k_1197_8 rfl (xq_bipush k_1197_9 (xq_ic_eq k_1197_10 h (fun h => (xq_iload_n k_1197_18 rfl (xq_if_eq k_1197_19 h (fun h => h) (fun h => (xq_iload_n k_1197_20 rfl (xq_if_ge k_1197_21 h (fun h => (xq_aload_n k_1197_22 rfl (xq_iconst k_1197_23 (xq_invv1 k_1197_24 xr_1102 rfl rfl rfl h (fun z10 w9 h => (xq_ireturn k_1197_25 h)))))) (fun h => h))))))) (fun h => (xq_iload_n k_1197_11 rfl (xq_bipush k_1197_12 (xq_ic_eq k_1197_13 h (fun h => (xq_iload_n k_1197_18 rfl (xq_if_eq k_1197_19 h (fun h => h) (fun h => (xq_iload_n k_1197_20 rfl (xq_if_ge k_1197_21 h (fun h => (xq_aload_n k_1197_22 rfl (xq_iconst k_1197_23 (xq_invv1 k_1197_24 xr_1102 rfl rfl rfl h (fun z12 w11 h => (xq_ireturn k_1197_25 h)))))) (fun h => h))))))) (fun h => (xq_aload_n k_1197_14 rfl (xq_iconst k_1197_15 (xq_invv1 k_1197_16 xr_1102 rfl rfl rfl h (fun z14 w13 h => (xq_ireturn k_1197_17 h)))))))))))))))))))))))))
theorem xb_1197_26 {sc : List Int} {f : Nat → List xm_V → xm_W → xm_R} {w : xm_W} {Q : Option xm_V × xm_W → Prop} {x0 : Nat} {x1 : Int} {x2 : Int} {x3 : Int} {u4 : Option xm_V}
  (h : if (x2 : Int) = 0 then (xm_O (xm_fr (xm_old sc) w x0 9 18) (fun r1 => xm_O (xm_seti w r1 x1 x2) (fun w2 => xm_O (xm_fr (xm_old sc) w2 x0 9 19) (fun r3 => if (x2 : Int) = 0 then (xm_O (xm_seti w2 r3 x1 0) (fun w5 => xm_EQ (xm_old sc) xm_sta f xm_c1197 51 [some (.inr (.inl (some x0))), some (.inl x1), some (.inl x2), some (.inl x3), some (.inl 0)] [] w5 Q)) else (xm_O (xm_seti w2 r3 x1 x3) (fun w4 => xm_EQ (xm_old sc) xm_sta f xm_c1197 51 [some (.inr (.inl (some x0))), some (.inl x1), some (.inl x2), some (.inl x3), some (.inl 0)] [] w4 Q)))))) else (if (24 : Int) < x3 then (xm_Oi (f 1102 [.inr (.inl (some x0)), .inl 1] w) (fun z12 w11 => Q (some (.inl z12), w11))) else (xm_O (xm_fr (xm_old sc) w x0 9 18) (fun r6 => xm_O (xm_seti w r6 x1 x2) (fun w7 => xm_O (xm_fr (xm_old sc) w7 x0 9 19) (fun r8 => if (x2 : Int) = 0 then (xm_O (xm_seti w7 r8 x1 0) (fun w10 => xm_EQ (xm_old sc) xm_sta f xm_c1197 51 [some (.inr (.inl (some x0))), some (.inl x1), some (.inl x2), some (.inl x3), some (.inl 0)] [] w10 Q)) else (xm_O (xm_seti w7 r8 x1 x3) (fun w9 => xm_EQ (xm_old sc) xm_sta f xm_c1197 51 [some (.inr (.inl (some x0))), some (.inl x1), some (.inl x2), some (.inl x3), some (.inl 0)] [] w9 Q)))))))) :
  xm_EQ (xm_old sc) xm_sta f xm_c1197 26 [some (.inr (.inl (some x0))), some (.inl x1), some (.inl x2), some (.inl x3), u4] [] w Q :=
  (xq_iload_n k_1197_26 rfl (xq_if_eq k_1197_27 h (fun h => (xq_aload_n k_1197_35 rfl (xq_getr k_1197_36 rfl h (fun r1 h => (xq_iload_n k_1197_37 rfl (xq_iload_n k_1197_38 rfl (xq_iastore k_1197_39 h (fun w2 h => (xq_aload_n k_1197_40 rfl (xq_getr k_1197_41 rfl h (fun r3 h => (xq_iload_n k_1197_42 rfl (xq_iload_n k_1197_43 rfl (xq_if_ne k_1197_44 h (fun h => (xq_iconst k_1197_45 (xq_goto k_1197_46 (xq_iastore k_1197_48 h (fun w5 h => (xq_iconst k_1197_49 (xq_istore k_1197_50 rfl h))))))) (fun h => (xq_iload_n k_1197_47 rfl (xq_iastore k_1197_48 h (fun w4 h => (xq_iconst k_1197_49 (xq_istore k_1197_50 rfl h)))))))))))))))))))) (fun h => (xq_iload_n k_1197_28 rfl (xq_bipush k_1197_29 (xq_ic_le k_1197_30 h (fun h => (xq_aload_n k_1197_31 rfl (xq_iconst k_1197_32 (xq_invv1 k_1197_33 xr_1102 rfl rfl rfl h (fun z12 w11 h => (xq_ireturn k_1197_34 h)))))) (fun h => (xq_aload_n k_1197_35 rfl (xq_getr k_1197_36 rfl h (fun r6 h => (xq_iload_n k_1197_37 rfl (xq_iload_n k_1197_38 rfl (xq_iastore k_1197_39 h (fun w7 h => (xq_aload_n k_1197_40 rfl (xq_getr k_1197_41 rfl h (fun r8 h => (xq_iload_n k_1197_42 rfl (xq_iload_n k_1197_43 rfl (xq_if_ne k_1197_44 h (fun h => (xq_iconst k_1197_45 (xq_goto k_1197_46 (xq_iastore k_1197_48 h (fun w10 h => (xq_iconst k_1197_49 (xq_istore k_1197_50 rfl h))))))) (fun h => (xq_iload_n k_1197_47 rfl (xq_iastore k_1197_48 h (fun w9 h => (xq_iconst k_1197_49 (xq_istore k_1197_50 rfl h))))))))))))))))))))))))))
theorem xb_1197_51 {sc : List Int} {f : Nat → List xm_V → xm_W → xm_R} {w : xm_W} {Q : Option xm_V × xm_W → Prop} {x0 : Nat} {x1 : Int} {x2 : Int} {x3 : Int} {x4 : Int}
  (h : if (x4 : Int) < 24 then (xm_O (xm_fr (xm_old sc) w x0 9 20) (fun r1 => xm_O (xm_seti w r1 (xm_w ((xm_w (24 * x1)) + x4)) 0) (fun w2 => xm_EQ (xm_old sc) xm_sta f xm_c1197 51 [some (.inr (.inl (some x0))), some (.inl x1), some (.inl x2), some (.inl x3), some (.inl (xm_w (x4 + 1)))] [] w2 Q))) else (Q (some (.inl 1), w))) :
  xm_EQ (xm_old sc) xm_sta f xm_c1197 51 [some (.inr (.inl (some x0))), some (.inl x1), some (.inl x2), some (.inl x3), some (.inl x4)] [] w Q :=
  (xq_iload k_1197_51 rfl (xq_bipush k_1197_52 (xq_ic_ge k_1197_53 h (fun h => (xq_aload_n k_1197_54 rfl (xq_getr k_1197_55 rfl h (fun r1 h => (xq_bipush k_1197_56 (xq_iload_n k_1197_57 rfl (xq_imul k_1197_58 (xq_iload k_1197_59 rfl (xq_iadd k_1197_60 (xq_iconst k_1197_61 (xq_iastore k_1197_62 h (fun w2 h => (xq_iinc k_1197_63 rfl rfl (xq_goto k_1197_64 h)))))))))))))) (fun h => (xq_iconst k_1197_65 (xq_ireturn k_1197_66 h))))))
/-- ShodBackwardsModel.put(III)I -/
theorem d_1198_0 : List.drop 0 xm_c1198 = xm_c1198 := rfl
theorem k_1198_0 : xm_gi xm_c1198 0 = some xm_e1198_0 := xm_gt d_1198_0
theorem d_1198_1 : List.drop 1 xm_c1198 = xm_c1198_1 := xm_dr d_1198_0
theorem k_1198_1 : xm_gi xm_c1198 1 = some xm_e1198_1 := xm_gt d_1198_1
theorem d_1198_2 : List.drop 2 xm_c1198 = xm_c1198_2 := xm_dr d_1198_1
theorem k_1198_2 : xm_gi xm_c1198 2 = some xm_e1198_2 := xm_gt d_1198_2
theorem d_1198_3 : List.drop 3 xm_c1198 = xm_c1198_3 := xm_dr d_1198_2
theorem k_1198_3 : xm_gi xm_c1198 3 = some xm_e1198_3 := xm_gt d_1198_3
theorem d_1198_4 : List.drop 4 xm_c1198 = xm_c1198_4 := xm_dr d_1198_3
theorem k_1198_4 : xm_gi xm_c1198 4 = some xm_e1198_4 := xm_gt d_1198_4
theorem d_1198_5 : List.drop 5 xm_c1198 = xm_c1198_5 := xm_dr d_1198_4
theorem k_1198_5 : xm_gi xm_c1198 5 = some xm_e1198_5 := xm_gt d_1198_5
theorem d_1198_6 : List.drop 6 xm_c1198 = xm_c1198_6 := xm_dr d_1198_5
theorem k_1198_6 : xm_gi xm_c1198 6 = some xm_e1198_6 := xm_gt d_1198_6
theorem d_1198_7 : List.drop 7 xm_c1198 = xm_c1198_7 := xm_dr d_1198_6
theorem k_1198_7 : xm_gi xm_c1198 7 = some xm_e1198_7 := xm_gt d_1198_7
theorem d_1198_8 : List.drop 8 xm_c1198 = xm_c1198_8 := xm_dr d_1198_7
theorem k_1198_8 : xm_gi xm_c1198 8 = some xm_e1198_8 := xm_gt d_1198_8
theorem d_1198_9 : List.drop 9 xm_c1198 = xm_c1198_9 := xm_dr d_1198_8
theorem k_1198_9 : xm_gi xm_c1198 9 = some xm_e1198_9 := xm_gt d_1198_9
theorem d_1198_10 : List.drop 10 xm_c1198 = xm_c1198_10 := xm_dr d_1198_9
theorem k_1198_10 : xm_gi xm_c1198 10 = some xm_e1198_10 := xm_gt d_1198_10
theorem d_1198_11 : List.drop 11 xm_c1198 = xm_c1198_11 := xm_dr d_1198_10
theorem k_1198_11 : xm_gi xm_c1198 11 = some xm_e1198_11 := xm_gt d_1198_11
theorem d_1198_12 : List.drop 12 xm_c1198 = xm_c1198_12 := xm_dr d_1198_11
theorem k_1198_12 : xm_gi xm_c1198 12 = some xm_e1198_12 := xm_gt d_1198_12
theorem d_1198_13 : List.drop 13 xm_c1198 = xm_c1198_13 := xm_dr d_1198_12
theorem k_1198_13 : xm_gi xm_c1198 13 = some xm_e1198_13 := xm_gt d_1198_13
theorem d_1198_14 : List.drop 14 xm_c1198 = xm_c1198_14 := xm_dr d_1198_13
theorem k_1198_14 : xm_gi xm_c1198 14 = some xm_e1198_14 := xm_gt d_1198_14
theorem d_1198_15 : List.drop 15 xm_c1198 = xm_c1198_15 := xm_dr d_1198_14
theorem k_1198_15 : xm_gi xm_c1198 15 = some xm_e1198_15 := xm_gt d_1198_15
theorem d_1198_16 : List.drop 16 xm_c1198 = xm_c1198_16 := xm_dr d_1198_15
theorem k_1198_16 : xm_gi xm_c1198 16 = some xm_e1198_16 := xm_gt d_1198_16
theorem d_1198_17 : List.drop 17 xm_c1198 = xm_c1198_17 := xm_dr d_1198_16
theorem k_1198_17 : xm_gi xm_c1198 17 = some xm_e1198_17 := xm_gt d_1198_17
theorem d_1198_18 : List.drop 18 xm_c1198 = xm_c1198_18 := xm_dr d_1198_17
theorem k_1198_18 : xm_gi xm_c1198 18 = some xm_e1198_18 := xm_gt d_1198_18
theorem d_1198_19 : List.drop 19 xm_c1198 = xm_c1198_19 := xm_dr d_1198_18
theorem k_1198_19 : xm_gi xm_c1198 19 = some xm_e1198_19 := xm_gt d_1198_19
theorem d_1198_20 : List.drop 20 xm_c1198 = xm_c1198_20 := xm_dr d_1198_19
theorem k_1198_20 : xm_gi xm_c1198 20 = some xm_e1198_20 := xm_gt d_1198_20
theorem d_1198_21 : List.drop 21 xm_c1198 = xm_c1198_21 := xm_dr d_1198_20
theorem k_1198_21 : xm_gi xm_c1198 21 = some xm_e1198_21 := xm_gt d_1198_21
theorem d_1198_22 : List.drop 22 xm_c1198 = xm_c1198_22 := xm_dr d_1198_21
theorem k_1198_22 : xm_gi xm_c1198 22 = some xm_e1198_22 := xm_gt d_1198_22
theorem d_1198_23 : List.drop 23 xm_c1198 = xm_c1198_23 := xm_dr d_1198_22
theorem k_1198_23 : xm_gi xm_c1198 23 = some xm_e1198_23 := xm_gt d_1198_23
theorem d_1198_24 : List.drop 24 xm_c1198 = xm_c1198_24 := xm_dr d_1198_23
theorem k_1198_24 : xm_gi xm_c1198 24 = some xm_e1198_24 := xm_gt d_1198_24
theorem d_1198_25 : List.drop 25 xm_c1198 = xm_c1198_25 := xm_dr d_1198_24
theorem k_1198_25 : xm_gi xm_c1198 25 = some xm_e1198_25 := xm_gt d_1198_25
theorem d_1198_26 : List.drop 26 xm_c1198 = xm_c1198_26 := xm_dr d_1198_25
theorem k_1198_26 : xm_gi xm_c1198 26 = some xm_e1198_26 := xm_gt d_1198_26
theorem d_1198_27 : List.drop 27 xm_c1198 = xm_c1198_27 := xm_dr d_1198_26
theorem k_1198_27 : xm_gi xm_c1198 27 = some xm_e1198_27 := xm_gt d_1198_27
theorem d_1198_28 : List.drop 28 xm_c1198 = xm_c1198_28 := xm_dr d_1198_27
theorem k_1198_28 : xm_gi xm_c1198 28 = some xm_e1198_28 := xm_gt d_1198_28
theorem d_1198_29 : List.drop 29 xm_c1198 = xm_c1198_29 := xm_dr d_1198_28
theorem k_1198_29 : xm_gi xm_c1198 29 = some xm_e1198_29 := xm_gt d_1198_29
theorem d_1198_30 : List.drop 30 xm_c1198 = xm_c1198_30 := xm_dr d_1198_29
theorem k_1198_30 : xm_gi xm_c1198 30 = some xm_e1198_30 := xm_gt d_1198_30
theorem d_1198_31 : List.drop 31 xm_c1198 = xm_c1198_31 := xm_dr d_1198_30
theorem k_1198_31 : xm_gi xm_c1198 31 = some xm_e1198_31 := xm_gt d_1198_31
theorem d_1198_32 : List.drop 32 xm_c1198 = xm_c1198_32 := xm_dr d_1198_31
theorem k_1198_32 : xm_gi xm_c1198 32 = some xm_e1198_32 := xm_gt d_1198_32
theorem d_1198_33 : List.drop 33 xm_c1198 = xm_c1198_33 := xm_dr d_1198_32
theorem k_1198_33 : xm_gi xm_c1198 33 = some xm_e1198_33 := xm_gt d_1198_33
theorem d_1198_34 : List.drop 34 xm_c1198 = xm_c1198_34 := xm_dr d_1198_33
theorem k_1198_34 : xm_gi xm_c1198 34 = some xm_e1198_34 := xm_gt d_1198_34
theorem d_1198_35 : List.drop 35 xm_c1198 = xm_c1198_35 := xm_dr d_1198_34
theorem k_1198_35 : xm_gi xm_c1198 35 = some xm_e1198_35 := xm_gt d_1198_35
theorem d_1198_36 : List.drop 36 xm_c1198 = xm_c1198_36 := xm_dr d_1198_35
theorem k_1198_36 : xm_gi xm_c1198 36 = some xm_e1198_36 := xm_gt d_1198_36
theorem d_1198_37 : List.drop 37 xm_c1198 = xm_c1198_37 := xm_dr d_1198_36
theorem k_1198_37 : xm_gi xm_c1198 37 = some xm_e1198_37 := xm_gt d_1198_37
theorem d_1198_38 : List.drop 38 xm_c1198 = xm_c1198_38 := xm_dr d_1198_37
theorem k_1198_38 : xm_gi xm_c1198 38 = some xm_e1198_38 := xm_gt d_1198_38
theorem d_1198_39 : List.drop 39 xm_c1198 = xm_c1198_39 := xm_dr d_1198_38
theorem k_1198_39 : xm_gi xm_c1198 39 = some xm_e1198_39 := xm_gt d_1198_39
theorem d_1198_40 : List.drop 40 xm_c1198 = xm_c1198_40 := xm_dr d_1198_39
theorem k_1198_40 : xm_gi xm_c1198 40 = some xm_e1198_40 := xm_gt d_1198_40
theorem d_1198_41 : List.drop 41 xm_c1198 = xm_c1198_41 := xm_dr d_1198_40
theorem k_1198_41 : xm_gi xm_c1198 41 = some xm_e1198_41 := xm_gt d_1198_41
theorem d_1198_42 : List.drop 42 xm_c1198 = xm_c1198_42 := xm_dr d_1198_41
theorem k_1198_42 : xm_gi xm_c1198 42 = some xm_e1198_42 := xm_gt d_1198_42
theorem d_1198_43 : List.drop 43 xm_c1198 = xm_c1198_43 := xm_dr d_1198_42
theorem k_1198_43 : xm_gi xm_c1198 43 = some xm_e1198_43 := xm_gt d_1198_43
theorem d_1198_44 : List.drop 44 xm_c1198 = xm_c1198_44 := xm_dr d_1198_43
theorem k_1198_44 : xm_gi xm_c1198 44 = some xm_e1198_44 := xm_gt d_1198_44
theorem d_1198_45 : List.drop 45 xm_c1198 = xm_c1198_45 := xm_dr d_1198_44
theorem k_1198_45 : xm_gi xm_c1198 45 = some xm_e1198_45 := xm_gt d_1198_45
theorem d_1198_46 : List.drop 46 xm_c1198 = xm_c1198_46 := xm_dr d_1198_45
theorem k_1198_46 : xm_gi xm_c1198 46 = some xm_e1198_46 := xm_gt d_1198_46
theorem d_1198_47 : List.drop 47 xm_c1198 = xm_c1198_47 := xm_dr d_1198_46
theorem k_1198_47 : xm_gi xm_c1198 47 = some xm_e1198_47 := xm_gt d_1198_47
theorem d_1198_48 : List.drop 48 xm_c1198 = xm_c1198_48 := xm_dr d_1198_47
theorem k_1198_48 : xm_gi xm_c1198 48 = some xm_e1198_48 := xm_gt d_1198_48
theorem d_1198_49 : List.drop 49 xm_c1198 = xm_c1198_49 := xm_dr d_1198_48
theorem k_1198_49 : xm_gi xm_c1198 49 = some xm_e1198_49 := xm_gt d_1198_49
theorem d_1198_50 : List.drop 50 xm_c1198 = xm_c1198_50 := xm_dr d_1198_49
theorem k_1198_50 : xm_gi xm_c1198 50 = some xm_e1198_50 := xm_gt d_1198_50
theorem d_1198_51 : List.drop 51 xm_c1198 = xm_c1198_51 := xm_dr d_1198_50
theorem k_1198_51 : xm_gi xm_c1198 51 = some xm_e1198_51 := xm_gt d_1198_51
theorem xb_1198_0 {sc : List Int} {f : Nat → List xm_V → xm_W → xm_R} {w : xm_W} {Q : Option xm_V × xm_W → Prop} {x0 : Nat} {x1 : Int} {x2 : Int} {x3 : Int}
  (h : xm_Oi (f 1196 [.inl x1] w) (fun z2 w1 => if (z2 : Int) = 0 then (xm_Oi (f 1102 [.inr (.inl (some x0)), .inl 1] w1) (fun z21 w20 => Q (some (.inl z21), w20))) else (xm_O (xm_fr (xm_old sc) w1 x0 9 18) (fun r3 => xm_O (xm_ints (xm_old sc) w1 r3) (fun l4 => xm_O (xm_at l4 x1) (fun z5 => if (z5 : Int) = 0 then (xm_Oi (f 1102 [.inr (.inl (some x0)), .inl 2] w1) (fun z19 w18 => Q (some (.inl z19), w18))) else (xm_O (xm_fr (xm_old sc) w1 x0 9 19) (fun r6 => xm_O (xm_ints (xm_old sc) w1 r6) (fun l7 => xm_O (xm_at l7 x1) (fun z8 => xm_Oi (f 1103 [.inl x2, .inl 0, .inl (xm_w (z8 - 1))] w1) (fun z10 w9 => if (z10 : Int) = 0 then (xm_Oi (f 1102 [.inr (.inl (some x0)), .inl 1] w9) (fun z17 w16 => Q (some (.inl z17), w16))) else (xm_O (xm_fr (xm_old sc) w9 x0 9 18) (fun r11 => xm_O (xm_ints (xm_old sc) w9 r11) (fun l12 => xm_O (xm_at l12 x1) (fun z13 => xm_O (xm_fr (xm_old sc) w9 x0 9 20) (fun r14 => xm_O (xm_seti w9 r14 (xm_w ((xm_w (24 * x1)) + x2)) (xm_shr (xm_shl x3 (xm_w (32 - z13))) (xm_w (32 - z13)))) (fun w15 => Q (some (.inl 1), w15)))))))))))))))))) :
  xm_EQ (xm_old sc) xm_sta f xm_c1198 0 [some (.inr (.inl (some x0))), some (.inl x1), some (.inl x2), some (.inl x3), none] [] w Q :=
  (xq_iload_n k_1198_0 rfl (xq_invs2 k_1198_1 xr_1196 rfl rfl rfl h (fun z2 w1 h => (xq_if_ne k_1198_2 h (fun h => (xq_aload_n k_1198_3 rfl (xq_iconst k_1198_4 (xq_invv1 k_1198_5 xr_1102 rfl rfl rfl h (fun z21 w20 h => (xq_ireturn k_1198_6 h)))))) (fun h => (xq_aload_n k_1198_7 rfl (xq_getr k_1198_8 rfl h (fun r3 h => (xq_iload_n k_1198_9 rfl (xq_iaload k_1198_10 h (fun l4 h => h) (fun l4 z5 h => (xq_if_ne k_1198_11 h (fun h => (xq_aload_n k_1198_12 rfl (xq_iconst k_1198_13 (xq_invv1 k_1198_14 xr_1102 rfl rfl rfl h (fun z19 w18 h => (xq_ireturn k_1198_15 h)))))) (fun h => (xq_iload_n k_1198_16 rfl (xq_iconst k_1198_17 (xq_aload_n k_1198_18 rfl (xq_getr k_1198_19 rfl h (fun r6 h => (xq_iload_n k_1198_20 rfl (xq_iaload k_1198_21 h (fun l7 h => h) (fun l7 z8 h => (xq_iconst k_1198_22 (xq_isub k_1198_23 (xq_invs2 k_1198_24 xr_1103 rfl rfl rfl h (fun z10 w9 h => (xq_if_ne k_1198_25 h (fun h => (xq_aload_n k_1198_26 rfl (xq_iconst k_1198_27 (xq_invv1 k_1198_28 xr_1102 rfl rfl rfl h (fun z17 w16 h => (xq_ireturn k_1198_29 h)))))) (fun h => (xq_bipush k_1198_30 (xq_aload_n k_1198_31 rfl (xq_getr k_1198_32 rfl h (fun r11 h => (xq_iload_n k_1198_33 rfl (xq_iaload k_1198_34 h (fun l12 h => h) (fun l12 z13 h => (xq_isub k_1198_35 (xq_istore k_1198_36 rfl (xq_aload_n k_1198_37 rfl (xq_getr k_1198_38 rfl h (fun r14 h => (xq_bipush k_1198_39 (xq_iload_n k_1198_40 rfl (xq_imul k_1198_41 (xq_iload_n k_1198_42 rfl (xq_iadd k_1198_43 (xq_iload_n k_1198_44 rfl (xq_iload k_1198_45 rfl (xq_ishl k_1198_46 (xq_iload k_1198_47 rfl (xq_ishr k_1198_48 (xq_iastore k_1198_49 h (fun w15 h => (xq_iconst k_1198_50 (xq_ireturn k_1198_51 h)))))))))))))))))))))))))))))))))))))))))))))))))))))
/-- ShodBackwardsModel.move(IIIII)I -/
theorem d_1199_0 : List.drop 0 xm_c1199 = xm_c1199 := rfl
theorem k_1199_0 : xm_gi xm_c1199 0 = some xm_e1199_0 := xm_gt d_1199_0
theorem d_1199_1 : List.drop 1 xm_c1199 = xm_c1199_1 := xm_dr d_1199_0
theorem k_1199_1 : xm_gi xm_c1199 1 = some xm_e1199_1 := xm_gt d_1199_1
theorem d_1199_2 : List.drop 2 xm_c1199 = xm_c1199_2 := xm_dr d_1199_1
theorem k_1199_2 : xm_gi xm_c1199 2 = some xm_e1199_2 := xm_gt d_1199_2
theorem d_1199_3 : List.drop 3 xm_c1199 = xm_c1199_3 := xm_dr d_1199_2
theorem k_1199_3 : xm_gi xm_c1199 3 = some xm_e1199_3 := xm_gt d_1199_3
theorem d_1199_4 : List.drop 4 xm_c1199 = xm_c1199_4 := xm_dr d_1199_3
theorem k_1199_4 : xm_gi xm_c1199 4 = some xm_e1199_4 := xm_gt d_1199_4
theorem d_1199_5 : List.drop 5 xm_c1199 = xm_c1199_5 := xm_dr d_1199_4
theorem k_1199_5 : xm_gi xm_c1199 5 = some xm_e1199_5 := xm_gt d_1199_5
theorem d_1199_6 : List.drop 6 xm_c1199 = xm_c1199_6 := xm_dr d_1199_5
theorem k_1199_6 : xm_gi xm_c1199 6 = some xm_e1199_6 := xm_gt d_1199_6
theorem d_1199_7 : List.drop 7 xm_c1199 = xm_c1199_7 := xm_dr d_1199_6
theorem k_1199_7 : xm_gi xm_c1199 7 = some xm_e1199_7 := xm_gt d_1199_7
theorem d_1199_8 : List.drop 8 xm_c1199 = xm_c1199_8 := xm_dr d_1199_7
theorem k_1199_8 : xm_gi xm_c1199 8 = some xm_e1199_8 := xm_gt d_1199_8
theorem d_1199_9 : List.drop 9 xm_c1199 = xm_c1199_9 := xm_dr d_1199_8
theorem k_1199_9 : xm_gi xm_c1199 9 = some xm_e1199_9 := xm_gt d_1199_9
theorem d_1199_10 : List.drop 10 xm_c1199 = xm_c1199_10 := xm_dr d_1199_9
theorem k_1199_10 : xm_gi xm_c1199 10 = some xm_e1199_10 := xm_gt d_1199_10
theorem d_1199_11 : List.drop 11 xm_c1199 = xm_c1199_11 := xm_dr d_1199_10
theorem k_1199_11 : xm_gi xm_c1199 11 = some xm_e1199_11 := xm_gt d_1199_11
theorem d_1199_12 : List.drop 12 xm_c1199 = xm_c1199_12 := xm_dr d_1199_11
theorem k_1199_12 : xm_gi xm_c1199 12 = some xm_e1199_12 := xm_gt d_1199_12
theorem d_1199_13 : List.drop 13 xm_c1199 = xm_c1199_13 := xm_dr d_1199_12
theorem k_1199_13 : xm_gi xm_c1199 13 = some xm_e1199_13 := xm_gt d_1199_13
theorem d_1199_14 : List.drop 14 xm_c1199 = xm_c1199_14 := xm_dr d_1199_13
theorem k_1199_14 : xm_gi xm_c1199 14 = some xm_e1199_14 := xm_gt d_1199_14
theorem d_1199_15 : List.drop 15 xm_c1199 = xm_c1199_15 := xm_dr d_1199_14
theorem k_1199_15 : xm_gi xm_c1199 15 = some xm_e1199_15 := xm_gt d_1199_15
theorem d_1199_16 : List.drop 16 xm_c1199 = xm_c1199_16 := xm_dr d_1199_15
theorem k_1199_16 : xm_gi xm_c1199 16 = some xm_e1199_16 := xm_gt d_1199_16
theorem d_1199_17 : List.drop 17 xm_c1199 = xm_c1199_17 := xm_dr d_1199_16
theorem k_1199_17 : xm_gi xm_c1199 17 = some xm_e1199_17 := xm_gt d_1199_17
theorem d_1199_18 : List.drop 18 xm_c1199 = xm_c1199_18 := xm_dr d_1199_17
theorem k_1199_18 : xm_gi xm_c1199 18 = some xm_e1199_18 := xm_gt d_1199_18
theorem d_1199_19 : List.drop 19 xm_c1199 = xm_c1199_19 := xm_dr d_1199_18
theorem k_1199_19 : xm_gi xm_c1199 19 = some xm_e1199_19 := xm_gt d_1199_19
theorem d_1199_20 : List.drop 20 xm_c1199 = xm_c1199_20 := xm_dr d_1199_19
theorem k_1199_20 : xm_gi xm_c1199 20 = some xm_e1199_20 := xm_gt d_1199_20
theorem d_1199_21 : List.drop 21 xm_c1199 = xm_c1199_21 := xm_dr d_1199_20
theorem k_1199_21 : xm_gi xm_c1199 21 = some xm_e1199_21 := xm_gt d_1199_21
theorem d_1199_22 : List.drop 22 xm_c1199 = xm_c1199_22 := xm_dr d_1199_21
theorem k_1199_22 : xm_gi xm_c1199 22 = some xm_e1199_22 := xm_gt d_1199_22
theorem d_1199_23 : List.drop 23 xm_c1199 = xm_c1199_23 := xm_dr d_1199_22
theorem k_1199_23 : xm_gi xm_c1199 23 = some xm_e1199_23 := xm_gt d_1199_23
theorem d_1199_24 : List.drop 24 xm_c1199 = xm_c1199_24 := xm_dr d_1199_23
theorem k_1199_24 : xm_gi xm_c1199 24 = some xm_e1199_24 := xm_gt d_1199_24
theorem d_1199_25 : List.drop 25 xm_c1199 = xm_c1199_25 := xm_dr d_1199_24
theorem k_1199_25 : xm_gi xm_c1199 25 = some xm_e1199_25 := xm_gt d_1199_25
theorem d_1199_26 : List.drop 26 xm_c1199 = xm_c1199_26 := xm_dr d_1199_25
theorem k_1199_26 : xm_gi xm_c1199 26 = some xm_e1199_26 := xm_gt d_1199_26
theorem d_1199_27 : List.drop 27 xm_c1199 = xm_c1199_27 := xm_dr d_1199_26
theorem k_1199_27 : xm_gi xm_c1199 27 = some xm_e1199_27 := xm_gt d_1199_27
theorem d_1199_28 : List.drop 28 xm_c1199 = xm_c1199_28 := xm_dr d_1199_27
theorem k_1199_28 : xm_gi xm_c1199 28 = some xm_e1199_28 := xm_gt d_1199_28
theorem d_1199_29 : List.drop 29 xm_c1199 = xm_c1199_29 := xm_dr d_1199_28
theorem k_1199_29 : xm_gi xm_c1199 29 = some xm_e1199_29 := xm_gt d_1199_29
theorem d_1199_30 : List.drop 30 xm_c1199 = xm_c1199_30 := xm_dr d_1199_29
theorem k_1199_30 : xm_gi xm_c1199 30 = some xm_e1199_30 := xm_gt d_1199_30
theorem d_1199_31 : List.drop 31 xm_c1199 = xm_c1199_31 := xm_dr d_1199_30
theorem k_1199_31 : xm_gi xm_c1199 31 = some xm_e1199_31 := xm_gt d_1199_31
theorem d_1199_32 : List.drop 32 xm_c1199 = xm_c1199_32 := xm_dr d_1199_31
theorem k_1199_32 : xm_gi xm_c1199 32 = some xm_e1199_32 := xm_gt d_1199_32
theorem d_1199_33 : List.drop 33 xm_c1199 = xm_c1199_33 := xm_dr d_1199_32
theorem k_1199_33 : xm_gi xm_c1199 33 = some xm_e1199_33 := xm_gt d_1199_33
theorem d_1199_34 : List.drop 34 xm_c1199 = xm_c1199_34 := xm_dr d_1199_33
theorem k_1199_34 : xm_gi xm_c1199 34 = some xm_e1199_34 := xm_gt d_1199_34
theorem d_1199_35 : List.drop 35 xm_c1199 = xm_c1199_35 := xm_dr d_1199_34
theorem k_1199_35 : xm_gi xm_c1199 35 = some xm_e1199_35 := xm_gt d_1199_35
theorem d_1199_36 : List.drop 36 xm_c1199 = xm_c1199_36 := xm_dr d_1199_35
theorem k_1199_36 : xm_gi xm_c1199 36 = some xm_e1199_36 := xm_gt d_1199_36
theorem d_1199_37 : List.drop 37 xm_c1199 = xm_c1199_37 := xm_dr d_1199_36
theorem k_1199_37 : xm_gi xm_c1199 37 = some xm_e1199_37 := xm_gt d_1199_37
theorem d_1199_38 : List.drop 38 xm_c1199 = xm_c1199_38 := xm_dr d_1199_37
theorem k_1199_38 : xm_gi xm_c1199 38 = some xm_e1199_38 := xm_gt d_1199_38
theorem d_1199_39 : List.drop 39 xm_c1199 = xm_c1199_39 := xm_dr d_1199_38
theorem k_1199_39 : xm_gi xm_c1199 39 = some xm_e1199_39 := xm_gt d_1199_39
theorem d_1199_40 : List.drop 40 xm_c1199 = xm_c1199_40 := xm_dr d_1199_39
theorem k_1199_40 : xm_gi xm_c1199 40 = some xm_e1199_40 := xm_gt d_1199_40
theorem d_1199_41 : List.drop 41 xm_c1199 = xm_c1199_41 := xm_dr d_1199_40
theorem k_1199_41 : xm_gi xm_c1199 41 = some xm_e1199_41 := xm_gt d_1199_41
theorem d_1199_42 : List.drop 42 xm_c1199 = xm_c1199_42 := xm_dr d_1199_41
theorem k_1199_42 : xm_gi xm_c1199 42 = some xm_e1199_42 := xm_gt d_1199_42
theorem d_1199_43 : List.drop 43 xm_c1199 = xm_c1199_43 := xm_dr d_1199_42
theorem k_1199_43 : xm_gi xm_c1199 43 = some xm_e1199_43 := xm_gt d_1199_43
theorem d_1199_44 : List.drop 44 xm_c1199 = xm_c1199_44 := xm_dr d_1199_43
theorem k_1199_44 : xm_gi xm_c1199 44 = some xm_e1199_44 := xm_gt d_1199_44
theorem d_1199_45 : List.drop 45 xm_c1199 = xm_c1199_45 := xm_dr d_1199_44
theorem k_1199_45 : xm_gi xm_c1199 45 = some xm_e1199_45 := xm_gt d_1199_45
theorem d_1199_46 : List.drop 46 xm_c1199 = xm_c1199_46 := xm_dr d_1199_45
theorem k_1199_46 : xm_gi xm_c1199 46 = some xm_e1199_46 := xm_gt d_1199_46
theorem d_1199_47 : List.drop 47 xm_c1199 = xm_c1199_47 := xm_dr d_1199_46
theorem k_1199_47 : xm_gi xm_c1199 47 = some xm_e1199_47 := xm_gt d_1199_47
theorem d_1199_48 : List.drop 48 xm_c1199 = xm_c1199_48 := xm_dr d_1199_47
theorem k_1199_48 : xm_gi xm_c1199 48 = some xm_e1199_48 := xm_gt d_1199_48
theorem d_1199_49 : List.drop 49 xm_c1199 = xm_c1199_49 := xm_dr d_1199_48
theorem k_1199_49 : xm_gi xm_c1199 49 = some xm_e1199_49 := xm_gt d_1199_49
theorem d_1199_50 : List.drop 50 xm_c1199 = xm_c1199_50 := xm_dr d_1199_49
theorem k_1199_50 : xm_gi xm_c1199 50 = some xm_e1199_50 := xm_gt d_1199_50
theorem d_1199_51 : List.drop 51 xm_c1199 = xm_c1199_51 := xm_dr d_1199_50
theorem k_1199_51 : xm_gi xm_c1199 51 = some xm_e1199_51 := xm_gt d_1199_51
theorem d_1199_52 : List.drop 52 xm_c1199 = xm_c1199_52 := xm_dr d_1199_51
theorem k_1199_52 : xm_gi xm_c1199 52 = some xm_e1199_52 := xm_gt d_1199_52
theorem d_1199_53 : List.drop 53 xm_c1199 = xm_c1199_53 := xm_dr d_1199_52
theorem k_1199_53 : xm_gi xm_c1199 53 = some xm_e1199_53 := xm_gt d_1199_53
theorem d_1199_54 : List.drop 54 xm_c1199 = xm_c1199_54 := xm_dr d_1199_53
theorem k_1199_54 : xm_gi xm_c1199 54 = some xm_e1199_54 := xm_gt d_1199_54
theorem d_1199_55 : List.drop 55 xm_c1199 = xm_c1199_55 := xm_dr d_1199_54
theorem k_1199_55 : xm_gi xm_c1199 55 = some xm_e1199_55 := xm_gt d_1199_55
theorem d_1199_56 : List.drop 56 xm_c1199 = xm_c1199_56 := xm_dr d_1199_55
theorem k_1199_56 : xm_gi xm_c1199 56 = some xm_e1199_56 := xm_gt d_1199_56
theorem d_1199_57 : List.drop 57 xm_c1199 = xm_c1199_57 := xm_dr d_1199_56
theorem k_1199_57 : xm_gi xm_c1199 57 = some xm_e1199_57 := xm_gt d_1199_57
theorem d_1199_58 : List.drop 58 xm_c1199 = xm_c1199_58 := xm_dr d_1199_57
theorem k_1199_58 : xm_gi xm_c1199 58 = some xm_e1199_58 := xm_gt d_1199_58
theorem d_1199_59 : List.drop 59 xm_c1199 = xm_c1199_59 := xm_dr d_1199_58
theorem k_1199_59 : xm_gi xm_c1199 59 = some xm_e1199_59 := xm_gt d_1199_59
theorem d_1199_60 : List.drop 60 xm_c1199 = xm_c1199_60 := xm_dr d_1199_59
theorem k_1199_60 : xm_gi xm_c1199 60 = some xm_e1199_60 := xm_gt d_1199_60
theorem d_1199_61 : List.drop 61 xm_c1199 = xm_c1199_61 := xm_dr d_1199_60
theorem k_1199_61 : xm_gi xm_c1199 61 = some xm_e1199_61 := xm_gt d_1199_61
theorem d_1199_62 : List.drop 62 xm_c1199 = xm_c1199_62 := xm_dr d_1199_61
theorem k_1199_62 : xm_gi xm_c1199 62 = some xm_e1199_62 := xm_gt d_1199_62
theorem d_1199_63 : List.drop 63 xm_c1199 = xm_c1199_63 := xm_dr d_1199_62
theorem k_1199_63 : xm_gi xm_c1199 63 = some xm_e1199_63 := xm_gt d_1199_63
theorem d_1199_64 : List.drop 64 xm_c1199 = xm_c1199_64 := xm_dr d_1199_63
theorem k_1199_64 : xm_gi xm_c1199 64 = some xm_e1199_64 := xm_gt d_1199_64
theorem d_1199_65 : List.drop 65 xm_c1199 = xm_c1199_65 := xm_dr d_1199_64
theorem k_1199_65 : xm_gi xm_c1199 65 = some xm_e1199_65 := xm_gt d_1199_65
theorem d_1199_66 : List.drop 66 xm_c1199 = xm_c1199_66 := xm_dr d_1199_65
theorem k_1199_66 : xm_gi xm_c1199 66 = some xm_e1199_66 := xm_gt d_1199_66
theorem d_1199_67 : List.drop 67 xm_c1199 = xm_c1199_67 := xm_dr d_1199_66
theorem k_1199_67 : xm_gi xm_c1199 67 = some xm_e1199_67 := xm_gt d_1199_67
theorem d_1199_68 : List.drop 68 xm_c1199 = xm_c1199_68 := xm_dr d_1199_67
theorem k_1199_68 : xm_gi xm_c1199 68 = some xm_e1199_68 := xm_gt d_1199_68
theorem d_1199_69 : List.drop 69 xm_c1199 = xm_c1199_69 := xm_dr d_1199_68
theorem k_1199_69 : xm_gi xm_c1199 69 = some xm_e1199_69 := xm_gt d_1199_69
theorem d_1199_70 : List.drop 70 xm_c1199 = xm_c1199_70 := xm_dr d_1199_69
theorem k_1199_70 : xm_gi xm_c1199 70 = some xm_e1199_70 := xm_gt d_1199_70
theorem d_1199_71 : List.drop 71 xm_c1199 = xm_c1199_71 := xm_dr d_1199_70
theorem k_1199_71 : xm_gi xm_c1199 71 = some xm_e1199_71 := xm_gt d_1199_71
theorem d_1199_72 : List.drop 72 xm_c1199 = xm_c1199_72 := xm_dr d_1199_71
theorem k_1199_72 : xm_gi xm_c1199 72 = some xm_e1199_72 := xm_gt d_1199_72
theorem d_1199_73 : List.drop 73 xm_c1199 = xm_c1199_73 := xm_dr d_1199_72
theorem k_1199_73 : xm_gi xm_c1199 73 = some xm_e1199_73 := xm_gt d_1199_73
theorem d_1199_74 : List.drop 74 xm_c1199 = xm_c1199_74 := xm_dr d_1199_73
theorem k_1199_74 : xm_gi xm_c1199 74 = some xm_e1199_74 := xm_gt d_1199_74
theorem d_1199_75 : List.drop 75 xm_c1199 = xm_c1199_75 := xm_dr d_1199_74
theorem k_1199_75 : xm_gi xm_c1199 75 = some xm_e1199_75 := xm_gt d_1199_75
theorem d_1199_76 : List.drop 76 xm_c1199 = xm_c1199_76 := xm_dr d_1199_75
theorem k_1199_76 : xm_gi xm_c1199 76 = some xm_e1199_76 := xm_gt d_1199_76
theorem d_1199_77 : List.drop 77 xm_c1199 = xm_c1199_77 := xm_dr d_1199_76
theorem k_1199_77 : xm_gi xm_c1199 77 = some xm_e1199_77 := xm_gt d_1199_77
theorem d_1199_78 : List.drop 78 xm_c1199 = xm_c1199_78 := xm_dr d_1199_77
theorem k_1199_78 : xm_gi xm_c1199 78 = some xm_e1199_78 := xm_gt d_1199_78
theorem d_1199_79 : List.drop 79 xm_c1199 = xm_c1199_79 := xm_dr d_1199_78
theorem k_1199_79 : xm_gi xm_c1199 79 = some xm_e1199_79 := xm_gt d_1199_79
theorem d_1199_80 : List.drop 80 xm_c1199 = xm_c1199_80 := xm_dr d_1199_79
theorem k_1199_80 : xm_gi xm_c1199 80 = some xm_e1199_80 := xm_gt d_1199_80
theorem d_1199_81 : List.drop 81 xm_c1199 = xm_c1199_81 := xm_dr d_1199_80
theorem k_1199_81 : xm_gi xm_c1199 81 = some xm_e1199_81 := xm_gt d_1199_81
theorem d_1199_82 : List.drop 82 xm_c1199 = xm_c1199_82 := xm_dr d_1199_81
theorem k_1199_82 : xm_gi xm_c1199 82 = some xm_e1199_82 := xm_gt d_1199_82
theorem d_1199_83 : List.drop 83 xm_c1199 = xm_c1199_83 := xm_dr d_1199_82
theorem k_1199_83 : xm_gi xm_c1199 83 = some xm_e1199_83 := xm_gt d_1199_83
theorem d_1199_84 : List.drop 84 xm_c1199 = xm_c1199_84 := xm_dr d_1199_83
theorem k_1199_84 : xm_gi xm_c1199 84 = some xm_e1199_84 := xm_gt d_1199_84
theorem d_1199_85 : List.drop 85 xm_c1199 = xm_c1199_85 := xm_dr d_1199_84
theorem k_1199_85 : xm_gi xm_c1199 85 = some xm_e1199_85 := xm_gt d_1199_85
theorem d_1199_86 : List.drop 86 xm_c1199 = xm_c1199_86 := xm_dr d_1199_85
theorem k_1199_86 : xm_gi xm_c1199 86 = some xm_e1199_86 := xm_gt d_1199_86
theorem d_1199_87 : List.drop 87 xm_c1199 = xm_c1199_87 := xm_dr d_1199_86
theorem k_1199_87 : xm_gi xm_c1199 87 = some xm_e1199_87 := xm_gt d_1199_87
theorem d_1199_88 : List.drop 88 xm_c1199 = xm_c1199_88 := xm_dr d_1199_87
theorem k_1199_88 : xm_gi xm_c1199 88 = some xm_e1199_88 := xm_gt d_1199_88
theorem d_1199_89 : List.drop 89 xm_c1199 = xm_c1199_89 := xm_dr d_1199_88
theorem k_1199_89 : xm_gi xm_c1199 89 = some xm_e1199_89 := xm_gt d_1199_89
theorem d_1199_90 : List.drop 90 xm_c1199 = xm_c1199_90 := xm_dr d_1199_89
theorem k_1199_90 : xm_gi xm_c1199 90 = some xm_e1199_90 := xm_gt d_1199_90
theorem d_1199_91 : List.drop 91 xm_c1199 = xm_c1199_91 := xm_dr d_1199_90
theorem k_1199_91 : xm_gi xm_c1199 91 = some xm_e1199_91 := xm_gt d_1199_91
theorem d_1199_92 : List.drop 92 xm_c1199 = xm_c1199_92 := xm_dr d_1199_91
theorem k_1199_92 : xm_gi xm_c1199 92 = some xm_e1199_92 := xm_gt d_1199_92
theorem d_1199_93 : List.drop 93 xm_c1199 = xm_c1199_93 := xm_dr d_1199_92
theorem k_1199_93 : xm_gi xm_c1199 93 = some xm_e1199_93 := xm_gt d_1199_93
theorem d_1199_94 : List.drop 94 xm_c1199 = xm_c1199_94 := xm_dr d_1199_93
theorem k_1199_94 : xm_gi xm_c1199 94 = some xm_e1199_94 := xm_gt d_1199_94
theorem d_1199_95 : List.drop 95 xm_c1199 = xm_c1199_95 := xm_dr d_1199_94
theorem k_1199_95 : xm_gi xm_c1199 95 = some xm_e1199_95 := xm_gt d_1199_95
theorem d_1199_96 : List.drop 96 xm_c1199 = xm_c1199_96 := xm_dr d_1199_95
theorem k_1199_96 : xm_gi xm_c1199 96 = some xm_e1199_96 := xm_gt d_1199_96
theorem d_1199_97 : List.drop 97 xm_c1199 = xm_c1199_97 := xm_dr d_1199_96
theorem k_1199_97 : xm_gi xm_c1199 97 = some xm_e1199_97 := xm_gt d_1199_97
theorem d_1199_98 : List.drop 98 xm_c1199 = xm_c1199_98 := xm_dr d_1199_97
theorem k_1199_98 : xm_gi xm_c1199 98 = some xm_e1199_98 := xm_gt d_1199_98
theorem d_1199_99 : List.drop 99 xm_c1199 = xm_c1199_99 := xm_dr d_1199_98
theorem k_1199_99 : xm_gi xm_c1199 99 = some xm_e1199_99 := xm_gt d_1199_99
theorem d_1199_100 : List.drop 100 xm_c1199 = xm_c1199_100 := xm_dr d_1199_99
theorem k_1199_100 : xm_gi xm_c1199 100 = some xm_e1199_100 := xm_gt d_1199_100
theorem d_1199_101 : List.drop 101 xm_c1199 = xm_c1199_101 := xm_dr d_1199_100
theorem k_1199_101 : xm_gi xm_c1199 101 = some xm_e1199_101 := xm_gt d_1199_101
theorem d_1199_102 : List.drop 102 xm_c1199 = xm_c1199_102 := xm_dr d_1199_101
theorem k_1199_102 : xm_gi xm_c1199 102 = some xm_e1199_102 := xm_gt d_1199_102
theorem d_1199_103 : List.drop 103 xm_c1199 = xm_c1199_103 := xm_dr d_1199_102
theorem k_1199_103 : xm_gi xm_c1199 103 = some xm_e1199_103 := xm_gt d_1199_103
theorem d_1199_104 : List.drop 104 xm_c1199 = xm_c1199_104 := xm_dr d_1199_103
theorem k_1199_104 : xm_gi xm_c1199 104 = some xm_e1199_104 := xm_gt d_1199_104
theorem d_1199_105 : List.drop 105 xm_c1199 = xm_c1199_105 := xm_dr d_1199_104
theorem k_1199_105 : xm_gi xm_c1199 105 = some xm_e1199_105 := xm_gt d_1199_105
theorem d_1199_106 : List.drop 106 xm_c1199 = xm_c1199_106 := xm_dr d_1199_105
theorem k_1199_106 : xm_gi xm_c1199 106 = some xm_e1199_106 := xm_gt d_1199_106
theorem xb_1199_0 {sc : List Int} {f : Nat → List xm_V → xm_W → xm_R} {w : xm_W} {Q : Option xm_V × xm_W → Prop} {x0 : Nat} {x1 : Int} {x2 : Int} {x3 : Int} {x4 : Int} {x5 : Int}
  (h : xm_Oi (f 1196 [.inl x1] w) (fun z2 w1 => if (z2 : Int) = 0 then (xm_Oi (f 1102 [.inr (.inl (some x0)), .inl 1] w1) (fun z4 w3 => Q (some (.inl z4), w3))) else (xm_Oi (f 1196 [.inl x3] w1) (fun z6 w5 => if (z6 : Int) = 0 then (xm_Oi (f 1102 [.inr (.inl (some x0)), .inl 1] w5) (fun z42 w41 => Q (some (.inl z42), w41))) else (xm_O (xm_fr (xm_old sc) w5 x0 9 18) (fun r7 => xm_O (xm_ints (xm_old sc) w5 r7) (fun l8 => xm_O (xm_at l8 x1) (fun z9 => if (z9 : Int) = 0 then (xm_Oi (f 1102 [.inr (.inl (some x0)), .inl 2] w5) (fun z11 w10 => Q (some (.inl z11), w10))) else (xm_O (xm_fr (xm_old sc) w5 x0 9 18) (fun r12 => xm_O (xm_ints (xm_old sc) w5 r12) (fun l13 => xm_O (xm_at l13 x3) (fun z14 => if (z14 : Int) = 0 then (xm_Oi (f 1102 [.inr (.inl (some x0)), .inl 2] w5) (fun z40 w39 => Q (some (.inl z40), w39))) else (xm_O (xm_fr (xm_old sc) w5 x0 9 18) (fun r15 => xm_O (xm_ints (xm_old sc) w5 r15) (fun l16 => xm_O (xm_at l16 x1) (fun z17 => xm_O (xm_fr (xm_old sc) w5 x0 9 18) (fun r18 => xm_O (xm_ints (xm_old sc) w5 r18) (fun l19 => xm_O (xm_at l19 x3) (fun z20 => if (z17 : Int) = z20 then (if (x5 : Int) < 0 then (xm_Oi (f 1102 [.inr (.inl (some x0)), .inl 1] w5) (fun z22 w21 => Q (some (.inl z22), w21))) else (if (x2 : Int) < 0 then (xm_Oi (f 1102 [.inr (.inl (some x0)), .inl 1] w5) (fun z24 w23 => Q (some (.inl z24), w23))) else (if (x4 : Int) < 0 then (xm_Oi (f 1102 [.inr (.inl (some x0)), .inl 1] w5) (fun z26 w25 => Q (some (.inl z26), w25))) else (xm_O (xm_fr (xm_old sc) w5 x0 9 19) (fun r27 => xm_O (xm_ints (xm_old sc) w5 r27) (fun l28 => xm_O (xm_at l28 x1) (fun z29 => if ((xm_w (z29 - x5)) : Int) < x2 then (xm_Oi (f 1102 [.inr (.inl (some x0)), .inl 1] w5) (fun z31 w30 => Q (some (.inl z31), w30))) else (xm_O (xm_fr (xm_old sc) w5 x0 9 19) (fun r32 => xm_O (xm_ints (xm_old sc) w5 r32) (fun l33 => xm_O (xm_at l33 x3) (fun z34 => if ((xm_w (z34 - x5)) : Int) < x4 then (xm_Oi (f 1102 [.inr (.inl (some x0)), .inl 1] w5) (fun z36 w35 => Q (some (.inl z36), w35))) else (xm_EQ (xm_old sc) xm_sta f xm_c1199 65 [some (.inr (.inl (some x0))), some (.inl x1), some (.inl x2), some (.inl x3), some (.inl x4), some (.inl x5), some (.inl 0)] [] w5 Q)))))))))))) else (xm_Oi (f 1102 [.inr (.inl (some x0)), .inl 5] w5) (fun z38 w37 => Q (some (.inl z38), w37)))))))))))))))))))))) :
  xm_EQ (xm_old sc) xm_sta f xm_c1199 0 [some (.inr (.inl (some x0))), some (.inl x1), some (.inl x2), some (.inl x3), some (.inl x4), some (.inl x5), none] [] w Q :=
  (xq_iload_n k_1199_0 rfl (xq_invs2 k_1199_1 xr_1196 rfl rfl rfl h (fun z2 w1 h => (xq_if_eq k_1199_2 h (fun h => (xq_aload_n k_1199_6 rfl (xq_iconst k_1199_7 (xq_invv1 k_1199_8 xr_1102 rfl rfl rfl h (fun z4 w3 h => (xq_ireturn k_1199_9 h)))))) (fun h => (xq_iload_n k_1199_3 rfl (xq_invs2 k_1199_4 xr_1196 rfl rfl rfl h (fun z6 w5 h => (xq_if_ne k_1199_5 h (fun h => (xq_aload_n k_1199_6 rfl (xq_iconst k_1199_7 (xq_invv1 k_1199_8 xr_1102 rfl rfl rfl h (fun z42 w41 h => (xq_ireturn k_1199_9 h)))))) (fun h => (xq_aload_n k_1199_10 rfl (xq_getr k_1199_11 rfl h (fun r7 h => (xq_iload_n k_1199_12 rfl (xq_iaload k_1199_13 h (fun l8 h => h) (fun l8 z9 h => (xq_if_eq k_1199_14 h (fun h => (xq_aload_n k_1199_20 rfl (xq_iconst k_1199_21 (xq_invv1 k_1199_22 xr_1102 rfl rfl rfl h (fun z11 w10 h => (xq_ireturn k_1199_23 h)))))) (fun h => (xq_aload_n k_1199_15 rfl (xq_getr k_1199_16 rfl h (fun r12 h => (xq_iload_n k_1199_17 rfl (xq_iaload k_1199_18 h (fun l13 h => h) (fun l13 z14 h => (xq_if_ne k_1199_19 h (fun h => (xq_aload_n k_1199_20 rfl (xq_iconst k_1199_21 (xq_invv1 k_1199_22 xr_1102 rfl rfl rfl h (fun z40 w39 h => (xq_ireturn k_1199_23 h)))))) (fun h => (xq_aload_n k_1199_24 rfl (xq_getr k_1199_25 rfl h (fun r15 h => (xq_iload_n k_1199_26 rfl (xq_iaload k_1199_27 h (fun l16 h => h) (fun l16 z17 h => (xq_aload_n k_1199_28 rfl (xq_getr k_1199_29 rfl h (fun r18 h => (xq_iload_n k_1199_30 rfl (xq_iaload k_1199_31 h (fun l19 h => h) (fun l19 z20 h => (xq_ic_eq k_1199_32 h (fun h => (xq_iload k_1199_37 rfl (xq_if_lt k_1199_38 h (fun h => (xq_aload_n k_1199_59 rfl (xq_iconst k_1199_60 (xq_invv1 k_1199_61 xr_1102 rfl rfl rfl h (fun z22 w21 h => (xq_ireturn k_1199_62 h)))))) (fun h => (xq_iload_n k_1199_39 rfl (xq_if_lt k_1199_40 h (fun h => (xq_aload_n k_1199_59 rfl (xq_iconst k_1199_60 (xq_invv1 k_1199_61 xr_1102 rfl rfl rfl h (fun z24 w23 h => (xq_ireturn k_1199_62 h)))))) (fun h => (xq_iload k_1199_41 rfl (xq_if_lt k_1199_42 h (fun h => (xq_aload_n k_1199_59 rfl (xq_iconst k_1199_60 (xq_invv1 k_1199_61 xr_1102 rfl rfl rfl h (fun z26 w25 h => (xq_ireturn k_1199_62 h)))))) (fun h => (xq_iload_n k_1199_43 rfl (xq_aload_n k_1199_44 rfl (xq_getr k_1199_45 rfl h (fun r27 h => (xq_iload_n k_1199_46 rfl (xq_iaload k_1199_47 h (fun l28 h => h) (fun l28 z29 h => (xq_iload k_1199_48 rfl (xq_isub k_1199_49 (xq_ic_gt k_1199_50 h (fun h => (xq_aload_n k_1199_59 rfl (xq_iconst k_1199_60 (xq_invv1 k_1199_61 xr_1102 rfl rfl rfl h (fun z31 w30 h => (xq_ireturn k_1199_62 h)))))) (fun h => (xq_iload k_1199_51 rfl (xq_aload_n k_1199_52 rfl (xq_getr k_1199_53 rfl h (fun r32 h => (xq_iload_n k_1199_54 rfl (xq_iaload k_1199_55 h (fun l33 h => h) (fun l33 z34 h => (xq_iload k_1199_56 rfl (xq_isub k_1199_57 (xq_ic_le k_1199_58 h (fun h => (xq_aload_n k_1199_59 rfl (xq_iconst k_1199_60 (xq_invv1 k_1199_61 xr_1102 rfl rfl rfl h (fun z36 w35 h => (xq_ireturn k_1199_62 h)))))) (fun h => (xq_iconst k_1199_63 (xq_istore k_1199_64 rfl h)))))))))))))))))))))))))))))))))) (fun h => (xq_aload_n k_1199_33 rfl (xq_iconst k_1199_34 (xq_invv1 k_1199_35 xr_1102 rfl rfl rfl h (fun z38 w37 h => (xq_ireturn k_1199_36 h)))))))))))))))))))))))))))))))))))))))))))))
theorem xb_1199_65 {sc : List Int} {f : Nat → List xm_V → xm_W → xm_R} {w : xm_W} {Q : Option xm_V × xm_W → Prop} {x0 : Nat} {x1 : Int} {x2 : Int} {x3 : Int} {x4 : Int} {x5 : Int} {x6 : Int}
  (h : if (x6 : Int) < x5 then (xm_O (xm_fr (xm_old sc) w x0 9 21) (fun r1 => xm_O (xm_fr (xm_old sc) w x0 9 20) (fun r2 => xm_O (xm_ints (xm_old sc) w r2) (fun l3 => xm_O (xm_at l3 (xm_w ((xm_w ((xm_w (24 * x1)) + x2)) + x6))) (fun z4 => xm_O (xm_seti w r1 x6 z4) (fun w5 => xm_EQ (xm_old sc) xm_sta f xm_c1199 65 [some (.inr (.inl (some x0))), some (.inl x1), some (.inl x2), some (.inl x3), some (.inl x4), some (.inl x5), some (.inl (xm_w (x6 + 1)))] [] w5 Q)))))) else (xm_EQ (xm_old sc) xm_sta f xm_c1199 86 [some (.inr (.inl (some x0))), some (.inl x1), some (.inl x2), some (.inl x3), some (.inl x4), some (.inl x5), some (.inl 0)] [] w Q)) :
  xm_EQ (xm_old sc) xm_sta f xm_c1199 65 [some (.inr (.inl (some x0))), some (.inl x1), some (.inl x2), some (.inl x3), some (.inl x4), some (.inl x5), some (.inl x6)] [] w Q :=
  (xq_iload k_1199_65 rfl (xq_iload k_1199_66 rfl (xq_ic_ge k_1199_67 h (fun h => (xq_aload_n k_1199_68 rfl (xq_getr k_1199_69 rfl h (fun r1 h => (xq_iload k_1199_70 rfl (xq_aload_n k_1199_71 rfl (xq_getr k_1199_72 rfl h (fun r2 h => (xq_bipush k_1199_73 (xq_iload_n k_1199_74 rfl (xq_imul k_1199_75 (xq_iload_n k_1199_76 rfl (xq_iadd k_1199_77 (xq_iload k_1199_78 rfl (xq_iadd k_1199_79 (xq_iaload k_1199_80 h (fun l3 h => h) (fun l3 z4 h => (xq_iastore k_1199_81 h (fun w5 h => (xq_iinc k_1199_82 rfl rfl (xq_goto k_1199_83 h))))))))))))))))))))) (fun h => (xq_iconst k_1199_84 (xq_istore k_1199_85 rfl h))))))
theorem xb_1199_86 {sc : List Int} {f : Nat → List xm_V → xm_W → xm_R} {w : xm_W} {Q : Option xm_V × xm_W → Prop} {x0 : Nat} {x1 : Int} {x2 : Int} {x3 : Int} {x4 : Int} {x5 : Int} {x6 : Int}
  (h : if (x6 : Int) < x5 then (xm_O (xm_fr (xm_old sc) w x0 9 20) (fun r1 => xm_O (xm_fr (xm_old sc) w x0 9 21) (fun r2 => xm_O (xm_ints (xm_old sc) w r2) (fun l3 => xm_O (xm_at l3 x6) (fun z4 => xm_O (xm_seti w r1 (xm_w ((xm_w ((xm_w (24 * x3)) + x4)) + x6)) z4) (fun w5 => xm_EQ (xm_old sc) xm_sta f xm_c1199 86 [some (.inr (.inl (some x0))), some (.inl x1), some (.inl x2), some (.inl x3), some (.inl x4), some (.inl x5), some (.inl (xm_w (x6 + 1)))] [] w5 Q)))))) else (Q (some (.inl x5), w))) :
  xm_EQ (xm_old sc) xm_sta f xm_c1199 86 [some (.inr (.inl (some x0))), some (.inl x1), some (.inl x2), some (.inl x3), some (.inl x4), some (.inl x5), some (.inl x6)] [] w Q :=
  (xq_iload k_1199_86 rfl (xq_iload k_1199_87 rfl (xq_ic_ge k_1199_88 h (fun h => (xq_aload_n k_1199_89 rfl (xq_getr k_1199_90 rfl h (fun r1 h => (xq_bipush k_1199_91 (xq_iload_n k_1199_92 rfl (xq_imul k_1199_93 (xq_iload k_1199_94 rfl (xq_iadd k_1199_95 (xq_iload k_1199_96 rfl (xq_iadd k_1199_97 (xq_aload_n k_1199_98 rfl (xq_getr k_1199_99 rfl h (fun r2 h => (xq_iload k_1199_100 rfl (xq_iaload k_1199_101 h (fun l3 h => h) (fun l3 z4 h => (xq_iastore k_1199_102 h (fun w5 h => (xq_iinc k_1199_103 rfl rfl (xq_goto k_1199_104 h))))))))))))))))))))) (fun h => (xq_iload k_1199_105 rfl (xq_ireturn k_1199_106 h))))))
