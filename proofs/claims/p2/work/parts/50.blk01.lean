/-- ShodBackwards.<init>()V -/
theorem d_101_0 : List.drop 0 xm_c101 = xm_c101 := rfl
theorem k_101_0 : xm_gi xm_c101 0 = some xm_e101_0 := xm_gt d_101_0
theorem d_101_1 : List.drop 1 xm_c101 = xm_c101_1 := xm_dr d_101_0
theorem k_101_1 : xm_gi xm_c101 1 = some xm_e101_1 := xm_gt d_101_1
theorem d_101_2 : List.drop 2 xm_c101 = xm_c101_2 := xm_dr d_101_1
theorem k_101_2 : xm_gi xm_c101 2 = some xm_e101_2 := xm_gt d_101_2
theorem d_101_3 : List.drop 3 xm_c101 = xm_c101_3 := xm_dr d_101_2
theorem k_101_3 : xm_gi xm_c101 3 = some xm_e101_3 := xm_gt d_101_3
theorem d_101_4 : List.drop 4 xm_c101 = xm_c101_4 := xm_dr d_101_3
theorem k_101_4 : xm_gi xm_c101 4 = some xm_e101_4 := xm_gt d_101_4
theorem d_101_5 : List.drop 5 xm_c101 = xm_c101_5 := xm_dr d_101_4
theorem k_101_5 : xm_gi xm_c101 5 = some xm_e101_5 := xm_gt d_101_5
theorem d_101_6 : List.drop 6 xm_c101 = xm_c101_6 := xm_dr d_101_5
theorem k_101_6 : xm_gi xm_c101 6 = some xm_e101_6 := xm_gt d_101_6
theorem d_101_7 : List.drop 7 xm_c101 = xm_c101_7 := xm_dr d_101_6
theorem k_101_7 : xm_gi xm_c101 7 = some xm_e101_7 := xm_gt d_101_7
theorem d_101_8 : List.drop 8 xm_c101 = xm_c101_8 := xm_dr d_101_7
theorem k_101_8 : xm_gi xm_c101 8 = some xm_e101_8 := xm_gt d_101_8
theorem d_101_9 : List.drop 9 xm_c101 = xm_c101_9 := xm_dr d_101_8
theorem k_101_9 : xm_gi xm_c101 9 = some xm_e101_9 := xm_gt d_101_9
theorem d_101_10 : List.drop 10 xm_c101 = xm_c101_10 := xm_dr d_101_9
theorem k_101_10 : xm_gi xm_c101 10 = some xm_e101_10 := xm_gt d_101_10
theorem d_101_11 : List.drop 11 xm_c101 = xm_c101_11 := xm_dr d_101_10
theorem k_101_11 : xm_gi xm_c101 11 = some xm_e101_11 := xm_gt d_101_11
theorem d_101_12 : List.drop 12 xm_c101 = xm_c101_12 := xm_dr d_101_11
theorem k_101_12 : xm_gi xm_c101 12 = some xm_e101_12 := xm_gt d_101_12
theorem d_101_13 : List.drop 13 xm_c101 = xm_c101_13 := xm_dr d_101_12
theorem k_101_13 : xm_gi xm_c101 13 = some xm_e101_13 := xm_gt d_101_13
theorem d_101_14 : List.drop 14 xm_c101 = xm_c101_14 := xm_dr d_101_13
theorem k_101_14 : xm_gi xm_c101 14 = some xm_e101_14 := xm_gt d_101_14
theorem d_101_15 : List.drop 15 xm_c101 = xm_c101_15 := xm_dr d_101_14
theorem k_101_15 : xm_gi xm_c101 15 = some xm_e101_15 := xm_gt d_101_15
theorem d_101_16 : List.drop 16 xm_c101 = xm_c101_16 := xm_dr d_101_15
theorem k_101_16 : xm_gi xm_c101 16 = some xm_e101_16 := xm_gt d_101_16
theorem d_101_17 : List.drop 17 xm_c101 = xm_c101_17 := xm_dr d_101_16
theorem k_101_17 : xm_gi xm_c101 17 = some xm_e101_17 := xm_gt d_101_17
theorem d_101_18 : List.drop 18 xm_c101 = xm_c101_18 := xm_dr d_101_17
theorem k_101_18 : xm_gi xm_c101 18 = some xm_e101_18 := xm_gt d_101_18
theorem d_101_19 : List.drop 19 xm_c101 = xm_c101_19 := xm_dr d_101_18
theorem k_101_19 : xm_gi xm_c101 19 = some xm_e101_19 := xm_gt d_101_19
theorem d_101_20 : List.drop 20 xm_c101 = xm_c101_20 := xm_dr d_101_19
theorem k_101_20 : xm_gi xm_c101 20 = some xm_e101_20 := xm_gt d_101_20
theorem d_101_21 : List.drop 21 xm_c101 = xm_c101_21 := xm_dr d_101_20
theorem k_101_21 : xm_gi xm_c101 21 = some xm_e101_21 := xm_gt d_101_21
theorem d_101_22 : List.drop 22 xm_c101 = xm_c101_22 := xm_dr d_101_21
theorem k_101_22 : xm_gi xm_c101 22 = some xm_e101_22 := xm_gt d_101_22
theorem d_101_23 : List.drop 23 xm_c101 = xm_c101_23 := xm_dr d_101_22
theorem k_101_23 : xm_gi xm_c101 23 = some xm_e101_23 := xm_gt d_101_23
theorem d_101_24 : List.drop 24 xm_c101 = xm_c101_24 := xm_dr d_101_23
theorem k_101_24 : xm_gi xm_c101 24 = some xm_e101_24 := xm_gt d_101_24
theorem d_101_25 : List.drop 25 xm_c101 = xm_c101_25 := xm_dr d_101_24
theorem k_101_25 : xm_gi xm_c101 25 = some xm_e101_25 := xm_gt d_101_25
theorem d_101_26 : List.drop 26 xm_c101 = xm_c101_26 := xm_dr d_101_25
theorem k_101_26 : xm_gi xm_c101 26 = some xm_e101_26 := xm_gt d_101_26
theorem d_101_27 : List.drop 27 xm_c101 = xm_c101_27 := xm_dr d_101_26
theorem k_101_27 : xm_gi xm_c101 27 = some xm_e101_27 := xm_gt d_101_27
theorem d_101_28 : List.drop 28 xm_c101 = xm_c101_28 := xm_dr d_101_27
theorem k_101_28 : xm_gi xm_c101 28 = some xm_e101_28 := xm_gt d_101_28
theorem d_101_29 : List.drop 29 xm_c101 = xm_c101_29 := xm_dr d_101_28
theorem k_101_29 : xm_gi xm_c101 29 = some xm_e101_29 := xm_gt d_101_29
theorem d_101_30 : List.drop 30 xm_c101 = xm_c101_30 := xm_dr d_101_29
theorem k_101_30 : xm_gi xm_c101 30 = some xm_e101_30 := xm_gt d_101_30
theorem d_101_31 : List.drop 31 xm_c101 = xm_c101_31 := xm_dr d_101_30
theorem k_101_31 : xm_gi xm_c101 31 = some xm_e101_31 := xm_gt d_101_31
theorem d_101_32 : List.drop 32 xm_c101 = xm_c101_32 := xm_dr d_101_31
theorem k_101_32 : xm_gi xm_c101 32 = some xm_e101_32 := xm_gt d_101_32
theorem d_101_33 : List.drop 33 xm_c101 = xm_c101_33 := xm_dr d_101_32
theorem k_101_33 : xm_gi xm_c101 33 = some xm_e101_33 := xm_gt d_101_33
theorem d_101_34 : List.drop 34 xm_c101 = xm_c101_34 := xm_dr d_101_33
theorem k_101_34 : xm_gi xm_c101 34 = some xm_e101_34 := xm_gt d_101_34
theorem d_101_35 : List.drop 35 xm_c101 = xm_c101_35 := xm_dr d_101_34
theorem k_101_35 : xm_gi xm_c101 35 = some xm_e101_35 := xm_gt d_101_35
theorem d_101_36 : List.drop 36 xm_c101 = xm_c101_36 := xm_dr d_101_35
theorem k_101_36 : xm_gi xm_c101 36 = some xm_e101_36 := xm_gt d_101_36
theorem d_101_37 : List.drop 37 xm_c101 = xm_c101_37 := xm_dr d_101_36
theorem k_101_37 : xm_gi xm_c101 37 = some xm_e101_37 := xm_gt d_101_37
theorem d_101_38 : List.drop 38 xm_c101 = xm_c101_38 := xm_dr d_101_37
theorem k_101_38 : xm_gi xm_c101 38 = some xm_e101_38 := xm_gt d_101_38
theorem d_101_39 : List.drop 39 xm_c101 = xm_c101_39 := xm_dr d_101_38
theorem k_101_39 : xm_gi xm_c101 39 = some xm_e101_39 := xm_gt d_101_39
theorem d_101_40 : List.drop 40 xm_c101 = xm_c101_40 := xm_dr d_101_39
theorem k_101_40 : xm_gi xm_c101 40 = some xm_e101_40 := xm_gt d_101_40
theorem d_101_41 : List.drop 41 xm_c101 = xm_c101_41 := xm_dr d_101_40
theorem k_101_41 : xm_gi xm_c101 41 = some xm_e101_41 := xm_gt d_101_41
theorem d_101_42 : List.drop 42 xm_c101 = xm_c101_42 := xm_dr d_101_41
theorem k_101_42 : xm_gi xm_c101 42 = some xm_e101_42 := xm_gt d_101_42
theorem d_101_43 : List.drop 43 xm_c101 = xm_c101_43 := xm_dr d_101_42
theorem k_101_43 : xm_gi xm_c101 43 = some xm_e101_43 := xm_gt d_101_43
theorem d_101_44 : List.drop 44 xm_c101 = xm_c101_44 := xm_dr d_101_43
theorem k_101_44 : xm_gi xm_c101 44 = some xm_e101_44 := xm_gt d_101_44
theorem d_101_45 : List.drop 45 xm_c101 = xm_c101_45 := xm_dr d_101_44
theorem k_101_45 : xm_gi xm_c101 45 = some xm_e101_45 := xm_gt d_101_45
theorem d_101_46 : List.drop 46 xm_c101 = xm_c101_46 := xm_dr d_101_45
theorem k_101_46 : xm_gi xm_c101 46 = some xm_e101_46 := xm_gt d_101_46
theorem d_101_47 : List.drop 47 xm_c101 = xm_c101_47 := xm_dr d_101_46
theorem k_101_47 : xm_gi xm_c101 47 = some xm_e101_47 := xm_gt d_101_47
theorem d_101_48 : List.drop 48 xm_c101 = xm_c101_48 := xm_dr d_101_47
theorem k_101_48 : xm_gi xm_c101 48 = some xm_e101_48 := xm_gt d_101_48
theorem d_101_49 : List.drop 49 xm_c101 = xm_c101_49 := xm_dr d_101_48
theorem k_101_49 : xm_gi xm_c101 49 = some xm_e101_49 := xm_gt d_101_49
theorem d_101_50 : List.drop 50 xm_c101 = xm_c101_50 := xm_dr d_101_49
theorem k_101_50 : xm_gi xm_c101 50 = some xm_e101_50 := xm_gt d_101_50
theorem d_101_51 : List.drop 51 xm_c101 = xm_c101_51 := xm_dr d_101_50
theorem k_101_51 : xm_gi xm_c101 51 = some xm_e101_51 := xm_gt d_101_51
theorem d_101_52 : List.drop 52 xm_c101 = xm_c101_52 := xm_dr d_101_51
theorem k_101_52 : xm_gi xm_c101 52 = some xm_e101_52 := xm_gt d_101_52
theorem d_101_53 : List.drop 53 xm_c101 = xm_c101_53 := xm_dr d_101_52
theorem k_101_53 : xm_gi xm_c101 53 = some xm_e101_53 := xm_gt d_101_53
theorem d_101_54 : List.drop 54 xm_c101 = xm_c101_54 := xm_dr d_101_53
theorem k_101_54 : xm_gi xm_c101 54 = some xm_e101_54 := xm_gt d_101_54
theorem d_101_55 : List.drop 55 xm_c101 = xm_c101_55 := xm_dr d_101_54
theorem k_101_55 : xm_gi xm_c101 55 = some xm_e101_55 := xm_gt d_101_55
theorem d_101_56 : List.drop 56 xm_c101 = xm_c101_56 := xm_dr d_101_55
theorem k_101_56 : xm_gi xm_c101 56 = some xm_e101_56 := xm_gt d_101_56
theorem d_101_57 : List.drop 57 xm_c101 = xm_c101_57 := xm_dr d_101_56
theorem k_101_57 : xm_gi xm_c101 57 = some xm_e101_57 := xm_gt d_101_57
theorem d_101_58 : List.drop 58 xm_c101 = xm_c101_58 := xm_dr d_101_57
theorem k_101_58 : xm_gi xm_c101 58 = some xm_e101_58 := xm_gt d_101_58
theorem d_101_59 : List.drop 59 xm_c101 = xm_c101_59 := xm_dr d_101_58
theorem k_101_59 : xm_gi xm_c101 59 = some xm_e101_59 := xm_gt d_101_59
theorem d_101_60 : List.drop 60 xm_c101 = xm_c101_60 := xm_dr d_101_59
theorem k_101_60 : xm_gi xm_c101 60 = some xm_e101_60 := xm_gt d_101_60
theorem d_101_61 : List.drop 61 xm_c101 = xm_c101_61 := xm_dr d_101_60
theorem k_101_61 : xm_gi xm_c101 61 = some xm_e101_61 := xm_gt d_101_61
theorem d_101_62 : List.drop 62 xm_c101 = xm_c101_62 := xm_dr d_101_61
theorem k_101_62 : xm_gi xm_c101 62 = some xm_e101_62 := xm_gt d_101_62
theorem d_101_63 : List.drop 63 xm_c101 = xm_c101_63 := xm_dr d_101_62
theorem k_101_63 : xm_gi xm_c101 63 = some xm_e101_63 := xm_gt d_101_63
theorem d_101_64 : List.drop 64 xm_c101 = xm_c101_64 := xm_dr d_101_63
theorem k_101_64 : xm_gi xm_c101 64 = some xm_e101_64 := xm_gt d_101_64
theorem xb_101_0 {sc : List Int} {f : Nat → List xm_V → xm_W → xm_R} {w : xm_W} {Q : Option xm_V × xm_W → Prop} {x0 : Nat}
  (h : xm_Ov (f 401 [.inr (.inl (some w.length))] (w ++ [.inr (.inr (2, (xm_kd 2).map xm_dflt))])) (fun w1 => xm_O (xm_setf w1 x0 8 0 2 (.inr (.inl (some w.length)))) (fun w2 => xm_Ov (f 401 [.inr (.inl (some w2.length))] (w2 ++ [.inr (.inr (2, (xm_kd 2).map xm_dflt))])) (fun w3 => xm_O (xm_setf w3 x0 8 1 2 (.inr (.inl (some w2.length)))) (fun w4 => xm_Ov (f 301 [.inr (.inl (some w4.length))] (w4 ++ [.inr (.inr (1, (xm_kd 1).map xm_dflt))])) (fun w5 => xm_O (xm_setf w5 x0 8 2 2 (.inr (.inl (some w4.length)))) (fun w6 => xm_Ov (f 401 [.inr (.inl (some w6.length))] (w6 ++ [.inr (.inr (2, (xm_kd 2).map xm_dflt))])) (fun w7 => xm_O (xm_setf w7 x0 8 3 2 (.inr (.inl (some w6.length)))) (fun w8 => xm_Ov (f 301 [.inr (.inl (some w8.length))] (w8 ++ [.inr (.inr (1, (xm_kd 1).map xm_dflt))])) (fun w9 => xm_O (xm_setf w9 x0 8 4 2 (.inr (.inl (some w8.length)))) (fun w10 => xm_Ov (f 501 [.inr (.inl (some w10.length))] (w10 ++ [.inr (.inr (3, (xm_kd 3).map xm_dflt))])) (fun w11 => xm_O (xm_setf w11 x0 8 6 2 (.inr (.inl (some w10.length)))) (fun w12 => xm_Ov (f 801 [.inr (.inl (some w12.length))] (w12 ++ [.inr (.inr (6, (xm_kd 6).map xm_dflt))])) (fun w13 => xm_O (xm_setf w13 x0 8 7 2 (.inr (.inl (some w12.length)))) (fun w14 => xm_Ov (f 201 [.inr (.inl (some w14.length))] (w14 ++ [.inr (.inr (0, (xm_kd 0).map xm_dflt))])) (fun w15 => xm_O (xm_setf w15 x0 8 8 2 (.inr (.inl (some w14.length)))) (fun w16 => (0 ≤ (4 : Int) ∧ (4 : Int) ≤ 1000) ∧ (xm_O (xm_setf (w16 ++ [.inr (.inl (5, List.replicate (Int.toNat 4) none))]) x0 8 9 2 (.inr (.inl (some w16.length)))) (fun w17 => (0 ≤ (7 : Int) ∧ (7 : Int) ≤ 1000) ∧ (xm_O (xm_setf (w17 ++ [.inl (List.replicate (Int.toNat 7) 0)]) x0 8 10 2 (.inr (.inl (some w17.length)))) (fun w18 => xm_EQ (xm_old sc) xm_sta f xm_c101 52 [some (.inr (.inl (some x0))), some (.inl 0)] [] w18 Q))))))))))))))))))))) :
  xm_EQ (xm_old sc) xm_sta f xm_c101 0 [some (.inr (.inl (some x0))), none] [] w Q :=
  (xq_aload_n k_101_0 rfl (xq_obj k_101_1 rfl (xq_aload_n k_101_2 rfl (xq_new k_101_3 (xq_dupr k_101_4 (xq_invi0 k_101_5 xr_401 rfl rfl rfl h (fun w1 h => (xq_put k_101_6 rfl h (fun w2 h => (xq_aload_n k_101_7 rfl (xq_new k_101_8 (xq_dupr k_101_9 (xq_invi0 k_101_10 xr_401 rfl rfl rfl h (fun w3 h => (xq_put k_101_11 rfl h (fun w4 h => (xq_aload_n k_101_12 rfl (xq_new k_101_13 (xq_dupr k_101_14 (xq_invi0 k_101_15 xr_301 rfl rfl rfl h (fun w5 h => (xq_put k_101_16 rfl h (fun w6 h => (xq_aload_n k_101_17 rfl (xq_new k_101_18 (xq_dupr k_101_19 (xq_invi0 k_101_20 xr_401 rfl rfl rfl h (fun w7 h => (xq_put k_101_21 rfl h (fun w8 h => (xq_aload_n k_101_22 rfl (xq_new k_101_23 (xq_dupr k_101_24 (xq_invi0 k_101_25 xr_301 rfl rfl rfl h (fun w9 h => (xq_put k_101_26 rfl h (fun w10 h => (xq_aload_n k_101_27 rfl (xq_new k_101_28 (xq_dupr k_101_29 (xq_invi0 k_101_30 xr_501 rfl rfl rfl h (fun w11 h => (xq_put k_101_31 rfl h (fun w12 h => (xq_aload_n k_101_32 rfl (xq_new k_101_33 (xq_dupr k_101_34 (xq_invi0 k_101_35 xr_801 rfl rfl rfl h (fun w13 h => (xq_put k_101_36 rfl h (fun w14 h => (xq_aload_n k_101_37 rfl (xq_new k_101_38 (xq_dupr k_101_39 (xq_invi0 k_101_40 xr_201 rfl rfl rfl h (fun w15 h => (xq_put k_101_41 rfl h (fun w16 h => (xq_aload_n k_101_42 rfl (xq_iconst k_101_43 (xq_anewarray k_101_44 h (fun h => (xq_put k_101_45 rfl h (fun w17 h => (xq_aload_n k_101_46 rfl (xq_bipush k_101_47 (xq_newarray k_101_48 h (fun h => (xq_put k_101_49 rfl h (fun w18 h => (xq_iconst k_101_50 (xq_istore_n k_101_51 rfl h))))))))))))))))))))))))))))))))))))))))))))))))))))))))))))))))))))))))
theorem xb_101_52 {sc : List Int} {f : Nat → List xm_V → xm_W → xm_R} {w : xm_W} {Q : Option xm_V × xm_W → Prop} {x0 : Nat} {x1 : Int}
  (h : if (x1 : Int) < 4 then (xm_O (xm_fr (xm_old sc) w x0 8 9) (fun r1 => xm_Ov (f 701 [.inr (.inl (some w.length))] (w ++ [.inr (.inr (5, (xm_kd 5).map xm_dflt))])) (fun w2 => xm_O (xm_setq w2 r1 x1 (some w.length)) (fun w3 => xm_EQ (xm_old sc) xm_sta f xm_c101 52 [some (.inr (.inl (some x0))), some (.inl (xm_w (x1 + 1)))] [] w3 Q)))) else (Q (none, w))) :
  xm_EQ (xm_old sc) xm_sta f xm_c101 52 [some (.inr (.inl (some x0))), some (.inl x1)] [] w Q :=
  (xq_iload_n k_101_52 rfl (xq_iconst k_101_53 (xq_ic_ge k_101_54 h (fun h => (xq_aload_n k_101_55 rfl (xq_getr k_101_56 rfl h (fun r1 h => (xq_iload_n k_101_57 rfl (xq_new k_101_58 (xq_dupr k_101_59 (xq_invi0 k_101_60 xr_701 rfl rfl rfl h (fun w2 h => (xq_aastore k_101_61 h (fun w3 h => (xq_iinc k_101_62 rfl rfl (xq_goto k_101_63 h))))))))))))) (fun h => (xq_return k_101_64 h)))))
/-- ShodBackwards.ground(II)I -/
theorem d_102_0 : List.drop 0 xm_c102 = xm_c102 := rfl
theorem k_102_0 : xm_gi xm_c102 0 = some xm_e102_0 := xm_gt d_102_0
theorem d_102_1 : List.drop 1 xm_c102 = xm_c102_1 := xm_dr d_102_0
theorem k_102_1 : xm_gi xm_c102 1 = some xm_e102_1 := xm_gt d_102_1
theorem d_102_2 : List.drop 2 xm_c102 = xm_c102_2 := xm_dr d_102_1
theorem k_102_2 : xm_gi xm_c102 2 = some xm_e102_2 := xm_gt d_102_2
theorem d_102_3 : List.drop 3 xm_c102 = xm_c102_3 := xm_dr d_102_2
theorem k_102_3 : xm_gi xm_c102 3 = some xm_e102_3 := xm_gt d_102_3
theorem d_102_4 : List.drop 4 xm_c102 = xm_c102_4 := xm_dr d_102_3
theorem k_102_4 : xm_gi xm_c102 4 = some xm_e102_4 := xm_gt d_102_4
theorem d_102_5 : List.drop 5 xm_c102 = xm_c102_5 := xm_dr d_102_4
theorem k_102_5 : xm_gi xm_c102 5 = some xm_e102_5 := xm_gt d_102_5
theorem d_102_6 : List.drop 6 xm_c102 = xm_c102_6 := xm_dr d_102_5
theorem k_102_6 : xm_gi xm_c102 6 = some xm_e102_6 := xm_gt d_102_6
theorem d_102_7 : List.drop 7 xm_c102 = xm_c102_7 := xm_dr d_102_6
theorem k_102_7 : xm_gi xm_c102 7 = some xm_e102_7 := xm_gt d_102_7
theorem d_102_8 : List.drop 8 xm_c102 = xm_c102_8 := xm_dr d_102_7
theorem k_102_8 : xm_gi xm_c102 8 = some xm_e102_8 := xm_gt d_102_8
theorem d_102_9 : List.drop 9 xm_c102 = xm_c102_9 := xm_dr d_102_8
theorem k_102_9 : xm_gi xm_c102 9 = some xm_e102_9 := xm_gt d_102_9
theorem d_102_10 : List.drop 10 xm_c102 = xm_c102_10 := xm_dr d_102_9
theorem k_102_10 : xm_gi xm_c102 10 = some xm_e102_10 := xm_gt d_102_10
theorem d_102_11 : List.drop 11 xm_c102 = xm_c102_11 := xm_dr d_102_10
theorem k_102_11 : xm_gi xm_c102 11 = some xm_e102_11 := xm_gt d_102_11
theorem d_102_12 : List.drop 12 xm_c102 = xm_c102_12 := xm_dr d_102_11
theorem k_102_12 : xm_gi xm_c102 12 = some xm_e102_12 := xm_gt d_102_12
theorem d_102_13 : List.drop 13 xm_c102 = xm_c102_13 := xm_dr d_102_12
theorem k_102_13 : xm_gi xm_c102 13 = some xm_e102_13 := xm_gt d_102_13
theorem d_102_14 : List.drop 14 xm_c102 = xm_c102_14 := xm_dr d_102_13
theorem k_102_14 : xm_gi xm_c102 14 = some xm_e102_14 := xm_gt d_102_14
theorem d_102_15 : List.drop 15 xm_c102 = xm_c102_15 := xm_dr d_102_14
theorem k_102_15 : xm_gi xm_c102 15 = some xm_e102_15 := xm_gt d_102_15
theorem d_102_16 : List.drop 16 xm_c102 = xm_c102_16 := xm_dr d_102_15
theorem k_102_16 : xm_gi xm_c102 16 = some xm_e102_16 := xm_gt d_102_16
theorem d_102_17 : List.drop 17 xm_c102 = xm_c102_17 := xm_dr d_102_16
theorem k_102_17 : xm_gi xm_c102 17 = some xm_e102_17 := xm_gt d_102_17
theorem d_102_18 : List.drop 18 xm_c102 = xm_c102_18 := xm_dr d_102_17
theorem k_102_18 : xm_gi xm_c102 18 = some xm_e102_18 := xm_gt d_102_18
theorem d_102_19 : List.drop 19 xm_c102 = xm_c102_19 := xm_dr d_102_18
theorem k_102_19 : xm_gi xm_c102 19 = some xm_e102_19 := xm_gt d_102_19
theorem d_102_20 : List.drop 20 xm_c102 = xm_c102_20 := xm_dr d_102_19
theorem k_102_20 : xm_gi xm_c102 20 = some xm_e102_20 := xm_gt d_102_20
theorem d_102_21 : List.drop 21 xm_c102 = xm_c102_21 := xm_dr d_102_20
theorem k_102_21 : xm_gi xm_c102 21 = some xm_e102_21 := xm_gt d_102_21
theorem d_102_22 : List.drop 22 xm_c102 = xm_c102_22 := xm_dr d_102_21
theorem k_102_22 : xm_gi xm_c102 22 = some xm_e102_22 := xm_gt d_102_22
theorem d_102_23 : List.drop 23 xm_c102 = xm_c102_23 := xm_dr d_102_22
theorem k_102_23 : xm_gi xm_c102 23 = some xm_e102_23 := xm_gt d_102_23
theorem d_102_24 : List.drop 24 xm_c102 = xm_c102_24 := xm_dr d_102_23
theorem k_102_24 : xm_gi xm_c102 24 = some xm_e102_24 := xm_gt d_102_24
theorem d_102_25 : List.drop 25 xm_c102 = xm_c102_25 := xm_dr d_102_24
theorem k_102_25 : xm_gi xm_c102 25 = some xm_e102_25 := xm_gt d_102_25
theorem d_102_26 : List.drop 26 xm_c102 = xm_c102_26 := xm_dr d_102_25
theorem k_102_26 : xm_gi xm_c102 26 = some xm_e102_26 := xm_gt d_102_26
theorem d_102_27 : List.drop 27 xm_c102 = xm_c102_27 := xm_dr d_102_26
theorem k_102_27 : xm_gi xm_c102 27 = some xm_e102_27 := xm_gt d_102_27
theorem d_102_28 : List.drop 28 xm_c102 = xm_c102_28 := xm_dr d_102_27
theorem k_102_28 : xm_gi xm_c102 28 = some xm_e102_28 := xm_gt d_102_28
theorem xb_102_0 {sc : List Int} {f : Nat → List xm_V → xm_W → xm_R} {w : xm_W} {Q : Option xm_V × xm_W → Prop} {x0 : Nat} {x1 : Int} {x2 : Int}
  (h : xm_Oi (f 143 [.inl x1] w) (fun z2 w1 => if (z2 : Int) = 0 then (xm_Oi (f 139 [.inr (.inl (some x0)), .inl 1] w1) (fun z4 w3 => Q (some (.inl z4), w3))) else (xm_Oi (f 142 [.inl x2, .inl 0, .inl 3] w1) (fun z6 w5 => if (z6 : Int) = 0 then (xm_Oi (f 139 [.inr (.inl (some x0)), .inl 1] w5) (fun z17 w16 => Q (some (.inl z17), w16))) else (xm_O (xm_fr (xm_old sc) w5 x0 8 0) (fun r7 => xm_O (xm_fr (xm_old sc) w5 r7 2 0) (fun r8 => xm_O (xm_ints (xm_old sc) w5 r8) (fun l9 => xm_O (xm_at l9 x1) (fun z10 => xm_O (xm_fr (xm_old sc) w5 x0 8 0) (fun r11 => xm_O (xm_fr (xm_old sc) w5 r11 2 0) (fun r12 => xm_O (xm_seti w5 r12 x1 x2) (fun w13 => xm_O (xm_fr (xm_old sc) w13 x0 8 0) (fun r14 => xm_Ov (f 409 [.inr (.inl (some r14))] w13) (fun w15 => Q (some (.inl z10), w15))))))))))))))) :
  xm_EQ (xm_old sc) xm_sta f xm_c102 0 [some (.inr (.inl (some x0))), some (.inl x1), some (.inl x2), none] [] w Q :=
  (xq_iload_n k_102_0 rfl (xq_invs2 k_102_1 xr_143 rfl rfl rfl h (fun z2 w1 h => (xq_if_eq k_102_2 h (fun h => (xq_aload_n k_102_8 rfl (xq_iconst k_102_9 (xq_invv1 k_102_10 xr_139 rfl rfl rfl h (fun z4 w3 h => (xq_ireturn k_102_11 h)))))) (fun h => (xq_iload_n k_102_3 rfl (xq_iconst k_102_4 (xq_iconst k_102_5 (xq_invs2 k_102_6 xr_142 rfl rfl rfl h (fun z6 w5 h => (xq_if_ne k_102_7 h (fun h => (xq_aload_n k_102_8 rfl (xq_iconst k_102_9 (xq_invv1 k_102_10 xr_139 rfl rfl rfl h (fun z17 w16 h => (xq_ireturn k_102_11 h)))))) (fun h => (xq_aload_n k_102_12 rfl (xq_getr k_102_13 rfl h (fun r7 h => (xq_getr k_102_14 rfl h (fun r8 h => (xq_iload_n k_102_15 rfl (xq_iaload k_102_16 h (fun l9 h => h) (fun l9 z10 h => (xq_istore_n k_102_17 rfl (xq_aload_n k_102_18 rfl (xq_getr k_102_19 rfl h (fun r11 h => (xq_getr k_102_20 rfl h (fun r12 h => (xq_iload_n k_102_21 rfl (xq_iload_n k_102_22 rfl (xq_iastore k_102_23 h (fun w13 h => (xq_aload_n k_102_24 rfl (xq_getr k_102_25 rfl h (fun r14 h => (xq_invv0 k_102_26 xr_409 rfl rfl rfl h (fun w15 h => (xq_iload_n k_102_27 rfl (xq_ireturn k_102_28 h)))))))))))))))))))))))))))))))))))))
/-- ShodBackwards.frost(I)I -/
theorem d_103_0 : List.drop 0 xm_c103 = xm_c103 := rfl
theorem k_103_0 : xm_gi xm_c103 0 = some xm_e103_0 := xm_gt d_103_0
theorem d_103_1 : List.drop 1 xm_c103 = xm_c103_1 := xm_dr d_103_0
theorem k_103_1 : xm_gi xm_c103 1 = some xm_e103_1 := xm_gt d_103_1
theorem d_103_2 : List.drop 2 xm_c103 = xm_c103_2 := xm_dr d_103_1
theorem k_103_2 : xm_gi xm_c103 2 = some xm_e103_2 := xm_gt d_103_2
theorem d_103_3 : List.drop 3 xm_c103 = xm_c103_3 := xm_dr d_103_2
theorem k_103_3 : xm_gi xm_c103 3 = some xm_e103_3 := xm_gt d_103_3
theorem d_103_4 : List.drop 4 xm_c103 = xm_c103_4 := xm_dr d_103_3
theorem k_103_4 : xm_gi xm_c103 4 = some xm_e103_4 := xm_gt d_103_4
theorem d_103_5 : List.drop 5 xm_c103 = xm_c103_5 := xm_dr d_103_4
theorem k_103_5 : xm_gi xm_c103 5 = some xm_e103_5 := xm_gt d_103_5
theorem d_103_6 : List.drop 6 xm_c103 = xm_c103_6 := xm_dr d_103_5
theorem k_103_6 : xm_gi xm_c103 6 = some xm_e103_6 := xm_gt d_103_6
theorem d_103_7 : List.drop 7 xm_c103 = xm_c103_7 := xm_dr d_103_6
theorem k_103_7 : xm_gi xm_c103 7 = some xm_e103_7 := xm_gt d_103_7
theorem d_103_8 : List.drop 8 xm_c103 = xm_c103_8 := xm_dr d_103_7
theorem k_103_8 : xm_gi xm_c103 8 = some xm_e103_8 := xm_gt d_103_8
theorem d_103_9 : List.drop 9 xm_c103 = xm_c103_9 := xm_dr d_103_8
theorem k_103_9 : xm_gi xm_c103 9 = some xm_e103_9 := xm_gt d_103_9
theorem d_103_10 : List.drop 10 xm_c103 = xm_c103_10 := xm_dr d_103_9
theorem k_103_10 : xm_gi xm_c103 10 = some xm_e103_10 := xm_gt d_103_10
theorem d_103_11 : List.drop 11 xm_c103 = xm_c103_11 := xm_dr d_103_10
theorem k_103_11 : xm_gi xm_c103 11 = some xm_e103_11 := xm_gt d_103_11
theorem d_103_12 : List.drop 12 xm_c103 = xm_c103_12 := xm_dr d_103_11
theorem k_103_12 : xm_gi xm_c103 12 = some xm_e103_12 := xm_gt d_103_12
theorem d_103_13 : List.drop 13 xm_c103 = xm_c103_13 := xm_dr d_103_12
theorem k_103_13 : xm_gi xm_c103 13 = some xm_e103_13 := xm_gt d_103_13
theorem d_103_14 : List.drop 14 xm_c103 = xm_c103_14 := xm_dr d_103_13
theorem k_103_14 : xm_gi xm_c103 14 = some xm_e103_14 := xm_gt d_103_14
theorem d_103_15 : List.drop 15 xm_c103 = xm_c103_15 := xm_dr d_103_14
theorem k_103_15 : xm_gi xm_c103 15 = some xm_e103_15 := xm_gt d_103_15
theorem d_103_16 : List.drop 16 xm_c103 = xm_c103_16 := xm_dr d_103_15
theorem k_103_16 : xm_gi xm_c103 16 = some xm_e103_16 := xm_gt d_103_16
theorem d_103_17 : List.drop 17 xm_c103 = xm_c103_17 := xm_dr d_103_16
theorem k_103_17 : xm_gi xm_c103 17 = some xm_e103_17 := xm_gt d_103_17
theorem d_103_18 : List.drop 18 xm_c103 = xm_c103_18 := xm_dr d_103_17
theorem k_103_18 : xm_gi xm_c103 18 = some xm_e103_18 := xm_gt d_103_18
theorem d_103_19 : List.drop 19 xm_c103 = xm_c103_19 := xm_dr d_103_18
theorem k_103_19 : xm_gi xm_c103 19 = some xm_e103_19 := xm_gt d_103_19
theorem d_103_20 : List.drop 20 xm_c103 = xm_c103_20 := xm_dr d_103_19
theorem k_103_20 : xm_gi xm_c103 20 = some xm_e103_20 := xm_gt d_103_20
theorem d_103_21 : List.drop 21 xm_c103 = xm_c103_21 := xm_dr d_103_20
theorem k_103_21 : xm_gi xm_c103 21 = some xm_e103_21 := xm_gt d_103_21
theorem xb_103_0 {sc : List Int} {f : Nat → List xm_V → xm_W → xm_R} {w : xm_W} {Q : Option xm_V × xm_W → Prop} {x0 : Nat} {x1 : Int}
  (h : xm_Oi (f 142 [.inl x1, .inl 0, .inl 9] w) (fun z2 w1 => if (z2 : Int) = 0 then (xm_Oi (f 139 [.inr (.inl (some x0)), .inl 1] w1) (fun z10 w9 => Q (some (.inl z10), w9))) else (xm_O (xm_fr (xm_old sc) w1 x0 8 0) (fun r3 => xm_O (xm_fi (xm_old sc) w1 r3 2 1) (fun z4 => xm_O (xm_fr (xm_old sc) w1 x0 8 0) (fun r5 => xm_O (xm_setf w1 r5 2 1 0 (.inl x1)) (fun w6 => xm_O (xm_fr (xm_old sc) w6 x0 8 0) (fun r7 => xm_Ov (f 409 [.inr (.inl (some r7))] w6) (fun w8 => Q (some (.inl z4), w8)))))))))) :
  xm_EQ (xm_old sc) xm_sta f xm_c103 0 [some (.inr (.inl (some x0))), some (.inl x1), none] [] w Q :=
  (xq_iload_n k_103_0 rfl (xq_iconst k_103_1 (xq_bipush k_103_2 (xq_invs2 k_103_3 xr_142 rfl rfl rfl h (fun z2 w1 h => (xq_if_ne k_103_4 h (fun h => (xq_aload_n k_103_5 rfl (xq_iconst k_103_6 (xq_invv1 k_103_7 xr_139 rfl rfl rfl h (fun z10 w9 h => (xq_ireturn k_103_8 h)))))) (fun h => (xq_aload_n k_103_9 rfl (xq_getr k_103_10 rfl h (fun r3 h => (xq_geti0 k_103_11 rfl h (fun z4 h => (xq_istore_n k_103_12 rfl (xq_aload_n k_103_13 rfl (xq_getr k_103_14 rfl h (fun r5 h => (xq_iload_n k_103_15 rfl (xq_put k_103_16 rfl h (fun w6 h => (xq_aload_n k_103_17 rfl (xq_getr k_103_18 rfl h (fun r7 h => (xq_invv0 k_103_19 xr_409 rfl rfl rfl h (fun w8 h => (xq_iload_n k_103_20 rfl (xq_ireturn k_103_21 h))))))))))))))))))))))))))
/-- ShodBackwards.rider(II)I -/
theorem d_104_0 : List.drop 0 xm_c104 = xm_c104 := rfl
theorem k_104_0 : xm_gi xm_c104 0 = some xm_e104_0 := xm_gt d_104_0
theorem d_104_1 : List.drop 1 xm_c104 = xm_c104_1 := xm_dr d_104_0
theorem k_104_1 : xm_gi xm_c104 1 = some xm_e104_1 := xm_gt d_104_1
theorem d_104_2 : List.drop 2 xm_c104 = xm_c104_2 := xm_dr d_104_1
theorem k_104_2 : xm_gi xm_c104 2 = some xm_e104_2 := xm_gt d_104_2
theorem d_104_3 : List.drop 3 xm_c104 = xm_c104_3 := xm_dr d_104_2
theorem k_104_3 : xm_gi xm_c104 3 = some xm_e104_3 := xm_gt d_104_3
theorem d_104_4 : List.drop 4 xm_c104 = xm_c104_4 := xm_dr d_104_3
theorem k_104_4 : xm_gi xm_c104 4 = some xm_e104_4 := xm_gt d_104_4
theorem d_104_5 : List.drop 5 xm_c104 = xm_c104_5 := xm_dr d_104_4
theorem k_104_5 : xm_gi xm_c104 5 = some xm_e104_5 := xm_gt d_104_5
theorem d_104_6 : List.drop 6 xm_c104 = xm_c104_6 := xm_dr d_104_5
theorem k_104_6 : xm_gi xm_c104 6 = some xm_e104_6 := xm_gt d_104_6
theorem d_104_7 : List.drop 7 xm_c104 = xm_c104_7 := xm_dr d_104_6
theorem k_104_7 : xm_gi xm_c104 7 = some xm_e104_7 := xm_gt d_104_7
theorem d_104_8 : List.drop 8 xm_c104 = xm_c104_8 := xm_dr d_104_7
theorem k_104_8 : xm_gi xm_c104 8 = some xm_e104_8 := xm_gt d_104_8
theorem d_104_9 : List.drop 9 xm_c104 = xm_c104_9 := xm_dr d_104_8
theorem k_104_9 : xm_gi xm_c104 9 = some xm_e104_9 := xm_gt d_104_9
theorem d_104_10 : List.drop 10 xm_c104 = xm_c104_10 := xm_dr d_104_9
theorem k_104_10 : xm_gi xm_c104 10 = some xm_e104_10 := xm_gt d_104_10
theorem d_104_11 : List.drop 11 xm_c104 = xm_c104_11 := xm_dr d_104_10
theorem k_104_11 : xm_gi xm_c104 11 = some xm_e104_11 := xm_gt d_104_11
theorem d_104_12 : List.drop 12 xm_c104 = xm_c104_12 := xm_dr d_104_11
theorem k_104_12 : xm_gi xm_c104 12 = some xm_e104_12 := xm_gt d_104_12
theorem d_104_13 : List.drop 13 xm_c104 = xm_c104_13 := xm_dr d_104_12
theorem k_104_13 : xm_gi xm_c104 13 = some xm_e104_13 := xm_gt d_104_13
theorem d_104_14 : List.drop 14 xm_c104 = xm_c104_14 := xm_dr d_104_13
theorem k_104_14 : xm_gi xm_c104 14 = some xm_e104_14 := xm_gt d_104_14
theorem d_104_15 : List.drop 15 xm_c104 = xm_c104_15 := xm_dr d_104_14
theorem k_104_15 : xm_gi xm_c104 15 = some xm_e104_15 := xm_gt d_104_15
theorem d_104_16 : List.drop 16 xm_c104 = xm_c104_16 := xm_dr d_104_15
theorem k_104_16 : xm_gi xm_c104 16 = some xm_e104_16 := xm_gt d_104_16
theorem d_104_17 : List.drop 17 xm_c104 = xm_c104_17 := xm_dr d_104_16
theorem k_104_17 : xm_gi xm_c104 17 = some xm_e104_17 := xm_gt d_104_17
theorem d_104_18 : List.drop 18 xm_c104 = xm_c104_18 := xm_dr d_104_17
theorem k_104_18 : xm_gi xm_c104 18 = some xm_e104_18 := xm_gt d_104_18
theorem d_104_19 : List.drop 19 xm_c104 = xm_c104_19 := xm_dr d_104_18
theorem k_104_19 : xm_gi xm_c104 19 = some xm_e104_19 := xm_gt d_104_19
theorem d_104_20 : List.drop 20 xm_c104 = xm_c104_20 := xm_dr d_104_19
theorem k_104_20 : xm_gi xm_c104 20 = some xm_e104_20 := xm_gt d_104_20
theorem d_104_21 : List.drop 21 xm_c104 = xm_c104_21 := xm_dr d_104_20
theorem k_104_21 : xm_gi xm_c104 21 = some xm_e104_21 := xm_gt d_104_21
theorem d_104_22 : List.drop 22 xm_c104 = xm_c104_22 := xm_dr d_104_21
theorem k_104_22 : xm_gi xm_c104 22 = some xm_e104_22 := xm_gt d_104_22
theorem d_104_23 : List.drop 23 xm_c104 = xm_c104_23 := xm_dr d_104_22
theorem k_104_23 : xm_gi xm_c104 23 = some xm_e104_23 := xm_gt d_104_23
theorem d_104_24 : List.drop 24 xm_c104 = xm_c104_24 := xm_dr d_104_23
theorem k_104_24 : xm_gi xm_c104 24 = some xm_e104_24 := xm_gt d_104_24
theorem d_104_25 : List.drop 25 xm_c104 = xm_c104_25 := xm_dr d_104_24
theorem k_104_25 : xm_gi xm_c104 25 = some xm_e104_25 := xm_gt d_104_25
theorem d_104_26 : List.drop 26 xm_c104 = xm_c104_26 := xm_dr d_104_25
theorem k_104_26 : xm_gi xm_c104 26 = some xm_e104_26 := xm_gt d_104_26
theorem d_104_27 : List.drop 27 xm_c104 = xm_c104_27 := xm_dr d_104_26
theorem k_104_27 : xm_gi xm_c104 27 = some xm_e104_27 := xm_gt d_104_27
theorem d_104_28 : List.drop 28 xm_c104 = xm_c104_28 := xm_dr d_104_27
theorem k_104_28 : xm_gi xm_c104 28 = some xm_e104_28 := xm_gt d_104_28
theorem d_104_29 : List.drop 29 xm_c104 = xm_c104_29 := xm_dr d_104_28
theorem k_104_29 : xm_gi xm_c104 29 = some xm_e104_29 := xm_gt d_104_29
theorem d_104_30 : List.drop 30 xm_c104 = xm_c104_30 := xm_dr d_104_29
theorem k_104_30 : xm_gi xm_c104 30 = some xm_e104_30 := xm_gt d_104_30
theorem d_104_31 : List.drop 31 xm_c104 = xm_c104_31 := xm_dr d_104_30
theorem k_104_31 : xm_gi xm_c104 31 = some xm_e104_31 := xm_gt d_104_31
theorem d_104_32 : List.drop 32 xm_c104 = xm_c104_32 := xm_dr d_104_31
theorem k_104_32 : xm_gi xm_c104 32 = some xm_e104_32 := xm_gt d_104_32
theorem d_104_33 : List.drop 33 xm_c104 = xm_c104_33 := xm_dr d_104_32
theorem k_104_33 : xm_gi xm_c104 33 = some xm_e104_33 := xm_gt d_104_33
theorem d_104_34 : List.drop 34 xm_c104 = xm_c104_34 := xm_dr d_104_33
theorem k_104_34 : xm_gi xm_c104 34 = some xm_e104_34 := xm_gt d_104_34
theorem d_104_35 : List.drop 35 xm_c104 = xm_c104_35 := xm_dr d_104_34
theorem k_104_35 : xm_gi xm_c104 35 = some xm_e104_35 := xm_gt d_104_35
theorem d_104_36 : List.drop 36 xm_c104 = xm_c104_36 := xm_dr d_104_35
theorem k_104_36 : xm_gi xm_c104 36 = some xm_e104_36 := xm_gt d_104_36
theorem d_104_37 : List.drop 37 xm_c104 = xm_c104_37 := xm_dr d_104_36
theorem k_104_37 : xm_gi xm_c104 37 = some xm_e104_37 := xm_gt d_104_37
theorem d_104_38 : List.drop 38 xm_c104 = xm_c104_38 := xm_dr d_104_37
theorem k_104_38 : xm_gi xm_c104 38 = some xm_e104_38 := xm_gt d_104_38
theorem d_104_39 : List.drop 39 xm_c104 = xm_c104_39 := xm_dr d_104_38
theorem k_104_39 : xm_gi xm_c104 39 = some xm_e104_39 := xm_gt d_104_39
theorem d_104_40 : List.drop 40 xm_c104 = xm_c104_40 := xm_dr d_104_39
theorem k_104_40 : xm_gi xm_c104 40 = some xm_e104_40 := xm_gt d_104_40
theorem d_104_41 : List.drop 41 xm_c104 = xm_c104_41 := xm_dr d_104_40
theorem k_104_41 : xm_gi xm_c104 41 = some xm_e104_41 := xm_gt d_104_41
theorem d_104_42 : List.drop 42 xm_c104 = xm_c104_42 := xm_dr d_104_41
theorem k_104_42 : xm_gi xm_c104 42 = some xm_e104_42 := xm_gt d_104_42
theorem d_104_43 : List.drop 43 xm_c104 = xm_c104_43 := xm_dr d_104_42
theorem k_104_43 : xm_gi xm_c104 43 = some xm_e104_43 := xm_gt d_104_43
theorem d_104_44 : List.drop 44 xm_c104 = xm_c104_44 := xm_dr d_104_43
theorem k_104_44 : xm_gi xm_c104 44 = some xm_e104_44 := xm_gt d_104_44
theorem xb_104_0 {sc : List Int} {f : Nat → List xm_V → xm_W → xm_R} {w : xm_W} {Q : Option xm_V × xm_W → Prop} {x0 : Nat} {x1 : Int} {x2 : Int}
  (h : xm_Oi (f 142 [.inl x1, .inl 0, .inl 69] w) (fun z2 w1 => if (z2 : Int) = 0 then (xm_Oi (f 139 [.inr (.inl (some x0)), .inl 1] w1) (fun z4 w3 => Q (some (.inl z4), w3))) else (xm_Oi (f 143 [.inl x2] w1) (fun z6 w5 => if (z6 : Int) = 0 then (xm_Oi (f 139 [.inr (.inl (some x0)), .inl 1] w5) (fun z22 w21 => Q (some (.inl z22), w21))) else (xm_O (xm_fr (xm_old sc) w5 x0 8 0) (fun r7 => xm_O (xm_fi (xm_old sc) w5 r7 2 4) (fun z8 => if (z8 : Int) < 5 then (xm_O (xm_fr (xm_old sc) w5 x0 8 0) (fun r9 => xm_O (xm_fr (xm_old sc) w5 r9 2 3) (fun r10 => xm_O (xm_fr (xm_old sc) w5 x0 8 0) (fun r11 => xm_O (xm_fi (xm_old sc) w5 r11 2 4) (fun z12 => xm_O (xm_refs (xm_old sc) w5 r10) (fun l13 => xm_O (xm_at l13 z12) (fun r14 => (10 : Int) ≠ 0 ∧ ((10 : Int) ≠ 0 ∧ (xm_Ov (f 602 [.inr (.inl r14), .inl (xm_w (Int.tdiv x1 10)), .inl (Int.tmod x1 10), .inl x2] w5) (fun w15 => xm_O (xm_fr (xm_old sc) w15 x0 8 0) (fun r16 => xm_O (xm_fi (xm_old sc) w15 r16 2 4) (fun z17 => xm_O (xm_setf w15 r16 2 4 0 (.inl (xm_w (z17 + 1)))) (fun w18 => Q (some (.inl z17), w18)))))))))))))) else (xm_Oi (f 139 [.inr (.inl (some x0)), .inl 4] w5) (fun z20 w19 => Q (some (.inl z20), w19)))))))))) :
  xm_EQ (xm_old sc) xm_sta f xm_c104 0 [some (.inr (.inl (some x0))), some (.inl x1), some (.inl x2)] [] w Q :=
  (xq_iload_n k_104_0 rfl (xq_iconst k_104_1 (xq_bipush k_104_2 (xq_invs2 k_104_3 xr_142 rfl rfl rfl h (fun z2 w1 h => (xq_if_eq k_104_4 h (fun h => (xq_aload_n k_104_8 rfl (xq_iconst k_104_9 (xq_invv1 k_104_10 xr_139 rfl rfl rfl h (fun z4 w3 h => (xq_ireturn k_104_11 h)))))) (fun h => (xq_iload_n k_104_5 rfl (xq_invs2 k_104_6 xr_143 rfl rfl rfl h (fun z6 w5 h => (xq_if_ne k_104_7 h (fun h => (xq_aload_n k_104_8 rfl (xq_iconst k_104_9 (xq_invv1 k_104_10 xr_139 rfl rfl rfl h (fun z22 w21 h => (xq_ireturn k_104_11 h)))))) (fun h => (xq_aload_n k_104_12 rfl (xq_getr k_104_13 rfl h (fun r7 h => (xq_geti0 k_104_14 rfl h (fun z8 h => (xq_iconst k_104_15 (xq_ic_lt k_104_16 h (fun h => (xq_aload_n k_104_21 rfl (xq_getr k_104_22 rfl h (fun r9 h => (xq_getr k_104_23 rfl h (fun r10 h => (xq_aload_n k_104_24 rfl (xq_getr k_104_25 rfl h (fun r11 h => (xq_geti0 k_104_26 rfl h (fun z12 h => (xq_aaload k_104_27 h (fun l13 h => h) (fun l13 r14 h => (xq_iload_n k_104_28 rfl (xq_bipush k_104_29 (xq_idiv k_104_30 h (fun h => (xq_iload_n k_104_31 rfl (xq_bipush k_104_32 (xq_irem k_104_33 h (fun h => (xq_iload_n k_104_34 rfl (xq_invv0 k_104_35 xr_602 rfl rfl rfl h (fun w15 h => (xq_aload_n k_104_36 rfl (xq_getr k_104_37 rfl h (fun r16 h => (xq_dupr k_104_38 (xq_geti0 k_104_39 rfl h (fun z17 h => (xq_dup_x1 k_104_40 (xq_iconst k_104_41 (xq_iadd k_104_42 (xq_put k_104_43 rfl h (fun w18 h => (xq_ireturn k_104_44 h)))))))))))))))))))))))))))))))))))) (fun h => (xq_aload_n k_104_17 rfl (xq_iconst k_104_18 (xq_invv1 k_104_19 xr_139 rfl rfl rfl h (fun z20 w19 h => (xq_ireturn k_104_20 h)))))))))))))))))))))))))
/-- ShodBackwards.riderIs(II)I -/
theorem d_105_0 : List.drop 0 xm_c105 = xm_c105 := rfl
theorem k_105_0 : xm_gi xm_c105 0 = some xm_e105_0 := xm_gt d_105_0
theorem d_105_1 : List.drop 1 xm_c105 = xm_c105_1 := xm_dr d_105_0
theorem k_105_1 : xm_gi xm_c105 1 = some xm_e105_1 := xm_gt d_105_1
theorem d_105_2 : List.drop 2 xm_c105 = xm_c105_2 := xm_dr d_105_1
theorem k_105_2 : xm_gi xm_c105 2 = some xm_e105_2 := xm_gt d_105_2
theorem d_105_3 : List.drop 3 xm_c105 = xm_c105_3 := xm_dr d_105_2
theorem k_105_3 : xm_gi xm_c105 3 = some xm_e105_3 := xm_gt d_105_3
theorem d_105_4 : List.drop 4 xm_c105 = xm_c105_4 := xm_dr d_105_3
theorem k_105_4 : xm_gi xm_c105 4 = some xm_e105_4 := xm_gt d_105_4
theorem d_105_5 : List.drop 5 xm_c105 = xm_c105_5 := xm_dr d_105_4
theorem k_105_5 : xm_gi xm_c105 5 = some xm_e105_5 := xm_gt d_105_5
theorem d_105_6 : List.drop 6 xm_c105 = xm_c105_6 := xm_dr d_105_5
theorem k_105_6 : xm_gi xm_c105 6 = some xm_e105_6 := xm_gt d_105_6
theorem d_105_7 : List.drop 7 xm_c105 = xm_c105_7 := xm_dr d_105_6
theorem k_105_7 : xm_gi xm_c105 7 = some xm_e105_7 := xm_gt d_105_7
theorem d_105_8 : List.drop 8 xm_c105 = xm_c105_8 := xm_dr d_105_7
theorem k_105_8 : xm_gi xm_c105 8 = some xm_e105_8 := xm_gt d_105_8
theorem d_105_9 : List.drop 9 xm_c105 = xm_c105_9 := xm_dr d_105_8
theorem k_105_9 : xm_gi xm_c105 9 = some xm_e105_9 := xm_gt d_105_9
theorem d_105_10 : List.drop 10 xm_c105 = xm_c105_10 := xm_dr d_105_9
theorem k_105_10 : xm_gi xm_c105 10 = some xm_e105_10 := xm_gt d_105_10
theorem d_105_11 : List.drop 11 xm_c105 = xm_c105_11 := xm_dr d_105_10
theorem k_105_11 : xm_gi xm_c105 11 = some xm_e105_11 := xm_gt d_105_11
theorem d_105_12 : List.drop 12 xm_c105 = xm_c105_12 := xm_dr d_105_11
theorem k_105_12 : xm_gi xm_c105 12 = some xm_e105_12 := xm_gt d_105_12
theorem d_105_13 : List.drop 13 xm_c105 = xm_c105_13 := xm_dr d_105_12
theorem k_105_13 : xm_gi xm_c105 13 = some xm_e105_13 := xm_gt d_105_13
theorem d_105_14 : List.drop 14 xm_c105 = xm_c105_14 := xm_dr d_105_13
theorem k_105_14 : xm_gi xm_c105 14 = some xm_e105_14 := xm_gt d_105_14
theorem d_105_15 : List.drop 15 xm_c105 = xm_c105_15 := xm_dr d_105_14
theorem k_105_15 : xm_gi xm_c105 15 = some xm_e105_15 := xm_gt d_105_15
theorem d_105_16 : List.drop 16 xm_c105 = xm_c105_16 := xm_dr d_105_15
theorem k_105_16 : xm_gi xm_c105 16 = some xm_e105_16 := xm_gt d_105_16
theorem xb_105_0 {sc : List Int} {f : Nat → List xm_V → xm_W → xm_R} {w : xm_W} {Q : Option xm_V × xm_W → Prop} {x0 : Nat} {x1 : Int} {x2 : Int}
  (h : xm_Oi (f 141 [.inr (.inl (some x0)), .inl x1] w) (fun z2 w1 => if (z2 : Int) = 0 then (xm_Oi (f 139 [.inr (.inl (some x0)), .inl 1] w1) (fun z4 w3 => Q (some (.inl z4), w3))) else (xm_Oi (f 144 [.inl x2] w1) (fun z6 w5 => if (z6 : Int) = 0 then (xm_Oi (f 139 [.inr (.inl (some x0)), .inl 1] w5) (fun z11 w10 => Q (some (.inl z11), w10))) else (xm_O (xm_fr (xm_old sc) w5 x0 8 0) (fun r7 => xm_Oi (f 412 [.inr (.inl (some r7)), .inl x1, .inl x2] w5) (fun z9 w8 => Q (some (.inl z9), w8)))))))) :
  xm_EQ (xm_old sc) xm_sta f xm_c105 0 [some (.inr (.inl (some x0))), some (.inl x1), some (.inl x2)] [] w Q :=
  (xq_aload_n k_105_0 rfl (xq_iload_n k_105_1 rfl (xq_invv2 k_105_2 xr_141 rfl rfl rfl h (fun z2 w1 h => (xq_if_eq k_105_3 h (fun h => (xq_aload_n k_105_7 rfl (xq_iconst k_105_8 (xq_invv1 k_105_9 xr_139 rfl rfl rfl h (fun z4 w3 h => (xq_ireturn k_105_10 h)))))) (fun h => (xq_iload_n k_105_4 rfl (xq_invs2 k_105_5 xr_144 rfl rfl rfl h (fun z6 w5 h => (xq_if_ne k_105_6 h (fun h => (xq_aload_n k_105_7 rfl (xq_iconst k_105_8 (xq_invv1 k_105_9 xr_139 rfl rfl rfl h (fun z11 w10 h => (xq_ireturn k_105_10 h)))))) (fun h => (xq_aload_n k_105_11 rfl (xq_getr k_105_12 rfl h (fun r7 h => (xq_iload_n k_105_13 rfl (xq_iload_n k_105_14 rfl (xq_invv1 k_105_15 xr_412 rfl rfl rfl h (fun z9 w8 h => (xq_ireturn k_105_16 h)))))))))))))))))))
/-- ShodBackwards.as(II)I -/
theorem d_106_0 : List.drop 0 xm_c106 = xm_c106 := rfl
theorem k_106_0 : xm_gi xm_c106 0 = some xm_e106_0 := xm_gt d_106_0
theorem d_106_1 : List.drop 1 xm_c106 = xm_c106_1 := xm_dr d_106_0
theorem k_106_1 : xm_gi xm_c106 1 = some xm_e106_1 := xm_gt d_106_1
theorem d_106_2 : List.drop 2 xm_c106 = xm_c106_2 := xm_dr d_106_1
theorem k_106_2 : xm_gi xm_c106 2 = some xm_e106_2 := xm_gt d_106_2
theorem d_106_3 : List.drop 3 xm_c106 = xm_c106_3 := xm_dr d_106_2
theorem k_106_3 : xm_gi xm_c106 3 = some xm_e106_3 := xm_gt d_106_3
theorem d_106_4 : List.drop 4 xm_c106 = xm_c106_4 := xm_dr d_106_3
theorem k_106_4 : xm_gi xm_c106 4 = some xm_e106_4 := xm_gt d_106_4
theorem d_106_5 : List.drop 5 xm_c106 = xm_c106_5 := xm_dr d_106_4
theorem k_106_5 : xm_gi xm_c106 5 = some xm_e106_5 := xm_gt d_106_5
theorem d_106_6 : List.drop 6 xm_c106 = xm_c106_6 := xm_dr d_106_5
theorem k_106_6 : xm_gi xm_c106 6 = some xm_e106_6 := xm_gt d_106_6
theorem d_106_7 : List.drop 7 xm_c106 = xm_c106_7 := xm_dr d_106_6
theorem k_106_7 : xm_gi xm_c106 7 = some xm_e106_7 := xm_gt d_106_7
theorem d_106_8 : List.drop 8 xm_c106 = xm_c106_8 := xm_dr d_106_7
theorem k_106_8 : xm_gi xm_c106 8 = some xm_e106_8 := xm_gt d_106_8
theorem d_106_9 : List.drop 9 xm_c106 = xm_c106_9 := xm_dr d_106_8
theorem k_106_9 : xm_gi xm_c106 9 = some xm_e106_9 := xm_gt d_106_9
theorem d_106_10 : List.drop 10 xm_c106 = xm_c106_10 := xm_dr d_106_9
theorem k_106_10 : xm_gi xm_c106 10 = some xm_e106_10 := xm_gt d_106_10
theorem d_106_11 : List.drop 11 xm_c106 = xm_c106_11 := xm_dr d_106_10
theorem k_106_11 : xm_gi xm_c106 11 = some xm_e106_11 := xm_gt d_106_11
theorem d_106_12 : List.drop 12 xm_c106 = xm_c106_12 := xm_dr d_106_11
theorem k_106_12 : xm_gi xm_c106 12 = some xm_e106_12 := xm_gt d_106_12
theorem d_106_13 : List.drop 13 xm_c106 = xm_c106_13 := xm_dr d_106_12
theorem k_106_13 : xm_gi xm_c106 13 = some xm_e106_13 := xm_gt d_106_13
theorem d_106_14 : List.drop 14 xm_c106 = xm_c106_14 := xm_dr d_106_13
theorem k_106_14 : xm_gi xm_c106 14 = some xm_e106_14 := xm_gt d_106_14
theorem d_106_15 : List.drop 15 xm_c106 = xm_c106_15 := xm_dr d_106_14
theorem k_106_15 : xm_gi xm_c106 15 = some xm_e106_15 := xm_gt d_106_15
theorem d_106_16 : List.drop 16 xm_c106 = xm_c106_16 := xm_dr d_106_15
theorem k_106_16 : xm_gi xm_c106 16 = some xm_e106_16 := xm_gt d_106_16
theorem d_106_17 : List.drop 17 xm_c106 = xm_c106_17 := xm_dr d_106_16
theorem k_106_17 : xm_gi xm_c106 17 = some xm_e106_17 := xm_gt d_106_17
theorem d_106_18 : List.drop 18 xm_c106 = xm_c106_18 := xm_dr d_106_17
theorem k_106_18 : xm_gi xm_c106 18 = some xm_e106_18 := xm_gt d_106_18
theorem d_106_19 : List.drop 19 xm_c106 = xm_c106_19 := xm_dr d_106_18
theorem k_106_19 : xm_gi xm_c106 19 = some xm_e106_19 := xm_gt d_106_19
theorem d_106_20 : List.drop 20 xm_c106 = xm_c106_20 := xm_dr d_106_19
theorem k_106_20 : xm_gi xm_c106 20 = some xm_e106_20 := xm_gt d_106_20
theorem d_106_21 : List.drop 21 xm_c106 = xm_c106_21 := xm_dr d_106_20
theorem k_106_21 : xm_gi xm_c106 21 = some xm_e106_21 := xm_gt d_106_21
theorem d_106_22 : List.drop 22 xm_c106 = xm_c106_22 := xm_dr d_106_21
theorem k_106_22 : xm_gi xm_c106 22 = some xm_e106_22 := xm_gt d_106_22
theorem d_106_23 : List.drop 23 xm_c106 = xm_c106_23 := xm_dr d_106_22
theorem k_106_23 : xm_gi xm_c106 23 = some xm_e106_23 := xm_gt d_106_23
theorem d_106_24 : List.drop 24 xm_c106 = xm_c106_24 := xm_dr d_106_23
theorem k_106_24 : xm_gi xm_c106 24 = some xm_e106_24 := xm_gt d_106_24
theorem d_106_25 : List.drop 25 xm_c106 = xm_c106_25 := xm_dr d_106_24
theorem k_106_25 : xm_gi xm_c106 25 = some xm_e106_25 := xm_gt d_106_25
theorem d_106_26 : List.drop 26 xm_c106 = xm_c106_26 := xm_dr d_106_25
theorem k_106_26 : xm_gi xm_c106 26 = some xm_e106_26 := xm_gt d_106_26
theorem d_106_27 : List.drop 27 xm_c106 = xm_c106_27 := xm_dr d_106_26
theorem k_106_27 : xm_gi xm_c106 27 = some xm_e106_27 := xm_gt d_106_27
theorem d_106_28 : List.drop 28 xm_c106 = xm_c106_28 := xm_dr d_106_27
theorem k_106_28 : xm_gi xm_c106 28 = some xm_e106_28 := xm_gt d_106_28
theorem d_106_29 : List.drop 29 xm_c106 = xm_c106_29 := xm_dr d_106_28
theorem k_106_29 : xm_gi xm_c106 29 = some xm_e106_29 := xm_gt d_106_29
theorem d_106_30 : List.drop 30 xm_c106 = xm_c106_30 := xm_dr d_106_29
theorem k_106_30 : xm_gi xm_c106 30 = some xm_e106_30 := xm_gt d_106_30
theorem d_106_31 : List.drop 31 xm_c106 = xm_c106_31 := xm_dr d_106_30
theorem k_106_31 : xm_gi xm_c106 31 = some xm_e106_31 := xm_gt d_106_31
theorem d_106_32 : List.drop 32 xm_c106 = xm_c106_32 := xm_dr d_106_31
theorem k_106_32 : xm_gi xm_c106 32 = some xm_e106_32 := xm_gt d_106_32
theorem xb_106_0 {sc : List Int} {f : Nat → List xm_V → xm_W → xm_R} {w : xm_W} {Q : Option xm_V × xm_W → Prop} {x0 : Nat} {x1 : Int} {x2 : Int}
  (h : xm_Oi (f 141 [.inr (.inl (some x0)), .inl x1] w) (fun z2 w1 => if (z2 : Int) = 0 then (xm_Oi (f 139 [.inr (.inl (some x0)), .inl 1] w1) (fun z4 w3 => Q (some (.inl z4), w3))) else (xm_Oi (f 142 [.inl x2, .inl 0, .inl 6] w1) (fun z6 w5 => if (z6 : Int) = 0 then (xm_Oi (f 139 [.inr (.inl (some x0)), .inl 1] w5) (fun z24 w23 => Q (some (.inl z24), w23))) else (xm_O (xm_fr (xm_old sc) w5 x0 8 0) (fun r7 => xm_O (xm_fr (xm_old sc) w5 r7 2 3) (fun r8 => xm_O (xm_refs (xm_old sc) w5 r8) (fun l9 => xm_O (xm_at l9 x1) (fun r10 => xm_O r10 (fun y11 => xm_O (xm_fi (xm_old sc) w5 y11 4 0) (fun z12 => xm_Oi (f 148 [.inl z12, .inl x2] w5) (fun z14 w13 => if (z14 : Int) = 0 then (xm_Oi (f 139 [.inr (.inl (some x0)), .inl 5] w13) (fun z22 w21 => Q (some (.inl z22), w21))) else (xm_O (xm_fr (xm_old sc) w13 x0 8 0) (fun r15 => xm_O (xm_fr (xm_old sc) w13 r15 2 3) (fun r16 => xm_O (xm_refs (xm_old sc) w13 r16) (fun l17 => xm_O (xm_at l17 x1) (fun r18 => xm_O r18 (fun y19 => xm_O (xm_fi (xm_old sc) w13 y19 4 3) (fun z20 => Q (some (.inl z20), w13)))))))))))))))))))) :
  xm_EQ (xm_old sc) xm_sta f xm_c106 0 [some (.inr (.inl (some x0))), some (.inl x1), some (.inl x2)] [] w Q :=
  (xq_aload_n k_106_0 rfl (xq_iload_n k_106_1 rfl (xq_invv2 k_106_2 xr_141 rfl rfl rfl h (fun z2 w1 h => (xq_if_eq k_106_3 h (fun h => (xq_aload_n k_106_9 rfl (xq_iconst k_106_10 (xq_invv1 k_106_11 xr_139 rfl rfl rfl h (fun z4 w3 h => (xq_ireturn k_106_12 h)))))) (fun h => (xq_iload_n k_106_4 rfl (xq_iconst k_106_5 (xq_bipush k_106_6 (xq_invs2 k_106_7 xr_142 rfl rfl rfl h (fun z6 w5 h => (xq_if_ne k_106_8 h (fun h => (xq_aload_n k_106_9 rfl (xq_iconst k_106_10 (xq_invv1 k_106_11 xr_139 rfl rfl rfl h (fun z24 w23 h => (xq_ireturn k_106_12 h)))))) (fun h => (xq_aload_n k_106_13 rfl (xq_getr k_106_14 rfl h (fun r7 h => (xq_getr k_106_15 rfl h (fun r8 h => (xq_iload_n k_106_16 rfl (xq_aaload k_106_17 h (fun l9 h => h) (fun l9 r10 h => (match r10, h with
 | some y11, h => (xq_geti0 k_106_18 rfl h (fun z12 h => (xq_iload_n k_106_19 rfl (xq_invs2 k_106_20 xr_148 rfl rfl rfl h (fun z14 w13 h => (xq_if_ne k_106_21 h (fun h => (xq_aload_n k_106_22 rfl (xq_iconst k_106_23 (xq_invv1 k_106_24 xr_139 rfl rfl rfl h (fun z22 w21 h => (xq_ireturn k_106_25 h)))))) (fun h => (xq_aload_n k_106_26 rfl (xq_getr k_106_27 rfl h (fun r15 h => (xq_getr k_106_28 rfl h (fun r16 h => (xq_iload_n k_106_29 rfl (xq_aaload k_106_30 h (fun l17 h => h) (fun l17 r18 h => (match r18, h with
 | some y19, h => (xq_geti0 k_106_31 rfl h (fun z20 h => (xq_ireturn k_106_32 h)))
 | none, h => False.elim h))))))))))))))))
 | none, h => False.elim h))))))))))))))))))))))
/-- ShodBackwards.set(III)I -/
theorem d_107_0 : List.drop 0 xm_c107 = xm_c107 := rfl
theorem k_107_0 : xm_gi xm_c107 0 = some xm_e107_0 := xm_gt d_107_0
theorem d_107_1 : List.drop 1 xm_c107 = xm_c107_1 := xm_dr d_107_0
theorem k_107_1 : xm_gi xm_c107 1 = some xm_e107_1 := xm_gt d_107_1
theorem d_107_2 : List.drop 2 xm_c107 = xm_c107_2 := xm_dr d_107_1
theorem k_107_2 : xm_gi xm_c107 2 = some xm_e107_2 := xm_gt d_107_2
theorem d_107_3 : List.drop 3 xm_c107 = xm_c107_3 := xm_dr d_107_2
theorem k_107_3 : xm_gi xm_c107 3 = some xm_e107_3 := xm_gt d_107_3
theorem d_107_4 : List.drop 4 xm_c107 = xm_c107_4 := xm_dr d_107_3
theorem k_107_4 : xm_gi xm_c107 4 = some xm_e107_4 := xm_gt d_107_4
theorem d_107_5 : List.drop 5 xm_c107 = xm_c107_5 := xm_dr d_107_4
theorem k_107_5 : xm_gi xm_c107 5 = some xm_e107_5 := xm_gt d_107_5
theorem d_107_6 : List.drop 6 xm_c107 = xm_c107_6 := xm_dr d_107_5
theorem k_107_6 : xm_gi xm_c107 6 = some xm_e107_6 := xm_gt d_107_6
theorem d_107_7 : List.drop 7 xm_c107 = xm_c107_7 := xm_dr d_107_6
theorem k_107_7 : xm_gi xm_c107 7 = some xm_e107_7 := xm_gt d_107_7
theorem d_107_8 : List.drop 8 xm_c107 = xm_c107_8 := xm_dr d_107_7
theorem k_107_8 : xm_gi xm_c107 8 = some xm_e107_8 := xm_gt d_107_8
theorem d_107_9 : List.drop 9 xm_c107 = xm_c107_9 := xm_dr d_107_8
theorem k_107_9 : xm_gi xm_c107 9 = some xm_e107_9 := xm_gt d_107_9
theorem d_107_10 : List.drop 10 xm_c107 = xm_c107_10 := xm_dr d_107_9
theorem k_107_10 : xm_gi xm_c107 10 = some xm_e107_10 := xm_gt d_107_10
theorem d_107_11 : List.drop 11 xm_c107 = xm_c107_11 := xm_dr d_107_10
theorem k_107_11 : xm_gi xm_c107 11 = some xm_e107_11 := xm_gt d_107_11
theorem d_107_12 : List.drop 12 xm_c107 = xm_c107_12 := xm_dr d_107_11
theorem k_107_12 : xm_gi xm_c107 12 = some xm_e107_12 := xm_gt d_107_12
theorem d_107_13 : List.drop 13 xm_c107 = xm_c107_13 := xm_dr d_107_12
theorem k_107_13 : xm_gi xm_c107 13 = some xm_e107_13 := xm_gt d_107_13
theorem d_107_14 : List.drop 14 xm_c107 = xm_c107_14 := xm_dr d_107_13
theorem k_107_14 : xm_gi xm_c107 14 = some xm_e107_14 := xm_gt d_107_14
theorem d_107_15 : List.drop 15 xm_c107 = xm_c107_15 := xm_dr d_107_14
theorem k_107_15 : xm_gi xm_c107 15 = some xm_e107_15 := xm_gt d_107_15
theorem d_107_16 : List.drop 16 xm_c107 = xm_c107_16 := xm_dr d_107_15
theorem k_107_16 : xm_gi xm_c107 16 = some xm_e107_16 := xm_gt d_107_16
theorem d_107_17 : List.drop 17 xm_c107 = xm_c107_17 := xm_dr d_107_16
theorem k_107_17 : xm_gi xm_c107 17 = some xm_e107_17 := xm_gt d_107_17
theorem d_107_18 : List.drop 18 xm_c107 = xm_c107_18 := xm_dr d_107_17
theorem k_107_18 : xm_gi xm_c107 18 = some xm_e107_18 := xm_gt d_107_18
theorem d_107_19 : List.drop 19 xm_c107 = xm_c107_19 := xm_dr d_107_18
theorem k_107_19 : xm_gi xm_c107 19 = some xm_e107_19 := xm_gt d_107_19
theorem d_107_20 : List.drop 20 xm_c107 = xm_c107_20 := xm_dr d_107_19
theorem k_107_20 : xm_gi xm_c107 20 = some xm_e107_20 := xm_gt d_107_20
theorem d_107_21 : List.drop 21 xm_c107 = xm_c107_21 := xm_dr d_107_20
theorem k_107_21 : xm_gi xm_c107 21 = some xm_e107_21 := xm_gt d_107_21
theorem d_107_22 : List.drop 22 xm_c107 = xm_c107_22 := xm_dr d_107_21
theorem k_107_22 : xm_gi xm_c107 22 = some xm_e107_22 := xm_gt d_107_22
theorem d_107_23 : List.drop 23 xm_c107 = xm_c107_23 := xm_dr d_107_22
theorem k_107_23 : xm_gi xm_c107 23 = some xm_e107_23 := xm_gt d_107_23
theorem d_107_24 : List.drop 24 xm_c107 = xm_c107_24 := xm_dr d_107_23
theorem k_107_24 : xm_gi xm_c107 24 = some xm_e107_24 := xm_gt d_107_24
theorem d_107_25 : List.drop 25 xm_c107 = xm_c107_25 := xm_dr d_107_24
theorem k_107_25 : xm_gi xm_c107 25 = some xm_e107_25 := xm_gt d_107_25
theorem d_107_26 : List.drop 26 xm_c107 = xm_c107_26 := xm_dr d_107_25
theorem k_107_26 : xm_gi xm_c107 26 = some xm_e107_26 := xm_gt d_107_26
theorem d_107_27 : List.drop 27 xm_c107 = xm_c107_27 := xm_dr d_107_26
theorem k_107_27 : xm_gi xm_c107 27 = some xm_e107_27 := xm_gt d_107_27
theorem d_107_28 : List.drop 28 xm_c107 = xm_c107_28 := xm_dr d_107_27
theorem k_107_28 : xm_gi xm_c107 28 = some xm_e107_28 := xm_gt d_107_28
theorem d_107_29 : List.drop 29 xm_c107 = xm_c107_29 := xm_dr d_107_28
theorem k_107_29 : xm_gi xm_c107 29 = some xm_e107_29 := xm_gt d_107_29
theorem xb_107_0 {sc : List Int} {f : Nat → List xm_V → xm_W → xm_R} {w : xm_W} {Q : Option xm_V × xm_W → Prop} {x0 : Nat} {x1 : Int} {x2 : Int} {x3 : Int}
  (h : xm_Oi (f 141 [.inr (.inl (some x0)), .inl x1] w) (fun z2 w1 => if (z2 : Int) = 0 then (xm_Oi (f 139 [.inr (.inl (some x0)), .inl 1] w1) (fun z16 w15 => Q (some (.inl z16), w15))) else (xm_O (xm_fr (xm_old sc) w1 x0 8 0) (fun r3 => xm_O (xm_fr (xm_old sc) w1 r3 2 3) (fun r4 => xm_O (xm_refs (xm_old sc) w1 r4) (fun l5 => xm_O (xm_at l5 x1) (fun r6 => xm_Oi (f 605 [.inr (.inl r6), .inl x2] w1) (fun z8 w7 => xm_Oi (f 142 [.inl x3, .inl 0, .inl z8] w7) (fun z10 w9 => if (z10 : Int) = 0 then (xm_Oi (f 139 [.inr (.inl (some x0)), .inl 1] w9) (fun z14 w13 => Q (some (.inl z14), w13))) else (xm_Oi (f 606 [.inr (.inl r6), .inl x2, .inl x3] w9) (fun z12 w11 => Q (some (.inl z12), w11)))))))))))) :
  xm_EQ (xm_old sc) xm_sta f xm_c107 0 [some (.inr (.inl (some x0))), some (.inl x1), some (.inl x2), some (.inl x3), none] [] w Q :=
  (xq_aload_n k_107_0 rfl (xq_iload_n k_107_1 rfl (xq_invv2 k_107_2 xr_141 rfl rfl rfl h (fun z2 w1 h => (xq_if_ne k_107_3 h (fun h => (xq_aload_n k_107_4 rfl (xq_iconst k_107_5 (xq_invv1 k_107_6 xr_139 rfl rfl rfl h (fun z16 w15 h => (xq_ireturn k_107_7 h)))))) (fun h => (xq_aload_n k_107_8 rfl (xq_getr k_107_9 rfl h (fun r3 h => (xq_getr k_107_10 rfl h (fun r4 h => (xq_iload_n k_107_11 rfl (xq_aaload k_107_12 h (fun l5 h => h) (fun l5 r6 h => (xq_astore k_107_13 rfl (xq_iload_n k_107_14 rfl (xq_iconst k_107_15 (xq_aload k_107_16 rfl (xq_iload_n k_107_17 rfl (xq_invv1 k_107_18 xr_605 rfl rfl rfl h (fun z8 w7 h => (xq_invs2 k_107_19 xr_142 rfl rfl rfl h (fun z10 w9 h => (xq_if_ne k_107_20 h (fun h => (xq_aload_n k_107_21 rfl (xq_iconst k_107_22 (xq_invv1 k_107_23 xr_139 rfl rfl rfl h (fun z14 w13 h => (xq_ireturn k_107_24 h)))))) (fun h => (xq_aload k_107_25 rfl (xq_iload_n k_107_26 rfl (xq_iload_n k_107_27 rfl (xq_invv1 k_107_28 xr_606 rfl rfl rfl h (fun z12 w11 h => (xq_ireturn k_107_29 h)))))))))))))))))))))))))))))))
/-- ShodBackwards.way(II)I -/
theorem d_108_0 : List.drop 0 xm_c108 = xm_c108 := rfl
theorem k_108_0 : xm_gi xm_c108 0 = some xm_e108_0 := xm_gt d_108_0
theorem d_108_1 : List.drop 1 xm_c108 = xm_c108_1 := xm_dr d_108_0
theorem k_108_1 : xm_gi xm_c108 1 = some xm_e108_1 := xm_gt d_108_1
theorem d_108_2 : List.drop 2 xm_c108 = xm_c108_2 := xm_dr d_108_1
theorem k_108_2 : xm_gi xm_c108 2 = some xm_e108_2 := xm_gt d_108_2
theorem d_108_3 : List.drop 3 xm_c108 = xm_c108_3 := xm_dr d_108_2
theorem k_108_3 : xm_gi xm_c108 3 = some xm_e108_3 := xm_gt d_108_3
theorem d_108_4 : List.drop 4 xm_c108 = xm_c108_4 := xm_dr d_108_3
theorem k_108_4 : xm_gi xm_c108 4 = some xm_e108_4 := xm_gt d_108_4
theorem d_108_5 : List.drop 5 xm_c108 = xm_c108_5 := xm_dr d_108_4
theorem k_108_5 : xm_gi xm_c108 5 = some xm_e108_5 := xm_gt d_108_5
theorem d_108_6 : List.drop 6 xm_c108 = xm_c108_6 := xm_dr d_108_5
theorem k_108_6 : xm_gi xm_c108 6 = some xm_e108_6 := xm_gt d_108_6
theorem d_108_7 : List.drop 7 xm_c108 = xm_c108_7 := xm_dr d_108_6
theorem k_108_7 : xm_gi xm_c108 7 = some xm_e108_7 := xm_gt d_108_7
theorem d_108_8 : List.drop 8 xm_c108 = xm_c108_8 := xm_dr d_108_7
theorem k_108_8 : xm_gi xm_c108 8 = some xm_e108_8 := xm_gt d_108_8
theorem d_108_9 : List.drop 9 xm_c108 = xm_c108_9 := xm_dr d_108_8
theorem k_108_9 : xm_gi xm_c108 9 = some xm_e108_9 := xm_gt d_108_9
theorem d_108_10 : List.drop 10 xm_c108 = xm_c108_10 := xm_dr d_108_9
theorem k_108_10 : xm_gi xm_c108 10 = some xm_e108_10 := xm_gt d_108_10
theorem d_108_11 : List.drop 11 xm_c108 = xm_c108_11 := xm_dr d_108_10
theorem k_108_11 : xm_gi xm_c108 11 = some xm_e108_11 := xm_gt d_108_11
theorem d_108_12 : List.drop 12 xm_c108 = xm_c108_12 := xm_dr d_108_11
theorem k_108_12 : xm_gi xm_c108 12 = some xm_e108_12 := xm_gt d_108_12
theorem d_108_13 : List.drop 13 xm_c108 = xm_c108_13 := xm_dr d_108_12
theorem k_108_13 : xm_gi xm_c108 13 = some xm_e108_13 := xm_gt d_108_13
theorem d_108_14 : List.drop 14 xm_c108 = xm_c108_14 := xm_dr d_108_13
theorem k_108_14 : xm_gi xm_c108 14 = some xm_e108_14 := xm_gt d_108_14
theorem d_108_15 : List.drop 15 xm_c108 = xm_c108_15 := xm_dr d_108_14
theorem k_108_15 : xm_gi xm_c108 15 = some xm_e108_15 := xm_gt d_108_15
theorem d_108_16 : List.drop 16 xm_c108 = xm_c108_16 := xm_dr d_108_15
theorem k_108_16 : xm_gi xm_c108 16 = some xm_e108_16 := xm_gt d_108_16
theorem d_108_17 : List.drop 17 xm_c108 = xm_c108_17 := xm_dr d_108_16
theorem k_108_17 : xm_gi xm_c108 17 = some xm_e108_17 := xm_gt d_108_17
theorem d_108_18 : List.drop 18 xm_c108 = xm_c108_18 := xm_dr d_108_17
theorem k_108_18 : xm_gi xm_c108 18 = some xm_e108_18 := xm_gt d_108_18
theorem d_108_19 : List.drop 19 xm_c108 = xm_c108_19 := xm_dr d_108_18
theorem k_108_19 : xm_gi xm_c108 19 = some xm_e108_19 := xm_gt d_108_19
theorem d_108_20 : List.drop 20 xm_c108 = xm_c108_20 := xm_dr d_108_19
theorem k_108_20 : xm_gi xm_c108 20 = some xm_e108_20 := xm_gt d_108_20
theorem d_108_21 : List.drop 21 xm_c108 = xm_c108_21 := xm_dr d_108_20
theorem k_108_21 : xm_gi xm_c108 21 = some xm_e108_21 := xm_gt d_108_21
theorem d_108_22 : List.drop 22 xm_c108 = xm_c108_22 := xm_dr d_108_21
theorem k_108_22 : xm_gi xm_c108 22 = some xm_e108_22 := xm_gt d_108_22
theorem d_108_23 : List.drop 23 xm_c108 = xm_c108_23 := xm_dr d_108_22
theorem k_108_23 : xm_gi xm_c108 23 = some xm_e108_23 := xm_gt d_108_23
theorem d_108_24 : List.drop 24 xm_c108 = xm_c108_24 := xm_dr d_108_23
theorem k_108_24 : xm_gi xm_c108 24 = some xm_e108_24 := xm_gt d_108_24
theorem d_108_25 : List.drop 25 xm_c108 = xm_c108_25 := xm_dr d_108_24
theorem k_108_25 : xm_gi xm_c108 25 = some xm_e108_25 := xm_gt d_108_25
theorem d_108_26 : List.drop 26 xm_c108 = xm_c108_26 := xm_dr d_108_25
theorem k_108_26 : xm_gi xm_c108 26 = some xm_e108_26 := xm_gt d_108_26
theorem d_108_27 : List.drop 27 xm_c108 = xm_c108_27 := xm_dr d_108_26
theorem k_108_27 : xm_gi xm_c108 27 = some xm_e108_27 := xm_gt d_108_27
theorem d_108_28 : List.drop 28 xm_c108 = xm_c108_28 := xm_dr d_108_27
theorem k_108_28 : xm_gi xm_c108 28 = some xm_e108_28 := xm_gt d_108_28
theorem d_108_29 : List.drop 29 xm_c108 = xm_c108_29 := xm_dr d_108_28
theorem k_108_29 : xm_gi xm_c108 29 = some xm_e108_29 := xm_gt d_108_29
theorem d_108_30 : List.drop 30 xm_c108 = xm_c108_30 := xm_dr d_108_29
theorem k_108_30 : xm_gi xm_c108 30 = some xm_e108_30 := xm_gt d_108_30
theorem d_108_31 : List.drop 31 xm_c108 = xm_c108_31 := xm_dr d_108_30
theorem k_108_31 : xm_gi xm_c108 31 = some xm_e108_31 := xm_gt d_108_31
theorem xb_108_0 {sc : List Int} {f : Nat → List xm_V → xm_W → xm_R} {w : xm_W} {Q : Option xm_V × xm_W → Prop} {x0 : Nat} {x1 : Int} {x2 : Int}
  (h : xm_Oi (f 141 [.inr (.inl (some x0)), .inl x1] w) (fun z2 w1 => if (z2 : Int) = 0 then (xm_Oi (f 139 [.inr (.inl (some x0)), .inl 1] w1) (fun z4 w3 => Q (some (.inl z4), w3))) else (xm_Oi (f 142 [.inl x2, .inl 0, .inl 3] w1) (fun z6 w5 => if (z6 : Int) = 0 then (xm_Oi (f 139 [.inr (.inl (some x0)), .inl 1] w5) (fun z22 w21 => Q (some (.inl z22), w21))) else (xm_O (xm_fr (xm_old sc) w5 x0 8 0) (fun r7 => xm_O (xm_fr (xm_old sc) w5 r7 2 3) (fun r8 => xm_O (xm_refs (xm_old sc) w5 r8) (fun l9 => xm_O (xm_at l9 x1) (fun r10 => xm_Oi (f 604 [.inr (.inl r10), .inl x2] w5) (fun z12 w11 => if (z12 : Int) = 0 then (xm_Oi (f 139 [.inr (.inl (some x0)), .inl 4] w11) (fun z20 w19 => Q (some (.inl z20), w19))) else (xm_O (xm_fr (xm_old sc) w11 x0 8 0) (fun r13 => xm_O (xm_fr (xm_old sc) w11 r13 2 3) (fun r14 => xm_O (xm_refs (xm_old sc) w11 r14) (fun l15 => xm_O (xm_at l15 x1) (fun r16 => xm_O r16 (fun y17 => xm_O (xm_fi (xm_old sc) w11 y17 4 4) (fun z18 => Q (some (.inl z18), w11)))))))))))))))))) :
  xm_EQ (xm_old sc) xm_sta f xm_c108 0 [some (.inr (.inl (some x0))), some (.inl x1), some (.inl x2)] [] w Q :=
  (xq_aload_n k_108_0 rfl (xq_iload_n k_108_1 rfl (xq_invv2 k_108_2 xr_141 rfl rfl rfl h (fun z2 w1 h => (xq_if_eq k_108_3 h (fun h => (xq_aload_n k_108_9 rfl (xq_iconst k_108_10 (xq_invv1 k_108_11 xr_139 rfl rfl rfl h (fun z4 w3 h => (xq_ireturn k_108_12 h)))))) (fun h => (xq_iload_n k_108_4 rfl (xq_iconst k_108_5 (xq_iconst k_108_6 (xq_invs2 k_108_7 xr_142 rfl rfl rfl h (fun z6 w5 h => (xq_if_ne k_108_8 h (fun h => (xq_aload_n k_108_9 rfl (xq_iconst k_108_10 (xq_invv1 k_108_11 xr_139 rfl rfl rfl h (fun z22 w21 h => (xq_ireturn k_108_12 h)))))) (fun h => (xq_aload_n k_108_13 rfl (xq_getr k_108_14 rfl h (fun r7 h => (xq_getr k_108_15 rfl h (fun r8 h => (xq_iload_n k_108_16 rfl (xq_aaload k_108_17 h (fun l9 h => h) (fun l9 r10 h => (xq_iload_n k_108_18 rfl (xq_invv2 k_108_19 xr_604 rfl rfl rfl h (fun z12 w11 h => (xq_if_ne k_108_20 h (fun h => (xq_aload_n k_108_21 rfl (xq_iconst k_108_22 (xq_invv1 k_108_23 xr_139 rfl rfl rfl h (fun z20 w19 h => (xq_ireturn k_108_24 h)))))) (fun h => (xq_aload_n k_108_25 rfl (xq_getr k_108_26 rfl h (fun r13 h => (xq_getr k_108_27 rfl h (fun r14 h => (xq_iload_n k_108_28 rfl (xq_aaload k_108_29 h (fun l15 h => h) (fun l15 r16 h => (match r16, h with
 | some y17, h => (xq_geti0 k_108_30 rfl h (fun z18 h => (xq_ireturn k_108_31 h)))
 | none, h => False.elim h)))))))))))))))))))))))))))))))))))
/-- ShodBackwards.halt(I)I -/
theorem d_109_0 : List.drop 0 xm_c109 = xm_c109 := rfl
theorem k_109_0 : xm_gi xm_c109 0 = some xm_e109_0 := xm_gt d_109_0
theorem d_109_1 : List.drop 1 xm_c109 = xm_c109_1 := xm_dr d_109_0
theorem k_109_1 : xm_gi xm_c109 1 = some xm_e109_1 := xm_gt d_109_1
theorem d_109_2 : List.drop 2 xm_c109 = xm_c109_2 := xm_dr d_109_1
theorem k_109_2 : xm_gi xm_c109 2 = some xm_e109_2 := xm_gt d_109_2
theorem d_109_3 : List.drop 3 xm_c109 = xm_c109_3 := xm_dr d_109_2
theorem k_109_3 : xm_gi xm_c109 3 = some xm_e109_3 := xm_gt d_109_3
theorem d_109_4 : List.drop 4 xm_c109 = xm_c109_4 := xm_dr d_109_3
theorem k_109_4 : xm_gi xm_c109 4 = some xm_e109_4 := xm_gt d_109_4
theorem d_109_5 : List.drop 5 xm_c109 = xm_c109_5 := xm_dr d_109_4
theorem k_109_5 : xm_gi xm_c109 5 = some xm_e109_5 := xm_gt d_109_5
theorem d_109_6 : List.drop 6 xm_c109 = xm_c109_6 := xm_dr d_109_5
theorem k_109_6 : xm_gi xm_c109 6 = some xm_e109_6 := xm_gt d_109_6
theorem d_109_7 : List.drop 7 xm_c109 = xm_c109_7 := xm_dr d_109_6
theorem k_109_7 : xm_gi xm_c109 7 = some xm_e109_7 := xm_gt d_109_7
theorem d_109_8 : List.drop 8 xm_c109 = xm_c109_8 := xm_dr d_109_7
theorem k_109_8 : xm_gi xm_c109 8 = some xm_e109_8 := xm_gt d_109_8
theorem d_109_9 : List.drop 9 xm_c109 = xm_c109_9 := xm_dr d_109_8
theorem k_109_9 : xm_gi xm_c109 9 = some xm_e109_9 := xm_gt d_109_9
theorem d_109_10 : List.drop 10 xm_c109 = xm_c109_10 := xm_dr d_109_9
theorem k_109_10 : xm_gi xm_c109 10 = some xm_e109_10 := xm_gt d_109_10
theorem d_109_11 : List.drop 11 xm_c109 = xm_c109_11 := xm_dr d_109_10
theorem k_109_11 : xm_gi xm_c109 11 = some xm_e109_11 := xm_gt d_109_11
theorem d_109_12 : List.drop 12 xm_c109 = xm_c109_12 := xm_dr d_109_11
theorem k_109_12 : xm_gi xm_c109 12 = some xm_e109_12 := xm_gt d_109_12
theorem d_109_13 : List.drop 13 xm_c109 = xm_c109_13 := xm_dr d_109_12
theorem k_109_13 : xm_gi xm_c109 13 = some xm_e109_13 := xm_gt d_109_13
theorem d_109_14 : List.drop 14 xm_c109 = xm_c109_14 := xm_dr d_109_13
theorem k_109_14 : xm_gi xm_c109 14 = some xm_e109_14 := xm_gt d_109_14
theorem d_109_15 : List.drop 15 xm_c109 = xm_c109_15 := xm_dr d_109_14
theorem k_109_15 : xm_gi xm_c109 15 = some xm_e109_15 := xm_gt d_109_15
theorem d_109_16 : List.drop 16 xm_c109 = xm_c109_16 := xm_dr d_109_15
theorem k_109_16 : xm_gi xm_c109 16 = some xm_e109_16 := xm_gt d_109_16
theorem d_109_17 : List.drop 17 xm_c109 = xm_c109_17 := xm_dr d_109_16
theorem k_109_17 : xm_gi xm_c109 17 = some xm_e109_17 := xm_gt d_109_17
theorem d_109_18 : List.drop 18 xm_c109 = xm_c109_18 := xm_dr d_109_17
theorem k_109_18 : xm_gi xm_c109 18 = some xm_e109_18 := xm_gt d_109_18
theorem d_109_19 : List.drop 19 xm_c109 = xm_c109_19 := xm_dr d_109_18
theorem k_109_19 : xm_gi xm_c109 19 = some xm_e109_19 := xm_gt d_109_19
theorem d_109_20 : List.drop 20 xm_c109 = xm_c109_20 := xm_dr d_109_19
theorem k_109_20 : xm_gi xm_c109 20 = some xm_e109_20 := xm_gt d_109_20
theorem d_109_21 : List.drop 21 xm_c109 = xm_c109_21 := xm_dr d_109_20
theorem k_109_21 : xm_gi xm_c109 21 = some xm_e109_21 := xm_gt d_109_21
theorem d_109_22 : List.drop 22 xm_c109 = xm_c109_22 := xm_dr d_109_21
theorem k_109_22 : xm_gi xm_c109 22 = some xm_e109_22 := xm_gt d_109_22
theorem d_109_23 : List.drop 23 xm_c109 = xm_c109_23 := xm_dr d_109_22
theorem k_109_23 : xm_gi xm_c109 23 = some xm_e109_23 := xm_gt d_109_23
theorem d_109_24 : List.drop 24 xm_c109 = xm_c109_24 := xm_dr d_109_23
theorem k_109_24 : xm_gi xm_c109 24 = some xm_e109_24 := xm_gt d_109_24
theorem xb_109_0 {sc : List Int} {f : Nat → List xm_V → xm_W → xm_R} {w : xm_W} {Q : Option xm_V × xm_W → Prop} {x0 : Nat} {x1 : Int}
  (h : xm_Oi (f 141 [.inr (.inl (some x0)), .inl x1] w) (fun z2 w1 => if (z2 : Int) = 0 then (xm_Oi (f 139 [.inr (.inl (some x0)), .inl 1] w1) (fun z12 w11 => Q (some (.inl z12), w11))) else (xm_O (xm_fr (xm_old sc) w1 x0 8 0) (fun r3 => xm_O (xm_fr (xm_old sc) w1 r3 2 3) (fun r4 => xm_O (xm_refs (xm_old sc) w1 r4) (fun l5 => xm_O (xm_at l5 x1) (fun r6 => xm_O r6 (fun y7 => xm_O (xm_fi (xm_old sc) w1 y7 4 4) (fun z8 => xm_O (xm_setf w1 y7 4 4 0 (.inl 0)) (fun w9 => xm_O (xm_setf w9 y7 4 5 0 (.inl 0)) (fun w10 => Q (some (.inl z8), w10)))))))))))) :
  xm_EQ (xm_old sc) xm_sta f xm_c109 0 [some (.inr (.inl (some x0))), some (.inl x1), none, none] [] w Q :=
  (xq_aload_n k_109_0 rfl (xq_iload_n k_109_1 rfl (xq_invv2 k_109_2 xr_141 rfl rfl rfl h (fun z2 w1 h => (xq_if_ne k_109_3 h (fun h => (xq_aload_n k_109_4 rfl (xq_iconst k_109_5 (xq_invv1 k_109_6 xr_139 rfl rfl rfl h (fun z12 w11 h => (xq_ireturn k_109_7 h)))))) (fun h => (xq_aload_n k_109_8 rfl (xq_getr k_109_9 rfl h (fun r3 h => (xq_getr k_109_10 rfl h (fun r4 h => (xq_iload_n k_109_11 rfl (xq_aaload k_109_12 h (fun l5 h => h) (fun l5 r6 h => (xq_astore_n k_109_13 rfl (xq_aload_n k_109_14 rfl (match r6, h with
 | some y7, h => (xq_geti0 k_109_15 rfl h (fun z8 h => (xq_istore_n k_109_16 rfl (xq_aload_n k_109_17 rfl (xq_iconst k_109_18 (xq_put k_109_19 rfl h (fun w9 h => (xq_aload_n k_109_20 rfl (xq_iconst k_109_21 (xq_put k_109_22 rfl h (fun w10 h => (xq_iload_n k_109_23 rfl (xq_ireturn k_109_24 h)))))))))))))
 | none, h => False.elim h)))))))))))))))))
/-- ShodBackwards.feed(JI)I -/
theorem d_110_0 : List.drop 0 xm_c110 = xm_c110 := rfl
theorem k_110_0 : xm_gi xm_c110 0 = some xm_e110_0 := xm_gt d_110_0
theorem d_110_1 : List.drop 1 xm_c110 = xm_c110_1 := xm_dr d_110_0
theorem k_110_1 : xm_gi xm_c110 1 = some xm_e110_1 := xm_gt d_110_1
theorem d_110_2 : List.drop 2 xm_c110 = xm_c110_2 := xm_dr d_110_1
theorem k_110_2 : xm_gi xm_c110 2 = some xm_e110_2 := xm_gt d_110_2
theorem d_110_3 : List.drop 3 xm_c110 = xm_c110_3 := xm_dr d_110_2
theorem k_110_3 : xm_gi xm_c110 3 = some xm_e110_3 := xm_gt d_110_3
theorem d_110_4 : List.drop 4 xm_c110 = xm_c110_4 := xm_dr d_110_3
theorem k_110_4 : xm_gi xm_c110 4 = some xm_e110_4 := xm_gt d_110_4
theorem d_110_5 : List.drop 5 xm_c110 = xm_c110_5 := xm_dr d_110_4
theorem k_110_5 : xm_gi xm_c110 5 = some xm_e110_5 := xm_gt d_110_5
theorem d_110_6 : List.drop 6 xm_c110 = xm_c110_6 := xm_dr d_110_5
theorem k_110_6 : xm_gi xm_c110 6 = some xm_e110_6 := xm_gt d_110_6
theorem d_110_7 : List.drop 7 xm_c110 = xm_c110_7 := xm_dr d_110_6
theorem k_110_7 : xm_gi xm_c110 7 = some xm_e110_7 := xm_gt d_110_7
theorem d_110_8 : List.drop 8 xm_c110 = xm_c110_8 := xm_dr d_110_7
theorem k_110_8 : xm_gi xm_c110 8 = some xm_e110_8 := xm_gt d_110_8
theorem d_110_9 : List.drop 9 xm_c110 = xm_c110_9 := xm_dr d_110_8
theorem k_110_9 : xm_gi xm_c110 9 = some xm_e110_9 := xm_gt d_110_9
theorem d_110_10 : List.drop 10 xm_c110 = xm_c110_10 := xm_dr d_110_9
theorem k_110_10 : xm_gi xm_c110 10 = some xm_e110_10 := xm_gt d_110_10
theorem d_110_11 : List.drop 11 xm_c110 = xm_c110_11 := xm_dr d_110_10
theorem k_110_11 : xm_gi xm_c110 11 = some xm_e110_11 := xm_gt d_110_11
theorem d_110_12 : List.drop 12 xm_c110 = xm_c110_12 := xm_dr d_110_11
theorem k_110_12 : xm_gi xm_c110 12 = some xm_e110_12 := xm_gt d_110_12
theorem d_110_13 : List.drop 13 xm_c110 = xm_c110_13 := xm_dr d_110_12
theorem k_110_13 : xm_gi xm_c110 13 = some xm_e110_13 := xm_gt d_110_13
theorem d_110_14 : List.drop 14 xm_c110 = xm_c110_14 := xm_dr d_110_13
theorem k_110_14 : xm_gi xm_c110 14 = some xm_e110_14 := xm_gt d_110_14
theorem d_110_15 : List.drop 15 xm_c110 = xm_c110_15 := xm_dr d_110_14
theorem k_110_15 : xm_gi xm_c110 15 = some xm_e110_15 := xm_gt d_110_15
theorem d_110_16 : List.drop 16 xm_c110 = xm_c110_16 := xm_dr d_110_15
theorem k_110_16 : xm_gi xm_c110 16 = some xm_e110_16 := xm_gt d_110_16
theorem d_110_17 : List.drop 17 xm_c110 = xm_c110_17 := xm_dr d_110_16
theorem k_110_17 : xm_gi xm_c110 17 = some xm_e110_17 := xm_gt d_110_17
theorem d_110_18 : List.drop 18 xm_c110 = xm_c110_18 := xm_dr d_110_17
theorem k_110_18 : xm_gi xm_c110 18 = some xm_e110_18 := xm_gt d_110_18
theorem d_110_19 : List.drop 19 xm_c110 = xm_c110_19 := xm_dr d_110_18
theorem k_110_19 : xm_gi xm_c110 19 = some xm_e110_19 := xm_gt d_110_19
theorem d_110_20 : List.drop 20 xm_c110 = xm_c110_20 := xm_dr d_110_19
theorem k_110_20 : xm_gi xm_c110 20 = some xm_e110_20 := xm_gt d_110_20
theorem d_110_21 : List.drop 21 xm_c110 = xm_c110_21 := xm_dr d_110_20
theorem k_110_21 : xm_gi xm_c110 21 = some xm_e110_21 := xm_gt d_110_21
theorem d_110_22 : List.drop 22 xm_c110 = xm_c110_22 := xm_dr d_110_21
theorem k_110_22 : xm_gi xm_c110 22 = some xm_e110_22 := xm_gt d_110_22
theorem d_110_23 : List.drop 23 xm_c110 = xm_c110_23 := xm_dr d_110_22
theorem k_110_23 : xm_gi xm_c110 23 = some xm_e110_23 := xm_gt d_110_23
theorem d_110_24 : List.drop 24 xm_c110 = xm_c110_24 := xm_dr d_110_23
theorem k_110_24 : xm_gi xm_c110 24 = some xm_e110_24 := xm_gt d_110_24
theorem d_110_25 : List.drop 25 xm_c110 = xm_c110_25 := xm_dr d_110_24
theorem k_110_25 : xm_gi xm_c110 25 = some xm_e110_25 := xm_gt d_110_25
theorem d_110_26 : List.drop 26 xm_c110 = xm_c110_26 := xm_dr d_110_25
theorem k_110_26 : xm_gi xm_c110 26 = some xm_e110_26 := xm_gt d_110_26
theorem d_110_27 : List.drop 27 xm_c110 = xm_c110_27 := xm_dr d_110_26
theorem k_110_27 : xm_gi xm_c110 27 = some xm_e110_27 := xm_gt d_110_27
theorem d_110_28 : List.drop 28 xm_c110 = xm_c110_28 := xm_dr d_110_27
theorem k_110_28 : xm_gi xm_c110 28 = some xm_e110_28 := xm_gt d_110_28
theorem d_110_29 : List.drop 29 xm_c110 = xm_c110_29 := xm_dr d_110_28
theorem k_110_29 : xm_gi xm_c110 29 = some xm_e110_29 := xm_gt d_110_29
theorem d_110_30 : List.drop 30 xm_c110 = xm_c110_30 := xm_dr d_110_29
theorem k_110_30 : xm_gi xm_c110 30 = some xm_e110_30 := xm_gt d_110_30
theorem d_110_31 : List.drop 31 xm_c110 = xm_c110_31 := xm_dr d_110_30
theorem k_110_31 : xm_gi xm_c110 31 = some xm_e110_31 := xm_gt d_110_31
theorem d_110_32 : List.drop 32 xm_c110 = xm_c110_32 := xm_dr d_110_31
theorem k_110_32 : xm_gi xm_c110 32 = some xm_e110_32 := xm_gt d_110_32
theorem d_110_33 : List.drop 33 xm_c110 = xm_c110_33 := xm_dr d_110_32
theorem k_110_33 : xm_gi xm_c110 33 = some xm_e110_33 := xm_gt d_110_33
theorem d_110_34 : List.drop 34 xm_c110 = xm_c110_34 := xm_dr d_110_33
theorem k_110_34 : xm_gi xm_c110 34 = some xm_e110_34 := xm_gt d_110_34
theorem d_110_35 : List.drop 35 xm_c110 = xm_c110_35 := xm_dr d_110_34
theorem k_110_35 : xm_gi xm_c110 35 = some xm_e110_35 := xm_gt d_110_35
theorem d_110_36 : List.drop 36 xm_c110 = xm_c110_36 := xm_dr d_110_35
theorem k_110_36 : xm_gi xm_c110 36 = some xm_e110_36 := xm_gt d_110_36
theorem d_110_37 : List.drop 37 xm_c110 = xm_c110_37 := xm_dr d_110_36
theorem k_110_37 : xm_gi xm_c110 37 = some xm_e110_37 := xm_gt d_110_37
theorem d_110_38 : List.drop 38 xm_c110 = xm_c110_38 := xm_dr d_110_37
theorem k_110_38 : xm_gi xm_c110 38 = some xm_e110_38 := xm_gt d_110_38
theorem d_110_39 : List.drop 39 xm_c110 = xm_c110_39 := xm_dr d_110_38
theorem k_110_39 : xm_gi xm_c110 39 = some xm_e110_39 := xm_gt d_110_39
theorem d_110_40 : List.drop 40 xm_c110 = xm_c110_40 := xm_dr d_110_39
theorem k_110_40 : xm_gi xm_c110 40 = some xm_e110_40 := xm_gt d_110_40
theorem d_110_41 : List.drop 41 xm_c110 = xm_c110_41 := xm_dr d_110_40
theorem k_110_41 : xm_gi xm_c110 41 = some xm_e110_41 := xm_gt d_110_41
theorem d_110_42 : List.drop 42 xm_c110 = xm_c110_42 := xm_dr d_110_41
theorem k_110_42 : xm_gi xm_c110 42 = some xm_e110_42 := xm_gt d_110_42
theorem d_110_43 : List.drop 43 xm_c110 = xm_c110_43 := xm_dr d_110_42
theorem k_110_43 : xm_gi xm_c110 43 = some xm_e110_43 := xm_gt d_110_43
theorem d_110_44 : List.drop 44 xm_c110 = xm_c110_44 := xm_dr d_110_43
theorem k_110_44 : xm_gi xm_c110 44 = some xm_e110_44 := xm_gt d_110_44
theorem d_110_45 : List.drop 45 xm_c110 = xm_c110_45 := xm_dr d_110_44
theorem k_110_45 : xm_gi xm_c110 45 = some xm_e110_45 := xm_gt d_110_45
theorem d_110_46 : List.drop 46 xm_c110 = xm_c110_46 := xm_dr d_110_45
theorem k_110_46 : xm_gi xm_c110 46 = some xm_e110_46 := xm_gt d_110_46
theorem d_110_47 : List.drop 47 xm_c110 = xm_c110_47 := xm_dr d_110_46
theorem k_110_47 : xm_gi xm_c110 47 = some xm_e110_47 := xm_gt d_110_47
theorem d_110_48 : List.drop 48 xm_c110 = xm_c110_48 := xm_dr d_110_47
theorem k_110_48 : xm_gi xm_c110 48 = some xm_e110_48 := xm_gt d_110_48
theorem d_110_49 : List.drop 49 xm_c110 = xm_c110_49 := xm_dr d_110_48
theorem k_110_49 : xm_gi xm_c110 49 = some xm_e110_49 := xm_gt d_110_49
theorem d_110_50 : List.drop 50 xm_c110 = xm_c110_50 := xm_dr d_110_49
theorem k_110_50 : xm_gi xm_c110 50 = some xm_e110_50 := xm_gt d_110_50
theorem d_110_51 : List.drop 51 xm_c110 = xm_c110_51 := xm_dr d_110_50
theorem k_110_51 : xm_gi xm_c110 51 = some xm_e110_51 := xm_gt d_110_51
theorem d_110_52 : List.drop 52 xm_c110 = xm_c110_52 := xm_dr d_110_51
theorem k_110_52 : xm_gi xm_c110 52 = some xm_e110_52 := xm_gt d_110_52
theorem xb_110_0 {sc : List Int} {f : Nat → List xm_V → xm_W → xm_R} {w : xm_W} {Q : Option xm_V × xm_W → Prop} {x0 : Nat} {x1 : Int64} {x3 : Int}
  (h : xm_Oi (f 142 [.inl x3, .inl 1, .inl 8] w) (fun z2 w1 => if (z2 : Int) = 0 then (xm_Oi (f 139 [.inr (.inl (some x0)), .inl 1] w1) (fun z8 w7 => Q (some (.inl z8), w7))) else (xm_O (xm_fr (xm_old sc) w1 x0 8 2) (fun r3 => xm_O (xm_fi (xm_old sc) w1 r3 1 1) (fun z4 => if ((xm_w (60 - x3)) : Int) < z4 then (xm_Oi (f 139 [.inr (.inl (some x0)), .inl 4] w1) (fun z6 w5 => Q (some (.inl z6), w5))) else (xm_EQ (xm_old sc) xm_sta f xm_c110 22 [some (.inr (.inl (some x0))), some (.inr (.inr x1)), none, some (.inl x3), some (.inl 0)] [] w1 Q)))))) :
  xm_EQ (xm_old sc) xm_sta f xm_c110 0 [some (.inr (.inl (some x0))), some (.inr (.inr x1)), none, some (.inl x3), none] [] w Q :=
  (xq_iload_n k_110_0 rfl (xq_iconst k_110_1 (xq_bipush k_110_2 (xq_invs2 k_110_3 xr_142 rfl rfl rfl h (fun z2 w1 h => (xq_if_ne k_110_4 h (fun h => (xq_aload_n k_110_5 rfl (xq_iconst k_110_6 (xq_invv1 k_110_7 xr_139 rfl rfl rfl h (fun z8 w7 h => (xq_ireturn k_110_8 h)))))) (fun h => (xq_aload_n k_110_9 rfl (xq_getr k_110_10 rfl h (fun r3 h => (xq_geti0 k_110_11 rfl h (fun z4 h => (xq_bipush k_110_12 (xq_iload_n k_110_13 rfl (xq_isub k_110_14 (xq_ic_le k_110_15 h (fun h => (xq_aload_n k_110_16 rfl (xq_iconst k_110_17 (xq_invv1 k_110_18 xr_139 rfl rfl rfl h (fun z6 w5 h => (xq_ireturn k_110_19 h)))))) (fun h => (xq_iconst k_110_20 (xq_istore k_110_21 rfl h)))))))))))))))))))
theorem xb_110_22 {sc : List Int} {f : Nat → List xm_V → xm_W → xm_R} {w : xm_W} {Q : Option xm_V × xm_W → Prop} {x0 : Nat} {x1 : Int64} {x3 : Int} {x4 : Int} {u2 : Option xm_V}
  (h : if (x4 : Int) < x3 then (xm_O (xm_fr (xm_old sc) w x0 8 2) (fun r3 => xm_O (xm_fr (xm_old sc) w r3 1 0) (fun r4 => xm_O (xm_fr (xm_old sc) w x0 8 2) (fun r5 => xm_O (xm_fi (xm_old sc) w r5 1 1) (fun z6 => xm_O (xm_seti w r4 z6 (xm_and ((xm_lushr x1 (xm_w (8 * x4)))).toInt32.toInt 255)) (fun w7 => xm_O (xm_fr (xm_old sc) w7 x0 8 2) (fun r8 => xm_O (xm_fi (xm_old sc) w7 r8 1 1) (fun z9 => xm_O (xm_setf w7 r8 1 1 0 (.inl (xm_w (z9 + 1)))) (fun w10 => xm_EQ (xm_old sc) xm_sta f xm_c110 22 [some (.inr (.inl (some x0))), some (.inr (.inr x1)), u2, some (.inl x3), some (.inl (xm_w (x4 + 1)))] [] w10 Q))))))))) else (xm_O (xm_fr (xm_old sc) w x0 8 2) (fun r1 => xm_O (xm_fi (xm_old sc) w r1 1 1) (fun z2 => Q (some (.inl z2), w))))) :
  xm_EQ (xm_old sc) xm_sta f xm_c110 22 [some (.inr (.inl (some x0))), some (.inr (.inr x1)), u2, some (.inl x3), some (.inl x4)] [] w Q :=
  (xq_iload k_110_22 rfl (xq_iload_n k_110_23 rfl (xq_ic_ge k_110_24 h (fun h => (xq_aload_n k_110_25 rfl (xq_getr k_110_26 rfl h (fun r3 h => (xq_getr k_110_27 rfl h (fun r4 h => (xq_aload_n k_110_28 rfl (xq_getr k_110_29 rfl h (fun r5 h => (xq_geti0 k_110_30 rfl h (fun z6 h => (xq_lload_n k_110_31 rfl (xq_bipush k_110_32 (xq_iload k_110_33 rfl (xq_imul k_110_34 (xq_lushr k_110_35 (xq_l2i k_110_36 (xq_sipush k_110_37 (xq_iand k_110_38 (xq_iastore k_110_39 h (fun w7 h => (xq_aload_n k_110_40 rfl (xq_getr k_110_41 rfl h (fun r8 h => (xq_dupr k_110_42 (xq_geti0 k_110_43 rfl h (fun z9 h => (xq_iconst k_110_44 (xq_iadd k_110_45 (xq_put k_110_46 rfl h (fun w10 h => (xq_iinc k_110_47 rfl rfl (xq_goto k_110_48 h))))))))))))))))))))))))))))))))) (fun h => (xq_aload_n k_110_49 rfl (xq_getr k_110_50 rfl h (fun r1 h => (xq_geti0 k_110_51 rfl h (fun z2 h => (xq_ireturn k_110_52 h))))))))))
/-- ShodBackwards.text(I)I -/
theorem d_111_0 : List.drop 0 xm_c111 = xm_c111 := rfl
theorem k_111_0 : xm_gi xm_c111 0 = some xm_e111_0 := xm_gt d_111_0
theorem d_111_1 : List.drop 1 xm_c111 = xm_c111_1 := xm_dr d_111_0
theorem k_111_1 : xm_gi xm_c111 1 = some xm_e111_1 := xm_gt d_111_1
theorem d_111_2 : List.drop 2 xm_c111 = xm_c111_2 := xm_dr d_111_1
theorem k_111_2 : xm_gi xm_c111 2 = some xm_e111_2 := xm_gt d_111_2
theorem d_111_3 : List.drop 3 xm_c111 = xm_c111_3 := xm_dr d_111_2
theorem k_111_3 : xm_gi xm_c111 3 = some xm_e111_3 := xm_gt d_111_3
theorem d_111_4 : List.drop 4 xm_c111 = xm_c111_4 := xm_dr d_111_3
theorem k_111_4 : xm_gi xm_c111 4 = some xm_e111_4 := xm_gt d_111_4
theorem d_111_5 : List.drop 5 xm_c111 = xm_c111_5 := xm_dr d_111_4
theorem k_111_5 : xm_gi xm_c111 5 = some xm_e111_5 := xm_gt d_111_5
theorem d_111_6 : List.drop 6 xm_c111 = xm_c111_6 := xm_dr d_111_5
theorem k_111_6 : xm_gi xm_c111 6 = some xm_e111_6 := xm_gt d_111_6
theorem d_111_7 : List.drop 7 xm_c111 = xm_c111_7 := xm_dr d_111_6
theorem k_111_7 : xm_gi xm_c111 7 = some xm_e111_7 := xm_gt d_111_7
theorem d_111_8 : List.drop 8 xm_c111 = xm_c111_8 := xm_dr d_111_7
theorem k_111_8 : xm_gi xm_c111 8 = some xm_e111_8 := xm_gt d_111_8
theorem d_111_9 : List.drop 9 xm_c111 = xm_c111_9 := xm_dr d_111_8
theorem k_111_9 : xm_gi xm_c111 9 = some xm_e111_9 := xm_gt d_111_9
theorem d_111_10 : List.drop 10 xm_c111 = xm_c111_10 := xm_dr d_111_9
theorem k_111_10 : xm_gi xm_c111 10 = some xm_e111_10 := xm_gt d_111_10
theorem d_111_11 : List.drop 11 xm_c111 = xm_c111_11 := xm_dr d_111_10
theorem k_111_11 : xm_gi xm_c111 11 = some xm_e111_11 := xm_gt d_111_11
theorem d_111_12 : List.drop 12 xm_c111 = xm_c111_12 := xm_dr d_111_11
theorem k_111_12 : xm_gi xm_c111 12 = some xm_e111_12 := xm_gt d_111_12
theorem d_111_13 : List.drop 13 xm_c111 = xm_c111_13 := xm_dr d_111_12
theorem k_111_13 : xm_gi xm_c111 13 = some xm_e111_13 := xm_gt d_111_13
theorem d_111_14 : List.drop 14 xm_c111 = xm_c111_14 := xm_dr d_111_13
theorem k_111_14 : xm_gi xm_c111 14 = some xm_e111_14 := xm_gt d_111_14
theorem d_111_15 : List.drop 15 xm_c111 = xm_c111_15 := xm_dr d_111_14
theorem k_111_15 : xm_gi xm_c111 15 = some xm_e111_15 := xm_gt d_111_15
theorem d_111_16 : List.drop 16 xm_c111 = xm_c111_16 := xm_dr d_111_15
theorem k_111_16 : xm_gi xm_c111 16 = some xm_e111_16 := xm_gt d_111_16
theorem d_111_17 : List.drop 17 xm_c111 = xm_c111_17 := xm_dr d_111_16
theorem k_111_17 : xm_gi xm_c111 17 = some xm_e111_17 := xm_gt d_111_17
theorem d_111_18 : List.drop 18 xm_c111 = xm_c111_18 := xm_dr d_111_17
theorem k_111_18 : xm_gi xm_c111 18 = some xm_e111_18 := xm_gt d_111_18
theorem d_111_19 : List.drop 19 xm_c111 = xm_c111_19 := xm_dr d_111_18
theorem k_111_19 : xm_gi xm_c111 19 = some xm_e111_19 := xm_gt d_111_19
theorem d_111_20 : List.drop 20 xm_c111 = xm_c111_20 := xm_dr d_111_19
theorem k_111_20 : xm_gi xm_c111 20 = some xm_e111_20 := xm_gt d_111_20
theorem d_111_21 : List.drop 21 xm_c111 = xm_c111_21 := xm_dr d_111_20
theorem k_111_21 : xm_gi xm_c111 21 = some xm_e111_21 := xm_gt d_111_21
theorem d_111_22 : List.drop 22 xm_c111 = xm_c111_22 := xm_dr d_111_21
theorem k_111_22 : xm_gi xm_c111 22 = some xm_e111_22 := xm_gt d_111_22
theorem d_111_23 : List.drop 23 xm_c111 = xm_c111_23 := xm_dr d_111_22
theorem k_111_23 : xm_gi xm_c111 23 = some xm_e111_23 := xm_gt d_111_23
theorem d_111_24 : List.drop 24 xm_c111 = xm_c111_24 := xm_dr d_111_23
theorem k_111_24 : xm_gi xm_c111 24 = some xm_e111_24 := xm_gt d_111_24
theorem d_111_25 : List.drop 25 xm_c111 = xm_c111_25 := xm_dr d_111_24
theorem k_111_25 : xm_gi xm_c111 25 = some xm_e111_25 := xm_gt d_111_25
theorem d_111_26 : List.drop 26 xm_c111 = xm_c111_26 := xm_dr d_111_25
theorem k_111_26 : xm_gi xm_c111 26 = some xm_e111_26 := xm_gt d_111_26
theorem d_111_27 : List.drop 27 xm_c111 = xm_c111_27 := xm_dr d_111_26
theorem k_111_27 : xm_gi xm_c111 27 = some xm_e111_27 := xm_gt d_111_27
theorem d_111_28 : List.drop 28 xm_c111 = xm_c111_28 := xm_dr d_111_27
theorem k_111_28 : xm_gi xm_c111 28 = some xm_e111_28 := xm_gt d_111_28
theorem d_111_29 : List.drop 29 xm_c111 = xm_c111_29 := xm_dr d_111_28
theorem k_111_29 : xm_gi xm_c111 29 = some xm_e111_29 := xm_gt d_111_29
theorem d_111_30 : List.drop 30 xm_c111 = xm_c111_30 := xm_dr d_111_29
theorem k_111_30 : xm_gi xm_c111 30 = some xm_e111_30 := xm_gt d_111_30
theorem d_111_31 : List.drop 31 xm_c111 = xm_c111_31 := xm_dr d_111_30
theorem k_111_31 : xm_gi xm_c111 31 = some xm_e111_31 := xm_gt d_111_31
theorem d_111_32 : List.drop 32 xm_c111 = xm_c111_32 := xm_dr d_111_31
theorem k_111_32 : xm_gi xm_c111 32 = some xm_e111_32 := xm_gt d_111_32
theorem d_111_33 : List.drop 33 xm_c111 = xm_c111_33 := xm_dr d_111_32
theorem k_111_33 : xm_gi xm_c111 33 = some xm_e111_33 := xm_gt d_111_33
theorem d_111_34 : List.drop 34 xm_c111 = xm_c111_34 := xm_dr d_111_33
theorem k_111_34 : xm_gi xm_c111 34 = some xm_e111_34 := xm_gt d_111_34
theorem d_111_35 : List.drop 35 xm_c111 = xm_c111_35 := xm_dr d_111_34
theorem k_111_35 : xm_gi xm_c111 35 = some xm_e111_35 := xm_gt d_111_35
theorem d_111_36 : List.drop 36 xm_c111 = xm_c111_36 := xm_dr d_111_35
theorem k_111_36 : xm_gi xm_c111 36 = some xm_e111_36 := xm_gt d_111_36
theorem d_111_37 : List.drop 37 xm_c111 = xm_c111_37 := xm_dr d_111_36
theorem k_111_37 : xm_gi xm_c111 37 = some xm_e111_37 := xm_gt d_111_37
theorem d_111_38 : List.drop 38 xm_c111 = xm_c111_38 := xm_dr d_111_37
theorem k_111_38 : xm_gi xm_c111 38 = some xm_e111_38 := xm_gt d_111_38
theorem d_111_39 : List.drop 39 xm_c111 = xm_c111_39 := xm_dr d_111_38
theorem k_111_39 : xm_gi xm_c111 39 = some xm_e111_39 := xm_gt d_111_39
theorem d_111_40 : List.drop 40 xm_c111 = xm_c111_40 := xm_dr d_111_39
theorem k_111_40 : xm_gi xm_c111 40 = some xm_e111_40 := xm_gt d_111_40
theorem d_111_41 : List.drop 41 xm_c111 = xm_c111_41 := xm_dr d_111_40
theorem k_111_41 : xm_gi xm_c111 41 = some xm_e111_41 := xm_gt d_111_41
theorem d_111_42 : List.drop 42 xm_c111 = xm_c111_42 := xm_dr d_111_41
theorem k_111_42 : xm_gi xm_c111 42 = some xm_e111_42 := xm_gt d_111_42
theorem d_111_43 : List.drop 43 xm_c111 = xm_c111_43 := xm_dr d_111_42
theorem k_111_43 : xm_gi xm_c111 43 = some xm_e111_43 := xm_gt d_111_43
theorem xb_111_0 {sc : List Int} {f : Nat → List xm_V → xm_W → xm_R} {w : xm_W} {Q : Option xm_V × xm_W → Prop} {x0 : Nat} {x1 : Int}
  (h : xm_Oi (f 146 [.inl x1] w) (fun z2 w1 => if (z2 : Int) = 0 then (xm_Oi (f 139 [.inr (.inl (some x0)), .inl 1] w1) (fun z33 w32 => Q (some (.inl z33), w32))) else (xm_O (xm_fr (xm_old sc) w1 x0 8 6) (fun r3 => xm_O (xm_fr (xm_old sc) w1 x0 8 2) (fun r4 => xm_O (xm_fr (xm_old sc) w1 r4 1 0) (fun r5 => xm_O (xm_fr (xm_old sc) w1 x0 8 2) (fun r6 => xm_O (xm_fi (xm_old sc) w1 r6 1 1) (fun z7 => if (x1 : Int) = 0 then (xm_Oi (f 502 [.inr (.inl (some r3)), .inr (.inl (some r5)), .inl z7, .inr (.inl (some 1000003))] w1) (fun z21 w20 => xm_O (xm_fr (xm_old sc) w20 x0 8 2) (fun r22 => xm_O (xm_setf w20 r22 1 1 0 (.inl 0)) (fun w23 => if (z21 : Int) = 0 then (xm_O (xm_fr (xm_old sc) w23 x0 8 6) (fun r30 => xm_O (xm_fi (xm_old sc) w23 r30 3 3) (fun z31 => Q (some (.inl (xm_w ((-10) - z31))), w23)))) else (xm_O (xm_fr (xm_old sc) w23 x0 8 0) (fun r24 => xm_O (xm_fr (xm_old sc) w23 r24 2 7) (fun r25 => xm_O (xm_fr (xm_old sc) w23 x0 8 6) (fun r26 => xm_Oq (f 503 [.inr (.inl (some r26))] w23) (fun z28 w27 => xm_O (xm_setq w27 r25 x1 z28) (fun w29 => Q (some (.inl 1), w29))))))))))) else (xm_Oi (f 502 [.inr (.inl (some r3)), .inr (.inl (some r5)), .inl z7, .inr (.inl (some 1000004))] w1) (fun z9 w8 => xm_O (xm_fr (xm_old sc) w8 x0 8 2) (fun r10 => xm_O (xm_setf w8 r10 1 1 0 (.inl 0)) (fun w11 => if (z9 : Int) = 0 then (xm_O (xm_fr (xm_old sc) w11 x0 8 6) (fun r18 => xm_O (xm_fi (xm_old sc) w11 r18 3 3) (fun z19 => Q (some (.inl (xm_w ((-10) - z19))), w11)))) else (xm_O (xm_fr (xm_old sc) w11 x0 8 0) (fun r12 => xm_O (xm_fr (xm_old sc) w11 r12 2 7) (fun r13 => xm_O (xm_fr (xm_old sc) w11 x0 8 6) (fun r14 => xm_Oq (f 503 [.inr (.inl (some r14))] w11) (fun z16 w15 => xm_O (xm_setq w15 r13 x1 z16) (fun w17 => Q (some (.inl 1), w17))))))))))))))))))) :
  xm_EQ (xm_old sc) xm_sta f xm_c111 0 [some (.inr (.inl (some x0))), some (.inl x1), none] [] w Q :=
  (xq_iload_n k_111_0 rfl (xq_invs2 k_111_1 xr_146 rfl rfl rfl h (fun z2 w1 h => (xq_if_ne k_111_2 h (fun h => (xq_aload_n k_111_3 rfl (xq_iconst k_111_4 (xq_invv1 k_111_5 xr_139 rfl rfl rfl h (fun z33 w32 h => (xq_ireturn k_111_6 h)))))) (fun h => (xq_aload_n k_111_7 rfl (xq_getr k_111_8 rfl h (fun r3 h => (xq_aload_n k_111_9 rfl (xq_getr k_111_10 rfl h (fun r4 h => (xq_getr k_111_11 rfl h (fun r5 h => (xq_aload_n k_111_12 rfl (xq_getr k_111_13 rfl h (fun r6 h => (xq_geti0 k_111_14 rfl h (fun z7 h => (xq_iload_n k_111_15 rfl (xq_if_ne k_111_16 h (fun h => (xq_ldcs k_111_17 (xq_goto k_111_18 (xq_invv2 k_111_20 xr_502 rfl rfl rfl h (fun z21 w20 h => (xq_istore_n k_111_21 rfl (xq_aload_n k_111_22 rfl (xq_getr k_111_23 rfl h (fun r22 h => (xq_iconst k_111_24 (xq_put k_111_25 rfl h (fun w23 h => (xq_iload_n k_111_26 rfl (xq_if_ne k_111_27 h (fun h => (xq_bipush k_111_28 (xq_aload_n k_111_29 rfl (xq_getr k_111_30 rfl h (fun r30 h => (xq_geti0 k_111_31 rfl h (fun z31 h => (xq_isub k_111_32 (xq_ireturn k_111_33 h))))))))) (fun h => (xq_aload_n k_111_34 rfl (xq_getr k_111_35 rfl h (fun r24 h => (xq_getr k_111_36 rfl h (fun r25 h => (xq_iload_n k_111_37 rfl (xq_aload_n k_111_38 rfl (xq_getr k_111_39 rfl h (fun r26 h => (xq_invv3 k_111_40 xr_503 rfl rfl rfl h (fun z28 w27 h => (xq_aastore k_111_41 h (fun w29 h => (xq_iconst k_111_42 (xq_ireturn k_111_43 h)))))))))))))))))))))))))))))) (fun h => (xq_ldcs k_111_19 (xq_invv2 k_111_20 xr_502 rfl rfl rfl h (fun z9 w8 h => (xq_istore_n k_111_21 rfl (xq_aload_n k_111_22 rfl (xq_getr k_111_23 rfl h (fun r10 h => (xq_iconst k_111_24 (xq_put k_111_25 rfl h (fun w11 h => (xq_iload_n k_111_26 rfl (xq_if_ne k_111_27 h (fun h => (xq_bipush k_111_28 (xq_aload_n k_111_29 rfl (xq_getr k_111_30 rfl h (fun r18 h => (xq_geti0 k_111_31 rfl h (fun z19 h => (xq_isub k_111_32 (xq_ireturn k_111_33 h))))))))) (fun h => (xq_aload_n k_111_34 rfl (xq_getr k_111_35 rfl h (fun r12 h => (xq_getr k_111_36 rfl h (fun r13 h => (xq_iload_n k_111_37 rfl (xq_aload_n k_111_38 rfl (xq_getr k_111_39 rfl h (fun r14 h => (xq_invv3 k_111_40 xr_503 rfl rfl rfl h (fun z16 w15 h => (xq_aastore k_111_41 h (fun w17 h => (xq_iconst k_111_42 (xq_ireturn k_111_43 h)))))))))))))))))))))))))))))))))))))))))))))))))
/-- ShodBackwards.untell(I)I -/
theorem d_112_0 : List.drop 0 xm_c112 = xm_c112 := rfl
theorem k_112_0 : xm_gi xm_c112 0 = some xm_e112_0 := xm_gt d_112_0
theorem d_112_1 : List.drop 1 xm_c112 = xm_c112_1 := xm_dr d_112_0
theorem k_112_1 : xm_gi xm_c112 1 = some xm_e112_1 := xm_gt d_112_1
theorem d_112_2 : List.drop 2 xm_c112 = xm_c112_2 := xm_dr d_112_1
theorem k_112_2 : xm_gi xm_c112 2 = some xm_e112_2 := xm_gt d_112_2
theorem d_112_3 : List.drop 3 xm_c112 = xm_c112_3 := xm_dr d_112_2
theorem k_112_3 : xm_gi xm_c112 3 = some xm_e112_3 := xm_gt d_112_3
theorem d_112_4 : List.drop 4 xm_c112 = xm_c112_4 := xm_dr d_112_3
theorem k_112_4 : xm_gi xm_c112 4 = some xm_e112_4 := xm_gt d_112_4
theorem d_112_5 : List.drop 5 xm_c112 = xm_c112_5 := xm_dr d_112_4
theorem k_112_5 : xm_gi xm_c112 5 = some xm_e112_5 := xm_gt d_112_5
theorem d_112_6 : List.drop 6 xm_c112 = xm_c112_6 := xm_dr d_112_5
theorem k_112_6 : xm_gi xm_c112 6 = some xm_e112_6 := xm_gt d_112_6
theorem d_112_7 : List.drop 7 xm_c112 = xm_c112_7 := xm_dr d_112_6
theorem k_112_7 : xm_gi xm_c112 7 = some xm_e112_7 := xm_gt d_112_7
theorem d_112_8 : List.drop 8 xm_c112 = xm_c112_8 := xm_dr d_112_7
theorem k_112_8 : xm_gi xm_c112 8 = some xm_e112_8 := xm_gt d_112_8
theorem d_112_9 : List.drop 9 xm_c112 = xm_c112_9 := xm_dr d_112_8
theorem k_112_9 : xm_gi xm_c112 9 = some xm_e112_9 := xm_gt d_112_9
theorem d_112_10 : List.drop 10 xm_c112 = xm_c112_10 := xm_dr d_112_9
theorem k_112_10 : xm_gi xm_c112 10 = some xm_e112_10 := xm_gt d_112_10
theorem d_112_11 : List.drop 11 xm_c112 = xm_c112_11 := xm_dr d_112_10
theorem k_112_11 : xm_gi xm_c112 11 = some xm_e112_11 := xm_gt d_112_11
theorem d_112_12 : List.drop 12 xm_c112 = xm_c112_12 := xm_dr d_112_11
theorem k_112_12 : xm_gi xm_c112 12 = some xm_e112_12 := xm_gt d_112_12
theorem d_112_13 : List.drop 13 xm_c112 = xm_c112_13 := xm_dr d_112_12
theorem k_112_13 : xm_gi xm_c112 13 = some xm_e112_13 := xm_gt d_112_13
theorem d_112_14 : List.drop 14 xm_c112 = xm_c112_14 := xm_dr d_112_13
theorem k_112_14 : xm_gi xm_c112 14 = some xm_e112_14 := xm_gt d_112_14
theorem d_112_15 : List.drop 15 xm_c112 = xm_c112_15 := xm_dr d_112_14
theorem k_112_15 : xm_gi xm_c112 15 = some xm_e112_15 := xm_gt d_112_15
theorem d_112_16 : List.drop 16 xm_c112 = xm_c112_16 := xm_dr d_112_15
theorem k_112_16 : xm_gi xm_c112 16 = some xm_e112_16 := xm_gt d_112_16
theorem d_112_17 : List.drop 17 xm_c112 = xm_c112_17 := xm_dr d_112_16
theorem k_112_17 : xm_gi xm_c112 17 = some xm_e112_17 := xm_gt d_112_17
theorem d_112_18 : List.drop 18 xm_c112 = xm_c112_18 := xm_dr d_112_17
theorem k_112_18 : xm_gi xm_c112 18 = some xm_e112_18 := xm_gt d_112_18
theorem d_112_19 : List.drop 19 xm_c112 = xm_c112_19 := xm_dr d_112_18
theorem k_112_19 : xm_gi xm_c112 19 = some xm_e112_19 := xm_gt d_112_19
theorem d_112_20 : List.drop 20 xm_c112 = xm_c112_20 := xm_dr d_112_19
theorem k_112_20 : xm_gi xm_c112 20 = some xm_e112_20 := xm_gt d_112_20
theorem d_112_21 : List.drop 21 xm_c112 = xm_c112_21 := xm_dr d_112_20
theorem k_112_21 : xm_gi xm_c112 21 = some xm_e112_21 := xm_gt d_112_21
theorem d_112_22 : List.drop 22 xm_c112 = xm_c112_22 := xm_dr d_112_21
theorem k_112_22 : xm_gi xm_c112 22 = some xm_e112_22 := xm_gt d_112_22
theorem d_112_23 : List.drop 23 xm_c112 = xm_c112_23 := xm_dr d_112_22
theorem k_112_23 : xm_gi xm_c112 23 = some xm_e112_23 := xm_gt d_112_23
theorem d_112_24 : List.drop 24 xm_c112 = xm_c112_24 := xm_dr d_112_23
theorem k_112_24 : xm_gi xm_c112 24 = some xm_e112_24 := xm_gt d_112_24
theorem xb_112_0 {sc : List Int} {f : Nat → List xm_V → xm_W → xm_R} {w : xm_W} {Q : Option xm_V × xm_W → Prop} {x0 : Nat} {x1 : Int}
  (h : xm_Oi (f 146 [.inl x1] w) (fun z2 w1 => if (z2 : Int) = 0 then (xm_Oi (f 139 [.inr (.inl (some x0)), .inl 1] w1) (fun z14 w13 => Q (some (.inl z14), w13))) else (xm_O (xm_fr (xm_old sc) w1 x0 8 0) (fun r3 => xm_O (xm_fr (xm_old sc) w1 r3 2 7) (fun r4 => xm_O (xm_refs (xm_old sc) w1 r4) (fun l5 => xm_O (xm_at l5 x1) (fun r6 => if (r6 : Option Nat) = none then (xm_O (xm_fr (xm_old sc) w1 x0 8 0) (fun r10 => xm_O (xm_fr (xm_old sc) w1 r10 2 7) (fun r11 => xm_O (xm_setq w1 r11 x1 none) (fun w12 => Q (some (.inl 0), w12))))) else (xm_O (xm_fr (xm_old sc) w1 x0 8 0) (fun r7 => xm_O (xm_fr (xm_old sc) w1 r7 2 7) (fun r8 => xm_O (xm_setq w1 r8 x1 none) (fun w9 => Q (some (.inl 1), w9)))))))))))) :
  xm_EQ (xm_old sc) xm_sta f xm_c112 0 [some (.inr (.inl (some x0))), some (.inl x1), none] [] w Q :=
  (xq_iload_n k_112_0 rfl (xq_invs2 k_112_1 xr_146 rfl rfl rfl h (fun z2 w1 h => (xq_if_ne k_112_2 h (fun h => (xq_aload_n k_112_3 rfl (xq_iconst k_112_4 (xq_invv1 k_112_5 xr_139 rfl rfl rfl h (fun z14 w13 h => (xq_ireturn k_112_6 h)))))) (fun h => (xq_aload_n k_112_7 rfl (xq_getr k_112_8 rfl h (fun r3 h => (xq_getr k_112_9 rfl h (fun r4 h => (xq_iload_n k_112_10 rfl (xq_aaload k_112_11 h (fun l5 h => h) (fun l5 r6 h => (xq_ifnonnull k_112_12 h (fun h => (xq_iconst k_112_13 (xq_goto k_112_14 (xq_istore_n k_112_16 rfl (xq_aload_n k_112_17 rfl (xq_getr k_112_18 rfl h (fun r10 h => (xq_getr k_112_19 rfl h (fun r11 h => (xq_iload_n k_112_20 rfl (xq_null k_112_21 (xq_aastore k_112_22 h (fun w12 h => (xq_iload_n k_112_23 rfl (xq_ireturn k_112_24 h))))))))))))))) (fun h => (xq_iconst k_112_15 (xq_istore_n k_112_16 rfl (xq_aload_n k_112_17 rfl (xq_getr k_112_18 rfl h (fun r7 h => (xq_getr k_112_19 rfl h (fun r8 h => (xq_iload_n k_112_20 rfl (xq_null k_112_21 (xq_aastore k_112_22 h (fun w9 h => (xq_iload_n k_112_23 rfl (xq_ireturn k_112_24 h))))))))))))))))))))))))))))
/-- ShodBackwards.hours(I)I -/
theorem d_113_0 : List.drop 0 xm_c113 = xm_c113 := rfl
theorem k_113_0 : xm_gi xm_c113 0 = some xm_e113_0 := xm_gt d_113_0
theorem d_113_1 : List.drop 1 xm_c113 = xm_c113_1 := xm_dr d_113_0
theorem k_113_1 : xm_gi xm_c113 1 = some xm_e113_1 := xm_gt d_113_1
theorem d_113_2 : List.drop 2 xm_c113 = xm_c113_2 := xm_dr d_113_1
theorem k_113_2 : xm_gi xm_c113 2 = some xm_e113_2 := xm_gt d_113_2
theorem d_113_3 : List.drop 3 xm_c113 = xm_c113_3 := xm_dr d_113_2
theorem k_113_3 : xm_gi xm_c113 3 = some xm_e113_3 := xm_gt d_113_3
theorem d_113_4 : List.drop 4 xm_c113 = xm_c113_4 := xm_dr d_113_3
theorem k_113_4 : xm_gi xm_c113 4 = some xm_e113_4 := xm_gt d_113_4
theorem d_113_5 : List.drop 5 xm_c113 = xm_c113_5 := xm_dr d_113_4
theorem k_113_5 : xm_gi xm_c113 5 = some xm_e113_5 := xm_gt d_113_5
theorem d_113_6 : List.drop 6 xm_c113 = xm_c113_6 := xm_dr d_113_5
theorem k_113_6 : xm_gi xm_c113 6 = some xm_e113_6 := xm_gt d_113_6
theorem d_113_7 : List.drop 7 xm_c113 = xm_c113_7 := xm_dr d_113_6
theorem k_113_7 : xm_gi xm_c113 7 = some xm_e113_7 := xm_gt d_113_7
theorem d_113_8 : List.drop 8 xm_c113 = xm_c113_8 := xm_dr d_113_7
theorem k_113_8 : xm_gi xm_c113 8 = some xm_e113_8 := xm_gt d_113_8
theorem d_113_9 : List.drop 9 xm_c113 = xm_c113_9 := xm_dr d_113_8
theorem k_113_9 : xm_gi xm_c113 9 = some xm_e113_9 := xm_gt d_113_9
theorem d_113_10 : List.drop 10 xm_c113 = xm_c113_10 := xm_dr d_113_9
theorem k_113_10 : xm_gi xm_c113 10 = some xm_e113_10 := xm_gt d_113_10
theorem d_113_11 : List.drop 11 xm_c113 = xm_c113_11 := xm_dr d_113_10
theorem k_113_11 : xm_gi xm_c113 11 = some xm_e113_11 := xm_gt d_113_11
theorem d_113_12 : List.drop 12 xm_c113 = xm_c113_12 := xm_dr d_113_11
theorem k_113_12 : xm_gi xm_c113 12 = some xm_e113_12 := xm_gt d_113_12
theorem d_113_13 : List.drop 13 xm_c113 = xm_c113_13 := xm_dr d_113_12
theorem k_113_13 : xm_gi xm_c113 13 = some xm_e113_13 := xm_gt d_113_13
theorem d_113_14 : List.drop 14 xm_c113 = xm_c113_14 := xm_dr d_113_13
theorem k_113_14 : xm_gi xm_c113 14 = some xm_e113_14 := xm_gt d_113_14
theorem d_113_15 : List.drop 15 xm_c113 = xm_c113_15 := xm_dr d_113_14
theorem k_113_15 : xm_gi xm_c113 15 = some xm_e113_15 := xm_gt d_113_15
theorem d_113_16 : List.drop 16 xm_c113 = xm_c113_16 := xm_dr d_113_15
theorem k_113_16 : xm_gi xm_c113 16 = some xm_e113_16 := xm_gt d_113_16
theorem d_113_17 : List.drop 17 xm_c113 = xm_c113_17 := xm_dr d_113_16
theorem k_113_17 : xm_gi xm_c113 17 = some xm_e113_17 := xm_gt d_113_17
theorem d_113_18 : List.drop 18 xm_c113 = xm_c113_18 := xm_dr d_113_17
theorem k_113_18 : xm_gi xm_c113 18 = some xm_e113_18 := xm_gt d_113_18
theorem d_113_19 : List.drop 19 xm_c113 = xm_c113_19 := xm_dr d_113_18
theorem k_113_19 : xm_gi xm_c113 19 = some xm_e113_19 := xm_gt d_113_19
theorem d_113_20 : List.drop 20 xm_c113 = xm_c113_20 := xm_dr d_113_19
theorem k_113_20 : xm_gi xm_c113 20 = some xm_e113_20 := xm_gt d_113_20
theorem d_113_21 : List.drop 21 xm_c113 = xm_c113_21 := xm_dr d_113_20
theorem k_113_21 : xm_gi xm_c113 21 = some xm_e113_21 := xm_gt d_113_21
theorem d_113_22 : List.drop 22 xm_c113 = xm_c113_22 := xm_dr d_113_21
theorem k_113_22 : xm_gi xm_c113 22 = some xm_e113_22 := xm_gt d_113_22
theorem d_113_23 : List.drop 23 xm_c113 = xm_c113_23 := xm_dr d_113_22
theorem k_113_23 : xm_gi xm_c113 23 = some xm_e113_23 := xm_gt d_113_23
theorem d_113_24 : List.drop 24 xm_c113 = xm_c113_24 := xm_dr d_113_23
theorem k_113_24 : xm_gi xm_c113 24 = some xm_e113_24 := xm_gt d_113_24
theorem d_113_25 : List.drop 25 xm_c113 = xm_c113_25 := xm_dr d_113_24
theorem k_113_25 : xm_gi xm_c113 25 = some xm_e113_25 := xm_gt d_113_25
theorem d_113_26 : List.drop 26 xm_c113 = xm_c113_26 := xm_dr d_113_25
theorem k_113_26 : xm_gi xm_c113 26 = some xm_e113_26 := xm_gt d_113_26
theorem d_113_27 : List.drop 27 xm_c113 = xm_c113_27 := xm_dr d_113_26
theorem k_113_27 : xm_gi xm_c113 27 = some xm_e113_27 := xm_gt d_113_27
theorem xb_113_0 {sc : List Int} {f : Nat → List xm_V → xm_W → xm_R} {w : xm_W} {Q : Option xm_V × xm_W → Prop} {x0 : Nat} {x1 : Int}
  (h : xm_Oi (f 142 [.inl x1, .inl 1, .inl 24] w) (fun z2 w1 => if (z2 : Int) = 0 then (xm_Oi (f 139 [.inr (.inl (some x0)), .inl 1] w1) (fun z12 w11 => Q (some (.inl z12), w11))) else (xm_O (xm_fr (xm_old sc) w1 x0 8 0) (fun r3 => xm_O (xm_fi (xm_old sc) w1 r3 2 2) (fun z4 => if ((xm_w (9999 - x1)) : Int) < z4 then (xm_Oi (f 139 [.inr (.inl (some x0)), .inl 3] w1) (fun z10 w9 => Q (some (.inl z10), w9))) else (xm_O (xm_fr (xm_old sc) w1 x0 8 0) (fun r5 => xm_Ov (f 404 [.inr (.inl (some r5)), .inl x1] w1) (fun w6 => xm_O (xm_fr (xm_old sc) w6 x0 8 0) (fun r7 => xm_O (xm_fi (xm_old sc) w6 r7 2 6) (fun z8 => Q (some (.inl z8), w6))))))))))) :
  xm_EQ (xm_old sc) xm_sta f xm_c113 0 [some (.inr (.inl (some x0))), some (.inl x1)] [] w Q :=
  (xq_iload_n k_113_0 rfl (xq_iconst k_113_1 (xq_bipush k_113_2 (xq_invs2 k_113_3 xr_142 rfl rfl rfl h (fun z2 w1 h => (xq_if_ne k_113_4 h (fun h => (xq_aload_n k_113_5 rfl (xq_iconst k_113_6 (xq_invv1 k_113_7 xr_139 rfl rfl rfl h (fun z12 w11 h => (xq_ireturn k_113_8 h)))))) (fun h => (xq_aload_n k_113_9 rfl (xq_getr k_113_10 rfl h (fun r3 h => (xq_geti0 k_113_11 rfl h (fun z4 h => (xq_sipush k_113_12 (xq_iload_n k_113_13 rfl (xq_isub k_113_14 (xq_ic_le k_113_15 h (fun h => (xq_aload_n k_113_16 rfl (xq_iconst k_113_17 (xq_invv1 k_113_18 xr_139 rfl rfl rfl h (fun z10 w9 h => (xq_ireturn k_113_19 h)))))) (fun h => (xq_aload_n k_113_20 rfl (xq_getr k_113_21 rfl h (fun r5 h => (xq_iload_n k_113_22 rfl (xq_invv0 k_113_23 xr_404 rfl rfl rfl h (fun w6 h => (xq_aload_n k_113_24 rfl (xq_getr k_113_25 rfl h (fun r7 h => (xq_geti0 k_113_26 rfl h (fun z8 h => (xq_ireturn k_113_27 h)))))))))))))))))))))))))))))
/-- ShodBackwards.draws(I)I -/
theorem d_114_0 : List.drop 0 xm_c114 = xm_c114 := rfl
theorem k_114_0 : xm_gi xm_c114 0 = some xm_e114_0 := xm_gt d_114_0
theorem d_114_1 : List.drop 1 xm_c114 = xm_c114_1 := xm_dr d_114_0
theorem k_114_1 : xm_gi xm_c114 1 = some xm_e114_1 := xm_gt d_114_1
theorem d_114_2 : List.drop 2 xm_c114 = xm_c114_2 := xm_dr d_114_1
theorem k_114_2 : xm_gi xm_c114 2 = some xm_e114_2 := xm_gt d_114_2
theorem d_114_3 : List.drop 3 xm_c114 = xm_c114_3 := xm_dr d_114_2
theorem k_114_3 : xm_gi xm_c114 3 = some xm_e114_3 := xm_gt d_114_3
theorem d_114_4 : List.drop 4 xm_c114 = xm_c114_4 := xm_dr d_114_3
theorem k_114_4 : xm_gi xm_c114 4 = some xm_e114_4 := xm_gt d_114_4
theorem d_114_5 : List.drop 5 xm_c114 = xm_c114_5 := xm_dr d_114_4
theorem k_114_5 : xm_gi xm_c114 5 = some xm_e114_5 := xm_gt d_114_5
theorem d_114_6 : List.drop 6 xm_c114 = xm_c114_6 := xm_dr d_114_5
theorem k_114_6 : xm_gi xm_c114 6 = some xm_e114_6 := xm_gt d_114_6
theorem d_114_7 : List.drop 7 xm_c114 = xm_c114_7 := xm_dr d_114_6
theorem k_114_7 : xm_gi xm_c114 7 = some xm_e114_7 := xm_gt d_114_7
theorem d_114_8 : List.drop 8 xm_c114 = xm_c114_8 := xm_dr d_114_7
theorem k_114_8 : xm_gi xm_c114 8 = some xm_e114_8 := xm_gt d_114_8
theorem d_114_9 : List.drop 9 xm_c114 = xm_c114_9 := xm_dr d_114_8
theorem k_114_9 : xm_gi xm_c114 9 = some xm_e114_9 := xm_gt d_114_9
theorem d_114_10 : List.drop 10 xm_c114 = xm_c114_10 := xm_dr d_114_9
theorem k_114_10 : xm_gi xm_c114 10 = some xm_e114_10 := xm_gt d_114_10
theorem d_114_11 : List.drop 11 xm_c114 = xm_c114_11 := xm_dr d_114_10
theorem k_114_11 : xm_gi xm_c114 11 = some xm_e114_11 := xm_gt d_114_11
theorem d_114_12 : List.drop 12 xm_c114 = xm_c114_12 := xm_dr d_114_11
theorem k_114_12 : xm_gi xm_c114 12 = some xm_e114_12 := xm_gt d_114_12
theorem d_114_13 : List.drop 13 xm_c114 = xm_c114_13 := xm_dr d_114_12
theorem k_114_13 : xm_gi xm_c114 13 = some xm_e114_13 := xm_gt d_114_13
theorem d_114_14 : List.drop 14 xm_c114 = xm_c114_14 := xm_dr d_114_13
theorem k_114_14 : xm_gi xm_c114 14 = some xm_e114_14 := xm_gt d_114_14
theorem d_114_15 : List.drop 15 xm_c114 = xm_c114_15 := xm_dr d_114_14
theorem k_114_15 : xm_gi xm_c114 15 = some xm_e114_15 := xm_gt d_114_15
theorem d_114_16 : List.drop 16 xm_c114 = xm_c114_16 := xm_dr d_114_15
theorem k_114_16 : xm_gi xm_c114 16 = some xm_e114_16 := xm_gt d_114_16
theorem d_114_17 : List.drop 17 xm_c114 = xm_c114_17 := xm_dr d_114_16
theorem k_114_17 : xm_gi xm_c114 17 = some xm_e114_17 := xm_gt d_114_17
theorem d_114_18 : List.drop 18 xm_c114 = xm_c114_18 := xm_dr d_114_17
theorem k_114_18 : xm_gi xm_c114 18 = some xm_e114_18 := xm_gt d_114_18
theorem d_114_19 : List.drop 19 xm_c114 = xm_c114_19 := xm_dr d_114_18
theorem k_114_19 : xm_gi xm_c114 19 = some xm_e114_19 := xm_gt d_114_19
theorem d_114_20 : List.drop 20 xm_c114 = xm_c114_20 := xm_dr d_114_19
theorem k_114_20 : xm_gi xm_c114 20 = some xm_e114_20 := xm_gt d_114_20
theorem d_114_21 : List.drop 21 xm_c114 = xm_c114_21 := xm_dr d_114_20
theorem k_114_21 : xm_gi xm_c114 21 = some xm_e114_21 := xm_gt d_114_21
theorem d_114_22 : List.drop 22 xm_c114 = xm_c114_22 := xm_dr d_114_21
theorem k_114_22 : xm_gi xm_c114 22 = some xm_e114_22 := xm_gt d_114_22
theorem d_114_23 : List.drop 23 xm_c114 = xm_c114_23 := xm_dr d_114_22
theorem k_114_23 : xm_gi xm_c114 23 = some xm_e114_23 := xm_gt d_114_23
theorem d_114_24 : List.drop 24 xm_c114 = xm_c114_24 := xm_dr d_114_23
theorem k_114_24 : xm_gi xm_c114 24 = some xm_e114_24 := xm_gt d_114_24
theorem d_114_25 : List.drop 25 xm_c114 = xm_c114_25 := xm_dr d_114_24
theorem k_114_25 : xm_gi xm_c114 25 = some xm_e114_25 := xm_gt d_114_25
theorem d_114_26 : List.drop 26 xm_c114 = xm_c114_26 := xm_dr d_114_25
theorem k_114_26 : xm_gi xm_c114 26 = some xm_e114_26 := xm_gt d_114_26
theorem d_114_27 : List.drop 27 xm_c114 = xm_c114_27 := xm_dr d_114_26
theorem k_114_27 : xm_gi xm_c114 27 = some xm_e114_27 := xm_gt d_114_27
theorem d_114_28 : List.drop 28 xm_c114 = xm_c114_28 := xm_dr d_114_27
theorem k_114_28 : xm_gi xm_c114 28 = some xm_e114_28 := xm_gt d_114_28
theorem d_114_29 : List.drop 29 xm_c114 = xm_c114_29 := xm_dr d_114_28
theorem k_114_29 : xm_gi xm_c114 29 = some xm_e114_29 := xm_gt d_114_29
theorem d_114_30 : List.drop 30 xm_c114 = xm_c114_30 := xm_dr d_114_29
theorem k_114_30 : xm_gi xm_c114 30 = some xm_e114_30 := xm_gt d_114_30
theorem d_114_31 : List.drop 31 xm_c114 = xm_c114_31 := xm_dr d_114_30
theorem k_114_31 : xm_gi xm_c114 31 = some xm_e114_31 := xm_gt d_114_31
theorem d_114_32 : List.drop 32 xm_c114 = xm_c114_32 := xm_dr d_114_31
theorem k_114_32 : xm_gi xm_c114 32 = some xm_e114_32 := xm_gt d_114_32
theorem d_114_33 : List.drop 33 xm_c114 = xm_c114_33 := xm_dr d_114_32
theorem k_114_33 : xm_gi xm_c114 33 = some xm_e114_33 := xm_gt d_114_33
theorem d_114_34 : List.drop 34 xm_c114 = xm_c114_34 := xm_dr d_114_33
theorem k_114_34 : xm_gi xm_c114 34 = some xm_e114_34 := xm_gt d_114_34
theorem d_114_35 : List.drop 35 xm_c114 = xm_c114_35 := xm_dr d_114_34
theorem k_114_35 : xm_gi xm_c114 35 = some xm_e114_35 := xm_gt d_114_35
theorem d_114_36 : List.drop 36 xm_c114 = xm_c114_36 := xm_dr d_114_35
theorem k_114_36 : xm_gi xm_c114 36 = some xm_e114_36 := xm_gt d_114_36
theorem d_114_37 : List.drop 37 xm_c114 = xm_c114_37 := xm_dr d_114_36
theorem k_114_37 : xm_gi xm_c114 37 = some xm_e114_37 := xm_gt d_114_37
theorem d_114_38 : List.drop 38 xm_c114 = xm_c114_38 := xm_dr d_114_37
theorem k_114_38 : xm_gi xm_c114 38 = some xm_e114_38 := xm_gt d_114_38
theorem d_114_39 : List.drop 39 xm_c114 = xm_c114_39 := xm_dr d_114_38
theorem k_114_39 : xm_gi xm_c114 39 = some xm_e114_39 := xm_gt d_114_39
theorem d_114_40 : List.drop 40 xm_c114 = xm_c114_40 := xm_dr d_114_39
theorem k_114_40 : xm_gi xm_c114 40 = some xm_e114_40 := xm_gt d_114_40
theorem d_114_41 : List.drop 41 xm_c114 = xm_c114_41 := xm_dr d_114_40
theorem k_114_41 : xm_gi xm_c114 41 = some xm_e114_41 := xm_gt d_114_41
theorem xb_114_0 {sc : List Int} {f : Nat → List xm_V → xm_W → xm_R} {w : xm_W} {Q : Option xm_V × xm_W → Prop} {x0 : Nat} {x1 : Int}
  (h : xm_Oi (f 142 [.inl x1, .inl 1, .inl 24] w) (fun z2 w1 => if (z2 : Int) = 0 then (xm_Oi (f 139 [.inr (.inl (some x0)), .inl 1] w1) (fun z8 w7 => Q (some (.inl z8), w7))) else (xm_O (xm_fr (xm_old sc) w1 x0 8 0) (fun r3 => xm_O (xm_fi (xm_old sc) w1 r3 2 2) (fun z4 => if ((xm_w (9999 - x1)) : Int) < z4 then (xm_Oi (f 139 [.inr (.inl (some x0)), .inl 3] w1) (fun z6 w5 => Q (some (.inl z6), w5))) else (xm_EQ (xm_old sc) xm_sta f xm_c114 22 [some (.inr (.inl (some x0))), some (.inl x1), some (.inl 0)] [] w1 Q)))))) :
  xm_EQ (xm_old sc) xm_sta f xm_c114 0 [some (.inr (.inl (some x0))), some (.inl x1), none] [] w Q :=
  (xq_iload_n k_114_0 rfl (xq_iconst k_114_1 (xq_bipush k_114_2 (xq_invs2 k_114_3 xr_142 rfl rfl rfl h (fun z2 w1 h => (xq_if_ne k_114_4 h (fun h => (xq_aload_n k_114_5 rfl (xq_iconst k_114_6 (xq_invv1 k_114_7 xr_139 rfl rfl rfl h (fun z8 w7 h => (xq_ireturn k_114_8 h)))))) (fun h => (xq_aload_n k_114_9 rfl (xq_getr k_114_10 rfl h (fun r3 h => (xq_geti0 k_114_11 rfl h (fun z4 h => (xq_sipush k_114_12 (xq_iload_n k_114_13 rfl (xq_isub k_114_14 (xq_ic_le k_114_15 h (fun h => (xq_aload_n k_114_16 rfl (xq_iconst k_114_17 (xq_invv1 k_114_18 xr_139 rfl rfl rfl h (fun z6 w5 h => (xq_ireturn k_114_19 h)))))) (fun h => (xq_iconst k_114_20 (xq_istore_n k_114_21 rfl h)))))))))))))))))))
theorem xb_114_22 {sc : List Int} {f : Nat → List xm_V → xm_W → xm_R} {w : xm_W} {Q : Option xm_V × xm_W → Prop} {x0 : Nat} {x1 : Int} {x2 : Int}
  (h : if (x2 : Int) < x1 then (xm_O (xm_fr (xm_old sc) w x0 8 0) (fun r3 => xm_Ov (f 405 [.inr (.inl (some r3))] w) (fun w4 => xm_O (xm_fr (xm_old sc) w4 x0 8 0) (fun r5 => xm_O (xm_fr (xm_old sc) w4 x0 8 2) (fun r6 => xm_Oi (f 303 [.inr (.inl (some r6))] w4) (fun z8 w7 => (36 : Int) ≠ 0 ∧ (xm_Ov (f 410 [.inr (.inl (some r5)), .inl (Int.tmod z8 36)] w7) (fun w9 => xm_EQ (xm_old sc) xm_sta f xm_c114 22 [some (.inr (.inl (some x0))), some (.inl x1), some (.inl (xm_w (x2 + 1)))] [] w9 Q)))))))) else (xm_O (xm_fr (xm_old sc) w x0 8 0) (fun r1 => xm_O (xm_fi (xm_old sc) w r1 2 6) (fun z2 => Q (some (.inl z2), w))))) :
  xm_EQ (xm_old sc) xm_sta f xm_c114 22 [some (.inr (.inl (some x0))), some (.inl x1), some (.inl x2)] [] w Q :=
  (xq_iload_n k_114_22 rfl (xq_iload_n k_114_23 rfl (xq_ic_ge k_114_24 h (fun h => (xq_aload_n k_114_25 rfl (xq_getr k_114_26 rfl h (fun r3 h => (xq_invv0 k_114_27 xr_405 rfl rfl rfl h (fun w4 h => (xq_aload_n k_114_28 rfl (xq_getr k_114_29 rfl h (fun r5 h => (xq_aload_n k_114_30 rfl (xq_getr k_114_31 rfl h (fun r6 h => (xq_invv1 k_114_32 xr_303 rfl rfl rfl h (fun z8 w7 h => (xq_bipush k_114_33 (xq_irem k_114_34 h (fun h => (xq_invv0 k_114_35 xr_410 rfl rfl rfl h (fun w9 h => (xq_iinc k_114_36 rfl rfl (xq_goto k_114_37 h))))))))))))))))))))) (fun h => (xq_aload_n k_114_38 rfl (xq_getr k_114_39 rfl h (fun r1 h => (xq_geti0 k_114_40 rfl h (fun z2 h => (xq_ireturn k_114_41 h))))))))))
/-- ShodBackwards.seed(I)I -/
theorem d_115_0 : List.drop 0 xm_c115 = xm_c115 := rfl
theorem k_115_0 : xm_gi xm_c115 0 = some xm_e115_0 := xm_gt d_115_0
theorem d_115_1 : List.drop 1 xm_c115 = xm_c115_1 := xm_dr d_115_0
theorem k_115_1 : xm_gi xm_c115 1 = some xm_e115_1 := xm_gt d_115_1
theorem d_115_2 : List.drop 2 xm_c115 = xm_c115_2 := xm_dr d_115_1
theorem k_115_2 : xm_gi xm_c115 2 = some xm_e115_2 := xm_gt d_115_2
theorem d_115_3 : List.drop 3 xm_c115 = xm_c115_3 := xm_dr d_115_2
theorem k_115_3 : xm_gi xm_c115 3 = some xm_e115_3 := xm_gt d_115_3
theorem d_115_4 : List.drop 4 xm_c115 = xm_c115_4 := xm_dr d_115_3
theorem k_115_4 : xm_gi xm_c115 4 = some xm_e115_4 := xm_gt d_115_4
theorem d_115_5 : List.drop 5 xm_c115 = xm_c115_5 := xm_dr d_115_4
theorem k_115_5 : xm_gi xm_c115 5 = some xm_e115_5 := xm_gt d_115_5
theorem d_115_6 : List.drop 6 xm_c115 = xm_c115_6 := xm_dr d_115_5
theorem k_115_6 : xm_gi xm_c115 6 = some xm_e115_6 := xm_gt d_115_6
theorem d_115_7 : List.drop 7 xm_c115 = xm_c115_7 := xm_dr d_115_6
theorem k_115_7 : xm_gi xm_c115 7 = some xm_e115_7 := xm_gt d_115_7
theorem d_115_8 : List.drop 8 xm_c115 = xm_c115_8 := xm_dr d_115_7
theorem k_115_8 : xm_gi xm_c115 8 = some xm_e115_8 := xm_gt d_115_8
theorem d_115_9 : List.drop 9 xm_c115 = xm_c115_9 := xm_dr d_115_8
theorem k_115_9 : xm_gi xm_c115 9 = some xm_e115_9 := xm_gt d_115_9
theorem xb_115_0 {sc : List Int} {f : Nat → List xm_V → xm_W → xm_R} {w : xm_W} {Q : Option xm_V × xm_W → Prop} {x0 : Nat} {x1 : Int}
  (h : xm_O (xm_fr (xm_old sc) w x0 8 2) (fun r1 => xm_O (xm_fi (xm_old sc) w r1 1 4) (fun z2 => xm_O (xm_fr (xm_old sc) w x0 8 2) (fun r3 => xm_O (xm_setf w r3 1 4 0 (.inl x1)) (fun w4 => Q (some (.inl z2), w4)))))) :
  xm_EQ (xm_old sc) xm_sta f xm_c115 0 [some (.inr (.inl (some x0))), some (.inl x1), none] [] w Q :=
  (xq_aload_n k_115_0 rfl (xq_getr k_115_1 rfl h (fun r1 h => (xq_geti0 k_115_2 rfl h (fun z2 h => (xq_istore_n k_115_3 rfl (xq_aload_n k_115_4 rfl (xq_getr k_115_5 rfl h (fun r3 h => (xq_iload_n k_115_6 rfl (xq_put k_115_7 rfl h (fun w4 h => (xq_iload_n k_115_8 rfl (xq_ireturn k_115_9 h))))))))))))))
/-- ShodBackwards.print(II)I -/
theorem d_116_0 : List.drop 0 xm_c116 = xm_c116 := rfl
theorem k_116_0 : xm_gi xm_c116 0 = some xm_e116_0 := xm_gt d_116_0
theorem d_116_1 : List.drop 1 xm_c116 = xm_c116_1 := xm_dr d_116_0
theorem k_116_1 : xm_gi xm_c116 1 = some xm_e116_1 := xm_gt d_116_1
theorem d_116_2 : List.drop 2 xm_c116 = xm_c116_2 := xm_dr d_116_1
theorem k_116_2 : xm_gi xm_c116 2 = some xm_e116_2 := xm_gt d_116_2
theorem d_116_3 : List.drop 3 xm_c116 = xm_c116_3 := xm_dr d_116_2
theorem k_116_3 : xm_gi xm_c116 3 = some xm_e116_3 := xm_gt d_116_3
theorem d_116_4 : List.drop 4 xm_c116 = xm_c116_4 := xm_dr d_116_3
theorem k_116_4 : xm_gi xm_c116 4 = some xm_e116_4 := xm_gt d_116_4
theorem d_116_5 : List.drop 5 xm_c116 = xm_c116_5 := xm_dr d_116_4
theorem k_116_5 : xm_gi xm_c116 5 = some xm_e116_5 := xm_gt d_116_5
theorem d_116_6 : List.drop 6 xm_c116 = xm_c116_6 := xm_dr d_116_5
theorem k_116_6 : xm_gi xm_c116 6 = some xm_e116_6 := xm_gt d_116_6
theorem d_116_7 : List.drop 7 xm_c116 = xm_c116_7 := xm_dr d_116_6
theorem k_116_7 : xm_gi xm_c116 7 = some xm_e116_7 := xm_gt d_116_7
theorem d_116_8 : List.drop 8 xm_c116 = xm_c116_8 := xm_dr d_116_7
theorem k_116_8 : xm_gi xm_c116 8 = some xm_e116_8 := xm_gt d_116_8
theorem d_116_9 : List.drop 9 xm_c116 = xm_c116_9 := xm_dr d_116_8
theorem k_116_9 : xm_gi xm_c116 9 = some xm_e116_9 := xm_gt d_116_9
theorem d_116_10 : List.drop 10 xm_c116 = xm_c116_10 := xm_dr d_116_9
theorem k_116_10 : xm_gi xm_c116 10 = some xm_e116_10 := xm_gt d_116_10
theorem d_116_11 : List.drop 11 xm_c116 = xm_c116_11 := xm_dr d_116_10
theorem k_116_11 : xm_gi xm_c116 11 = some xm_e116_11 := xm_gt d_116_11
theorem d_116_12 : List.drop 12 xm_c116 = xm_c116_12 := xm_dr d_116_11
theorem k_116_12 : xm_gi xm_c116 12 = some xm_e116_12 := xm_gt d_116_12
theorem d_116_13 : List.drop 13 xm_c116 = xm_c116_13 := xm_dr d_116_12
theorem k_116_13 : xm_gi xm_c116 13 = some xm_e116_13 := xm_gt d_116_13
theorem d_116_14 : List.drop 14 xm_c116 = xm_c116_14 := xm_dr d_116_13
theorem k_116_14 : xm_gi xm_c116 14 = some xm_e116_14 := xm_gt d_116_14
theorem d_116_15 : List.drop 15 xm_c116 = xm_c116_15 := xm_dr d_116_14
theorem k_116_15 : xm_gi xm_c116 15 = some xm_e116_15 := xm_gt d_116_15
theorem d_116_16 : List.drop 16 xm_c116 = xm_c116_16 := xm_dr d_116_15
theorem k_116_16 : xm_gi xm_c116 16 = some xm_e116_16 := xm_gt d_116_16
theorem d_116_17 : List.drop 17 xm_c116 = xm_c116_17 := xm_dr d_116_16
theorem k_116_17 : xm_gi xm_c116 17 = some xm_e116_17 := xm_gt d_116_17
theorem d_116_18 : List.drop 18 xm_c116 = xm_c116_18 := xm_dr d_116_17
theorem k_116_18 : xm_gi xm_c116 18 = some xm_e116_18 := xm_gt d_116_18
theorem d_116_19 : List.drop 19 xm_c116 = xm_c116_19 := xm_dr d_116_18
theorem k_116_19 : xm_gi xm_c116 19 = some xm_e116_19 := xm_gt d_116_19
theorem d_116_20 : List.drop 20 xm_c116 = xm_c116_20 := xm_dr d_116_19
theorem k_116_20 : xm_gi xm_c116 20 = some xm_e116_20 := xm_gt d_116_20
theorem d_116_21 : List.drop 21 xm_c116 = xm_c116_21 := xm_dr d_116_20
theorem k_116_21 : xm_gi xm_c116 21 = some xm_e116_21 := xm_gt d_116_21
theorem d_116_22 : List.drop 22 xm_c116 = xm_c116_22 := xm_dr d_116_21
theorem k_116_22 : xm_gi xm_c116 22 = some xm_e116_22 := xm_gt d_116_22
theorem d_116_23 : List.drop 23 xm_c116 = xm_c116_23 := xm_dr d_116_22
theorem k_116_23 : xm_gi xm_c116 23 = some xm_e116_23 := xm_gt d_116_23
theorem d_116_24 : List.drop 24 xm_c116 = xm_c116_24 := xm_dr d_116_23
theorem k_116_24 : xm_gi xm_c116 24 = some xm_e116_24 := xm_gt d_116_24
theorem d_116_25 : List.drop 25 xm_c116 = xm_c116_25 := xm_dr d_116_24
theorem k_116_25 : xm_gi xm_c116 25 = some xm_e116_25 := xm_gt d_116_25
theorem d_116_26 : List.drop 26 xm_c116 = xm_c116_26 := xm_dr d_116_25
theorem k_116_26 : xm_gi xm_c116 26 = some xm_e116_26 := xm_gt d_116_26
theorem d_116_27 : List.drop 27 xm_c116 = xm_c116_27 := xm_dr d_116_26
theorem k_116_27 : xm_gi xm_c116 27 = some xm_e116_27 := xm_gt d_116_27
theorem xb_116_0 {sc : List Int} {f : Nat → List xm_V → xm_W → xm_R} {w : xm_W} {Q : Option xm_V × xm_W → Prop} {x0 : Nat} {x1 : Int} {x2 : Int}
  (h : xm_O (xm_fr (xm_old sc) w x0 8 0) (fun r1 => xm_O (xm_fi (xm_old sc) w r1 2 6) (fun z2 => xm_Oi (f 142 [.inl x1, .inl 0, .inl (xm_w (z2 - 1))] w) (fun z4 w3 => if (z4 : Int) = 0 then (xm_Oi (f 139 [.inr (.inl (some x0)), .inl 1] w3) (fun z6 w5 => Q (some (.inl z6), w5))) else (xm_Oi (f 142 [.inl x2, .inl 0, .inl 4] w3) (fun z8 w7 => if (z8 : Int) = 0 then (xm_Oi (f 139 [.inr (.inl (some x0)), .inl 1] w7) (fun z14 w13 => Q (some (.inl z14), w13))) else (xm_O (xm_fr (xm_old sc) w7 x0 8 0) (fun r9 => xm_O (xm_fr (xm_old sc) w7 r9 2 5) (fun r10 => xm_O (xm_ints (xm_old sc) w7 r10) (fun l11 => xm_O (xm_at l11 (xm_w ((xm_w (x1 * 5)) + x2))) (fun z12 => Q (some (.inl z12), w7)))))))))))) :
  xm_EQ (xm_old sc) xm_sta f xm_c116 0 [some (.inr (.inl (some x0))), some (.inl x1), some (.inl x2)] [] w Q :=
  (xq_iload_n k_116_0 rfl (xq_iconst k_116_1 (xq_aload_n k_116_2 rfl (xq_getr k_116_3 rfl h (fun r1 h => (xq_geti0 k_116_4 rfl h (fun z2 h => (xq_iconst k_116_5 (xq_isub k_116_6 (xq_invs2 k_116_7 xr_142 rfl rfl rfl h (fun z4 w3 h => (xq_if_eq k_116_8 h (fun h => (xq_aload_n k_116_14 rfl (xq_iconst k_116_15 (xq_invv1 k_116_16 xr_139 rfl rfl rfl h (fun z6 w5 h => (xq_ireturn k_116_17 h)))))) (fun h => (xq_iload_n k_116_9 rfl (xq_iconst k_116_10 (xq_iconst k_116_11 (xq_invs2 k_116_12 xr_142 rfl rfl rfl h (fun z8 w7 h => (xq_if_ne k_116_13 h (fun h => (xq_aload_n k_116_14 rfl (xq_iconst k_116_15 (xq_invv1 k_116_16 xr_139 rfl rfl rfl h (fun z14 w13 h => (xq_ireturn k_116_17 h)))))) (fun h => (xq_aload_n k_116_18 rfl (xq_getr k_116_19 rfl h (fun r9 h => (xq_getr k_116_20 rfl h (fun r10 h => (xq_iload_n k_116_21 rfl (xq_iconst k_116_22 (xq_imul k_116_23 (xq_iload_n k_116_24 rfl (xq_iadd k_116_25 (xq_iaload k_116_26 h (fun l11 h => h) (fun l11 z12 h => (xq_ireturn k_116_27 h)))))))))))))))))))))))))))))))))
/-- ShodBackwards.cellIs(II)I -/
theorem d_117_0 : List.drop 0 xm_c117 = xm_c117 := rfl
theorem k_117_0 : xm_gi xm_c117 0 = some xm_e117_0 := xm_gt d_117_0
theorem d_117_1 : List.drop 1 xm_c117 = xm_c117_1 := xm_dr d_117_0
theorem k_117_1 : xm_gi xm_c117 1 = some xm_e117_1 := xm_gt d_117_1
theorem d_117_2 : List.drop 2 xm_c117 = xm_c117_2 := xm_dr d_117_1
theorem k_117_2 : xm_gi xm_c117 2 = some xm_e117_2 := xm_gt d_117_2
theorem d_117_3 : List.drop 3 xm_c117 = xm_c117_3 := xm_dr d_117_2
theorem k_117_3 : xm_gi xm_c117 3 = some xm_e117_3 := xm_gt d_117_3
theorem d_117_4 : List.drop 4 xm_c117 = xm_c117_4 := xm_dr d_117_3
theorem k_117_4 : xm_gi xm_c117 4 = some xm_e117_4 := xm_gt d_117_4
theorem d_117_5 : List.drop 5 xm_c117 = xm_c117_5 := xm_dr d_117_4
theorem k_117_5 : xm_gi xm_c117 5 = some xm_e117_5 := xm_gt d_117_5
theorem d_117_6 : List.drop 6 xm_c117 = xm_c117_6 := xm_dr d_117_5
theorem k_117_6 : xm_gi xm_c117 6 = some xm_e117_6 := xm_gt d_117_6
theorem d_117_7 : List.drop 7 xm_c117 = xm_c117_7 := xm_dr d_117_6
theorem k_117_7 : xm_gi xm_c117 7 = some xm_e117_7 := xm_gt d_117_7
theorem d_117_8 : List.drop 8 xm_c117 = xm_c117_8 := xm_dr d_117_7
theorem k_117_8 : xm_gi xm_c117 8 = some xm_e117_8 := xm_gt d_117_8
theorem d_117_9 : List.drop 9 xm_c117 = xm_c117_9 := xm_dr d_117_8
theorem k_117_9 : xm_gi xm_c117 9 = some xm_e117_9 := xm_gt d_117_9
theorem d_117_10 : List.drop 10 xm_c117 = xm_c117_10 := xm_dr d_117_9
theorem k_117_10 : xm_gi xm_c117 10 = some xm_e117_10 := xm_gt d_117_10
theorem d_117_11 : List.drop 11 xm_c117 = xm_c117_11 := xm_dr d_117_10
theorem k_117_11 : xm_gi xm_c117 11 = some xm_e117_11 := xm_gt d_117_11
theorem d_117_12 : List.drop 12 xm_c117 = xm_c117_12 := xm_dr d_117_11
theorem k_117_12 : xm_gi xm_c117 12 = some xm_e117_12 := xm_gt d_117_12
theorem d_117_13 : List.drop 13 xm_c117 = xm_c117_13 := xm_dr d_117_12
theorem k_117_13 : xm_gi xm_c117 13 = some xm_e117_13 := xm_gt d_117_13
theorem d_117_14 : List.drop 14 xm_c117 = xm_c117_14 := xm_dr d_117_13
theorem k_117_14 : xm_gi xm_c117 14 = some xm_e117_14 := xm_gt d_117_14
theorem d_117_15 : List.drop 15 xm_c117 = xm_c117_15 := xm_dr d_117_14
theorem k_117_15 : xm_gi xm_c117 15 = some xm_e117_15 := xm_gt d_117_15
theorem xb_117_0 {sc : List Int} {f : Nat → List xm_V → xm_W → xm_R} {w : xm_W} {Q : Option xm_V × xm_W → Prop} {x0 : Nat} {x1 : Int} {x2 : Int}
  (h : xm_Oi (f 143 [.inl x1] w) (fun z2 w1 => if (z2 : Int) = 0 then (xm_Oi (f 139 [.inr (.inl (some x0)), .inl 1] w1) (fun z4 w3 => Q (some (.inl z4), w3))) else (xm_Oi (f 145 [.inl x2] w1) (fun z6 w5 => if (z6 : Int) = 0 then (xm_Oi (f 139 [.inr (.inl (some x0)), .inl 1] w5) (fun z11 w10 => Q (some (.inl z11), w10))) else (xm_O (xm_fr (xm_old sc) w5 x0 8 0) (fun r7 => xm_Oi (f 413 [.inr (.inl (some r7)), .inl x1, .inl x2] w5) (fun z9 w8 => Q (some (.inl z9), w8)))))))) :
  xm_EQ (xm_old sc) xm_sta f xm_c117 0 [some (.inr (.inl (some x0))), some (.inl x1), some (.inl x2)] [] w Q :=
  (xq_iload_n k_117_0 rfl (xq_invs2 k_117_1 xr_143 rfl rfl rfl h (fun z2 w1 h => (xq_if_eq k_117_2 h (fun h => (xq_aload_n k_117_6 rfl (xq_iconst k_117_7 (xq_invv1 k_117_8 xr_139 rfl rfl rfl h (fun z4 w3 h => (xq_ireturn k_117_9 h)))))) (fun h => (xq_iload_n k_117_3 rfl (xq_invs2 k_117_4 xr_145 rfl rfl rfl h (fun z6 w5 h => (xq_if_ne k_117_5 h (fun h => (xq_aload_n k_117_6 rfl (xq_iconst k_117_7 (xq_invv1 k_117_8 xr_139 rfl rfl rfl h (fun z11 w10 h => (xq_ireturn k_117_9 h)))))) (fun h => (xq_aload_n k_117_10 rfl (xq_getr k_117_11 rfl h (fun r7 h => (xq_iload_n k_117_12 rfl (xq_iload_n k_117_13 rfl (xq_invv1 k_117_14 xr_413 rfl rfl rfl h (fun z9 w8 h => (xq_ireturn k_117_15 h))))))))))))))))))
/-- ShodBackwards.follow(IIII)I -/
theorem d_118_0 : List.drop 0 xm_c118 = xm_c118 := rfl
theorem k_118_0 : xm_gi xm_c118 0 = some xm_e118_0 := xm_gt d_118_0
theorem d_118_1 : List.drop 1 xm_c118 = xm_c118_1 := xm_dr d_118_0
theorem k_118_1 : xm_gi xm_c118 1 = some xm_e118_1 := xm_gt d_118_1
theorem d_118_2 : List.drop 2 xm_c118 = xm_c118_2 := xm_dr d_118_1
theorem k_118_2 : xm_gi xm_c118 2 = some xm_e118_2 := xm_gt d_118_2
theorem d_118_3 : List.drop 3 xm_c118 = xm_c118_3 := xm_dr d_118_2
theorem k_118_3 : xm_gi xm_c118 3 = some xm_e118_3 := xm_gt d_118_3
theorem d_118_4 : List.drop 4 xm_c118 = xm_c118_4 := xm_dr d_118_3
theorem k_118_4 : xm_gi xm_c118 4 = some xm_e118_4 := xm_gt d_118_4
theorem d_118_5 : List.drop 5 xm_c118 = xm_c118_5 := xm_dr d_118_4
theorem k_118_5 : xm_gi xm_c118 5 = some xm_e118_5 := xm_gt d_118_5
theorem d_118_6 : List.drop 6 xm_c118 = xm_c118_6 := xm_dr d_118_5
theorem k_118_6 : xm_gi xm_c118 6 = some xm_e118_6 := xm_gt d_118_6
theorem d_118_7 : List.drop 7 xm_c118 = xm_c118_7 := xm_dr d_118_6
theorem k_118_7 : xm_gi xm_c118 7 = some xm_e118_7 := xm_gt d_118_7
theorem d_118_8 : List.drop 8 xm_c118 = xm_c118_8 := xm_dr d_118_7
theorem k_118_8 : xm_gi xm_c118 8 = some xm_e118_8 := xm_gt d_118_8
theorem d_118_9 : List.drop 9 xm_c118 = xm_c118_9 := xm_dr d_118_8
theorem k_118_9 : xm_gi xm_c118 9 = some xm_e118_9 := xm_gt d_118_9
theorem d_118_10 : List.drop 10 xm_c118 = xm_c118_10 := xm_dr d_118_9
theorem k_118_10 : xm_gi xm_c118 10 = some xm_e118_10 := xm_gt d_118_10
theorem d_118_11 : List.drop 11 xm_c118 = xm_c118_11 := xm_dr d_118_10
theorem k_118_11 : xm_gi xm_c118 11 = some xm_e118_11 := xm_gt d_118_11
theorem d_118_12 : List.drop 12 xm_c118 = xm_c118_12 := xm_dr d_118_11
theorem k_118_12 : xm_gi xm_c118 12 = some xm_e118_12 := xm_gt d_118_12
theorem d_118_13 : List.drop 13 xm_c118 = xm_c118_13 := xm_dr d_118_12
theorem k_118_13 : xm_gi xm_c118 13 = some xm_e118_13 := xm_gt d_118_13
theorem d_118_14 : List.drop 14 xm_c118 = xm_c118_14 := xm_dr d_118_13
theorem k_118_14 : xm_gi xm_c118 14 = some xm_e118_14 := xm_gt d_118_14
theorem d_118_15 : List.drop 15 xm_c118 = xm_c118_15 := xm_dr d_118_14
theorem k_118_15 : xm_gi xm_c118 15 = some xm_e118_15 := xm_gt d_118_15
theorem d_118_16 : List.drop 16 xm_c118 = xm_c118_16 := xm_dr d_118_15
theorem k_118_16 : xm_gi xm_c118 16 = some xm_e118_16 := xm_gt d_118_16
theorem d_118_17 : List.drop 17 xm_c118 = xm_c118_17 := xm_dr d_118_16
theorem k_118_17 : xm_gi xm_c118 17 = some xm_e118_17 := xm_gt d_118_17
theorem d_118_18 : List.drop 18 xm_c118 = xm_c118_18 := xm_dr d_118_17
theorem k_118_18 : xm_gi xm_c118 18 = some xm_e118_18 := xm_gt d_118_18
theorem d_118_19 : List.drop 19 xm_c118 = xm_c118_19 := xm_dr d_118_18
theorem k_118_19 : xm_gi xm_c118 19 = some xm_e118_19 := xm_gt d_118_19
theorem d_118_20 : List.drop 20 xm_c118 = xm_c118_20 := xm_dr d_118_19
theorem k_118_20 : xm_gi xm_c118 20 = some xm_e118_20 := xm_gt d_118_20
theorem d_118_21 : List.drop 21 xm_c118 = xm_c118_21 := xm_dr d_118_20
theorem k_118_21 : xm_gi xm_c118 21 = some xm_e118_21 := xm_gt d_118_21
theorem d_118_22 : List.drop 22 xm_c118 = xm_c118_22 := xm_dr d_118_21
theorem k_118_22 : xm_gi xm_c118 22 = some xm_e118_22 := xm_gt d_118_22
theorem d_118_23 : List.drop 23 xm_c118 = xm_c118_23 := xm_dr d_118_22
theorem k_118_23 : xm_gi xm_c118 23 = some xm_e118_23 := xm_gt d_118_23
theorem d_118_24 : List.drop 24 xm_c118 = xm_c118_24 := xm_dr d_118_23
theorem k_118_24 : xm_gi xm_c118 24 = some xm_e118_24 := xm_gt d_118_24
theorem d_118_25 : List.drop 25 xm_c118 = xm_c118_25 := xm_dr d_118_24
theorem k_118_25 : xm_gi xm_c118 25 = some xm_e118_25 := xm_gt d_118_25
theorem d_118_26 : List.drop 26 xm_c118 = xm_c118_26 := xm_dr d_118_25
theorem k_118_26 : xm_gi xm_c118 26 = some xm_e118_26 := xm_gt d_118_26
theorem d_118_27 : List.drop 27 xm_c118 = xm_c118_27 := xm_dr d_118_26
theorem k_118_27 : xm_gi xm_c118 27 = some xm_e118_27 := xm_gt d_118_27
theorem d_118_28 : List.drop 28 xm_c118 = xm_c118_28 := xm_dr d_118_27
theorem k_118_28 : xm_gi xm_c118 28 = some xm_e118_28 := xm_gt d_118_28
theorem d_118_29 : List.drop 29 xm_c118 = xm_c118_29 := xm_dr d_118_28
theorem k_118_29 : xm_gi xm_c118 29 = some xm_e118_29 := xm_gt d_118_29
theorem d_118_30 : List.drop 30 xm_c118 = xm_c118_30 := xm_dr d_118_29
theorem k_118_30 : xm_gi xm_c118 30 = some xm_e118_30 := xm_gt d_118_30
theorem d_118_31 : List.drop 31 xm_c118 = xm_c118_31 := xm_dr d_118_30
theorem k_118_31 : xm_gi xm_c118 31 = some xm_e118_31 := xm_gt d_118_31
theorem d_118_32 : List.drop 32 xm_c118 = xm_c118_32 := xm_dr d_118_31
theorem k_118_32 : xm_gi xm_c118 32 = some xm_e118_32 := xm_gt d_118_32
theorem d_118_33 : List.drop 33 xm_c118 = xm_c118_33 := xm_dr d_118_32
theorem k_118_33 : xm_gi xm_c118 33 = some xm_e118_33 := xm_gt d_118_33
theorem xb_118_0 {sc : List Int} {f : Nat → List xm_V → xm_W → xm_R} {w : xm_W} {Q : Option xm_V × xm_W → Prop} {x0 : Nat} {x1 : Int} {x2 : Int} {x3 : Int} {x4 : Int}
  (h : xm_Oi (f 143 [.inl x1] w) (fun z2 w1 => if (z2 : Int) = 0 then (xm_Oi (f 139 [.inr (.inl (some x0)), .inl 1] w1) (fun z4 w3 => Q (some (.inl z4), w3))) else (xm_Oi (f 142 [.inl x2, .inl 0, .inl 1] w1) (fun z6 w5 => if (z6 : Int) = 0 then (xm_Oi (f 139 [.inr (.inl (some x0)), .inl 1] w5) (fun z19 w18 => Q (some (.inl z19), w18))) else (xm_Oi (f 142 [.inl x3, .inl 0, .inl 40] w5) (fun z8 w7 => if (z8 : Int) = 0 then (xm_Oi (f 139 [.inr (.inl (some x0)), .inl 1] w7) (fun z10 w9 => Q (some (.inl z10), w9))) else (xm_Oi (f 142 [.inl x4, .inl 0, .inl 1] w7) (fun z12 w11 => if (z12 : Int) = 0 then (xm_Oi (f 139 [.inr (.inl (some x0)), .inl 1] w11) (fun z17 w16 => Q (some (.inl z17), w16))) else (xm_O (xm_fr (xm_old sc) w11 x0 8 0) (fun r13 => xm_Oi (f 418 [.inr (.inl (some r13)), .inl x1, .inl x2, .inl x3, .inl x4] w11) (fun z15 w14 => Q (some (.inl z15), w14)))))))))))) :
  xm_EQ (xm_old sc) xm_sta f xm_c118 0 [some (.inr (.inl (some x0))), some (.inl x1), some (.inl x2), some (.inl x3), some (.inl x4)] [] w Q :=
  (xq_iload_n k_118_0 rfl (xq_invs2 k_118_1 xr_143 rfl rfl rfl h (fun z2 w1 h => (xq_if_eq k_118_2 h (fun h => (xq_aload_n k_118_8 rfl (xq_iconst k_118_9 (xq_invv1 k_118_10 xr_139 rfl rfl rfl h (fun z4 w3 h => (xq_ireturn k_118_11 h)))))) (fun h => (xq_iload_n k_118_3 rfl (xq_iconst k_118_4 (xq_iconst k_118_5 (xq_invs2 k_118_6 xr_142 rfl rfl rfl h (fun z6 w5 h => (xq_if_ne k_118_7 h (fun h => (xq_aload_n k_118_8 rfl (xq_iconst k_118_9 (xq_invv1 k_118_10 xr_139 rfl rfl rfl h (fun z19 w18 h => (xq_ireturn k_118_11 h)))))) (fun h => (xq_iload_n k_118_12 rfl (xq_iconst k_118_13 (xq_bipush k_118_14 (xq_invs2 k_118_15 xr_142 rfl rfl rfl h (fun z8 w7 h => (xq_if_eq k_118_16 h (fun h => (xq_aload_n k_118_22 rfl (xq_iconst k_118_23 (xq_invv1 k_118_24 xr_139 rfl rfl rfl h (fun z10 w9 h => (xq_ireturn k_118_25 h)))))) (fun h => (xq_iload k_118_17 rfl (xq_iconst k_118_18 (xq_iconst k_118_19 (xq_invs2 k_118_20 xr_142 rfl rfl rfl h (fun z12 w11 h => (xq_if_ne k_118_21 h (fun h => (xq_aload_n k_118_22 rfl (xq_iconst k_118_23 (xq_invv1 k_118_24 xr_139 rfl rfl rfl h (fun z17 w16 h => (xq_ireturn k_118_25 h)))))) (fun h => (xq_aload_n k_118_26 rfl (xq_getr k_118_27 rfl h (fun r13 h => (xq_iload_n k_118_28 rfl (xq_iload_n k_118_29 rfl (xq_iload_n k_118_30 rfl (xq_iload k_118_31 rfl (xq_invv1 k_118_32 xr_418 rfl rfl rfl h (fun z15 w14 h => (xq_ireturn k_118_33 h))))))))))))))))))))))))))))))))))))
/-- ShodBackwards.then(III)I -/
theorem d_119_0 : List.drop 0 xm_c119 = xm_c119 := rfl
theorem k_119_0 : xm_gi xm_c119 0 = some xm_e119_0 := xm_gt d_119_0
theorem d_119_1 : List.drop 1 xm_c119 = xm_c119_1 := xm_dr d_119_0
theorem k_119_1 : xm_gi xm_c119 1 = some xm_e119_1 := xm_gt d_119_1
theorem d_119_2 : List.drop 2 xm_c119 = xm_c119_2 := xm_dr d_119_1
theorem k_119_2 : xm_gi xm_c119 2 = some xm_e119_2 := xm_gt d_119_2
theorem d_119_3 : List.drop 3 xm_c119 = xm_c119_3 := xm_dr d_119_2
theorem k_119_3 : xm_gi xm_c119 3 = some xm_e119_3 := xm_gt d_119_3
theorem d_119_4 : List.drop 4 xm_c119 = xm_c119_4 := xm_dr d_119_3
theorem k_119_4 : xm_gi xm_c119 4 = some xm_e119_4 := xm_gt d_119_4
theorem d_119_5 : List.drop 5 xm_c119 = xm_c119_5 := xm_dr d_119_4
theorem k_119_5 : xm_gi xm_c119 5 = some xm_e119_5 := xm_gt d_119_5
theorem d_119_6 : List.drop 6 xm_c119 = xm_c119_6 := xm_dr d_119_5
theorem k_119_6 : xm_gi xm_c119 6 = some xm_e119_6 := xm_gt d_119_6
theorem d_119_7 : List.drop 7 xm_c119 = xm_c119_7 := xm_dr d_119_6
theorem k_119_7 : xm_gi xm_c119 7 = some xm_e119_7 := xm_gt d_119_7
theorem d_119_8 : List.drop 8 xm_c119 = xm_c119_8 := xm_dr d_119_7
theorem k_119_8 : xm_gi xm_c119 8 = some xm_e119_8 := xm_gt d_119_8
theorem d_119_9 : List.drop 9 xm_c119 = xm_c119_9 := xm_dr d_119_8
theorem k_119_9 : xm_gi xm_c119 9 = some xm_e119_9 := xm_gt d_119_9
theorem d_119_10 : List.drop 10 xm_c119 = xm_c119_10 := xm_dr d_119_9
theorem k_119_10 : xm_gi xm_c119 10 = some xm_e119_10 := xm_gt d_119_10
theorem d_119_11 : List.drop 11 xm_c119 = xm_c119_11 := xm_dr d_119_10
theorem k_119_11 : xm_gi xm_c119 11 = some xm_e119_11 := xm_gt d_119_11
theorem d_119_12 : List.drop 12 xm_c119 = xm_c119_12 := xm_dr d_119_11
theorem k_119_12 : xm_gi xm_c119 12 = some xm_e119_12 := xm_gt d_119_12
theorem d_119_13 : List.drop 13 xm_c119 = xm_c119_13 := xm_dr d_119_12
theorem k_119_13 : xm_gi xm_c119 13 = some xm_e119_13 := xm_gt d_119_13
theorem d_119_14 : List.drop 14 xm_c119 = xm_c119_14 := xm_dr d_119_13
theorem k_119_14 : xm_gi xm_c119 14 = some xm_e119_14 := xm_gt d_119_14
theorem d_119_15 : List.drop 15 xm_c119 = xm_c119_15 := xm_dr d_119_14
theorem k_119_15 : xm_gi xm_c119 15 = some xm_e119_15 := xm_gt d_119_15
theorem d_119_16 : List.drop 16 xm_c119 = xm_c119_16 := xm_dr d_119_15
theorem k_119_16 : xm_gi xm_c119 16 = some xm_e119_16 := xm_gt d_119_16
theorem d_119_17 : List.drop 17 xm_c119 = xm_c119_17 := xm_dr d_119_16
theorem k_119_17 : xm_gi xm_c119 17 = some xm_e119_17 := xm_gt d_119_17
theorem d_119_18 : List.drop 18 xm_c119 = xm_c119_18 := xm_dr d_119_17
theorem k_119_18 : xm_gi xm_c119 18 = some xm_e119_18 := xm_gt d_119_18
theorem d_119_19 : List.drop 19 xm_c119 = xm_c119_19 := xm_dr d_119_18
theorem k_119_19 : xm_gi xm_c119 19 = some xm_e119_19 := xm_gt d_119_19
theorem d_119_20 : List.drop 20 xm_c119 = xm_c119_20 := xm_dr d_119_19
theorem k_119_20 : xm_gi xm_c119 20 = some xm_e119_20 := xm_gt d_119_20
theorem d_119_21 : List.drop 21 xm_c119 = xm_c119_21 := xm_dr d_119_20
theorem k_119_21 : xm_gi xm_c119 21 = some xm_e119_21 := xm_gt d_119_21
theorem d_119_22 : List.drop 22 xm_c119 = xm_c119_22 := xm_dr d_119_21
theorem k_119_22 : xm_gi xm_c119 22 = some xm_e119_22 := xm_gt d_119_22
theorem d_119_23 : List.drop 23 xm_c119 = xm_c119_23 := xm_dr d_119_22
theorem k_119_23 : xm_gi xm_c119 23 = some xm_e119_23 := xm_gt d_119_23
theorem d_119_24 : List.drop 24 xm_c119 = xm_c119_24 := xm_dr d_119_23
theorem k_119_24 : xm_gi xm_c119 24 = some xm_e119_24 := xm_gt d_119_24
theorem xb_119_0 {sc : List Int} {f : Nat → List xm_V → xm_W → xm_R} {w : xm_W} {Q : Option xm_V × xm_W → Prop} {x0 : Nat} {x1 : Int} {x2 : Int} {x3 : Int}
  (h : xm_Oi (f 142 [.inl x1, .inl 0, .inl 24] w) (fun z2 w1 => if (z2 : Int) = 0 then (xm_Oi (f 139 [.inr (.inl (some x0)), .inl 1] w1) (fun z4 w3 => Q (some (.inl z4), w3))) else (xm_Oi (f 141 [.inr (.inl (some x0)), .inl x2] w1) (fun z6 w5 => if (z6 : Int) = 0 then (xm_Oi (f 139 [.inr (.inl (some x0)), .inl 1] w5) (fun z8 w7 => Q (some (.inl z8), w7))) else (xm_Oi (f 144 [.inl x3] w5) (fun z10 w9 => if (z10 : Int) = 0 then (xm_Oi (f 139 [.inr (.inl (some x0)), .inl 1] w9) (fun z16 w15 => Q (some (.inl z16), w15))) else (xm_Ov (f 140 [.inr (.inl (some x0)), .inl x1] w9) (fun w11 => xm_O (xm_fr (xm_old sc) w11 x0 8 1) (fun r12 => xm_Oi (f 412 [.inr (.inl (some r12)), .inl x2, .inl x3] w11) (fun z14 w13 => Q (some (.inl z14), w13))))))))))) :
  xm_EQ (xm_old sc) xm_sta f xm_c119 0 [some (.inr (.inl (some x0))), some (.inl x1), some (.inl x2), some (.inl x3)] [] w Q :=
  (xq_iload_n k_119_0 rfl (xq_iconst k_119_1 (xq_bipush k_119_2 (xq_invs2 k_119_3 xr_142 rfl rfl rfl h (fun z2 w1 h => (xq_if_eq k_119_4 h (fun h => (xq_aload_n k_119_12 rfl (xq_iconst k_119_13 (xq_invv1 k_119_14 xr_139 rfl rfl rfl h (fun z4 w3 h => (xq_ireturn k_119_15 h)))))) (fun h => (xq_aload_n k_119_5 rfl (xq_iload_n k_119_6 rfl (xq_invv2 k_119_7 xr_141 rfl rfl rfl h (fun z6 w5 h => (xq_if_eq k_119_8 h (fun h => (xq_aload_n k_119_12 rfl (xq_iconst k_119_13 (xq_invv1 k_119_14 xr_139 rfl rfl rfl h (fun z8 w7 h => (xq_ireturn k_119_15 h)))))) (fun h => (xq_iload_n k_119_9 rfl (xq_invs2 k_119_10 xr_144 rfl rfl rfl h (fun z10 w9 h => (xq_if_ne k_119_11 h (fun h => (xq_aload_n k_119_12 rfl (xq_iconst k_119_13 (xq_invv1 k_119_14 xr_139 rfl rfl rfl h (fun z16 w15 h => (xq_ireturn k_119_15 h)))))) (fun h => (xq_aload_n k_119_16 rfl (xq_iload_n k_119_17 rfl (xq_invv0 k_119_18 xr_140 rfl rfl rfl h (fun w11 h => (xq_aload_n k_119_19 rfl (xq_getr k_119_20 rfl h (fun r12 h => (xq_iload_n k_119_21 rfl (xq_iload_n k_119_22 rfl (xq_invv1 k_119_23 xr_412 rfl rfl rfl h (fun z14 w13 h => (xq_ireturn k_119_24 h))))))))))))))))))))))))))))))
/-- ShodBackwards.thenCell(III)I -/
theorem d_120_0 : List.drop 0 xm_c120 = xm_c120 := rfl
theorem k_120_0 : xm_gi xm_c120 0 = some xm_e120_0 := xm_gt d_120_0
theorem d_120_1 : List.drop 1 xm_c120 = xm_c120_1 := xm_dr d_120_0
theorem k_120_1 : xm_gi xm_c120 1 = some xm_e120_1 := xm_gt d_120_1
theorem d_120_2 : List.drop 2 xm_c120 = xm_c120_2 := xm_dr d_120_1
theorem k_120_2 : xm_gi xm_c120 2 = some xm_e120_2 := xm_gt d_120_2
theorem d_120_3 : List.drop 3 xm_c120 = xm_c120_3 := xm_dr d_120_2
theorem k_120_3 : xm_gi xm_c120 3 = some xm_e120_3 := xm_gt d_120_3
theorem d_120_4 : List.drop 4 xm_c120 = xm_c120_4 := xm_dr d_120_3
theorem k_120_4 : xm_gi xm_c120 4 = some xm_e120_4 := xm_gt d_120_4
theorem d_120_5 : List.drop 5 xm_c120 = xm_c120_5 := xm_dr d_120_4
theorem k_120_5 : xm_gi xm_c120 5 = some xm_e120_5 := xm_gt d_120_5
theorem d_120_6 : List.drop 6 xm_c120 = xm_c120_6 := xm_dr d_120_5
theorem k_120_6 : xm_gi xm_c120 6 = some xm_e120_6 := xm_gt d_120_6
theorem d_120_7 : List.drop 7 xm_c120 = xm_c120_7 := xm_dr d_120_6
theorem k_120_7 : xm_gi xm_c120 7 = some xm_e120_7 := xm_gt d_120_7
theorem d_120_8 : List.drop 8 xm_c120 = xm_c120_8 := xm_dr d_120_7
theorem k_120_8 : xm_gi xm_c120 8 = some xm_e120_8 := xm_gt d_120_8
theorem d_120_9 : List.drop 9 xm_c120 = xm_c120_9 := xm_dr d_120_8
theorem k_120_9 : xm_gi xm_c120 9 = some xm_e120_9 := xm_gt d_120_9
theorem d_120_10 : List.drop 10 xm_c120 = xm_c120_10 := xm_dr d_120_9
theorem k_120_10 : xm_gi xm_c120 10 = some xm_e120_10 := xm_gt d_120_10
theorem d_120_11 : List.drop 11 xm_c120 = xm_c120_11 := xm_dr d_120_10
theorem k_120_11 : xm_gi xm_c120 11 = some xm_e120_11 := xm_gt d_120_11
theorem d_120_12 : List.drop 12 xm_c120 = xm_c120_12 := xm_dr d_120_11
theorem k_120_12 : xm_gi xm_c120 12 = some xm_e120_12 := xm_gt d_120_12
theorem d_120_13 : List.drop 13 xm_c120 = xm_c120_13 := xm_dr d_120_12
theorem k_120_13 : xm_gi xm_c120 13 = some xm_e120_13 := xm_gt d_120_13
theorem d_120_14 : List.drop 14 xm_c120 = xm_c120_14 := xm_dr d_120_13
theorem k_120_14 : xm_gi xm_c120 14 = some xm_e120_14 := xm_gt d_120_14
theorem d_120_15 : List.drop 15 xm_c120 = xm_c120_15 := xm_dr d_120_14
theorem k_120_15 : xm_gi xm_c120 15 = some xm_e120_15 := xm_gt d_120_15
theorem d_120_16 : List.drop 16 xm_c120 = xm_c120_16 := xm_dr d_120_15
theorem k_120_16 : xm_gi xm_c120 16 = some xm_e120_16 := xm_gt d_120_16
theorem d_120_17 : List.drop 17 xm_c120 = xm_c120_17 := xm_dr d_120_16
theorem k_120_17 : xm_gi xm_c120 17 = some xm_e120_17 := xm_gt d_120_17
theorem d_120_18 : List.drop 18 xm_c120 = xm_c120_18 := xm_dr d_120_17
theorem k_120_18 : xm_gi xm_c120 18 = some xm_e120_18 := xm_gt d_120_18
theorem d_120_19 : List.drop 19 xm_c120 = xm_c120_19 := xm_dr d_120_18
theorem k_120_19 : xm_gi xm_c120 19 = some xm_e120_19 := xm_gt d_120_19
theorem d_120_20 : List.drop 20 xm_c120 = xm_c120_20 := xm_dr d_120_19
theorem k_120_20 : xm_gi xm_c120 20 = some xm_e120_20 := xm_gt d_120_20
theorem d_120_21 : List.drop 21 xm_c120 = xm_c120_21 := xm_dr d_120_20
theorem k_120_21 : xm_gi xm_c120 21 = some xm_e120_21 := xm_gt d_120_21
theorem d_120_22 : List.drop 22 xm_c120 = xm_c120_22 := xm_dr d_120_21
theorem k_120_22 : xm_gi xm_c120 22 = some xm_e120_22 := xm_gt d_120_22
theorem d_120_23 : List.drop 23 xm_c120 = xm_c120_23 := xm_dr d_120_22
theorem k_120_23 : xm_gi xm_c120 23 = some xm_e120_23 := xm_gt d_120_23
theorem xb_120_0 {sc : List Int} {f : Nat → List xm_V → xm_W → xm_R} {w : xm_W} {Q : Option xm_V × xm_W → Prop} {x0 : Nat} {x1 : Int} {x2 : Int} {x3 : Int}
  (h : xm_Oi (f 142 [.inl x1, .inl 0, .inl 24] w) (fun z2 w1 => if (z2 : Int) = 0 then (xm_Oi (f 139 [.inr (.inl (some x0)), .inl 1] w1) (fun z4 w3 => Q (some (.inl z4), w3))) else (xm_Oi (f 143 [.inl x2] w1) (fun z6 w5 => if (z6 : Int) = 0 then (xm_Oi (f 139 [.inr (.inl (some x0)), .inl 1] w5) (fun z8 w7 => Q (some (.inl z8), w7))) else (xm_Oi (f 145 [.inl x3] w5) (fun z10 w9 => if (z10 : Int) = 0 then (xm_Oi (f 139 [.inr (.inl (some x0)), .inl 1] w9) (fun z16 w15 => Q (some (.inl z16), w15))) else (xm_Ov (f 140 [.inr (.inl (some x0)), .inl x1] w9) (fun w11 => xm_O (xm_fr (xm_old sc) w11 x0 8 1) (fun r12 => xm_Oi (f 413 [.inr (.inl (some r12)), .inl x2, .inl x3] w11) (fun z14 w13 => Q (some (.inl z14), w13))))))))))) :
  xm_EQ (xm_old sc) xm_sta f xm_c120 0 [some (.inr (.inl (some x0))), some (.inl x1), some (.inl x2), some (.inl x3)] [] w Q :=
  (xq_iload_n k_120_0 rfl (xq_iconst k_120_1 (xq_bipush k_120_2 (xq_invs2 k_120_3 xr_142 rfl rfl rfl h (fun z2 w1 h => (xq_if_eq k_120_4 h (fun h => (xq_aload_n k_120_11 rfl (xq_iconst k_120_12 (xq_invv1 k_120_13 xr_139 rfl rfl rfl h (fun z4 w3 h => (xq_ireturn k_120_14 h)))))) (fun h => (xq_iload_n k_120_5 rfl (xq_invs2 k_120_6 xr_143 rfl rfl rfl h (fun z6 w5 h => (xq_if_eq k_120_7 h (fun h => (xq_aload_n k_120_11 rfl (xq_iconst k_120_12 (xq_invv1 k_120_13 xr_139 rfl rfl rfl h (fun z8 w7 h => (xq_ireturn k_120_14 h)))))) (fun h => (xq_iload_n k_120_8 rfl (xq_invs2 k_120_9 xr_145 rfl rfl rfl h (fun z10 w9 h => (xq_if_ne k_120_10 h (fun h => (xq_aload_n k_120_11 rfl (xq_iconst k_120_12 (xq_invv1 k_120_13 xr_139 rfl rfl rfl h (fun z16 w15 h => (xq_ireturn k_120_14 h)))))) (fun h => (xq_aload_n k_120_15 rfl (xq_iload_n k_120_16 rfl (xq_invv0 k_120_17 xr_140 rfl rfl rfl h (fun w11 h => (xq_aload_n k_120_18 rfl (xq_getr k_120_19 rfl h (fun r12 h => (xq_iload_n k_120_20 rfl (xq_iload_n k_120_21 rfl (xq_invv1 k_120_22 xr_413 rfl rfl rfl h (fun z14 w13 h => (xq_ireturn k_120_23 h)))))))))))))))))))))))))))))
/-- ShodBackwards.loads(III)I -/
theorem d_121_0 : List.drop 0 xm_c121 = xm_c121 := rfl
theorem k_121_0 : xm_gi xm_c121 0 = some xm_e121_0 := xm_gt d_121_0
theorem d_121_1 : List.drop 1 xm_c121 = xm_c121_1 := xm_dr d_121_0
theorem k_121_1 : xm_gi xm_c121 1 = some xm_e121_1 := xm_gt d_121_1
theorem d_121_2 : List.drop 2 xm_c121 = xm_c121_2 := xm_dr d_121_1
theorem k_121_2 : xm_gi xm_c121 2 = some xm_e121_2 := xm_gt d_121_2
theorem d_121_3 : List.drop 3 xm_c121 = xm_c121_3 := xm_dr d_121_2
theorem k_121_3 : xm_gi xm_c121 3 = some xm_e121_3 := xm_gt d_121_3
theorem d_121_4 : List.drop 4 xm_c121 = xm_c121_4 := xm_dr d_121_3
theorem k_121_4 : xm_gi xm_c121 4 = some xm_e121_4 := xm_gt d_121_4
theorem d_121_5 : List.drop 5 xm_c121 = xm_c121_5 := xm_dr d_121_4
theorem k_121_5 : xm_gi xm_c121 5 = some xm_e121_5 := xm_gt d_121_5
theorem d_121_6 : List.drop 6 xm_c121 = xm_c121_6 := xm_dr d_121_5
theorem k_121_6 : xm_gi xm_c121 6 = some xm_e121_6 := xm_gt d_121_6
theorem d_121_7 : List.drop 7 xm_c121 = xm_c121_7 := xm_dr d_121_6
theorem k_121_7 : xm_gi xm_c121 7 = some xm_e121_7 := xm_gt d_121_7
theorem d_121_8 : List.drop 8 xm_c121 = xm_c121_8 := xm_dr d_121_7
theorem k_121_8 : xm_gi xm_c121 8 = some xm_e121_8 := xm_gt d_121_8
theorem d_121_9 : List.drop 9 xm_c121 = xm_c121_9 := xm_dr d_121_8
theorem k_121_9 : xm_gi xm_c121 9 = some xm_e121_9 := xm_gt d_121_9
theorem d_121_10 : List.drop 10 xm_c121 = xm_c121_10 := xm_dr d_121_9
theorem k_121_10 : xm_gi xm_c121 10 = some xm_e121_10 := xm_gt d_121_10
theorem d_121_11 : List.drop 11 xm_c121 = xm_c121_11 := xm_dr d_121_10
theorem k_121_11 : xm_gi xm_c121 11 = some xm_e121_11 := xm_gt d_121_11
theorem d_121_12 : List.drop 12 xm_c121 = xm_c121_12 := xm_dr d_121_11
theorem k_121_12 : xm_gi xm_c121 12 = some xm_e121_12 := xm_gt d_121_12
theorem d_121_13 : List.drop 13 xm_c121 = xm_c121_13 := xm_dr d_121_12
theorem k_121_13 : xm_gi xm_c121 13 = some xm_e121_13 := xm_gt d_121_13
theorem d_121_14 : List.drop 14 xm_c121 = xm_c121_14 := xm_dr d_121_13
theorem k_121_14 : xm_gi xm_c121 14 = some xm_e121_14 := xm_gt d_121_14
theorem d_121_15 : List.drop 15 xm_c121 = xm_c121_15 := xm_dr d_121_14
theorem k_121_15 : xm_gi xm_c121 15 = some xm_e121_15 := xm_gt d_121_15
theorem d_121_16 : List.drop 16 xm_c121 = xm_c121_16 := xm_dr d_121_15
theorem k_121_16 : xm_gi xm_c121 16 = some xm_e121_16 := xm_gt d_121_16
theorem d_121_17 : List.drop 17 xm_c121 = xm_c121_17 := xm_dr d_121_16
theorem k_121_17 : xm_gi xm_c121 17 = some xm_e121_17 := xm_gt d_121_17
theorem d_121_18 : List.drop 18 xm_c121 = xm_c121_18 := xm_dr d_121_17
theorem k_121_18 : xm_gi xm_c121 18 = some xm_e121_18 := xm_gt d_121_18
theorem d_121_19 : List.drop 19 xm_c121 = xm_c121_19 := xm_dr d_121_18
theorem k_121_19 : xm_gi xm_c121 19 = some xm_e121_19 := xm_gt d_121_19
theorem d_121_20 : List.drop 20 xm_c121 = xm_c121_20 := xm_dr d_121_19
theorem k_121_20 : xm_gi xm_c121 20 = some xm_e121_20 := xm_gt d_121_20
theorem d_121_21 : List.drop 21 xm_c121 = xm_c121_21 := xm_dr d_121_20
theorem k_121_21 : xm_gi xm_c121 21 = some xm_e121_21 := xm_gt d_121_21
theorem d_121_22 : List.drop 22 xm_c121 = xm_c121_22 := xm_dr d_121_21
theorem k_121_22 : xm_gi xm_c121 22 = some xm_e121_22 := xm_gt d_121_22
theorem d_121_23 : List.drop 23 xm_c121 = xm_c121_23 := xm_dr d_121_22
theorem k_121_23 : xm_gi xm_c121 23 = some xm_e121_23 := xm_gt d_121_23
theorem d_121_24 : List.drop 24 xm_c121 = xm_c121_24 := xm_dr d_121_23
theorem k_121_24 : xm_gi xm_c121 24 = some xm_e121_24 := xm_gt d_121_24
theorem d_121_25 : List.drop 25 xm_c121 = xm_c121_25 := xm_dr d_121_24
theorem k_121_25 : xm_gi xm_c121 25 = some xm_e121_25 := xm_gt d_121_25
theorem d_121_26 : List.drop 26 xm_c121 = xm_c121_26 := xm_dr d_121_25
theorem k_121_26 : xm_gi xm_c121 26 = some xm_e121_26 := xm_gt d_121_26
theorem d_121_27 : List.drop 27 xm_c121 = xm_c121_27 := xm_dr d_121_26
theorem k_121_27 : xm_gi xm_c121 27 = some xm_e121_27 := xm_gt d_121_27
theorem d_121_28 : List.drop 28 xm_c121 = xm_c121_28 := xm_dr d_121_27
theorem k_121_28 : xm_gi xm_c121 28 = some xm_e121_28 := xm_gt d_121_28
theorem d_121_29 : List.drop 29 xm_c121 = xm_c121_29 := xm_dr d_121_28
theorem k_121_29 : xm_gi xm_c121 29 = some xm_e121_29 := xm_gt d_121_29
theorem d_121_30 : List.drop 30 xm_c121 = xm_c121_30 := xm_dr d_121_29
theorem k_121_30 : xm_gi xm_c121 30 = some xm_e121_30 := xm_gt d_121_30
theorem d_121_31 : List.drop 31 xm_c121 = xm_c121_31 := xm_dr d_121_30
theorem k_121_31 : xm_gi xm_c121 31 = some xm_e121_31 := xm_gt d_121_31
theorem d_121_32 : List.drop 32 xm_c121 = xm_c121_32 := xm_dr d_121_31
theorem k_121_32 : xm_gi xm_c121 32 = some xm_e121_32 := xm_gt d_121_32
theorem d_121_33 : List.drop 33 xm_c121 = xm_c121_33 := xm_dr d_121_32
theorem k_121_33 : xm_gi xm_c121 33 = some xm_e121_33 := xm_gt d_121_33
theorem d_121_34 : List.drop 34 xm_c121 = xm_c121_34 := xm_dr d_121_33
theorem k_121_34 : xm_gi xm_c121 34 = some xm_e121_34 := xm_gt d_121_34
theorem d_121_35 : List.drop 35 xm_c121 = xm_c121_35 := xm_dr d_121_34
theorem k_121_35 : xm_gi xm_c121 35 = some xm_e121_35 := xm_gt d_121_35
theorem d_121_36 : List.drop 36 xm_c121 = xm_c121_36 := xm_dr d_121_35
theorem k_121_36 : xm_gi xm_c121 36 = some xm_e121_36 := xm_gt d_121_36
theorem d_121_37 : List.drop 37 xm_c121 = xm_c121_37 := xm_dr d_121_36
theorem k_121_37 : xm_gi xm_c121 37 = some xm_e121_37 := xm_gt d_121_37
theorem d_121_38 : List.drop 38 xm_c121 = xm_c121_38 := xm_dr d_121_37
theorem k_121_38 : xm_gi xm_c121 38 = some xm_e121_38 := xm_gt d_121_38
theorem d_121_39 : List.drop 39 xm_c121 = xm_c121_39 := xm_dr d_121_38
theorem k_121_39 : xm_gi xm_c121 39 = some xm_e121_39 := xm_gt d_121_39
theorem d_121_40 : List.drop 40 xm_c121 = xm_c121_40 := xm_dr d_121_39
theorem k_121_40 : xm_gi xm_c121 40 = some xm_e121_40 := xm_gt d_121_40
theorem d_121_41 : List.drop 41 xm_c121 = xm_c121_41 := xm_dr d_121_40
theorem k_121_41 : xm_gi xm_c121 41 = some xm_e121_41 := xm_gt d_121_41
theorem d_121_42 : List.drop 42 xm_c121 = xm_c121_42 := xm_dr d_121_41
theorem k_121_42 : xm_gi xm_c121 42 = some xm_e121_42 := xm_gt d_121_42
theorem d_121_43 : List.drop 43 xm_c121 = xm_c121_43 := xm_dr d_121_42
theorem k_121_43 : xm_gi xm_c121 43 = some xm_e121_43 := xm_gt d_121_43
theorem d_121_44 : List.drop 44 xm_c121 = xm_c121_44 := xm_dr d_121_43
theorem k_121_44 : xm_gi xm_c121 44 = some xm_e121_44 := xm_gt d_121_44
theorem d_121_45 : List.drop 45 xm_c121 = xm_c121_45 := xm_dr d_121_44
theorem k_121_45 : xm_gi xm_c121 45 = some xm_e121_45 := xm_gt d_121_45
theorem d_121_46 : List.drop 46 xm_c121 = xm_c121_46 := xm_dr d_121_45
theorem k_121_46 : xm_gi xm_c121 46 = some xm_e121_46 := xm_gt d_121_46
theorem d_121_47 : List.drop 47 xm_c121 = xm_c121_47 := xm_dr d_121_46
theorem k_121_47 : xm_gi xm_c121 47 = some xm_e121_47 := xm_gt d_121_47
theorem d_121_48 : List.drop 48 xm_c121 = xm_c121_48 := xm_dr d_121_47
theorem k_121_48 : xm_gi xm_c121 48 = some xm_e121_48 := xm_gt d_121_48
theorem d_121_49 : List.drop 49 xm_c121 = xm_c121_49 := xm_dr d_121_48
theorem k_121_49 : xm_gi xm_c121 49 = some xm_e121_49 := xm_gt d_121_49
theorem d_121_50 : List.drop 50 xm_c121 = xm_c121_50 := xm_dr d_121_49
theorem k_121_50 : xm_gi xm_c121 50 = some xm_e121_50 := xm_gt d_121_50
theorem d_121_51 : List.drop 51 xm_c121 = xm_c121_51 := xm_dr d_121_50
theorem k_121_51 : xm_gi xm_c121 51 = some xm_e121_51 := xm_gt d_121_51
theorem d_121_52 : List.drop 52 xm_c121 = xm_c121_52 := xm_dr d_121_51
theorem k_121_52 : xm_gi xm_c121 52 = some xm_e121_52 := xm_gt d_121_52
theorem d_121_53 : List.drop 53 xm_c121 = xm_c121_53 := xm_dr d_121_52
theorem k_121_53 : xm_gi xm_c121 53 = some xm_e121_53 := xm_gt d_121_53
theorem d_121_54 : List.drop 54 xm_c121 = xm_c121_54 := xm_dr d_121_53
theorem k_121_54 : xm_gi xm_c121 54 = some xm_e121_54 := xm_gt d_121_54
theorem d_121_55 : List.drop 55 xm_c121 = xm_c121_55 := xm_dr d_121_54
theorem k_121_55 : xm_gi xm_c121 55 = some xm_e121_55 := xm_gt d_121_55
theorem d_121_56 : List.drop 56 xm_c121 = xm_c121_56 := xm_dr d_121_55
theorem k_121_56 : xm_gi xm_c121 56 = some xm_e121_56 := xm_gt d_121_56
theorem d_121_57 : List.drop 57 xm_c121 = xm_c121_57 := xm_dr d_121_56
theorem k_121_57 : xm_gi xm_c121 57 = some xm_e121_57 := xm_gt d_121_57
theorem d_121_58 : List.drop 58 xm_c121 = xm_c121_58 := xm_dr d_121_57
theorem k_121_58 : xm_gi xm_c121 58 = some xm_e121_58 := xm_gt d_121_58
theorem d_121_59 : List.drop 59 xm_c121 = xm_c121_59 := xm_dr d_121_58
theorem k_121_59 : xm_gi xm_c121 59 = some xm_e121_59 := xm_gt d_121_59
theorem xb_121_0 {sc : List Int} {f : Nat → List xm_V → xm_W → xm_R} {w : xm_W} {Q : Option xm_V × xm_W → Prop} {x0 : Nat} {x1 : Int} {x2 : Int} {x3 : Int}
  (h : xm_Oi (f 142 [.inl x1, .inl 0, .inl 99] w) (fun z2 w1 => if (z2 : Int) = 0 then (xm_Oi (f 139 [.inr (.inl (some x0)), .inl 1] w1) (fun z4 w3 => Q (some (.inl z4), w3))) else (xm_Oi (f 142 [.inl x2, .inl 0, .inl 59] w1) (fun z6 w5 => if (z6 : Int) = 0 then (xm_Oi (f 139 [.inr (.inl (some x0)), .inl 1] w5) (fun z8 w7 => Q (some (.inl z8), w7))) else (xm_Oi (f 142 [.inl x3, .inl 0, .inl 1] w5) (fun z10 w9 => if (z10 : Int) = 0 then (xm_Oi (f 139 [.inr (.inl (some x0)), .inl 1] w9) (fun z12 w11 => Q (some (.inl z12), w11))) else (xm_EQ (xm_old sc) xm_sta f xm_c121 25 [some (.inr (.inl (some x0))), some (.inl x1), some (.inl x2), some (.inl x3), some (.inl (-1)), some (.inl (-1)), some (.inl 0)] [] w9 Q))))))) :
  xm_EQ (xm_old sc) xm_sta f xm_c121 0 [some (.inr (.inl (some x0))), some (.inl x1), some (.inl x2), some (.inl x3), none, none, none] [] w Q :=
  (xq_iload_n k_121_0 rfl (xq_iconst k_121_1 (xq_bipush k_121_2 (xq_invs2 k_121_3 xr_142 rfl rfl rfl h (fun z2 w1 h => (xq_if_eq k_121_4 h (fun h => (xq_aload_n k_121_15 rfl (xq_iconst k_121_16 (xq_invv1 k_121_17 xr_139 rfl rfl rfl h (fun z4 w3 h => (xq_ireturn k_121_18 h)))))) (fun h => (xq_iload_n k_121_5 rfl (xq_iconst k_121_6 (xq_bipush k_121_7 (xq_invs2 k_121_8 xr_142 rfl rfl rfl h (fun z6 w5 h => (xq_if_eq k_121_9 h (fun h => (xq_aload_n k_121_15 rfl (xq_iconst k_121_16 (xq_invv1 k_121_17 xr_139 rfl rfl rfl h (fun z8 w7 h => (xq_ireturn k_121_18 h)))))) (fun h => (xq_iload_n k_121_10 rfl (xq_iconst k_121_11 (xq_iconst k_121_12 (xq_invs2 k_121_13 xr_142 rfl rfl rfl h (fun z10 w9 h => (xq_if_ne k_121_14 h (fun h => (xq_aload_n k_121_15 rfl (xq_iconst k_121_16 (xq_invv1 k_121_17 xr_139 rfl rfl rfl h (fun z12 w11 h => (xq_ireturn k_121_18 h)))))) (fun h => (xq_iconst k_121_19 (xq_istore k_121_20 rfl (xq_iconst k_121_21 (xq_istore k_121_22 rfl (xq_iconst k_121_23 (xq_istore k_121_24 rfl h)))))))))))))))))))))))))))
theorem xb_121_25 {sc : List Int} {f : Nat → List xm_V → xm_W → xm_R} {w : xm_W} {Q : Option xm_V × xm_W → Prop} {x0 : Nat} {x1 : Int} {x2 : Int} {x3 : Int} {x4 : Int} {x5 : Int} {x6 : Int}
  (h : if (99 : Int) < x6 then (if (x4 : Int) < 0 then (xm_Oi (f 139 [.inr (.inl (some x0)), .inl 2] w) (fun z2 w1 => Q (some (.inl z2), w1))) else (if (x3 : Int) = 0 then (Q (some (.inl x4), w)) else (Q (some (.inl x5), w)))) else ((10 : Int) ≠ 0 ∧ ((10 : Int) ≠ 0 ∧ (xm_Oi (f 153 [.inl (xm_w (Int.tdiv x2 10)), .inl (Int.tmod x2 10), .inl x6] w) (fun z4 w3 => if (z4 : Int) = x1 then (if (x4 : Int) < 0 then (xm_EQ (xm_old sc) xm_sta f xm_c121 25 [some (.inr (.inl (some x0))), some (.inl x1), some (.inl x2), some (.inl x3), some (.inl x6), some (.inl x6), some (.inl (xm_w (x6 + 1)))] [] w3 Q) else (xm_EQ (xm_old sc) xm_sta f xm_c121 25 [some (.inr (.inl (some x0))), some (.inl x1), some (.inl x2), some (.inl x3), some (.inl x4), some (.inl x6), some (.inl (xm_w (x6 + 1)))] [] w3 Q)) else (xm_EQ (xm_old sc) xm_sta f xm_c121 25 [some (.inr (.inl (some x0))), some (.inl x1), some (.inl x2), some (.inl x3), some (.inl x4), some (.inl x5), some (.inl (xm_w (x6 + 1)))] [] w3 Q)))))) :
  xm_EQ (xm_old sc) xm_sta f xm_c121 25 [some (.inr (.inl (some x0))), some (.inl x1), some (.inl x2), some (.inl x3), some (.inl x4), some (.inl x5), some (.inl x6)] [] w Q :=
  (xq_iload k_121_25 rfl (xq_bipush k_121_26 (xq_ic_gt k_121_27 h (fun h => (xq_iload k_121_48 rfl (xq_if_ge k_121_49 h (fun h => (xq_aload_n k_121_50 rfl (xq_iconst k_121_51 (xq_invv1 k_121_52 xr_139 rfl rfl rfl h (fun z2 w1 h => (xq_ireturn k_121_53 h)))))) (fun h => (xq_iload_n k_121_54 rfl (xq_if_ne k_121_55 h (fun h => (xq_iload k_121_56 rfl (xq_goto k_121_57 (xq_ireturn k_121_59 h)))) (fun h => (xq_iload k_121_58 rfl (xq_ireturn k_121_59 h))))))))) (fun h => (xq_iload_n k_121_28 rfl (xq_bipush k_121_29 (xq_idiv k_121_30 h (fun h => (xq_iload_n k_121_31 rfl (xq_bipush k_121_32 (xq_irem k_121_33 h (fun h => (xq_iload k_121_34 rfl (xq_invs1 k_121_35 xr_153 rfl rfl rfl h (fun z4 w3 h => (xq_iload_n k_121_36 rfl (xq_ic_ne k_121_37 h (fun h => (xq_iload k_121_38 rfl (xq_if_ge k_121_39 h (fun h => (xq_iload k_121_40 rfl (xq_goto k_121_41 (xq_istore k_121_43 rfl (xq_iload k_121_44 rfl (xq_istore k_121_45 rfl (xq_iinc k_121_46 rfl rfl (xq_goto k_121_47 h)))))))) (fun h => (xq_iload k_121_42 rfl (xq_istore k_121_43 rfl (xq_iload k_121_44 rfl (xq_istore k_121_45 rfl (xq_iinc k_121_46 rfl rfl (xq_goto k_121_47 h)))))))))) (fun h => (xq_iinc k_121_46 rfl rfl (xq_goto k_121_47 h))))))))))))))))))))
/-- ShodBackwards.kinds(III)I -/
theorem d_122_0 : List.drop 0 xm_c122 = xm_c122 := rfl
theorem k_122_0 : xm_gi xm_c122 0 = some xm_e122_0 := xm_gt d_122_0
theorem d_122_1 : List.drop 1 xm_c122 = xm_c122_1 := xm_dr d_122_0
theorem k_122_1 : xm_gi xm_c122 1 = some xm_e122_1 := xm_gt d_122_1
theorem d_122_2 : List.drop 2 xm_c122 = xm_c122_2 := xm_dr d_122_1
theorem k_122_2 : xm_gi xm_c122 2 = some xm_e122_2 := xm_gt d_122_2
theorem d_122_3 : List.drop 3 xm_c122 = xm_c122_3 := xm_dr d_122_2
theorem k_122_3 : xm_gi xm_c122 3 = some xm_e122_3 := xm_gt d_122_3
theorem d_122_4 : List.drop 4 xm_c122 = xm_c122_4 := xm_dr d_122_3
theorem k_122_4 : xm_gi xm_c122 4 = some xm_e122_4 := xm_gt d_122_4
theorem d_122_5 : List.drop 5 xm_c122 = xm_c122_5 := xm_dr d_122_4
theorem k_122_5 : xm_gi xm_c122 5 = some xm_e122_5 := xm_gt d_122_5
theorem d_122_6 : List.drop 6 xm_c122 = xm_c122_6 := xm_dr d_122_5
theorem k_122_6 : xm_gi xm_c122 6 = some xm_e122_6 := xm_gt d_122_6
theorem d_122_7 : List.drop 7 xm_c122 = xm_c122_7 := xm_dr d_122_6
theorem k_122_7 : xm_gi xm_c122 7 = some xm_e122_7 := xm_gt d_122_7
theorem d_122_8 : List.drop 8 xm_c122 = xm_c122_8 := xm_dr d_122_7
theorem k_122_8 : xm_gi xm_c122 8 = some xm_e122_8 := xm_gt d_122_8
theorem d_122_9 : List.drop 9 xm_c122 = xm_c122_9 := xm_dr d_122_8
theorem k_122_9 : xm_gi xm_c122 9 = some xm_e122_9 := xm_gt d_122_9
theorem d_122_10 : List.drop 10 xm_c122 = xm_c122_10 := xm_dr d_122_9
theorem k_122_10 : xm_gi xm_c122 10 = some xm_e122_10 := xm_gt d_122_10
theorem d_122_11 : List.drop 11 xm_c122 = xm_c122_11 := xm_dr d_122_10
theorem k_122_11 : xm_gi xm_c122 11 = some xm_e122_11 := xm_gt d_122_11
theorem d_122_12 : List.drop 12 xm_c122 = xm_c122_12 := xm_dr d_122_11
theorem k_122_12 : xm_gi xm_c122 12 = some xm_e122_12 := xm_gt d_122_12
theorem d_122_13 : List.drop 13 xm_c122 = xm_c122_13 := xm_dr d_122_12
theorem k_122_13 : xm_gi xm_c122 13 = some xm_e122_13 := xm_gt d_122_13
theorem d_122_14 : List.drop 14 xm_c122 = xm_c122_14 := xm_dr d_122_13
theorem k_122_14 : xm_gi xm_c122 14 = some xm_e122_14 := xm_gt d_122_14
theorem d_122_15 : List.drop 15 xm_c122 = xm_c122_15 := xm_dr d_122_14
theorem k_122_15 : xm_gi xm_c122 15 = some xm_e122_15 := xm_gt d_122_15
theorem d_122_16 : List.drop 16 xm_c122 = xm_c122_16 := xm_dr d_122_15
theorem k_122_16 : xm_gi xm_c122 16 = some xm_e122_16 := xm_gt d_122_16
theorem d_122_17 : List.drop 17 xm_c122 = xm_c122_17 := xm_dr d_122_16
theorem k_122_17 : xm_gi xm_c122 17 = some xm_e122_17 := xm_gt d_122_17
theorem d_122_18 : List.drop 18 xm_c122 = xm_c122_18 := xm_dr d_122_17
theorem k_122_18 : xm_gi xm_c122 18 = some xm_e122_18 := xm_gt d_122_18
theorem d_122_19 : List.drop 19 xm_c122 = xm_c122_19 := xm_dr d_122_18
theorem k_122_19 : xm_gi xm_c122 19 = some xm_e122_19 := xm_gt d_122_19
theorem d_122_20 : List.drop 20 xm_c122 = xm_c122_20 := xm_dr d_122_19
theorem k_122_20 : xm_gi xm_c122 20 = some xm_e122_20 := xm_gt d_122_20
theorem d_122_21 : List.drop 21 xm_c122 = xm_c122_21 := xm_dr d_122_20
theorem k_122_21 : xm_gi xm_c122 21 = some xm_e122_21 := xm_gt d_122_21
theorem d_122_22 : List.drop 22 xm_c122 = xm_c122_22 := xm_dr d_122_21
theorem k_122_22 : xm_gi xm_c122 22 = some xm_e122_22 := xm_gt d_122_22
theorem d_122_23 : List.drop 23 xm_c122 = xm_c122_23 := xm_dr d_122_22
theorem k_122_23 : xm_gi xm_c122 23 = some xm_e122_23 := xm_gt d_122_23
theorem d_122_24 : List.drop 24 xm_c122 = xm_c122_24 := xm_dr d_122_23
theorem k_122_24 : xm_gi xm_c122 24 = some xm_e122_24 := xm_gt d_122_24
theorem d_122_25 : List.drop 25 xm_c122 = xm_c122_25 := xm_dr d_122_24
theorem k_122_25 : xm_gi xm_c122 25 = some xm_e122_25 := xm_gt d_122_25
theorem d_122_26 : List.drop 26 xm_c122 = xm_c122_26 := xm_dr d_122_25
theorem k_122_26 : xm_gi xm_c122 26 = some xm_e122_26 := xm_gt d_122_26
theorem d_122_27 : List.drop 27 xm_c122 = xm_c122_27 := xm_dr d_122_26
theorem k_122_27 : xm_gi xm_c122 27 = some xm_e122_27 := xm_gt d_122_27
theorem d_122_28 : List.drop 28 xm_c122 = xm_c122_28 := xm_dr d_122_27
theorem k_122_28 : xm_gi xm_c122 28 = some xm_e122_28 := xm_gt d_122_28
theorem d_122_29 : List.drop 29 xm_c122 = xm_c122_29 := xm_dr d_122_28
theorem k_122_29 : xm_gi xm_c122 29 = some xm_e122_29 := xm_gt d_122_29
theorem d_122_30 : List.drop 30 xm_c122 = xm_c122_30 := xm_dr d_122_29
theorem k_122_30 : xm_gi xm_c122 30 = some xm_e122_30 := xm_gt d_122_30
theorem d_122_31 : List.drop 31 xm_c122 = xm_c122_31 := xm_dr d_122_30
theorem k_122_31 : xm_gi xm_c122 31 = some xm_e122_31 := xm_gt d_122_31
theorem d_122_32 : List.drop 32 xm_c122 = xm_c122_32 := xm_dr d_122_31
theorem k_122_32 : xm_gi xm_c122 32 = some xm_e122_32 := xm_gt d_122_32
theorem d_122_33 : List.drop 33 xm_c122 = xm_c122_33 := xm_dr d_122_32
theorem k_122_33 : xm_gi xm_c122 33 = some xm_e122_33 := xm_gt d_122_33
theorem d_122_34 : List.drop 34 xm_c122 = xm_c122_34 := xm_dr d_122_33
theorem k_122_34 : xm_gi xm_c122 34 = some xm_e122_34 := xm_gt d_122_34
theorem d_122_35 : List.drop 35 xm_c122 = xm_c122_35 := xm_dr d_122_34
theorem k_122_35 : xm_gi xm_c122 35 = some xm_e122_35 := xm_gt d_122_35
theorem d_122_36 : List.drop 36 xm_c122 = xm_c122_36 := xm_dr d_122_35
theorem k_122_36 : xm_gi xm_c122 36 = some xm_e122_36 := xm_gt d_122_36
theorem d_122_37 : List.drop 37 xm_c122 = xm_c122_37 := xm_dr d_122_36
theorem k_122_37 : xm_gi xm_c122 37 = some xm_e122_37 := xm_gt d_122_37
theorem d_122_38 : List.drop 38 xm_c122 = xm_c122_38 := xm_dr d_122_37
theorem k_122_38 : xm_gi xm_c122 38 = some xm_e122_38 := xm_gt d_122_38
theorem d_122_39 : List.drop 39 xm_c122 = xm_c122_39 := xm_dr d_122_38
theorem k_122_39 : xm_gi xm_c122 39 = some xm_e122_39 := xm_gt d_122_39
theorem d_122_40 : List.drop 40 xm_c122 = xm_c122_40 := xm_dr d_122_39
theorem k_122_40 : xm_gi xm_c122 40 = some xm_e122_40 := xm_gt d_122_40
theorem d_122_41 : List.drop 41 xm_c122 = xm_c122_41 := xm_dr d_122_40
theorem k_122_41 : xm_gi xm_c122 41 = some xm_e122_41 := xm_gt d_122_41
theorem d_122_42 : List.drop 42 xm_c122 = xm_c122_42 := xm_dr d_122_41
theorem k_122_42 : xm_gi xm_c122 42 = some xm_e122_42 := xm_gt d_122_42
theorem xb_122_0 {sc : List Int} {f : Nat → List xm_V → xm_W → xm_R} {w : xm_W} {Q : Option xm_V × xm_W → Prop} {x0 : Nat} {x1 : Int} {x2 : Int} {x3 : Int}
  (h : xm_Oi (f 141 [.inr (.inl (some x0)), .inl x1] w) (fun z2 w1 => if (z2 : Int) = 0 then (xm_Oi (f 139 [.inr (.inl (some x0)), .inl 1] w1) (fun z4 w3 => Q (some (.inl z4), w3))) else (xm_Oi (f 143 [.inl x2] w1) (fun z6 w5 => if (z6 : Int) = 0 then (xm_Oi (f 139 [.inr (.inl (some x0)), .inl 1] w5) (fun z8 w7 => Q (some (.inl z8), w7))) else (xm_O (xm_fr (xm_old sc) w5 x0 8 0) (fun r9 => xm_O (xm_fi (xm_old sc) w5 r9 2 2) (fun z10 => xm_Oi (f 142 [.inl x3, .inl 0, .inl z10] w5) (fun z12 w11 => if (z12 : Int) = 0 then (xm_Oi (f 139 [.inr (.inl (some x0)), .inl 1] w11) (fun z14 w13 => Q (some (.inl z14), w13))) else (xm_EQ (xm_old sc) xm_sta f xm_c122 22 [some (.inr (.inl (some x0))), some (.inl x1), some (.inl x2), some (.inl x3), some (.inl 0), some (.inl 0)] [] w11 Q))))))))) :
  xm_EQ (xm_old sc) xm_sta f xm_c122 0 [some (.inr (.inl (some x0))), some (.inl x1), some (.inl x2), some (.inl x3), none, none] [] w Q :=
  (xq_aload_n k_122_0 rfl (xq_iload_n k_122_1 rfl (xq_invv2 k_122_2 xr_141 rfl rfl rfl h (fun z2 w1 h => (xq_if_eq k_122_3 h (fun h => (xq_aload_n k_122_14 rfl (xq_iconst k_122_15 (xq_invv1 k_122_16 xr_139 rfl rfl rfl h (fun z4 w3 h => (xq_ireturn k_122_17 h)))))) (fun h => (xq_iload_n k_122_4 rfl (xq_invs2 k_122_5 xr_143 rfl rfl rfl h (fun z6 w5 h => (xq_if_eq k_122_6 h (fun h => (xq_aload_n k_122_14 rfl (xq_iconst k_122_15 (xq_invv1 k_122_16 xr_139 rfl rfl rfl h (fun z8 w7 h => (xq_ireturn k_122_17 h)))))) (fun h => (xq_iload_n k_122_7 rfl (xq_iconst k_122_8 (xq_aload_n k_122_9 rfl (xq_getr k_122_10 rfl h (fun r9 h => (xq_geti0 k_122_11 rfl h (fun z10 h => (xq_invs2 k_122_12 xr_142 rfl rfl rfl h (fun z12 w11 h => (xq_if_ne k_122_13 h (fun h => (xq_aload_n k_122_14 rfl (xq_iconst k_122_15 (xq_invv1 k_122_16 xr_139 rfl rfl rfl h (fun z14 w13 h => (xq_ireturn k_122_17 h)))))) (fun h => (xq_iconst k_122_18 (xq_istore k_122_19 rfl (xq_iconst k_122_20 (xq_istore k_122_21 rfl h))))))))))))))))))))))))))
theorem xb_122_22 {sc : List Int} {f : Nat → List xm_V → xm_W → xm_R} {w : xm_W} {Q : Option xm_V × xm_W → Prop} {x0 : Nat} {x1 : Int} {x2 : Int} {x3 : Int} {x4 : Int} {x5 : Int}
  (h : if (x5 : Int) < 6 then (xm_O (xm_fr (xm_old sc) w x0 8 0) (fun r1 => xm_Oi (f 419 [.inr (.inl (some r1)), .inl x1, .inl x5, .inl x2, .inl x3] w) (fun z3 w2 => if (z3 : Int) = 0 then (xm_EQ (xm_old sc) xm_sta f xm_c122 22 [some (.inr (.inl (some x0))), some (.inl x1), some (.inl x2), some (.inl x3), some (.inl x4), some (.inl (xm_w (x5 + 1)))] [] w2 Q) else (xm_EQ (xm_old sc) xm_sta f xm_c122 22 [some (.inr (.inl (some x0))), some (.inl x1), some (.inl x2), some (.inl x3), some (.inl (xm_or x4 (xm_shl 1 x5))), some (.inl (xm_w (x5 + 1)))] [] w2 Q)))) else (Q (some (.inl x4), w))) :
  xm_EQ (xm_old sc) xm_sta f xm_c122 22 [some (.inr (.inl (some x0))), some (.inl x1), some (.inl x2), some (.inl x3), some (.inl x4), some (.inl x5)] [] w Q :=
  (xq_iload k_122_22 rfl (xq_bipush k_122_23 (xq_ic_ge k_122_24 h (fun h => (xq_aload_n k_122_25 rfl (xq_getr k_122_26 rfl h (fun r1 h => (xq_iload_n k_122_27 rfl (xq_iload k_122_28 rfl (xq_iload_n k_122_29 rfl (xq_iload_n k_122_30 rfl (xq_invv2 k_122_31 xr_419 rfl rfl rfl h (fun z3 w2 h => (xq_if_eq k_122_32 h (fun h => (xq_iinc k_122_39 rfl rfl (xq_goto k_122_40 h))) (fun h => (xq_iload k_122_33 rfl (xq_iconst k_122_34 (xq_iload k_122_35 rfl (xq_ishl k_122_36 (xq_ior k_122_37 (xq_istore k_122_38 rfl (xq_iinc k_122_39 rfl rfl (xq_goto k_122_40 h)))))))))))))))))))) (fun h => (xq_iload k_122_41 rfl (xq_ireturn k_122_42 h))))))
/-- ShodBackwards.leastFound(II)I -/
theorem d_123_0 : List.drop 0 xm_c123 = xm_c123 := rfl
theorem k_123_0 : xm_gi xm_c123 0 = some xm_e123_0 := xm_gt d_123_0
theorem d_123_1 : List.drop 1 xm_c123 = xm_c123_1 := xm_dr d_123_0
theorem k_123_1 : xm_gi xm_c123 1 = some xm_e123_1 := xm_gt d_123_1
theorem d_123_2 : List.drop 2 xm_c123 = xm_c123_2 := xm_dr d_123_1
theorem k_123_2 : xm_gi xm_c123 2 = some xm_e123_2 := xm_gt d_123_2
theorem d_123_3 : List.drop 3 xm_c123 = xm_c123_3 := xm_dr d_123_2
theorem k_123_3 : xm_gi xm_c123 3 = some xm_e123_3 := xm_gt d_123_3
theorem d_123_4 : List.drop 4 xm_c123 = xm_c123_4 := xm_dr d_123_3
theorem k_123_4 : xm_gi xm_c123 4 = some xm_e123_4 := xm_gt d_123_4
theorem d_123_5 : List.drop 5 xm_c123 = xm_c123_5 := xm_dr d_123_4
theorem k_123_5 : xm_gi xm_c123 5 = some xm_e123_5 := xm_gt d_123_5
theorem d_123_6 : List.drop 6 xm_c123 = xm_c123_6 := xm_dr d_123_5
theorem k_123_6 : xm_gi xm_c123 6 = some xm_e123_6 := xm_gt d_123_6
theorem d_123_7 : List.drop 7 xm_c123 = xm_c123_7 := xm_dr d_123_6
theorem k_123_7 : xm_gi xm_c123 7 = some xm_e123_7 := xm_gt d_123_7
theorem d_123_8 : List.drop 8 xm_c123 = xm_c123_8 := xm_dr d_123_7
theorem k_123_8 : xm_gi xm_c123 8 = some xm_e123_8 := xm_gt d_123_8
theorem d_123_9 : List.drop 9 xm_c123 = xm_c123_9 := xm_dr d_123_8
theorem k_123_9 : xm_gi xm_c123 9 = some xm_e123_9 := xm_gt d_123_9
theorem d_123_10 : List.drop 10 xm_c123 = xm_c123_10 := xm_dr d_123_9
theorem k_123_10 : xm_gi xm_c123 10 = some xm_e123_10 := xm_gt d_123_10
theorem d_123_11 : List.drop 11 xm_c123 = xm_c123_11 := xm_dr d_123_10
theorem k_123_11 : xm_gi xm_c123 11 = some xm_e123_11 := xm_gt d_123_11
theorem d_123_12 : List.drop 12 xm_c123 = xm_c123_12 := xm_dr d_123_11
theorem k_123_12 : xm_gi xm_c123 12 = some xm_e123_12 := xm_gt d_123_12
theorem d_123_13 : List.drop 13 xm_c123 = xm_c123_13 := xm_dr d_123_12
theorem k_123_13 : xm_gi xm_c123 13 = some xm_e123_13 := xm_gt d_123_13
theorem d_123_14 : List.drop 14 xm_c123 = xm_c123_14 := xm_dr d_123_13
theorem k_123_14 : xm_gi xm_c123 14 = some xm_e123_14 := xm_gt d_123_14
theorem d_123_15 : List.drop 15 xm_c123 = xm_c123_15 := xm_dr d_123_14
theorem k_123_15 : xm_gi xm_c123 15 = some xm_e123_15 := xm_gt d_123_15
theorem d_123_16 : List.drop 16 xm_c123 = xm_c123_16 := xm_dr d_123_15
theorem k_123_16 : xm_gi xm_c123 16 = some xm_e123_16 := xm_gt d_123_16
theorem d_123_17 : List.drop 17 xm_c123 = xm_c123_17 := xm_dr d_123_16
theorem k_123_17 : xm_gi xm_c123 17 = some xm_e123_17 := xm_gt d_123_17
theorem d_123_18 : List.drop 18 xm_c123 = xm_c123_18 := xm_dr d_123_17
theorem k_123_18 : xm_gi xm_c123 18 = some xm_e123_18 := xm_gt d_123_18
theorem d_123_19 : List.drop 19 xm_c123 = xm_c123_19 := xm_dr d_123_18
theorem k_123_19 : xm_gi xm_c123 19 = some xm_e123_19 := xm_gt d_123_19
theorem d_123_20 : List.drop 20 xm_c123 = xm_c123_20 := xm_dr d_123_19
theorem k_123_20 : xm_gi xm_c123 20 = some xm_e123_20 := xm_gt d_123_20
theorem d_123_21 : List.drop 21 xm_c123 = xm_c123_21 := xm_dr d_123_20
theorem k_123_21 : xm_gi xm_c123 21 = some xm_e123_21 := xm_gt d_123_21
theorem d_123_22 : List.drop 22 xm_c123 = xm_c123_22 := xm_dr d_123_21
theorem k_123_22 : xm_gi xm_c123 22 = some xm_e123_22 := xm_gt d_123_22
theorem d_123_23 : List.drop 23 xm_c123 = xm_c123_23 := xm_dr d_123_22
theorem k_123_23 : xm_gi xm_c123 23 = some xm_e123_23 := xm_gt d_123_23
theorem d_123_24 : List.drop 24 xm_c123 = xm_c123_24 := xm_dr d_123_23
theorem k_123_24 : xm_gi xm_c123 24 = some xm_e123_24 := xm_gt d_123_24
theorem d_123_25 : List.drop 25 xm_c123 = xm_c123_25 := xm_dr d_123_24
theorem k_123_25 : xm_gi xm_c123 25 = some xm_e123_25 := xm_gt d_123_25
theorem d_123_26 : List.drop 26 xm_c123 = xm_c123_26 := xm_dr d_123_25
theorem k_123_26 : xm_gi xm_c123 26 = some xm_e123_26 := xm_gt d_123_26
theorem d_123_27 : List.drop 27 xm_c123 = xm_c123_27 := xm_dr d_123_26
theorem k_123_27 : xm_gi xm_c123 27 = some xm_e123_27 := xm_gt d_123_27
theorem d_123_28 : List.drop 28 xm_c123 = xm_c123_28 := xm_dr d_123_27
theorem k_123_28 : xm_gi xm_c123 28 = some xm_e123_28 := xm_gt d_123_28
theorem d_123_29 : List.drop 29 xm_c123 = xm_c123_29 := xm_dr d_123_28
theorem k_123_29 : xm_gi xm_c123 29 = some xm_e123_29 := xm_gt d_123_29
theorem d_123_30 : List.drop 30 xm_c123 = xm_c123_30 := xm_dr d_123_29
theorem k_123_30 : xm_gi xm_c123 30 = some xm_e123_30 := xm_gt d_123_30
theorem d_123_31 : List.drop 31 xm_c123 = xm_c123_31 := xm_dr d_123_30
theorem k_123_31 : xm_gi xm_c123 31 = some xm_e123_31 := xm_gt d_123_31
theorem d_123_32 : List.drop 32 xm_c123 = xm_c123_32 := xm_dr d_123_31
theorem k_123_32 : xm_gi xm_c123 32 = some xm_e123_32 := xm_gt d_123_32
theorem d_123_33 : List.drop 33 xm_c123 = xm_c123_33 := xm_dr d_123_32
theorem k_123_33 : xm_gi xm_c123 33 = some xm_e123_33 := xm_gt d_123_33
theorem d_123_34 : List.drop 34 xm_c123 = xm_c123_34 := xm_dr d_123_33
theorem k_123_34 : xm_gi xm_c123 34 = some xm_e123_34 := xm_gt d_123_34
theorem d_123_35 : List.drop 35 xm_c123 = xm_c123_35 := xm_dr d_123_34
theorem k_123_35 : xm_gi xm_c123 35 = some xm_e123_35 := xm_gt d_123_35
theorem d_123_36 : List.drop 36 xm_c123 = xm_c123_36 := xm_dr d_123_35
theorem k_123_36 : xm_gi xm_c123 36 = some xm_e123_36 := xm_gt d_123_36
theorem d_123_37 : List.drop 37 xm_c123 = xm_c123_37 := xm_dr d_123_36
theorem k_123_37 : xm_gi xm_c123 37 = some xm_e123_37 := xm_gt d_123_37
theorem d_123_38 : List.drop 38 xm_c123 = xm_c123_38 := xm_dr d_123_37
theorem k_123_38 : xm_gi xm_c123 38 = some xm_e123_38 := xm_gt d_123_38
theorem d_123_39 : List.drop 39 xm_c123 = xm_c123_39 := xm_dr d_123_38
theorem k_123_39 : xm_gi xm_c123 39 = some xm_e123_39 := xm_gt d_123_39
theorem d_123_40 : List.drop 40 xm_c123 = xm_c123_40 := xm_dr d_123_39
theorem k_123_40 : xm_gi xm_c123 40 = some xm_e123_40 := xm_gt d_123_40
theorem d_123_41 : List.drop 41 xm_c123 = xm_c123_41 := xm_dr d_123_40
theorem k_123_41 : xm_gi xm_c123 41 = some xm_e123_41 := xm_gt d_123_41
theorem d_123_42 : List.drop 42 xm_c123 = xm_c123_42 := xm_dr d_123_41
theorem k_123_42 : xm_gi xm_c123 42 = some xm_e123_42 := xm_gt d_123_42
theorem d_123_43 : List.drop 43 xm_c123 = xm_c123_43 := xm_dr d_123_42
theorem k_123_43 : xm_gi xm_c123 43 = some xm_e123_43 := xm_gt d_123_43
theorem d_123_44 : List.drop 44 xm_c123 = xm_c123_44 := xm_dr d_123_43
theorem k_123_44 : xm_gi xm_c123 44 = some xm_e123_44 := xm_gt d_123_44
theorem d_123_45 : List.drop 45 xm_c123 = xm_c123_45 := xm_dr d_123_44
theorem k_123_45 : xm_gi xm_c123 45 = some xm_e123_45 := xm_gt d_123_45
theorem d_123_46 : List.drop 46 xm_c123 = xm_c123_46 := xm_dr d_123_45
theorem k_123_46 : xm_gi xm_c123 46 = some xm_e123_46 := xm_gt d_123_46
theorem d_123_47 : List.drop 47 xm_c123 = xm_c123_47 := xm_dr d_123_46
theorem k_123_47 : xm_gi xm_c123 47 = some xm_e123_47 := xm_gt d_123_47
theorem d_123_48 : List.drop 48 xm_c123 = xm_c123_48 := xm_dr d_123_47
theorem k_123_48 : xm_gi xm_c123 48 = some xm_e123_48 := xm_gt d_123_48
theorem d_123_49 : List.drop 49 xm_c123 = xm_c123_49 := xm_dr d_123_48
theorem k_123_49 : xm_gi xm_c123 49 = some xm_e123_49 := xm_gt d_123_49
theorem d_123_50 : List.drop 50 xm_c123 = xm_c123_50 := xm_dr d_123_49
theorem k_123_50 : xm_gi xm_c123 50 = some xm_e123_50 := xm_gt d_123_50
theorem d_123_51 : List.drop 51 xm_c123 = xm_c123_51 := xm_dr d_123_50
theorem k_123_51 : xm_gi xm_c123 51 = some xm_e123_51 := xm_gt d_123_51
theorem d_123_52 : List.drop 52 xm_c123 = xm_c123_52 := xm_dr d_123_51
theorem k_123_52 : xm_gi xm_c123 52 = some xm_e123_52 := xm_gt d_123_52
theorem d_123_53 : List.drop 53 xm_c123 = xm_c123_53 := xm_dr d_123_52
theorem k_123_53 : xm_gi xm_c123 53 = some xm_e123_53 := xm_gt d_123_53
theorem d_123_54 : List.drop 54 xm_c123 = xm_c123_54 := xm_dr d_123_53
theorem k_123_54 : xm_gi xm_c123 54 = some xm_e123_54 := xm_gt d_123_54
theorem d_123_55 : List.drop 55 xm_c123 = xm_c123_55 := xm_dr d_123_54
theorem k_123_55 : xm_gi xm_c123 55 = some xm_e123_55 := xm_gt d_123_55
theorem d_123_56 : List.drop 56 xm_c123 = xm_c123_56 := xm_dr d_123_55
theorem k_123_56 : xm_gi xm_c123 56 = some xm_e123_56 := xm_gt d_123_56
theorem d_123_57 : List.drop 57 xm_c123 = xm_c123_57 := xm_dr d_123_56
theorem k_123_57 : xm_gi xm_c123 57 = some xm_e123_57 := xm_gt d_123_57
theorem d_123_58 : List.drop 58 xm_c123 = xm_c123_58 := xm_dr d_123_57
theorem k_123_58 : xm_gi xm_c123 58 = some xm_e123_58 := xm_gt d_123_58
theorem d_123_59 : List.drop 59 xm_c123 = xm_c123_59 := xm_dr d_123_58
theorem k_123_59 : xm_gi xm_c123 59 = some xm_e123_59 := xm_gt d_123_59
theorem d_123_60 : List.drop 60 xm_c123 = xm_c123_60 := xm_dr d_123_59
theorem k_123_60 : xm_gi xm_c123 60 = some xm_e123_60 := xm_gt d_123_60
theorem d_123_61 : List.drop 61 xm_c123 = xm_c123_61 := xm_dr d_123_60
theorem k_123_61 : xm_gi xm_c123 61 = some xm_e123_61 := xm_gt d_123_61
theorem d_123_62 : List.drop 62 xm_c123 = xm_c123_62 := xm_dr d_123_61
theorem k_123_62 : xm_gi xm_c123 62 = some xm_e123_62 := xm_gt d_123_62
theorem d_123_63 : List.drop 63 xm_c123 = xm_c123_63 := xm_dr d_123_62
theorem k_123_63 : xm_gi xm_c123 63 = some xm_e123_63 := xm_gt d_123_63
theorem d_123_64 : List.drop 64 xm_c123 = xm_c123_64 := xm_dr d_123_63
theorem k_123_64 : xm_gi xm_c123 64 = some xm_e123_64 := xm_gt d_123_64
theorem d_123_65 : List.drop 65 xm_c123 = xm_c123_65 := xm_dr d_123_64
theorem k_123_65 : xm_gi xm_c123 65 = some xm_e123_65 := xm_gt d_123_65
theorem d_123_66 : List.drop 66 xm_c123 = xm_c123_66 := xm_dr d_123_65
theorem k_123_66 : xm_gi xm_c123 66 = some xm_e123_66 := xm_gt d_123_66
theorem d_123_67 : List.drop 67 xm_c123 = xm_c123_67 := xm_dr d_123_66
theorem k_123_67 : xm_gi xm_c123 67 = some xm_e123_67 := xm_gt d_123_67
theorem d_123_68 : List.drop 68 xm_c123 = xm_c123_68 := xm_dr d_123_67
theorem k_123_68 : xm_gi xm_c123 68 = some xm_e123_68 := xm_gt d_123_68
theorem d_123_69 : List.drop 69 xm_c123 = xm_c123_69 := xm_dr d_123_68
theorem k_123_69 : xm_gi xm_c123 69 = some xm_e123_69 := xm_gt d_123_69
theorem d_123_70 : List.drop 70 xm_c123 = xm_c123_70 := xm_dr d_123_69
theorem k_123_70 : xm_gi xm_c123 70 = some xm_e123_70 := xm_gt d_123_70
theorem xb_123_0 {sc : List Int} {f : Nat → List xm_V → xm_W → xm_R} {w : xm_W} {Q : Option xm_V × xm_W → Prop} {x0 : Nat} {x1 : Int} {x2 : Int}
  (h : xm_Oi (f 141 [.inr (.inl (some x0)), .inl x1] w) (fun z2 w1 => if (z2 : Int) = 0 then (xm_Oi (f 139 [.inr (.inl (some x0)), .inl 1] w1) (fun z4 w3 => Q (some (.inl z4), w3))) else (xm_Oi (f 142 [.inl x2, .inl 1, .inl 12] w1) (fun z6 w5 => if (z6 : Int) = 0 then (xm_Oi (f 139 [.inr (.inl (some x0)), .inl 1] w5) (fun z14 w13 => Q (some (.inl z14), w13))) else (xm_O (xm_fr (xm_old sc) w5 x0 8 0) (fun r7 => xm_O (xm_fr (xm_old sc) w5 r7 2 3) (fun r8 => xm_O (xm_refs (xm_old sc) w5 r8) (fun l9 => xm_O (xm_at l9 x1) (fun r10 => xm_O r10 (fun y11 => xm_O (xm_fi (xm_old sc) w5 y11 4 2) (fun z12 => xm_EQ (xm_old sc) xm_sta f xm_c123 26 [some (.inr (.inl (some x0))), some (.inl x1), some (.inl x2), some (.inl z12), some (.inl 0), some (.inl (-1)), some (.inl 0), none] [] w5 Q))))))))))) :
  xm_EQ (xm_old sc) xm_sta f xm_c123 0 [some (.inr (.inl (some x0))), some (.inl x1), some (.inl x2), none, none, none, none, none] [] w Q :=
  (xq_aload_n k_123_0 rfl (xq_iload_n k_123_1 rfl (xq_invv2 k_123_2 xr_141 rfl rfl rfl h (fun z2 w1 h => (xq_if_eq k_123_3 h (fun h => (xq_aload_n k_123_9 rfl (xq_iconst k_123_10 (xq_invv1 k_123_11 xr_139 rfl rfl rfl h (fun z4 w3 h => (xq_ireturn k_123_12 h)))))) (fun h => (xq_iload_n k_123_4 rfl (xq_iconst k_123_5 (xq_bipush k_123_6 (xq_invs2 k_123_7 xr_142 rfl rfl rfl h (fun z6 w5 h => (xq_if_ne k_123_8 h (fun h => (xq_aload_n k_123_9 rfl (xq_iconst k_123_10 (xq_invv1 k_123_11 xr_139 rfl rfl rfl h (fun z14 w13 h => (xq_ireturn k_123_12 h)))))) (fun h => (xq_aload_n k_123_13 rfl (xq_getr k_123_14 rfl h (fun r7 h => (xq_getr k_123_15 rfl h (fun r8 h => (xq_iload_n k_123_16 rfl (xq_aaload k_123_17 h (fun l9 h => h) (fun l9 r10 h => (match r10, h with
 | some y11, h => (xq_geti0 k_123_18 rfl h (fun z12 h => (xq_istore_n k_123_19 rfl (xq_iconst k_123_20 (xq_istore k_123_21 rfl (xq_iconst k_123_22 (xq_istore k_123_23 rfl (xq_iconst k_123_24 (xq_istore k_123_25 rfl h)))))))))
 | none, h => False.elim h))))))))))))))))))))))
theorem xb_123_26 {sc : List Int} {f : Nat → List xm_V → xm_W → xm_R} {w : xm_W} {Q : Option xm_V × xm_W → Prop} {x0 : Nat} {x1 : Int} {x2 : Int} {x3 : Int} {x4 : Int} {x5 : Int} {x6 : Int} {u7 : Option xm_V}
  (h : if (x6 : Int) < 6 then (xm_O (xm_fr (xm_old sc) w x0 8 1) (fun r1 => xm_O (xm_fr (xm_old sc) w x0 8 0) (fun r2 => xm_Ov (f 402 [.inr (.inl (some r1)), .inr (.inl (some r2))] w) (fun w3 => xm_O (xm_fr (xm_old sc) w3 x0 8 1) (fun r4 => xm_O (xm_fr (xm_old sc) w3 r4 2 3) (fun r5 => xm_O (xm_refs (xm_old sc) w3 r5) (fun l6 => xm_O (xm_at l6 x1) (fun r7 => xm_O r7 (fun y8 => xm_O (xm_setf w3 y8 4 0 0 (.inl x6)) (fun w9 => xm_O (xm_fr (xm_old sc) w9 x0 8 1) (fun r10 => xm_Ov (f 404 [.inr (.inl (some r10)), .inl x2] w9) (fun w11 => xm_O (xm_fr (xm_old sc) w11 x0 8 1) (fun r12 => xm_Oi (f 418 [.inr (.inl (some r12)), .inl x3, .inl 0, .inl 40, .inl 0] w11) (fun z14 w13 => xm_O (xm_fr (xm_old sc) w13 x0 8 1) (fun r15 => xm_O (xm_fr (xm_old sc) w13 r15 2 3) (fun r16 => xm_O (xm_refs (xm_old sc) w13 r16) (fun l17 => xm_O (xm_at l17 x1) (fun r18 => xm_O r18 (fun y19 => xm_O (xm_fi (xm_old sc) w13 y19 4 2) (fun z20 => xm_Oi (f 149 [.inl z14, .inl z20] w13) (fun z22 w21 => if (x5 : Int) < z22 then (xm_EQ (xm_old sc) xm_sta f xm_c123 26 [some (.inr (.inl (some x0))), some (.inl x1), some (.inl x2), some (.inl x3), some (.inl x6), some (.inl z22), some (.inl (xm_w (x6 + 1))), some (.inl z22)] [] w21 Q) else (xm_EQ (xm_old sc) xm_sta f xm_c123 26 [some (.inr (.inl (some x0))), some (.inl x1), some (.inl x2), some (.inl x3), some (.inl x4), some (.inl x5), some (.inl (xm_w (x6 + 1))), some (.inl z22)] [] w21 Q)))))))))))))))))))))) else (Q (some (.inl x4), w))) :
  xm_EQ (xm_old sc) xm_sta f xm_c123 26 [some (.inr (.inl (some x0))), some (.inl x1), some (.inl x2), some (.inl x3), some (.inl x4), some (.inl x5), some (.inl x6), u7] [] w Q :=
  (xq_iload k_123_26 rfl (xq_bipush k_123_27 (xq_ic_ge k_123_28 h (fun h => (xq_aload_n k_123_29 rfl (xq_getr k_123_30 rfl h (fun r1 h => (xq_aload_n k_123_31 rfl (xq_getr k_123_32 rfl h (fun r2 h => (xq_invv0 k_123_33 xr_402 rfl rfl rfl h (fun w3 h => (xq_aload_n k_123_34 rfl (xq_getr k_123_35 rfl h (fun r4 h => (xq_getr k_123_36 rfl h (fun r5 h => (xq_iload_n k_123_37 rfl (xq_aaload k_123_38 h (fun l6 h => h) (fun l6 r7 h => (xq_iload k_123_39 rfl (match r7, h with
 | some y8, h => (xq_put k_123_40 rfl h (fun w9 h => (xq_aload_n k_123_41 rfl (xq_getr k_123_42 rfl h (fun r10 h => (xq_iload_n k_123_43 rfl (xq_invv0 k_123_44 xr_404 rfl rfl rfl h (fun w11 h => (xq_aload_n k_123_45 rfl (xq_getr k_123_46 rfl h (fun r12 h => (xq_iload_n k_123_47 rfl (xq_iconst k_123_48 (xq_bipush k_123_49 (xq_iconst k_123_50 (xq_invv1 k_123_51 xr_418 rfl rfl rfl h (fun z14 w13 h => (xq_aload_n k_123_52 rfl (xq_getr k_123_53 rfl h (fun r15 h => (xq_getr k_123_54 rfl h (fun r16 h => (xq_iload_n k_123_55 rfl (xq_aaload k_123_56 h (fun l17 h => h) (fun l17 r18 h => (match r18, h with
 | some y19, h => (xq_geti0 k_123_57 rfl h (fun z20 h => (xq_invs1 k_123_58 xr_149 rfl rfl rfl h (fun z22 w21 h => (xq_istore k_123_59 rfl (xq_iload k_123_60 rfl (xq_iload k_123_61 rfl (xq_ic_le k_123_62 h (fun h => (xq_iload k_123_63 rfl (xq_istore k_123_64 rfl (xq_iload k_123_65 rfl (xq_istore k_123_66 rfl (xq_iinc k_123_67 rfl rfl (xq_goto k_123_68 h))))))) (fun h => (xq_iinc k_123_67 rfl rfl (xq_goto k_123_68 h)))))))))))
 | none, h => False.elim h))))))))))))))))))))))))))
 | none, h => False.elim h))))))))))))))))))) (fun h => (xq_iload k_123_69 rfl (xq_ireturn k_123_70 h))))))
/-- ShodBackwards.decoy(III)I -/
theorem d_124_0 : List.drop 0 xm_c124 = xm_c124 := rfl
theorem k_124_0 : xm_gi xm_c124 0 = some xm_e124_0 := xm_gt d_124_0
theorem d_124_1 : List.drop 1 xm_c124 = xm_c124_1 := xm_dr d_124_0
theorem k_124_1 : xm_gi xm_c124 1 = some xm_e124_1 := xm_gt d_124_1
theorem d_124_2 : List.drop 2 xm_c124 = xm_c124_2 := xm_dr d_124_1
theorem k_124_2 : xm_gi xm_c124 2 = some xm_e124_2 := xm_gt d_124_2
theorem d_124_3 : List.drop 3 xm_c124 = xm_c124_3 := xm_dr d_124_2
theorem k_124_3 : xm_gi xm_c124 3 = some xm_e124_3 := xm_gt d_124_3
theorem d_124_4 : List.drop 4 xm_c124 = xm_c124_4 := xm_dr d_124_3
theorem k_124_4 : xm_gi xm_c124 4 = some xm_e124_4 := xm_gt d_124_4
theorem d_124_5 : List.drop 5 xm_c124 = xm_c124_5 := xm_dr d_124_4
theorem k_124_5 : xm_gi xm_c124 5 = some xm_e124_5 := xm_gt d_124_5
theorem d_124_6 : List.drop 6 xm_c124 = xm_c124_6 := xm_dr d_124_5
theorem k_124_6 : xm_gi xm_c124 6 = some xm_e124_6 := xm_gt d_124_6
theorem d_124_7 : List.drop 7 xm_c124 = xm_c124_7 := xm_dr d_124_6
theorem k_124_7 : xm_gi xm_c124 7 = some xm_e124_7 := xm_gt d_124_7
theorem d_124_8 : List.drop 8 xm_c124 = xm_c124_8 := xm_dr d_124_7
theorem k_124_8 : xm_gi xm_c124 8 = some xm_e124_8 := xm_gt d_124_8
theorem d_124_9 : List.drop 9 xm_c124 = xm_c124_9 := xm_dr d_124_8
theorem k_124_9 : xm_gi xm_c124 9 = some xm_e124_9 := xm_gt d_124_9
theorem d_124_10 : List.drop 10 xm_c124 = xm_c124_10 := xm_dr d_124_9
theorem k_124_10 : xm_gi xm_c124 10 = some xm_e124_10 := xm_gt d_124_10
theorem d_124_11 : List.drop 11 xm_c124 = xm_c124_11 := xm_dr d_124_10
theorem k_124_11 : xm_gi xm_c124 11 = some xm_e124_11 := xm_gt d_124_11
theorem d_124_12 : List.drop 12 xm_c124 = xm_c124_12 := xm_dr d_124_11
theorem k_124_12 : xm_gi xm_c124 12 = some xm_e124_12 := xm_gt d_124_12
theorem d_124_13 : List.drop 13 xm_c124 = xm_c124_13 := xm_dr d_124_12
theorem k_124_13 : xm_gi xm_c124 13 = some xm_e124_13 := xm_gt d_124_13
theorem d_124_14 : List.drop 14 xm_c124 = xm_c124_14 := xm_dr d_124_13
theorem k_124_14 : xm_gi xm_c124 14 = some xm_e124_14 := xm_gt d_124_14
theorem d_124_15 : List.drop 15 xm_c124 = xm_c124_15 := xm_dr d_124_14
theorem k_124_15 : xm_gi xm_c124 15 = some xm_e124_15 := xm_gt d_124_15
theorem d_124_16 : List.drop 16 xm_c124 = xm_c124_16 := xm_dr d_124_15
theorem k_124_16 : xm_gi xm_c124 16 = some xm_e124_16 := xm_gt d_124_16
theorem d_124_17 : List.drop 17 xm_c124 = xm_c124_17 := xm_dr d_124_16
theorem k_124_17 : xm_gi xm_c124 17 = some xm_e124_17 := xm_gt d_124_17
theorem d_124_18 : List.drop 18 xm_c124 = xm_c124_18 := xm_dr d_124_17
theorem k_124_18 : xm_gi xm_c124 18 = some xm_e124_18 := xm_gt d_124_18
theorem d_124_19 : List.drop 19 xm_c124 = xm_c124_19 := xm_dr d_124_18
theorem k_124_19 : xm_gi xm_c124 19 = some xm_e124_19 := xm_gt d_124_19
theorem d_124_20 : List.drop 20 xm_c124 = xm_c124_20 := xm_dr d_124_19
theorem k_124_20 : xm_gi xm_c124 20 = some xm_e124_20 := xm_gt d_124_20
theorem d_124_21 : List.drop 21 xm_c124 = xm_c124_21 := xm_dr d_124_20
theorem k_124_21 : xm_gi xm_c124 21 = some xm_e124_21 := xm_gt d_124_21
theorem d_124_22 : List.drop 22 xm_c124 = xm_c124_22 := xm_dr d_124_21
theorem k_124_22 : xm_gi xm_c124 22 = some xm_e124_22 := xm_gt d_124_22
theorem d_124_23 : List.drop 23 xm_c124 = xm_c124_23 := xm_dr d_124_22
theorem k_124_23 : xm_gi xm_c124 23 = some xm_e124_23 := xm_gt d_124_23
theorem d_124_24 : List.drop 24 xm_c124 = xm_c124_24 := xm_dr d_124_23
theorem k_124_24 : xm_gi xm_c124 24 = some xm_e124_24 := xm_gt d_124_24
theorem d_124_25 : List.drop 25 xm_c124 = xm_c124_25 := xm_dr d_124_24
theorem k_124_25 : xm_gi xm_c124 25 = some xm_e124_25 := xm_gt d_124_25
theorem d_124_26 : List.drop 26 xm_c124 = xm_c124_26 := xm_dr d_124_25
theorem k_124_26 : xm_gi xm_c124 26 = some xm_e124_26 := xm_gt d_124_26
theorem d_124_27 : List.drop 27 xm_c124 = xm_c124_27 := xm_dr d_124_26
theorem k_124_27 : xm_gi xm_c124 27 = some xm_e124_27 := xm_gt d_124_27
theorem d_124_28 : List.drop 28 xm_c124 = xm_c124_28 := xm_dr d_124_27
theorem k_124_28 : xm_gi xm_c124 28 = some xm_e124_28 := xm_gt d_124_28
theorem d_124_29 : List.drop 29 xm_c124 = xm_c124_29 := xm_dr d_124_28
theorem k_124_29 : xm_gi xm_c124 29 = some xm_e124_29 := xm_gt d_124_29
theorem d_124_30 : List.drop 30 xm_c124 = xm_c124_30 := xm_dr d_124_29
theorem k_124_30 : xm_gi xm_c124 30 = some xm_e124_30 := xm_gt d_124_30
theorem d_124_31 : List.drop 31 xm_c124 = xm_c124_31 := xm_dr d_124_30
theorem k_124_31 : xm_gi xm_c124 31 = some xm_e124_31 := xm_gt d_124_31
theorem d_124_32 : List.drop 32 xm_c124 = xm_c124_32 := xm_dr d_124_31
theorem k_124_32 : xm_gi xm_c124 32 = some xm_e124_32 := xm_gt d_124_32
theorem d_124_33 : List.drop 33 xm_c124 = xm_c124_33 := xm_dr d_124_32
theorem k_124_33 : xm_gi xm_c124 33 = some xm_e124_33 := xm_gt d_124_33
theorem d_124_34 : List.drop 34 xm_c124 = xm_c124_34 := xm_dr d_124_33
theorem k_124_34 : xm_gi xm_c124 34 = some xm_e124_34 := xm_gt d_124_34
theorem d_124_35 : List.drop 35 xm_c124 = xm_c124_35 := xm_dr d_124_34
theorem k_124_35 : xm_gi xm_c124 35 = some xm_e124_35 := xm_gt d_124_35
theorem d_124_36 : List.drop 36 xm_c124 = xm_c124_36 := xm_dr d_124_35
theorem k_124_36 : xm_gi xm_c124 36 = some xm_e124_36 := xm_gt d_124_36
theorem d_124_37 : List.drop 37 xm_c124 = xm_c124_37 := xm_dr d_124_36
theorem k_124_37 : xm_gi xm_c124 37 = some xm_e124_37 := xm_gt d_124_37
theorem d_124_38 : List.drop 38 xm_c124 = xm_c124_38 := xm_dr d_124_37
theorem k_124_38 : xm_gi xm_c124 38 = some xm_e124_38 := xm_gt d_124_38
theorem d_124_39 : List.drop 39 xm_c124 = xm_c124_39 := xm_dr d_124_38
theorem k_124_39 : xm_gi xm_c124 39 = some xm_e124_39 := xm_gt d_124_39
theorem d_124_40 : List.drop 40 xm_c124 = xm_c124_40 := xm_dr d_124_39
theorem k_124_40 : xm_gi xm_c124 40 = some xm_e124_40 := xm_gt d_124_40
theorem d_124_41 : List.drop 41 xm_c124 = xm_c124_41 := xm_dr d_124_40
theorem k_124_41 : xm_gi xm_c124 41 = some xm_e124_41 := xm_gt d_124_41
theorem d_124_42 : List.drop 42 xm_c124 = xm_c124_42 := xm_dr d_124_41
theorem k_124_42 : xm_gi xm_c124 42 = some xm_e124_42 := xm_gt d_124_42
theorem d_124_43 : List.drop 43 xm_c124 = xm_c124_43 := xm_dr d_124_42
theorem k_124_43 : xm_gi xm_c124 43 = some xm_e124_43 := xm_gt d_124_43
theorem d_124_44 : List.drop 44 xm_c124 = xm_c124_44 := xm_dr d_124_43
theorem k_124_44 : xm_gi xm_c124 44 = some xm_e124_44 := xm_gt d_124_44
theorem d_124_45 : List.drop 45 xm_c124 = xm_c124_45 := xm_dr d_124_44
theorem k_124_45 : xm_gi xm_c124 45 = some xm_e124_45 := xm_gt d_124_45
theorem d_124_46 : List.drop 46 xm_c124 = xm_c124_46 := xm_dr d_124_45
theorem k_124_46 : xm_gi xm_c124 46 = some xm_e124_46 := xm_gt d_124_46
theorem d_124_47 : List.drop 47 xm_c124 = xm_c124_47 := xm_dr d_124_46
theorem k_124_47 : xm_gi xm_c124 47 = some xm_e124_47 := xm_gt d_124_47
theorem d_124_48 : List.drop 48 xm_c124 = xm_c124_48 := xm_dr d_124_47
theorem k_124_48 : xm_gi xm_c124 48 = some xm_e124_48 := xm_gt d_124_48
theorem d_124_49 : List.drop 49 xm_c124 = xm_c124_49 := xm_dr d_124_48
theorem k_124_49 : xm_gi xm_c124 49 = some xm_e124_49 := xm_gt d_124_49
theorem d_124_50 : List.drop 50 xm_c124 = xm_c124_50 := xm_dr d_124_49
theorem k_124_50 : xm_gi xm_c124 50 = some xm_e124_50 := xm_gt d_124_50
theorem d_124_51 : List.drop 51 xm_c124 = xm_c124_51 := xm_dr d_124_50
theorem k_124_51 : xm_gi xm_c124 51 = some xm_e124_51 := xm_gt d_124_51
theorem d_124_52 : List.drop 52 xm_c124 = xm_c124_52 := xm_dr d_124_51
theorem k_124_52 : xm_gi xm_c124 52 = some xm_e124_52 := xm_gt d_124_52
theorem d_124_53 : List.drop 53 xm_c124 = xm_c124_53 := xm_dr d_124_52
theorem k_124_53 : xm_gi xm_c124 53 = some xm_e124_53 := xm_gt d_124_53
theorem d_124_54 : List.drop 54 xm_c124 = xm_c124_54 := xm_dr d_124_53
theorem k_124_54 : xm_gi xm_c124 54 = some xm_e124_54 := xm_gt d_124_54
theorem d_124_55 : List.drop 55 xm_c124 = xm_c124_55 := xm_dr d_124_54
theorem k_124_55 : xm_gi xm_c124 55 = some xm_e124_55 := xm_gt d_124_55
theorem d_124_56 : List.drop 56 xm_c124 = xm_c124_56 := xm_dr d_124_55
theorem k_124_56 : xm_gi xm_c124 56 = some xm_e124_56 := xm_gt d_124_56
theorem d_124_57 : List.drop 57 xm_c124 = xm_c124_57 := xm_dr d_124_56
theorem k_124_57 : xm_gi xm_c124 57 = some xm_e124_57 := xm_gt d_124_57
theorem d_124_58 : List.drop 58 xm_c124 = xm_c124_58 := xm_dr d_124_57
theorem k_124_58 : xm_gi xm_c124 58 = some xm_e124_58 := xm_gt d_124_58
theorem d_124_59 : List.drop 59 xm_c124 = xm_c124_59 := xm_dr d_124_58
theorem k_124_59 : xm_gi xm_c124 59 = some xm_e124_59 := xm_gt d_124_59
theorem xb_124_0 {sc : List Int} {f : Nat → List xm_V → xm_W → xm_R} {w : xm_W} {Q : Option xm_V × xm_W → Prop} {x0 : Nat} {x1 : Int} {x2 : Int} {x3 : Int}
  (h : xm_Oi (f 141 [.inr (.inl (some x0)), .inl x1] w) (fun z2 w1 => if (z2 : Int) = 0 then (xm_Oi (f 139 [.inr (.inl (some x0)), .inl 1] w1) (fun z4 w3 => Q (some (.inl z4), w3))) else (xm_Oi (f 142 [.inl x2, .inl 1, .inl 12] w1) (fun z6 w5 => if (z6 : Int) = 0 then (xm_Oi (f 139 [.inr (.inl (some x0)), .inl 1] w5) (fun z8 w7 => Q (some (.inl z8), w7))) else (xm_Oi (f 143 [.inl x3] w5) (fun z10 w9 => if (z10 : Int) = 0 then (xm_Oi (f 139 [.inr (.inl (some x0)), .inl 1] w9) (fun z38 w37 => Q (some (.inl z38), w37))) else (xm_Ov (f 140 [.inr (.inl (some x0)), .inl x2] w9) (fun w11 => xm_O (xm_fr (xm_old sc) w11 x0 8 1) (fun r12 => xm_Oi (f 418 [.inr (.inl (some r12)), .inl x3, .inl 0, .inl 40, .inl 0] w11) (fun z14 w13 => xm_O (xm_fr (xm_old sc) w13 x0 8 1) (fun r15 => xm_O (xm_fr (xm_old sc) w13 x0 8 0) (fun r16 => xm_Ov (f 402 [.inr (.inl (some r15)), .inr (.inl (some r16))] w13) (fun w17 => xm_O (xm_fr (xm_old sc) w17 x0 8 1) (fun r18 => xm_O (xm_fr (xm_old sc) w17 r18 2 3) (fun r19 => xm_O (xm_refs (xm_old sc) w17 r19) (fun l20 => xm_O (xm_at l20 x1) (fun r21 => xm_O (xm_fr (xm_old sc) w17 x0 8 1) (fun r22 => xm_O (xm_fr (xm_old sc) w17 r22 2 3) (fun r23 => xm_O (xm_refs (xm_old sc) w17 r23) (fun l24 => xm_O (xm_at l24 x1) (fun r25 => xm_O r25 (fun y26 => xm_O (xm_fi (xm_old sc) w17 y26 4 4) (fun z27 => xm_O r21 (fun y28 => xm_O (xm_setf w17 y28 4 5 0 (.inl z27)) (fun w29 => xm_O (xm_fr (xm_old sc) w29 x0 8 1) (fun r30 => xm_Ov (f 404 [.inr (.inl (some r30)), .inl x2] w29) (fun w31 => xm_O (xm_fr (xm_old sc) w31 x0 8 1) (fun r32 => xm_Oi (f 418 [.inr (.inl (some r32)), .inl x3, .inl 0, .inl 40, .inl 0] w31) (fun z34 w33 => xm_Oi (f 149 [.inl z14, .inl z34] w33) (fun z36 w35 => Q (some (.inl z36), w35))))))))))))))))))))))))))))))) :
  xm_EQ (xm_old sc) xm_sta f xm_c124 0 [some (.inr (.inl (some x0))), some (.inl x1), some (.inl x2), some (.inl x3), none, none] [] w Q :=
  (xq_aload_n k_124_0 rfl (xq_iload_n k_124_1 rfl (xq_invv2 k_124_2 xr_141 rfl rfl rfl h (fun z2 w1 h => (xq_if_eq k_124_3 h (fun h => (xq_aload_n k_124_12 rfl (xq_iconst k_124_13 (xq_invv1 k_124_14 xr_139 rfl rfl rfl h (fun z4 w3 h => (xq_ireturn k_124_15 h)))))) (fun h => (xq_iload_n k_124_4 rfl (xq_iconst k_124_5 (xq_bipush k_124_6 (xq_invs2 k_124_7 xr_142 rfl rfl rfl h (fun z6 w5 h => (xq_if_eq k_124_8 h (fun h => (xq_aload_n k_124_12 rfl (xq_iconst k_124_13 (xq_invv1 k_124_14 xr_139 rfl rfl rfl h (fun z8 w7 h => (xq_ireturn k_124_15 h)))))) (fun h => (xq_iload_n k_124_9 rfl (xq_invs2 k_124_10 xr_143 rfl rfl rfl h (fun z10 w9 h => (xq_if_ne k_124_11 h (fun h => (xq_aload_n k_124_12 rfl (xq_iconst k_124_13 (xq_invv1 k_124_14 xr_139 rfl rfl rfl h (fun z38 w37 h => (xq_ireturn k_124_15 h)))))) (fun h => (xq_aload_n k_124_16 rfl (xq_iload_n k_124_17 rfl (xq_invv0 k_124_18 xr_140 rfl rfl rfl h (fun w11 h => (xq_aload_n k_124_19 rfl (xq_getr k_124_20 rfl h (fun r12 h => (xq_iload_n k_124_21 rfl (xq_iconst k_124_22 (xq_bipush k_124_23 (xq_iconst k_124_24 (xq_invv1 k_124_25 xr_418 rfl rfl rfl h (fun z14 w13 h => (xq_istore k_124_26 rfl (xq_aload_n k_124_27 rfl (xq_getr k_124_28 rfl h (fun r15 h => (xq_aload_n k_124_29 rfl (xq_getr k_124_30 rfl h (fun r16 h => (xq_invv0 k_124_31 xr_402 rfl rfl rfl h (fun w17 h => (xq_aload_n k_124_32 rfl (xq_getr k_124_33 rfl h (fun r18 h => (xq_getr k_124_34 rfl h (fun r19 h => (xq_iload_n k_124_35 rfl (xq_aaload k_124_36 h (fun l20 h => h) (fun l20 r21 h => (xq_aload_n k_124_37 rfl (xq_getr k_124_38 rfl h (fun r22 h => (xq_getr k_124_39 rfl h (fun r23 h => (xq_iload_n k_124_40 rfl (xq_aaload k_124_41 h (fun l24 h => h) (fun l24 r25 h => (match r25, h with
 | some y26, h => (xq_geti0 k_124_42 rfl h (fun z27 h => (match r21, h with
 | some y28, h => (xq_put k_124_43 rfl h (fun w29 h => (xq_aload_n k_124_44 rfl (xq_getr k_124_45 rfl h (fun r30 h => (xq_iload_n k_124_46 rfl (xq_invv0 k_124_47 xr_404 rfl rfl rfl h (fun w31 h => (xq_aload_n k_124_48 rfl (xq_getr k_124_49 rfl h (fun r32 h => (xq_iload_n k_124_50 rfl (xq_iconst k_124_51 (xq_bipush k_124_52 (xq_iconst k_124_53 (xq_invv1 k_124_54 xr_418 rfl rfl rfl h (fun z34 w33 h => (xq_istore k_124_55 rfl (xq_iload k_124_56 rfl (xq_iload k_124_57 rfl (xq_invs1 k_124_58 xr_149 rfl rfl rfl h (fun z36 w35 h => (xq_ireturn k_124_59 h)))))))))))))))))))))))
 | none, h => False.elim h)))
 | none, h => False.elim h)))))))))))))))))))))))))))))))))))))))))))))))))))))))))
/-- ShodBackwards.rest(II)I -/
theorem d_125_0 : List.drop 0 xm_c125 = xm_c125 := rfl
theorem k_125_0 : xm_gi xm_c125 0 = some xm_e125_0 := xm_gt d_125_0
theorem d_125_1 : List.drop 1 xm_c125 = xm_c125_1 := xm_dr d_125_0
theorem k_125_1 : xm_gi xm_c125 1 = some xm_e125_1 := xm_gt d_125_1
theorem d_125_2 : List.drop 2 xm_c125 = xm_c125_2 := xm_dr d_125_1
theorem k_125_2 : xm_gi xm_c125 2 = some xm_e125_2 := xm_gt d_125_2
theorem d_125_3 : List.drop 3 xm_c125 = xm_c125_3 := xm_dr d_125_2
theorem k_125_3 : xm_gi xm_c125 3 = some xm_e125_3 := xm_gt d_125_3
theorem d_125_4 : List.drop 4 xm_c125 = xm_c125_4 := xm_dr d_125_3
theorem k_125_4 : xm_gi xm_c125 4 = some xm_e125_4 := xm_gt d_125_4
theorem d_125_5 : List.drop 5 xm_c125 = xm_c125_5 := xm_dr d_125_4
theorem k_125_5 : xm_gi xm_c125 5 = some xm_e125_5 := xm_gt d_125_5
theorem d_125_6 : List.drop 6 xm_c125 = xm_c125_6 := xm_dr d_125_5
theorem k_125_6 : xm_gi xm_c125 6 = some xm_e125_6 := xm_gt d_125_6
theorem d_125_7 : List.drop 7 xm_c125 = xm_c125_7 := xm_dr d_125_6
theorem k_125_7 : xm_gi xm_c125 7 = some xm_e125_7 := xm_gt d_125_7
theorem d_125_8 : List.drop 8 xm_c125 = xm_c125_8 := xm_dr d_125_7
theorem k_125_8 : xm_gi xm_c125 8 = some xm_e125_8 := xm_gt d_125_8
theorem d_125_9 : List.drop 9 xm_c125 = xm_c125_9 := xm_dr d_125_8
theorem k_125_9 : xm_gi xm_c125 9 = some xm_e125_9 := xm_gt d_125_9
theorem d_125_10 : List.drop 10 xm_c125 = xm_c125_10 := xm_dr d_125_9
theorem k_125_10 : xm_gi xm_c125 10 = some xm_e125_10 := xm_gt d_125_10
theorem d_125_11 : List.drop 11 xm_c125 = xm_c125_11 := xm_dr d_125_10
theorem k_125_11 : xm_gi xm_c125 11 = some xm_e125_11 := xm_gt d_125_11
theorem d_125_12 : List.drop 12 xm_c125 = xm_c125_12 := xm_dr d_125_11
theorem k_125_12 : xm_gi xm_c125 12 = some xm_e125_12 := xm_gt d_125_12
theorem d_125_13 : List.drop 13 xm_c125 = xm_c125_13 := xm_dr d_125_12
theorem k_125_13 : xm_gi xm_c125 13 = some xm_e125_13 := xm_gt d_125_13
theorem d_125_14 : List.drop 14 xm_c125 = xm_c125_14 := xm_dr d_125_13
theorem k_125_14 : xm_gi xm_c125 14 = some xm_e125_14 := xm_gt d_125_14
theorem d_125_15 : List.drop 15 xm_c125 = xm_c125_15 := xm_dr d_125_14
theorem k_125_15 : xm_gi xm_c125 15 = some xm_e125_15 := xm_gt d_125_15
theorem d_125_16 : List.drop 16 xm_c125 = xm_c125_16 := xm_dr d_125_15
theorem k_125_16 : xm_gi xm_c125 16 = some xm_e125_16 := xm_gt d_125_16
theorem d_125_17 : List.drop 17 xm_c125 = xm_c125_17 := xm_dr d_125_16
theorem k_125_17 : xm_gi xm_c125 17 = some xm_e125_17 := xm_gt d_125_17
theorem d_125_18 : List.drop 18 xm_c125 = xm_c125_18 := xm_dr d_125_17
theorem k_125_18 : xm_gi xm_c125 18 = some xm_e125_18 := xm_gt d_125_18
theorem d_125_19 : List.drop 19 xm_c125 = xm_c125_19 := xm_dr d_125_18
theorem k_125_19 : xm_gi xm_c125 19 = some xm_e125_19 := xm_gt d_125_19
theorem d_125_20 : List.drop 20 xm_c125 = xm_c125_20 := xm_dr d_125_19
theorem k_125_20 : xm_gi xm_c125 20 = some xm_e125_20 := xm_gt d_125_20
theorem d_125_21 : List.drop 21 xm_c125 = xm_c125_21 := xm_dr d_125_20
theorem k_125_21 : xm_gi xm_c125 21 = some xm_e125_21 := xm_gt d_125_21
theorem d_125_22 : List.drop 22 xm_c125 = xm_c125_22 := xm_dr d_125_21
theorem k_125_22 : xm_gi xm_c125 22 = some xm_e125_22 := xm_gt d_125_22
theorem d_125_23 : List.drop 23 xm_c125 = xm_c125_23 := xm_dr d_125_22
theorem k_125_23 : xm_gi xm_c125 23 = some xm_e125_23 := xm_gt d_125_23
theorem d_125_24 : List.drop 24 xm_c125 = xm_c125_24 := xm_dr d_125_23
theorem k_125_24 : xm_gi xm_c125 24 = some xm_e125_24 := xm_gt d_125_24
theorem d_125_25 : List.drop 25 xm_c125 = xm_c125_25 := xm_dr d_125_24
theorem k_125_25 : xm_gi xm_c125 25 = some xm_e125_25 := xm_gt d_125_25
theorem d_125_26 : List.drop 26 xm_c125 = xm_c125_26 := xm_dr d_125_25
theorem k_125_26 : xm_gi xm_c125 26 = some xm_e125_26 := xm_gt d_125_26
theorem d_125_27 : List.drop 27 xm_c125 = xm_c125_27 := xm_dr d_125_26
theorem k_125_27 : xm_gi xm_c125 27 = some xm_e125_27 := xm_gt d_125_27
theorem d_125_28 : List.drop 28 xm_c125 = xm_c125_28 := xm_dr d_125_27
theorem k_125_28 : xm_gi xm_c125 28 = some xm_e125_28 := xm_gt d_125_28
theorem d_125_29 : List.drop 29 xm_c125 = xm_c125_29 := xm_dr d_125_28
theorem k_125_29 : xm_gi xm_c125 29 = some xm_e125_29 := xm_gt d_125_29
theorem d_125_30 : List.drop 30 xm_c125 = xm_c125_30 := xm_dr d_125_29
theorem k_125_30 : xm_gi xm_c125 30 = some xm_e125_30 := xm_gt d_125_30
theorem d_125_31 : List.drop 31 xm_c125 = xm_c125_31 := xm_dr d_125_30
theorem k_125_31 : xm_gi xm_c125 31 = some xm_e125_31 := xm_gt d_125_31
theorem d_125_32 : List.drop 32 xm_c125 = xm_c125_32 := xm_dr d_125_31
theorem k_125_32 : xm_gi xm_c125 32 = some xm_e125_32 := xm_gt d_125_32
theorem d_125_33 : List.drop 33 xm_c125 = xm_c125_33 := xm_dr d_125_32
theorem k_125_33 : xm_gi xm_c125 33 = some xm_e125_33 := xm_gt d_125_33
theorem d_125_34 : List.drop 34 xm_c125 = xm_c125_34 := xm_dr d_125_33
theorem k_125_34 : xm_gi xm_c125 34 = some xm_e125_34 := xm_gt d_125_34
theorem d_125_35 : List.drop 35 xm_c125 = xm_c125_35 := xm_dr d_125_34
theorem k_125_35 : xm_gi xm_c125 35 = some xm_e125_35 := xm_gt d_125_35
theorem d_125_36 : List.drop 36 xm_c125 = xm_c125_36 := xm_dr d_125_35
theorem k_125_36 : xm_gi xm_c125 36 = some xm_e125_36 := xm_gt d_125_36
theorem d_125_37 : List.drop 37 xm_c125 = xm_c125_37 := xm_dr d_125_36
theorem k_125_37 : xm_gi xm_c125 37 = some xm_e125_37 := xm_gt d_125_37
theorem d_125_38 : List.drop 38 xm_c125 = xm_c125_38 := xm_dr d_125_37
theorem k_125_38 : xm_gi xm_c125 38 = some xm_e125_38 := xm_gt d_125_38
theorem d_125_39 : List.drop 39 xm_c125 = xm_c125_39 := xm_dr d_125_38
theorem k_125_39 : xm_gi xm_c125 39 = some xm_e125_39 := xm_gt d_125_39
theorem d_125_40 : List.drop 40 xm_c125 = xm_c125_40 := xm_dr d_125_39
theorem k_125_40 : xm_gi xm_c125 40 = some xm_e125_40 := xm_gt d_125_40
theorem d_125_41 : List.drop 41 xm_c125 = xm_c125_41 := xm_dr d_125_40
theorem k_125_41 : xm_gi xm_c125 41 = some xm_e125_41 := xm_gt d_125_41
theorem d_125_42 : List.drop 42 xm_c125 = xm_c125_42 := xm_dr d_125_41
theorem k_125_42 : xm_gi xm_c125 42 = some xm_e125_42 := xm_gt d_125_42
theorem d_125_43 : List.drop 43 xm_c125 = xm_c125_43 := xm_dr d_125_42
theorem k_125_43 : xm_gi xm_c125 43 = some xm_e125_43 := xm_gt d_125_43
theorem d_125_44 : List.drop 44 xm_c125 = xm_c125_44 := xm_dr d_125_43
theorem k_125_44 : xm_gi xm_c125 44 = some xm_e125_44 := xm_gt d_125_44
theorem d_125_45 : List.drop 45 xm_c125 = xm_c125_45 := xm_dr d_125_44
theorem k_125_45 : xm_gi xm_c125 45 = some xm_e125_45 := xm_gt d_125_45
theorem d_125_46 : List.drop 46 xm_c125 = xm_c125_46 := xm_dr d_125_45
theorem k_125_46 : xm_gi xm_c125 46 = some xm_e125_46 := xm_gt d_125_46
theorem d_125_47 : List.drop 47 xm_c125 = xm_c125_47 := xm_dr d_125_46
theorem k_125_47 : xm_gi xm_c125 47 = some xm_e125_47 := xm_gt d_125_47
theorem d_125_48 : List.drop 48 xm_c125 = xm_c125_48 := xm_dr d_125_47
theorem k_125_48 : xm_gi xm_c125 48 = some xm_e125_48 := xm_gt d_125_48
theorem d_125_49 : List.drop 49 xm_c125 = xm_c125_49 := xm_dr d_125_48
theorem k_125_49 : xm_gi xm_c125 49 = some xm_e125_49 := xm_gt d_125_49
theorem d_125_50 : List.drop 50 xm_c125 = xm_c125_50 := xm_dr d_125_49
theorem k_125_50 : xm_gi xm_c125 50 = some xm_e125_50 := xm_gt d_125_50
theorem d_125_51 : List.drop 51 xm_c125 = xm_c125_51 := xm_dr d_125_50
theorem k_125_51 : xm_gi xm_c125 51 = some xm_e125_51 := xm_gt d_125_51
theorem d_125_52 : List.drop 52 xm_c125 = xm_c125_52 := xm_dr d_125_51
theorem k_125_52 : xm_gi xm_c125 52 = some xm_e125_52 := xm_gt d_125_52
theorem d_125_53 : List.drop 53 xm_c125 = xm_c125_53 := xm_dr d_125_52
theorem k_125_53 : xm_gi xm_c125 53 = some xm_e125_53 := xm_gt d_125_53
theorem d_125_54 : List.drop 54 xm_c125 = xm_c125_54 := xm_dr d_125_53
theorem k_125_54 : xm_gi xm_c125 54 = some xm_e125_54 := xm_gt d_125_54
theorem d_125_55 : List.drop 55 xm_c125 = xm_c125_55 := xm_dr d_125_54
theorem k_125_55 : xm_gi xm_c125 55 = some xm_e125_55 := xm_gt d_125_55
theorem d_125_56 : List.drop 56 xm_c125 = xm_c125_56 := xm_dr d_125_55
theorem k_125_56 : xm_gi xm_c125 56 = some xm_e125_56 := xm_gt d_125_56
theorem d_125_57 : List.drop 57 xm_c125 = xm_c125_57 := xm_dr d_125_56
theorem k_125_57 : xm_gi xm_c125 57 = some xm_e125_57 := xm_gt d_125_57
theorem d_125_58 : List.drop 58 xm_c125 = xm_c125_58 := xm_dr d_125_57
theorem k_125_58 : xm_gi xm_c125 58 = some xm_e125_58 := xm_gt d_125_58
theorem d_125_59 : List.drop 59 xm_c125 = xm_c125_59 := xm_dr d_125_58
theorem k_125_59 : xm_gi xm_c125 59 = some xm_e125_59 := xm_gt d_125_59
theorem d_125_60 : List.drop 60 xm_c125 = xm_c125_60 := xm_dr d_125_59
theorem k_125_60 : xm_gi xm_c125 60 = some xm_e125_60 := xm_gt d_125_60
theorem d_125_61 : List.drop 61 xm_c125 = xm_c125_61 := xm_dr d_125_60
theorem k_125_61 : xm_gi xm_c125 61 = some xm_e125_61 := xm_gt d_125_61
theorem d_125_62 : List.drop 62 xm_c125 = xm_c125_62 := xm_dr d_125_61
theorem k_125_62 : xm_gi xm_c125 62 = some xm_e125_62 := xm_gt d_125_62
theorem d_125_63 : List.drop 63 xm_c125 = xm_c125_63 := xm_dr d_125_62
theorem k_125_63 : xm_gi xm_c125 63 = some xm_e125_63 := xm_gt d_125_63
theorem d_125_64 : List.drop 64 xm_c125 = xm_c125_64 := xm_dr d_125_63
theorem k_125_64 : xm_gi xm_c125 64 = some xm_e125_64 := xm_gt d_125_64
theorem d_125_65 : List.drop 65 xm_c125 = xm_c125_65 := xm_dr d_125_64
theorem k_125_65 : xm_gi xm_c125 65 = some xm_e125_65 := xm_gt d_125_65
theorem d_125_66 : List.drop 66 xm_c125 = xm_c125_66 := xm_dr d_125_65
theorem k_125_66 : xm_gi xm_c125 66 = some xm_e125_66 := xm_gt d_125_66
theorem d_125_67 : List.drop 67 xm_c125 = xm_c125_67 := xm_dr d_125_66
theorem k_125_67 : xm_gi xm_c125 67 = some xm_e125_67 := xm_gt d_125_67
theorem d_125_68 : List.drop 68 xm_c125 = xm_c125_68 := xm_dr d_125_67
theorem k_125_68 : xm_gi xm_c125 68 = some xm_e125_68 := xm_gt d_125_68
theorem d_125_69 : List.drop 69 xm_c125 = xm_c125_69 := xm_dr d_125_68
theorem k_125_69 : xm_gi xm_c125 69 = some xm_e125_69 := xm_gt d_125_69
theorem d_125_70 : List.drop 70 xm_c125 = xm_c125_70 := xm_dr d_125_69
theorem k_125_70 : xm_gi xm_c125 70 = some xm_e125_70 := xm_gt d_125_70
theorem xb_125_0 {sc : List Int} {f : Nat → List xm_V → xm_W → xm_R} {w : xm_W} {Q : Option xm_V × xm_W → Prop} {x0 : Nat} {x1 : Int} {x2 : Int}
  (h : xm_Oi (f 147 [.inl x1] w) (fun z2 w1 => if (z2 : Int) = 0 then (xm_Oi (f 139 [.inr (.inl (some x0)), .inl 1] w1) (fun z4 w3 => Q (some (.inl z4), w3))) else (xm_Oi (f 142 [.inl x2, .inl 0, .inl 4] w1) (fun z6 w5 => if (z6 : Int) = 0 then (xm_Oi (f 139 [.inr (.inl (some x0)), .inl 1] w5) (fun z19 w18 => Q (some (.inl z19), w18))) else (xm_O (xm_fr (xm_old sc) w5 x0 8 9) (fun r7 => xm_O (xm_refs (xm_old sc) w5 r7) (fun l8 => xm_O (xm_at l8 x1) (fun r9 => xm_Oi (f 702 [.inr (.inl r9)] w5) (fun z11 w10 => if (z11 : Int) = 0 then (xm_O r9 (fun y14 => xm_O (xm_fi (xm_old sc) w10 y14 5 1) (fun z15 => if (z15 : Int) < 4 then (xm_Oi (f 139 [.inr (.inl (some x0)), .inl 2] w10) (fun z17 w16 => Q (some (.inl z17), w16))) else (xm_EQ (xm_old sc) xm_sta f xm_c125 30 [some (.inr (.inl (some x0))), some (.inl x1), some (.inl x2), some (.inr (.inl (some y14))), some (.inl 0)] [] w10 Q)))) else (xm_Oi (f 139 [.inr (.inl (some x0)), .inl 2] w10) (fun z13 w12 => Q (some (.inl z13), w12)))))))))))) :
  xm_EQ (xm_old sc) xm_sta f xm_c125 0 [some (.inr (.inl (some x0))), some (.inl x1), some (.inl x2), none, none] [] w Q :=
  (xq_iload_n k_125_0 rfl (xq_invs2 k_125_1 xr_147 rfl rfl rfl h (fun z2 w1 h => (xq_if_eq k_125_2 h (fun h => (xq_aload_n k_125_8 rfl (xq_iconst k_125_9 (xq_invv1 k_125_10 xr_139 rfl rfl rfl h (fun z4 w3 h => (xq_ireturn k_125_11 h)))))) (fun h => (xq_iload_n k_125_3 rfl (xq_iconst k_125_4 (xq_iconst k_125_5 (xq_invs2 k_125_6 xr_142 rfl rfl rfl h (fun z6 w5 h => (xq_if_ne k_125_7 h (fun h => (xq_aload_n k_125_8 rfl (xq_iconst k_125_9 (xq_invv1 k_125_10 xr_139 rfl rfl rfl h (fun z19 w18 h => (xq_ireturn k_125_11 h)))))) (fun h => (xq_aload_n k_125_12 rfl (xq_getr k_125_13 rfl h (fun r7 h => (xq_iload_n k_125_14 rfl (xq_aaload k_125_15 h (fun l8 h => h) (fun l8 r9 h => (xq_astore_n k_125_16 rfl (xq_aload_n k_125_17 rfl (xq_invv2 k_125_18 xr_702 rfl rfl rfl h (fun z11 w10 h => (xq_if_ne k_125_19 h (fun h => (xq_aload_n k_125_20 rfl (match r9, h with
 | some y14, h => (xq_geti0 k_125_21 rfl h (fun z15 h => (xq_iconst k_125_22 (xq_ic_ge k_125_23 h (fun h => (xq_aload_n k_125_24 rfl (xq_iconst k_125_25 (xq_invv1 k_125_26 xr_139 rfl rfl rfl h (fun z17 w16 h => (xq_ireturn k_125_27 h)))))) (fun h => (xq_iconst k_125_28 (xq_istore k_125_29 rfl h)))))))
 | none, h => False.elim h))) (fun h => (xq_aload_n k_125_24 rfl (xq_iconst k_125_25 (xq_invv1 k_125_26 xr_139 rfl rfl rfl h (fun z13 w12 h => (xq_ireturn k_125_27 h)))))))))))))))))))))))))))))
theorem xb_125_30 {sc : List Int} {f : Nat → List xm_V → xm_W → xm_R} {w : xm_W} {Q : Option xm_V × xm_W → Prop} {x0 : Nat} {x1 : Int} {x2 : Int} {x3 : Option Nat} {x4 : Int}
  (h : if (x4 : Int) < 4 then (xm_O x3 (fun y17 => xm_O (xm_fr (xm_old sc) w y17 5 2) (fun r18 => xm_O (xm_ints (xm_old sc) w r18) (fun l19 => xm_O (xm_at l19 x4) (fun z20 => xm_Oi (f 142 [.inl z20, .inl (-999), .inl 999] w) (fun z22 w21 => if (z22 : Int) = 0 then (xm_Oi (f 139 [.inr (.inl (some x0)), .inl 1] w21) (fun z24 w23 => Q (some (.inl z24), w23))) else (xm_EQ (xm_old sc) xm_sta f xm_c125 30 [some (.inr (.inl (some x0))), some (.inl x1), some (.inl x2), some (.inr (.inl (some y17))), some (.inl (xm_w (x4 + 1)))] [] w21 Q))))))) else (xm_O (xm_fr (xm_old sc) w x0 8 8) (fun r1 => xm_O x3 (fun y2 => xm_O (xm_fr (xm_old sc) w y2 5 2) (fun r3 => xm_Ov (f 202 [.inr (.inl (some r1)), .inr (.inl (some r3))] w) (fun w4 => xm_O (xm_fr (xm_old sc) w4 x0 8 8) (fun r5 => xm_O (xm_fi (xm_old sc) w4 r5 0 0) (fun z6 => if (z6 : Int) = 0 then (xm_O (xm_fr (xm_old sc) w4 x0 8 8) (fun r7 => xm_Oi (f 203 [.inr (.inl (some r7)), .inl x2] w4) (fun z9 w8 => Q (some (.inl z9), w8)))) else (if (x2 : Int) = 1 then (xm_Oi (f 139 [.inr (.inl (some x0)), .inl 2] w4) (fun z11 w10 => Q (some (.inl z11), w10))) else (if (x2 : Int) = 2 then (xm_Oi (f 139 [.inr (.inl (some x0)), .inl 2] w4) (fun z16 w15 => Q (some (.inl z16), w15))) else (xm_O (xm_fr (xm_old sc) w4 x0 8 8) (fun r12 => xm_Oi (f 203 [.inr (.inl (some r12)), .inl x2] w4) (fun z14 w13 => Q (some (.inl z14), w13)))))))))))))) :
  xm_EQ (xm_old sc) xm_sta f xm_c125 30 [some (.inr (.inl (some x0))), some (.inl x1), some (.inl x2), some (.inr (.inl x3)), some (.inl x4)] [] w Q :=
  (xq_iload k_125_30 rfl (xq_iconst k_125_31 (xq_ic_ge k_125_32 h (fun h => (xq_aload_n k_125_33 rfl (match x3, h with
 | some y17, h => (xq_getr k_125_34 rfl h (fun r18 h => (xq_iload k_125_35 rfl (xq_iaload k_125_36 h (fun l19 h => h) (fun l19 z20 h => (xq_sipush k_125_37 (xq_sipush k_125_38 (xq_invs2 k_125_39 xr_142 rfl rfl rfl h (fun z22 w21 h => (xq_if_ne k_125_40 h (fun h => (xq_aload_n k_125_41 rfl (xq_iconst k_125_42 (xq_invv1 k_125_43 xr_139 rfl rfl rfl h (fun z24 w23 h => (xq_ireturn k_125_44 h)))))) (fun h => (xq_iinc k_125_45 rfl rfl (xq_goto k_125_46 h)))))))))))))
 | none, h => False.elim h))) (fun h => (xq_aload_n k_125_47 rfl (xq_getr k_125_48 rfl h (fun r1 h => (xq_aload_n k_125_49 rfl (match x3, h with
 | some y2, h => (xq_getr k_125_50 rfl h (fun r3 h => (xq_invv0 k_125_51 xr_202 rfl rfl rfl h (fun w4 h => (xq_aload_n k_125_52 rfl (xq_getr k_125_53 rfl h (fun r5 h => (xq_geti1 k_125_54 rfl h (fun z6 h => (xq_if_eq k_125_55 h (fun h => (xq_aload_n k_125_66 rfl (xq_getr k_125_67 rfl h (fun r7 h => (xq_iload_n k_125_68 rfl (xq_invv1 k_125_69 xr_203 rfl rfl rfl h (fun z9 w8 h => (xq_ireturn k_125_70 h)))))))) (fun h => (xq_iload_n k_125_56 rfl (xq_iconst k_125_57 (xq_ic_eq k_125_58 h (fun h => (xq_aload_n k_125_62 rfl (xq_iconst k_125_63 (xq_invv1 k_125_64 xr_139 rfl rfl rfl h (fun z11 w10 h => (xq_ireturn k_125_65 h)))))) (fun h => (xq_iload_n k_125_59 rfl (xq_iconst k_125_60 (xq_ic_ne k_125_61 h (fun h => (xq_aload_n k_125_62 rfl (xq_iconst k_125_63 (xq_invv1 k_125_64 xr_139 rfl rfl rfl h (fun z16 w15 h => (xq_ireturn k_125_65 h)))))) (fun h => (xq_aload_n k_125_66 rfl (xq_getr k_125_67 rfl h (fun r12 h => (xq_iload_n k_125_68 rfl (xq_invv1 k_125_69 xr_203 rfl rfl rfl h (fun z14 w13 h => (xq_ireturn k_125_70 h))))))))))))))))))))))))))
 | none, h => False.elim h)))))))))
/-- ShodBackwards.voice(III)I -/
theorem d_126_0 : List.drop 0 xm_c126 = xm_c126 := rfl
theorem k_126_0 : xm_gi xm_c126 0 = some xm_e126_0 := xm_gt d_126_0
theorem d_126_1 : List.drop 1 xm_c126 = xm_c126_1 := xm_dr d_126_0
theorem k_126_1 : xm_gi xm_c126 1 = some xm_e126_1 := xm_gt d_126_1
theorem d_126_2 : List.drop 2 xm_c126 = xm_c126_2 := xm_dr d_126_1
theorem k_126_2 : xm_gi xm_c126 2 = some xm_e126_2 := xm_gt d_126_2
theorem d_126_3 : List.drop 3 xm_c126 = xm_c126_3 := xm_dr d_126_2
theorem k_126_3 : xm_gi xm_c126 3 = some xm_e126_3 := xm_gt d_126_3
theorem d_126_4 : List.drop 4 xm_c126 = xm_c126_4 := xm_dr d_126_3
theorem k_126_4 : xm_gi xm_c126 4 = some xm_e126_4 := xm_gt d_126_4
theorem d_126_5 : List.drop 5 xm_c126 = xm_c126_5 := xm_dr d_126_4
theorem k_126_5 : xm_gi xm_c126 5 = some xm_e126_5 := xm_gt d_126_5
theorem d_126_6 : List.drop 6 xm_c126 = xm_c126_6 := xm_dr d_126_5
theorem k_126_6 : xm_gi xm_c126 6 = some xm_e126_6 := xm_gt d_126_6
theorem d_126_7 : List.drop 7 xm_c126 = xm_c126_7 := xm_dr d_126_6
theorem k_126_7 : xm_gi xm_c126 7 = some xm_e126_7 := xm_gt d_126_7
theorem d_126_8 : List.drop 8 xm_c126 = xm_c126_8 := xm_dr d_126_7
theorem k_126_8 : xm_gi xm_c126 8 = some xm_e126_8 := xm_gt d_126_8
theorem d_126_9 : List.drop 9 xm_c126 = xm_c126_9 := xm_dr d_126_8
theorem k_126_9 : xm_gi xm_c126 9 = some xm_e126_9 := xm_gt d_126_9
theorem d_126_10 : List.drop 10 xm_c126 = xm_c126_10 := xm_dr d_126_9
theorem k_126_10 : xm_gi xm_c126 10 = some xm_e126_10 := xm_gt d_126_10
theorem d_126_11 : List.drop 11 xm_c126 = xm_c126_11 := xm_dr d_126_10
theorem k_126_11 : xm_gi xm_c126 11 = some xm_e126_11 := xm_gt d_126_11
theorem d_126_12 : List.drop 12 xm_c126 = xm_c126_12 := xm_dr d_126_11
theorem k_126_12 : xm_gi xm_c126 12 = some xm_e126_12 := xm_gt d_126_12
theorem d_126_13 : List.drop 13 xm_c126 = xm_c126_13 := xm_dr d_126_12
theorem k_126_13 : xm_gi xm_c126 13 = some xm_e126_13 := xm_gt d_126_13
theorem d_126_14 : List.drop 14 xm_c126 = xm_c126_14 := xm_dr d_126_13
theorem k_126_14 : xm_gi xm_c126 14 = some xm_e126_14 := xm_gt d_126_14
theorem d_126_15 : List.drop 15 xm_c126 = xm_c126_15 := xm_dr d_126_14
theorem k_126_15 : xm_gi xm_c126 15 = some xm_e126_15 := xm_gt d_126_15
theorem d_126_16 : List.drop 16 xm_c126 = xm_c126_16 := xm_dr d_126_15
theorem k_126_16 : xm_gi xm_c126 16 = some xm_e126_16 := xm_gt d_126_16
theorem d_126_17 : List.drop 17 xm_c126 = xm_c126_17 := xm_dr d_126_16
theorem k_126_17 : xm_gi xm_c126 17 = some xm_e126_17 := xm_gt d_126_17
theorem d_126_18 : List.drop 18 xm_c126 = xm_c126_18 := xm_dr d_126_17
theorem k_126_18 : xm_gi xm_c126 18 = some xm_e126_18 := xm_gt d_126_18
theorem d_126_19 : List.drop 19 xm_c126 = xm_c126_19 := xm_dr d_126_18
theorem k_126_19 : xm_gi xm_c126 19 = some xm_e126_19 := xm_gt d_126_19
theorem d_126_20 : List.drop 20 xm_c126 = xm_c126_20 := xm_dr d_126_19
theorem k_126_20 : xm_gi xm_c126 20 = some xm_e126_20 := xm_gt d_126_20
theorem d_126_21 : List.drop 21 xm_c126 = xm_c126_21 := xm_dr d_126_20
theorem k_126_21 : xm_gi xm_c126 21 = some xm_e126_21 := xm_gt d_126_21
theorem d_126_22 : List.drop 22 xm_c126 = xm_c126_22 := xm_dr d_126_21
theorem k_126_22 : xm_gi xm_c126 22 = some xm_e126_22 := xm_gt d_126_22
theorem d_126_23 : List.drop 23 xm_c126 = xm_c126_23 := xm_dr d_126_22
theorem k_126_23 : xm_gi xm_c126 23 = some xm_e126_23 := xm_gt d_126_23
theorem d_126_24 : List.drop 24 xm_c126 = xm_c126_24 := xm_dr d_126_23
theorem k_126_24 : xm_gi xm_c126 24 = some xm_e126_24 := xm_gt d_126_24
theorem d_126_25 : List.drop 25 xm_c126 = xm_c126_25 := xm_dr d_126_24
theorem k_126_25 : xm_gi xm_c126 25 = some xm_e126_25 := xm_gt d_126_25
theorem d_126_26 : List.drop 26 xm_c126 = xm_c126_26 := xm_dr d_126_25
theorem k_126_26 : xm_gi xm_c126 26 = some xm_e126_26 := xm_gt d_126_26
theorem d_126_27 : List.drop 27 xm_c126 = xm_c126_27 := xm_dr d_126_26
theorem k_126_27 : xm_gi xm_c126 27 = some xm_e126_27 := xm_gt d_126_27
theorem d_126_28 : List.drop 28 xm_c126 = xm_c126_28 := xm_dr d_126_27
theorem k_126_28 : xm_gi xm_c126 28 = some xm_e126_28 := xm_gt d_126_28
theorem d_126_29 : List.drop 29 xm_c126 = xm_c126_29 := xm_dr d_126_28
theorem k_126_29 : xm_gi xm_c126 29 = some xm_e126_29 := xm_gt d_126_29
theorem d_126_30 : List.drop 30 xm_c126 = xm_c126_30 := xm_dr d_126_29
theorem k_126_30 : xm_gi xm_c126 30 = some xm_e126_30 := xm_gt d_126_30
theorem d_126_31 : List.drop 31 xm_c126 = xm_c126_31 := xm_dr d_126_30
theorem k_126_31 : xm_gi xm_c126 31 = some xm_e126_31 := xm_gt d_126_31
theorem d_126_32 : List.drop 32 xm_c126 = xm_c126_32 := xm_dr d_126_31
theorem k_126_32 : xm_gi xm_c126 32 = some xm_e126_32 := xm_gt d_126_32
theorem d_126_33 : List.drop 33 xm_c126 = xm_c126_33 := xm_dr d_126_32
theorem k_126_33 : xm_gi xm_c126 33 = some xm_e126_33 := xm_gt d_126_33
theorem d_126_34 : List.drop 34 xm_c126 = xm_c126_34 := xm_dr d_126_33
theorem k_126_34 : xm_gi xm_c126 34 = some xm_e126_34 := xm_gt d_126_34
theorem d_126_35 : List.drop 35 xm_c126 = xm_c126_35 := xm_dr d_126_34
theorem k_126_35 : xm_gi xm_c126 35 = some xm_e126_35 := xm_gt d_126_35
theorem d_126_36 : List.drop 36 xm_c126 = xm_c126_36 := xm_dr d_126_35
theorem k_126_36 : xm_gi xm_c126 36 = some xm_e126_36 := xm_gt d_126_36
theorem d_126_37 : List.drop 37 xm_c126 = xm_c126_37 := xm_dr d_126_36
theorem k_126_37 : xm_gi xm_c126 37 = some xm_e126_37 := xm_gt d_126_37
theorem d_126_38 : List.drop 38 xm_c126 = xm_c126_38 := xm_dr d_126_37
theorem k_126_38 : xm_gi xm_c126 38 = some xm_e126_38 := xm_gt d_126_38
theorem d_126_39 : List.drop 39 xm_c126 = xm_c126_39 := xm_dr d_126_38
theorem k_126_39 : xm_gi xm_c126 39 = some xm_e126_39 := xm_gt d_126_39
theorem xb_126_0 {sc : List Int} {f : Nat → List xm_V → xm_W → xm_R} {w : xm_W} {Q : Option xm_V × xm_W → Prop} {x0 : Nat} {x1 : Int} {x2 : Int} {x3 : Int}
  (h : xm_Oi (f 141 [.inr (.inl (some x0)), .inl x1] w) (fun z2 w1 => if (z2 : Int) = 0 then (xm_Oi (f 139 [.inr (.inl (some x0)), .inl 1] w1) (fun z4 w3 => Q (some (.inl z4), w3))) else (xm_Oi (f 142 [.inl x2, .inl 0, .inl 3] w1) (fun z6 w5 => if (z6 : Int) = 0 then (xm_Oi (f 139 [.inr (.inl (some x0)), .inl 1] w5) (fun z30 w29 => Q (some (.inl z30), w29))) else (if (x2 : Int) = 3 then (xm_O (xm_fr (xm_old sc) w5 x0 8 0) (fun r14 => xm_O (xm_fr (xm_old sc) w5 r14 2 3) (fun r15 => xm_O (xm_refs (xm_old sc) w5 r15) (fun l16 => xm_O (xm_at l16 x1) (fun r17 => xm_O r17 (fun y18 => xm_O (xm_fi (xm_old sc) w5 y18 4 1) (fun z19 => if (z19 : Int) = x1 then (xm_Oi (f 139 [.inr (.inl (some x0)), .inl 6] w5) (fun z28 w27 => Q (some (.inl z28), w27))) else (xm_O (xm_fr (xm_old sc) w5 x0 8 7) (fun r20 => xm_O (xm_fr (xm_old sc) w5 x0 8 0) (fun r21 => xm_O (xm_fr (xm_old sc) w5 r21 2 3) (fun r22 => xm_O (xm_refs (xm_old sc) w5 r22) (fun l23 => xm_O (xm_at l23 x1) (fun r24 => xm_Oi (f 802 [.inr (.inl (some r20)), .inr (.inl r24), .inl x1, .inl x2, .inl x3] w5) (fun z26 w25 => Q (some (.inl z26), w25))))))))))))))) else (xm_O (xm_fr (xm_old sc) w5 x0 8 7) (fun r7 => xm_O (xm_fr (xm_old sc) w5 x0 8 0) (fun r8 => xm_O (xm_fr (xm_old sc) w5 r8 2 3) (fun r9 => xm_O (xm_refs (xm_old sc) w5 r9) (fun l10 => xm_O (xm_at l10 x1) (fun r11 => xm_Oi (f 802 [.inr (.inl (some r7)), .inr (.inl r11), .inl x1, .inl x2, .inl x3] w5) (fun z13 w12 => Q (some (.inl z13), w12))))))))))))) :
  xm_EQ (xm_old sc) xm_sta f xm_c126 0 [some (.inr (.inl (some x0))), some (.inl x1), some (.inl x2), some (.inl x3)] [] w Q :=
  (xq_aload_n k_126_0 rfl (xq_iload_n k_126_1 rfl (xq_invv2 k_126_2 xr_141 rfl rfl rfl h (fun z2 w1 h => (xq_if_eq k_126_3 h (fun h => (xq_aload_n k_126_9 rfl (xq_iconst k_126_10 (xq_invv1 k_126_11 xr_139 rfl rfl rfl h (fun z4 w3 h => (xq_ireturn k_126_12 h)))))) (fun h => (xq_iload_n k_126_4 rfl (xq_iconst k_126_5 (xq_iconst k_126_6 (xq_invs2 k_126_7 xr_142 rfl rfl rfl h (fun z6 w5 h => (xq_if_ne k_126_8 h (fun h => (xq_aload_n k_126_9 rfl (xq_iconst k_126_10 (xq_invv1 k_126_11 xr_139 rfl rfl rfl h (fun z30 w29 h => (xq_ireturn k_126_12 h)))))) (fun h => (xq_iload_n k_126_13 rfl (xq_iconst k_126_14 (xq_ic_ne k_126_15 h (fun h => (xq_aload_n k_126_16 rfl (xq_getr k_126_17 rfl h (fun r14 h => (xq_getr k_126_18 rfl h (fun r15 h => (xq_iload_n k_126_19 rfl (xq_aaload k_126_20 h (fun l16 h => h) (fun l16 r17 h => (match r17, h with
 | some y18, h => (xq_geti0 k_126_21 rfl h (fun z19 h => (xq_iload_n k_126_22 rfl (xq_ic_ne k_126_23 h (fun h => (xq_aload_n k_126_24 rfl (xq_bipush k_126_25 (xq_invv1 k_126_26 xr_139 rfl rfl rfl h (fun z28 w27 h => (xq_ireturn k_126_27 h)))))) (fun h => (xq_aload_n k_126_28 rfl (xq_getr k_126_29 rfl h (fun r20 h => (xq_aload_n k_126_30 rfl (xq_getr k_126_31 rfl h (fun r21 h => (xq_getr k_126_32 rfl h (fun r22 h => (xq_iload_n k_126_33 rfl (xq_aaload k_126_34 h (fun l23 h => h) (fun l23 r24 h => (xq_iload_n k_126_35 rfl (xq_iload_n k_126_36 rfl (xq_iload_n k_126_37 rfl (xq_invv1 k_126_38 xr_802 rfl rfl rfl h (fun z26 w25 h => (xq_ireturn k_126_39 h))))))))))))))))))))))
 | none, h => False.elim h)))))))))) (fun h => (xq_aload_n k_126_28 rfl (xq_getr k_126_29 rfl h (fun r7 h => (xq_aload_n k_126_30 rfl (xq_getr k_126_31 rfl h (fun r8 h => (xq_getr k_126_32 rfl h (fun r9 h => (xq_iload_n k_126_33 rfl (xq_aaload k_126_34 h (fun l10 h => h) (fun l10 r11 h => (xq_iload_n k_126_35 rfl (xq_iload_n k_126_36 rfl (xq_iload_n k_126_37 rfl (xq_invv1 k_126_38 xr_802 rfl rfl rfl h (fun z13 w12 h => (xq_ireturn k_126_39 h))))))))))))))))))))))))))))))))))
/-- ShodBackwards.body(I)I -/
theorem d_127_0 : List.drop 0 xm_c127 = xm_c127 := rfl
theorem k_127_0 : xm_gi xm_c127 0 = some xm_e127_0 := xm_gt d_127_0
theorem d_127_1 : List.drop 1 xm_c127 = xm_c127_1 := xm_dr d_127_0
theorem k_127_1 : xm_gi xm_c127 1 = some xm_e127_1 := xm_gt d_127_1
theorem d_127_2 : List.drop 2 xm_c127 = xm_c127_2 := xm_dr d_127_1
theorem k_127_2 : xm_gi xm_c127 2 = some xm_e127_2 := xm_gt d_127_2
theorem d_127_3 : List.drop 3 xm_c127 = xm_c127_3 := xm_dr d_127_2
theorem k_127_3 : xm_gi xm_c127 3 = some xm_e127_3 := xm_gt d_127_3
theorem d_127_4 : List.drop 4 xm_c127 = xm_c127_4 := xm_dr d_127_3
theorem k_127_4 : xm_gi xm_c127 4 = some xm_e127_4 := xm_gt d_127_4
theorem d_127_5 : List.drop 5 xm_c127 = xm_c127_5 := xm_dr d_127_4
theorem k_127_5 : xm_gi xm_c127 5 = some xm_e127_5 := xm_gt d_127_5
theorem d_127_6 : List.drop 6 xm_c127 = xm_c127_6 := xm_dr d_127_5
theorem k_127_6 : xm_gi xm_c127 6 = some xm_e127_6 := xm_gt d_127_6
theorem d_127_7 : List.drop 7 xm_c127 = xm_c127_7 := xm_dr d_127_6
theorem k_127_7 : xm_gi xm_c127 7 = some xm_e127_7 := xm_gt d_127_7
theorem d_127_8 : List.drop 8 xm_c127 = xm_c127_8 := xm_dr d_127_7
theorem k_127_8 : xm_gi xm_c127 8 = some xm_e127_8 := xm_gt d_127_8
theorem d_127_9 : List.drop 9 xm_c127 = xm_c127_9 := xm_dr d_127_8
theorem k_127_9 : xm_gi xm_c127 9 = some xm_e127_9 := xm_gt d_127_9
theorem d_127_10 : List.drop 10 xm_c127 = xm_c127_10 := xm_dr d_127_9
theorem k_127_10 : xm_gi xm_c127 10 = some xm_e127_10 := xm_gt d_127_10
theorem d_127_11 : List.drop 11 xm_c127 = xm_c127_11 := xm_dr d_127_10
theorem k_127_11 : xm_gi xm_c127 11 = some xm_e127_11 := xm_gt d_127_11
theorem d_127_12 : List.drop 12 xm_c127 = xm_c127_12 := xm_dr d_127_11
theorem k_127_12 : xm_gi xm_c127 12 = some xm_e127_12 := xm_gt d_127_12
theorem d_127_13 : List.drop 13 xm_c127 = xm_c127_13 := xm_dr d_127_12
theorem k_127_13 : xm_gi xm_c127 13 = some xm_e127_13 := xm_gt d_127_13
theorem d_127_14 : List.drop 14 xm_c127 = xm_c127_14 := xm_dr d_127_13
theorem k_127_14 : xm_gi xm_c127 14 = some xm_e127_14 := xm_gt d_127_14
theorem d_127_15 : List.drop 15 xm_c127 = xm_c127_15 := xm_dr d_127_14
theorem k_127_15 : xm_gi xm_c127 15 = some xm_e127_15 := xm_gt d_127_15
theorem d_127_16 : List.drop 16 xm_c127 = xm_c127_16 := xm_dr d_127_15
theorem k_127_16 : xm_gi xm_c127 16 = some xm_e127_16 := xm_gt d_127_16
theorem d_127_17 : List.drop 17 xm_c127 = xm_c127_17 := xm_dr d_127_16
theorem k_127_17 : xm_gi xm_c127 17 = some xm_e127_17 := xm_gt d_127_17
theorem d_127_18 : List.drop 18 xm_c127 = xm_c127_18 := xm_dr d_127_17
theorem k_127_18 : xm_gi xm_c127 18 = some xm_e127_18 := xm_gt d_127_18
theorem xb_127_0 {sc : List Int} {f : Nat → List xm_V → xm_W → xm_R} {w : xm_W} {Q : Option xm_V × xm_W → Prop} {x0 : Nat} {x1 : Int}
  (h : xm_O (xm_fr (xm_old sc) w x0 8 7) (fun r1 => xm_O (xm_fi (xm_old sc) w r1 6 1) (fun z2 => xm_Oi (f 142 [.inl x1, .inl 0, .inl (xm_w (z2 - 1))] w) (fun z4 w3 => if (z4 : Int) = 0 then (xm_Oi (f 139 [.inr (.inl (some x0)), .inl 2] w3) (fun z10 w9 => Q (some (.inl z10), w9))) else (xm_O (xm_fr (xm_old sc) w3 x0 8 7) (fun r5 => xm_O (xm_fr (xm_old sc) w3 r5 6 0) (fun r6 => xm_O (xm_ints (xm_old sc) w3 r6) (fun l7 => xm_O (xm_at l7 x1) (fun z8 => Q (some (.inl z8), w3)))))))))) :
  xm_EQ (xm_old sc) xm_sta f xm_c127 0 [some (.inr (.inl (some x0))), some (.inl x1)] [] w Q :=
  (xq_iload_n k_127_0 rfl (xq_iconst k_127_1 (xq_aload_n k_127_2 rfl (xq_getr k_127_3 rfl h (fun r1 h => (xq_geti0 k_127_4 rfl h (fun z2 h => (xq_iconst k_127_5 (xq_isub k_127_6 (xq_invs2 k_127_7 xr_142 rfl rfl rfl h (fun z4 w3 h => (xq_if_ne k_127_8 h (fun h => (xq_aload_n k_127_9 rfl (xq_iconst k_127_10 (xq_invv1 k_127_11 xr_139 rfl rfl rfl h (fun z10 w9 h => (xq_ireturn k_127_12 h)))))) (fun h => (xq_aload_n k_127_13 rfl (xq_getr k_127_14 rfl h (fun r5 h => (xq_getr k_127_15 rfl h (fun r6 h => (xq_iload_n k_127_16 rfl (xq_iaload k_127_17 h (fun l7 h => h) (fun l7 z8 h => (xq_ireturn k_127_18 h))))))))))))))))))))))
/-- ShodBackwards.sheet(III)I -/
theorem d_128_0 : List.drop 0 xm_c128 = xm_c128 := rfl
theorem k_128_0 : xm_gi xm_c128 0 = some xm_e128_0 := xm_gt d_128_0
theorem d_128_1 : List.drop 1 xm_c128 = xm_c128_1 := xm_dr d_128_0
theorem k_128_1 : xm_gi xm_c128 1 = some xm_e128_1 := xm_gt d_128_1
theorem d_128_2 : List.drop 2 xm_c128 = xm_c128_2 := xm_dr d_128_1
theorem k_128_2 : xm_gi xm_c128 2 = some xm_e128_2 := xm_gt d_128_2
theorem d_128_3 : List.drop 3 xm_c128 = xm_c128_3 := xm_dr d_128_2
theorem k_128_3 : xm_gi xm_c128 3 = some xm_e128_3 := xm_gt d_128_3
theorem d_128_4 : List.drop 4 xm_c128 = xm_c128_4 := xm_dr d_128_3
theorem k_128_4 : xm_gi xm_c128 4 = some xm_e128_4 := xm_gt d_128_4
theorem d_128_5 : List.drop 5 xm_c128 = xm_c128_5 := xm_dr d_128_4
theorem k_128_5 : xm_gi xm_c128 5 = some xm_e128_5 := xm_gt d_128_5
theorem d_128_6 : List.drop 6 xm_c128 = xm_c128_6 := xm_dr d_128_5
theorem k_128_6 : xm_gi xm_c128 6 = some xm_e128_6 := xm_gt d_128_6
theorem d_128_7 : List.drop 7 xm_c128 = xm_c128_7 := xm_dr d_128_6
theorem k_128_7 : xm_gi xm_c128 7 = some xm_e128_7 := xm_gt d_128_7
theorem d_128_8 : List.drop 8 xm_c128 = xm_c128_8 := xm_dr d_128_7
theorem k_128_8 : xm_gi xm_c128 8 = some xm_e128_8 := xm_gt d_128_8
theorem d_128_9 : List.drop 9 xm_c128 = xm_c128_9 := xm_dr d_128_8
theorem k_128_9 : xm_gi xm_c128 9 = some xm_e128_9 := xm_gt d_128_9
theorem d_128_10 : List.drop 10 xm_c128 = xm_c128_10 := xm_dr d_128_9
theorem k_128_10 : xm_gi xm_c128 10 = some xm_e128_10 := xm_gt d_128_10
theorem d_128_11 : List.drop 11 xm_c128 = xm_c128_11 := xm_dr d_128_10
theorem k_128_11 : xm_gi xm_c128 11 = some xm_e128_11 := xm_gt d_128_11
theorem d_128_12 : List.drop 12 xm_c128 = xm_c128_12 := xm_dr d_128_11
theorem k_128_12 : xm_gi xm_c128 12 = some xm_e128_12 := xm_gt d_128_12
theorem d_128_13 : List.drop 13 xm_c128 = xm_c128_13 := xm_dr d_128_12
theorem k_128_13 : xm_gi xm_c128 13 = some xm_e128_13 := xm_gt d_128_13
theorem d_128_14 : List.drop 14 xm_c128 = xm_c128_14 := xm_dr d_128_13
theorem k_128_14 : xm_gi xm_c128 14 = some xm_e128_14 := xm_gt d_128_14
theorem d_128_15 : List.drop 15 xm_c128 = xm_c128_15 := xm_dr d_128_14
theorem k_128_15 : xm_gi xm_c128 15 = some xm_e128_15 := xm_gt d_128_15
theorem d_128_16 : List.drop 16 xm_c128 = xm_c128_16 := xm_dr d_128_15
theorem k_128_16 : xm_gi xm_c128 16 = some xm_e128_16 := xm_gt d_128_16
theorem d_128_17 : List.drop 17 xm_c128 = xm_c128_17 := xm_dr d_128_16
theorem k_128_17 : xm_gi xm_c128 17 = some xm_e128_17 := xm_gt d_128_17
theorem d_128_18 : List.drop 18 xm_c128 = xm_c128_18 := xm_dr d_128_17
theorem k_128_18 : xm_gi xm_c128 18 = some xm_e128_18 := xm_gt d_128_18
theorem d_128_19 : List.drop 19 xm_c128 = xm_c128_19 := xm_dr d_128_18
theorem k_128_19 : xm_gi xm_c128 19 = some xm_e128_19 := xm_gt d_128_19
theorem d_128_20 : List.drop 20 xm_c128 = xm_c128_20 := xm_dr d_128_19
theorem k_128_20 : xm_gi xm_c128 20 = some xm_e128_20 := xm_gt d_128_20
theorem d_128_21 : List.drop 21 xm_c128 = xm_c128_21 := xm_dr d_128_20
theorem k_128_21 : xm_gi xm_c128 21 = some xm_e128_21 := xm_gt d_128_21
theorem d_128_22 : List.drop 22 xm_c128 = xm_c128_22 := xm_dr d_128_21
theorem k_128_22 : xm_gi xm_c128 22 = some xm_e128_22 := xm_gt d_128_22
theorem d_128_23 : List.drop 23 xm_c128 = xm_c128_23 := xm_dr d_128_22
theorem k_128_23 : xm_gi xm_c128 23 = some xm_e128_23 := xm_gt d_128_23
theorem d_128_24 : List.drop 24 xm_c128 = xm_c128_24 := xm_dr d_128_23
theorem k_128_24 : xm_gi xm_c128 24 = some xm_e128_24 := xm_gt d_128_24
theorem d_128_25 : List.drop 25 xm_c128 = xm_c128_25 := xm_dr d_128_24
theorem k_128_25 : xm_gi xm_c128 25 = some xm_e128_25 := xm_gt d_128_25
theorem d_128_26 : List.drop 26 xm_c128 = xm_c128_26 := xm_dr d_128_25
theorem k_128_26 : xm_gi xm_c128 26 = some xm_e128_26 := xm_gt d_128_26
theorem d_128_27 : List.drop 27 xm_c128 = xm_c128_27 := xm_dr d_128_26
theorem k_128_27 : xm_gi xm_c128 27 = some xm_e128_27 := xm_gt d_128_27
theorem d_128_28 : List.drop 28 xm_c128 = xm_c128_28 := xm_dr d_128_27
theorem k_128_28 : xm_gi xm_c128 28 = some xm_e128_28 := xm_gt d_128_28
theorem d_128_29 : List.drop 29 xm_c128 = xm_c128_29 := xm_dr d_128_28
theorem k_128_29 : xm_gi xm_c128 29 = some xm_e128_29 := xm_gt d_128_29
theorem d_128_30 : List.drop 30 xm_c128 = xm_c128_30 := xm_dr d_128_29
theorem k_128_30 : xm_gi xm_c128 30 = some xm_e128_30 := xm_gt d_128_30
theorem d_128_31 : List.drop 31 xm_c128 = xm_c128_31 := xm_dr d_128_30
theorem k_128_31 : xm_gi xm_c128 31 = some xm_e128_31 := xm_gt d_128_31
theorem d_128_32 : List.drop 32 xm_c128 = xm_c128_32 := xm_dr d_128_31
theorem k_128_32 : xm_gi xm_c128 32 = some xm_e128_32 := xm_gt d_128_32
theorem d_128_33 : List.drop 33 xm_c128 = xm_c128_33 := xm_dr d_128_32
theorem k_128_33 : xm_gi xm_c128 33 = some xm_e128_33 := xm_gt d_128_33
theorem d_128_34 : List.drop 34 xm_c128 = xm_c128_34 := xm_dr d_128_33
theorem k_128_34 : xm_gi xm_c128 34 = some xm_e128_34 := xm_gt d_128_34
theorem d_128_35 : List.drop 35 xm_c128 = xm_c128_35 := xm_dr d_128_34
theorem k_128_35 : xm_gi xm_c128 35 = some xm_e128_35 := xm_gt d_128_35
theorem d_128_36 : List.drop 36 xm_c128 = xm_c128_36 := xm_dr d_128_35
theorem k_128_36 : xm_gi xm_c128 36 = some xm_e128_36 := xm_gt d_128_36
theorem d_128_37 : List.drop 37 xm_c128 = xm_c128_37 := xm_dr d_128_36
theorem k_128_37 : xm_gi xm_c128 37 = some xm_e128_37 := xm_gt d_128_37
theorem d_128_38 : List.drop 38 xm_c128 = xm_c128_38 := xm_dr d_128_37
theorem k_128_38 : xm_gi xm_c128 38 = some xm_e128_38 := xm_gt d_128_38
theorem d_128_39 : List.drop 39 xm_c128 = xm_c128_39 := xm_dr d_128_38
theorem k_128_39 : xm_gi xm_c128 39 = some xm_e128_39 := xm_gt d_128_39
theorem d_128_40 : List.drop 40 xm_c128 = xm_c128_40 := xm_dr d_128_39
theorem k_128_40 : xm_gi xm_c128 40 = some xm_e128_40 := xm_gt d_128_40
theorem d_128_41 : List.drop 41 xm_c128 = xm_c128_41 := xm_dr d_128_40
theorem k_128_41 : xm_gi xm_c128 41 = some xm_e128_41 := xm_gt d_128_41
theorem d_128_42 : List.drop 42 xm_c128 = xm_c128_42 := xm_dr d_128_41
theorem k_128_42 : xm_gi xm_c128 42 = some xm_e128_42 := xm_gt d_128_42
theorem d_128_43 : List.drop 43 xm_c128 = xm_c128_43 := xm_dr d_128_42
theorem k_128_43 : xm_gi xm_c128 43 = some xm_e128_43 := xm_gt d_128_43
theorem d_128_44 : List.drop 44 xm_c128 = xm_c128_44 := xm_dr d_128_43
theorem k_128_44 : xm_gi xm_c128 44 = some xm_e128_44 := xm_gt d_128_44
theorem d_128_45 : List.drop 45 xm_c128 = xm_c128_45 := xm_dr d_128_44
theorem k_128_45 : xm_gi xm_c128 45 = some xm_e128_45 := xm_gt d_128_45
theorem d_128_46 : List.drop 46 xm_c128 = xm_c128_46 := xm_dr d_128_45
theorem k_128_46 : xm_gi xm_c128 46 = some xm_e128_46 := xm_gt d_128_46
theorem d_128_47 : List.drop 47 xm_c128 = xm_c128_47 := xm_dr d_128_46
theorem k_128_47 : xm_gi xm_c128 47 = some xm_e128_47 := xm_gt d_128_47
theorem xb_128_0 {sc : List Int} {f : Nat → List xm_V → xm_W → xm_R} {w : xm_W} {Q : Option xm_V × xm_W → Prop} {x0 : Nat} {x1 : Int} {x2 : Int} {x3 : Int}
  (h : xm_Oi (f 147 [.inl x1] w) (fun z2 w1 => if (z2 : Int) = 0 then (xm_Oi (f 139 [.inr (.inl (some x0)), .inl 1] w1) (fun z4 w3 => Q (some (.inl z4), w3))) else (if (x2 : Int) = 0 then (if (x2 : Int) = 0 then (xm_EQ (xm_old sc) xm_sta f xm_c128 26 [some (.inr (.inl (some x0))), some (.inl x1), some (.inl x2), some (.inl x3)] [] w1 Q) else (if (x3 : Int) < 0 then (xm_Oi (f 139 [.inr (.inl (some x0)), .inl 3] w1) (fun z6 w5 => Q (some (.inl z6), w5))) else (xm_EQ (xm_old sc) xm_sta f xm_c128 26 [some (.inr (.inl (some x0))), some (.inl x1), some (.inl x2), some (.inl x3)] [] w1 Q))) else (if (x2 : Int) = 8 then (if (x2 : Int) = 0 then (xm_EQ (xm_old sc) xm_sta f xm_c128 26 [some (.inr (.inl (some x0))), some (.inl x1), some (.inl x2), some (.inl x3)] [] w1 Q) else (if (x3 : Int) < 0 then (xm_Oi (f 139 [.inr (.inl (some x0)), .inl 3] w1) (fun z8 w7 => Q (some (.inl z8), w7))) else (xm_EQ (xm_old sc) xm_sta f xm_c128 26 [some (.inr (.inl (some x0))), some (.inl x1), some (.inl x2), some (.inl x3)] [] w1 Q))) else (if (x2 : Int) = 16 then (if (x2 : Int) = 0 then (xm_EQ (xm_old sc) xm_sta f xm_c128 26 [some (.inr (.inl (some x0))), some (.inl x1), some (.inl x2), some (.inl x3)] [] w1 Q) else (if (x3 : Int) < 0 then (xm_Oi (f 139 [.inr (.inl (some x0)), .inl 3] w1) (fun z10 w9 => Q (some (.inl z10), w9))) else (xm_EQ (xm_old sc) xm_sta f xm_c128 26 [some (.inr (.inl (some x0))), some (.inl x1), some (.inl x2), some (.inl x3)] [] w1 Q))) else (if (x2 : Int) = 32 then (if (x2 : Int) = 0 then (xm_EQ (xm_old sc) xm_sta f xm_c128 26 [some (.inr (.inl (some x0))), some (.inl x1), some (.inl x2), some (.inl x3)] [] w1 Q) else (if (x3 : Int) < 0 then (xm_Oi (f 139 [.inr (.inl (some x0)), .inl 3] w1) (fun z12 w11 => Q (some (.inl z12), w11))) else (xm_EQ (xm_old sc) xm_sta f xm_c128 26 [some (.inr (.inl (some x0))), some (.inl x1), some (.inl x2), some (.inl x3)] [] w1 Q))) else (xm_Oi (f 139 [.inr (.inl (some x0)), .inl 1] w1) (fun z14 w13 => Q (some (.inl z14), w13))))))))) :
  xm_EQ (xm_old sc) xm_sta f xm_c128 0 [some (.inr (.inl (some x0))), some (.inl x1), some (.inl x2), some (.inl x3)] [] w Q :=
  (xq_iload_n k_128_0 rfl (xq_invs2 k_128_1 xr_147 rfl rfl rfl h (fun z2 w1 h => (xq_if_eq k_128_2 h (fun h => (xq_aload_n k_128_14 rfl (xq_iconst k_128_15 (xq_invv1 k_128_16 xr_139 rfl rfl rfl h (fun z4 w3 h => (xq_ireturn k_128_17 h)))))) (fun h => (xq_iload_n k_128_3 rfl (xq_if_eq k_128_4 h (fun h => (xq_iload_n k_128_18 rfl (xq_if_eq k_128_19 h (fun h => h) (fun h => (xq_iload_n k_128_20 rfl (xq_if_ge k_128_21 h (fun h => (xq_aload_n k_128_22 rfl (xq_iconst k_128_23 (xq_invv1 k_128_24 xr_139 rfl rfl rfl h (fun z6 w5 h => (xq_ireturn k_128_25 h)))))) (fun h => h))))))) (fun h => (xq_iload_n k_128_5 rfl (xq_bipush k_128_6 (xq_ic_eq k_128_7 h (fun h => (xq_iload_n k_128_18 rfl (xq_if_eq k_128_19 h (fun h => h) (fun h => (xq_iload_n k_128_20 rfl (xq_if_ge k_128_21 h (fun h => (xq_aload_n k_128_22 rfl (xq_iconst k_128_23 (xq_invv1 k_128_24 xr_139 rfl rfl rfl h (fun z8 w7 h => (xq_ireturn k_128_25 h)))))) (fun h => h))))))) (fun h => (xq_iload_n k_128_8 rfl (xq_bipush k_128_9 (xq_ic_eq k_128_10 h (fun h => (xq_iload_n k_128_18 rfl (xq_if_eq k_128_19 h (fun h => h) (fun h => (xq_iload_n k_128_20 rfl (xq_if_ge k_128_21 h (fun h => (xq_aload_n k_128_22 rfl (xq_iconst k_128_23 (xq_invv1 k_128_24 xr_139 rfl rfl rfl h (fun z10 w9 h => (xq_ireturn k_128_25 h)))))) (fun h => h))))))) (fun h => (xq_iload_n k_128_11 rfl (xq_bipush k_128_12 (xq_ic_eq k_128_13 h (fun h => (xq_iload_n k_128_18 rfl (xq_if_eq k_128_19 h (fun h => h) (fun h => (xq_iload_n k_128_20 rfl (xq_if_ge k_128_21 h (fun h => (xq_aload_n k_128_22 rfl (xq_iconst k_128_23 (xq_invv1 k_128_24 xr_139 rfl rfl rfl h (fun z12 w11 h => (xq_ireturn k_128_25 h)))))) (fun h => h))))))) (fun h => (xq_aload_n k_128_14 rfl (xq_iconst k_128_15 (xq_invv1 k_128_16 xr_139 rfl rfl rfl h (fun z14 w13 h => (xq_ireturn k_128_17 h)))))))))))))))))))))))))
theorem xb_128_26 {sc : List Int} {f : Nat → List xm_V → xm_W → xm_R} {w : xm_W} {Q : Option xm_V × xm_W → Prop} {x0 : Nat} {x1 : Int} {x2 : Int} {x3 : Int}
  (h : if (x2 : Int) = 0 then (xm_O (xm_fr (xm_old sc) w x0 8 9) (fun r1 => xm_O (xm_refs (xm_old sc) w r1) (fun l2 => xm_O (xm_at l2 x1) (fun r3 => if (x2 : Int) = 0 then (xm_Ov (f 703 [.inr (.inl r3), .inl x2, .inl 0] w) (fun w5 => Q (some (.inl 1), w5))) else (xm_Ov (f 703 [.inr (.inl r3), .inl x2, .inl x3] w) (fun w4 => Q (some (.inl 1), w4))))))) else (if (24 : Int) < x3 then (xm_Oi (f 139 [.inr (.inl (some x0)), .inl 1] w) (fun z12 w11 => Q (some (.inl z12), w11))) else (xm_O (xm_fr (xm_old sc) w x0 8 9) (fun r6 => xm_O (xm_refs (xm_old sc) w r6) (fun l7 => xm_O (xm_at l7 x1) (fun r8 => if (x2 : Int) = 0 then (xm_Ov (f 703 [.inr (.inl r8), .inl x2, .inl 0] w) (fun w10 => Q (some (.inl 1), w10))) else (xm_Ov (f 703 [.inr (.inl r8), .inl x2, .inl x3] w) (fun w9 => Q (some (.inl 1), w9))))))))) :
  xm_EQ (xm_old sc) xm_sta f xm_c128 26 [some (.inr (.inl (some x0))), some (.inl x1), some (.inl x2), some (.inl x3)] [] w Q :=
  (xq_iload_n k_128_26 rfl (xq_if_eq k_128_27 h (fun h => (xq_aload_n k_128_35 rfl (xq_getr k_128_36 rfl h (fun r1 h => (xq_iload_n k_128_37 rfl (xq_aaload k_128_38 h (fun l2 h => h) (fun l2 r3 h => (xq_iload_n k_128_39 rfl (xq_iload_n k_128_40 rfl (xq_if_ne k_128_41 h (fun h => (xq_iconst k_128_42 (xq_goto k_128_43 (xq_invv0 k_128_45 xr_703 rfl rfl rfl h (fun w5 h => (xq_iconst k_128_46 (xq_ireturn k_128_47 h))))))) (fun h => (xq_iload_n k_128_44 rfl (xq_invv0 k_128_45 xr_703 rfl rfl rfl h (fun w4 h => (xq_iconst k_128_46 (xq_ireturn k_128_47 h)))))))))))))))) (fun h => (xq_iload_n k_128_28 rfl (xq_bipush k_128_29 (xq_ic_le k_128_30 h (fun h => (xq_aload_n k_128_31 rfl (xq_iconst k_128_32 (xq_invv1 k_128_33 xr_139 rfl rfl rfl h (fun z12 w11 h => (xq_ireturn k_128_34 h)))))) (fun h => (xq_aload_n k_128_35 rfl (xq_getr k_128_36 rfl h (fun r6 h => (xq_iload_n k_128_37 rfl (xq_aaload k_128_38 h (fun l7 h => h) (fun l7 r8 h => (xq_iload_n k_128_39 rfl (xq_iload_n k_128_40 rfl (xq_if_ne k_128_41 h (fun h => (xq_iconst k_128_42 (xq_goto k_128_43 (xq_invv0 k_128_45 xr_703 rfl rfl rfl h (fun w10 h => (xq_iconst k_128_46 (xq_ireturn k_128_47 h))))))) (fun h => (xq_iload_n k_128_44 rfl (xq_invv0 k_128_45 xr_703 rfl rfl rfl h (fun w9 h => (xq_iconst k_128_46 (xq_ireturn k_128_47 h))))))))))))))))))))))
/-- ShodBackwards.put(III)I -/
theorem d_129_0 : List.drop 0 xm_c129 = xm_c129 := rfl
theorem k_129_0 : xm_gi xm_c129 0 = some xm_e129_0 := xm_gt d_129_0
theorem d_129_1 : List.drop 1 xm_c129 = xm_c129_1 := xm_dr d_129_0
theorem k_129_1 : xm_gi xm_c129 1 = some xm_e129_1 := xm_gt d_129_1
theorem d_129_2 : List.drop 2 xm_c129 = xm_c129_2 := xm_dr d_129_1
theorem k_129_2 : xm_gi xm_c129 2 = some xm_e129_2 := xm_gt d_129_2
theorem d_129_3 : List.drop 3 xm_c129 = xm_c129_3 := xm_dr d_129_2
theorem k_129_3 : xm_gi xm_c129 3 = some xm_e129_3 := xm_gt d_129_3
theorem d_129_4 : List.drop 4 xm_c129 = xm_c129_4 := xm_dr d_129_3
theorem k_129_4 : xm_gi xm_c129 4 = some xm_e129_4 := xm_gt d_129_4
theorem d_129_5 : List.drop 5 xm_c129 = xm_c129_5 := xm_dr d_129_4
theorem k_129_5 : xm_gi xm_c129 5 = some xm_e129_5 := xm_gt d_129_5
theorem d_129_6 : List.drop 6 xm_c129 = xm_c129_6 := xm_dr d_129_5
theorem k_129_6 : xm_gi xm_c129 6 = some xm_e129_6 := xm_gt d_129_6
theorem d_129_7 : List.drop 7 xm_c129 = xm_c129_7 := xm_dr d_129_6
theorem k_129_7 : xm_gi xm_c129 7 = some xm_e129_7 := xm_gt d_129_7
theorem d_129_8 : List.drop 8 xm_c129 = xm_c129_8 := xm_dr d_129_7
theorem k_129_8 : xm_gi xm_c129 8 = some xm_e129_8 := xm_gt d_129_8
theorem d_129_9 : List.drop 9 xm_c129 = xm_c129_9 := xm_dr d_129_8
theorem k_129_9 : xm_gi xm_c129 9 = some xm_e129_9 := xm_gt d_129_9
theorem d_129_10 : List.drop 10 xm_c129 = xm_c129_10 := xm_dr d_129_9
theorem k_129_10 : xm_gi xm_c129 10 = some xm_e129_10 := xm_gt d_129_10
theorem d_129_11 : List.drop 11 xm_c129 = xm_c129_11 := xm_dr d_129_10
theorem k_129_11 : xm_gi xm_c129 11 = some xm_e129_11 := xm_gt d_129_11
theorem d_129_12 : List.drop 12 xm_c129 = xm_c129_12 := xm_dr d_129_11
theorem k_129_12 : xm_gi xm_c129 12 = some xm_e129_12 := xm_gt d_129_12
theorem d_129_13 : List.drop 13 xm_c129 = xm_c129_13 := xm_dr d_129_12
theorem k_129_13 : xm_gi xm_c129 13 = some xm_e129_13 := xm_gt d_129_13
theorem d_129_14 : List.drop 14 xm_c129 = xm_c129_14 := xm_dr d_129_13
theorem k_129_14 : xm_gi xm_c129 14 = some xm_e129_14 := xm_gt d_129_14
theorem d_129_15 : List.drop 15 xm_c129 = xm_c129_15 := xm_dr d_129_14
theorem k_129_15 : xm_gi xm_c129 15 = some xm_e129_15 := xm_gt d_129_15
theorem d_129_16 : List.drop 16 xm_c129 = xm_c129_16 := xm_dr d_129_15
theorem k_129_16 : xm_gi xm_c129 16 = some xm_e129_16 := xm_gt d_129_16
theorem d_129_17 : List.drop 17 xm_c129 = xm_c129_17 := xm_dr d_129_16
theorem k_129_17 : xm_gi xm_c129 17 = some xm_e129_17 := xm_gt d_129_17
theorem d_129_18 : List.drop 18 xm_c129 = xm_c129_18 := xm_dr d_129_17
theorem k_129_18 : xm_gi xm_c129 18 = some xm_e129_18 := xm_gt d_129_18
theorem d_129_19 : List.drop 19 xm_c129 = xm_c129_19 := xm_dr d_129_18
theorem k_129_19 : xm_gi xm_c129 19 = some xm_e129_19 := xm_gt d_129_19
theorem d_129_20 : List.drop 20 xm_c129 = xm_c129_20 := xm_dr d_129_19
theorem k_129_20 : xm_gi xm_c129 20 = some xm_e129_20 := xm_gt d_129_20
theorem d_129_21 : List.drop 21 xm_c129 = xm_c129_21 := xm_dr d_129_20
theorem k_129_21 : xm_gi xm_c129 21 = some xm_e129_21 := xm_gt d_129_21
theorem d_129_22 : List.drop 22 xm_c129 = xm_c129_22 := xm_dr d_129_21
theorem k_129_22 : xm_gi xm_c129 22 = some xm_e129_22 := xm_gt d_129_22
theorem d_129_23 : List.drop 23 xm_c129 = xm_c129_23 := xm_dr d_129_22
theorem k_129_23 : xm_gi xm_c129 23 = some xm_e129_23 := xm_gt d_129_23
theorem d_129_24 : List.drop 24 xm_c129 = xm_c129_24 := xm_dr d_129_23
theorem k_129_24 : xm_gi xm_c129 24 = some xm_e129_24 := xm_gt d_129_24
theorem d_129_25 : List.drop 25 xm_c129 = xm_c129_25 := xm_dr d_129_24
theorem k_129_25 : xm_gi xm_c129 25 = some xm_e129_25 := xm_gt d_129_25
theorem d_129_26 : List.drop 26 xm_c129 = xm_c129_26 := xm_dr d_129_25
theorem k_129_26 : xm_gi xm_c129 26 = some xm_e129_26 := xm_gt d_129_26
theorem d_129_27 : List.drop 27 xm_c129 = xm_c129_27 := xm_dr d_129_26
theorem k_129_27 : xm_gi xm_c129 27 = some xm_e129_27 := xm_gt d_129_27
theorem d_129_28 : List.drop 28 xm_c129 = xm_c129_28 := xm_dr d_129_27
theorem k_129_28 : xm_gi xm_c129 28 = some xm_e129_28 := xm_gt d_129_28
theorem d_129_29 : List.drop 29 xm_c129 = xm_c129_29 := xm_dr d_129_28
theorem k_129_29 : xm_gi xm_c129 29 = some xm_e129_29 := xm_gt d_129_29
theorem d_129_30 : List.drop 30 xm_c129 = xm_c129_30 := xm_dr d_129_29
theorem k_129_30 : xm_gi xm_c129 30 = some xm_e129_30 := xm_gt d_129_30
theorem d_129_31 : List.drop 31 xm_c129 = xm_c129_31 := xm_dr d_129_30
theorem k_129_31 : xm_gi xm_c129 31 = some xm_e129_31 := xm_gt d_129_31
theorem d_129_32 : List.drop 32 xm_c129 = xm_c129_32 := xm_dr d_129_31
theorem k_129_32 : xm_gi xm_c129 32 = some xm_e129_32 := xm_gt d_129_32
theorem d_129_33 : List.drop 33 xm_c129 = xm_c129_33 := xm_dr d_129_32
theorem k_129_33 : xm_gi xm_c129 33 = some xm_e129_33 := xm_gt d_129_33
theorem d_129_34 : List.drop 34 xm_c129 = xm_c129_34 := xm_dr d_129_33
theorem k_129_34 : xm_gi xm_c129 34 = some xm_e129_34 := xm_gt d_129_34
theorem d_129_35 : List.drop 35 xm_c129 = xm_c129_35 := xm_dr d_129_34
theorem k_129_35 : xm_gi xm_c129 35 = some xm_e129_35 := xm_gt d_129_35
theorem d_129_36 : List.drop 36 xm_c129 = xm_c129_36 := xm_dr d_129_35
theorem k_129_36 : xm_gi xm_c129 36 = some xm_e129_36 := xm_gt d_129_36
theorem d_129_37 : List.drop 37 xm_c129 = xm_c129_37 := xm_dr d_129_36
theorem k_129_37 : xm_gi xm_c129 37 = some xm_e129_37 := xm_gt d_129_37
theorem d_129_38 : List.drop 38 xm_c129 = xm_c129_38 := xm_dr d_129_37
theorem k_129_38 : xm_gi xm_c129 38 = some xm_e129_38 := xm_gt d_129_38
theorem d_129_39 : List.drop 39 xm_c129 = xm_c129_39 := xm_dr d_129_38
theorem k_129_39 : xm_gi xm_c129 39 = some xm_e129_39 := xm_gt d_129_39
theorem d_129_40 : List.drop 40 xm_c129 = xm_c129_40 := xm_dr d_129_39
theorem k_129_40 : xm_gi xm_c129 40 = some xm_e129_40 := xm_gt d_129_40
theorem xb_129_0 {sc : List Int} {f : Nat → List xm_V → xm_W → xm_R} {w : xm_W} {Q : Option xm_V × xm_W → Prop} {x0 : Nat} {x1 : Int} {x2 : Int} {x3 : Int}
  (h : xm_Oi (f 147 [.inl x1] w) (fun z2 w1 => if (z2 : Int) = 0 then (xm_Oi (f 139 [.inr (.inl (some x0)), .inl 1] w1) (fun z24 w23 => Q (some (.inl z24), w23))) else (xm_O (xm_fr (xm_old sc) w1 x0 8 9) (fun r3 => xm_O (xm_refs (xm_old sc) w1 r3) (fun l4 => xm_O (xm_at l4 x1) (fun r5 => xm_Oi (f 702 [.inr (.inl r5)] w1) (fun z7 w6 => if (z7 : Int) = 0 then (xm_O (xm_fr (xm_old sc) w6 x0 8 9) (fun r8 => xm_O (xm_refs (xm_old sc) w6 r8) (fun l9 => xm_O (xm_at l9 x1) (fun r10 => xm_O r10 (fun y11 => xm_O (xm_fi (xm_old sc) w6 y11 5 1) (fun z12 => xm_Oi (f 142 [.inl x2, .inl 0, .inl (xm_w (z12 - 1))] w6) (fun z14 w13 => if (z14 : Int) = 0 then (xm_Oi (f 139 [.inr (.inl (some x0)), .inl 1] w13) (fun z20 w19 => Q (some (.inl z20), w19))) else (xm_O (xm_fr (xm_old sc) w13 x0 8 9) (fun r15 => xm_O (xm_refs (xm_old sc) w13 r15) (fun l16 => xm_O (xm_at l16 x1) (fun r17 => xm_Ov (f 704 [.inr (.inl r17), .inl x2, .inl x3] w13) (fun w18 => Q (some (.inl 1), w18))))))))))))) else (xm_Oi (f 139 [.inr (.inl (some x0)), .inl 2] w6) (fun z22 w21 => Q (some (.inl z22), w21)))))))))) :
  xm_EQ (xm_old sc) xm_sta f xm_c129 0 [some (.inr (.inl (some x0))), some (.inl x1), some (.inl x2), some (.inl x3)] [] w Q :=
  (xq_iload_n k_129_0 rfl (xq_invs2 k_129_1 xr_147 rfl rfl rfl h (fun z2 w1 h => (xq_if_ne k_129_2 h (fun h => (xq_aload_n k_129_3 rfl (xq_iconst k_129_4 (xq_invv1 k_129_5 xr_139 rfl rfl rfl h (fun z24 w23 h => (xq_ireturn k_129_6 h)))))) (fun h => (xq_aload_n k_129_7 rfl (xq_getr k_129_8 rfl h (fun r3 h => (xq_iload_n k_129_9 rfl (xq_aaload k_129_10 h (fun l4 h => h) (fun l4 r5 h => (xq_invv2 k_129_11 xr_702 rfl rfl rfl h (fun z7 w6 h => (xq_if_eq k_129_12 h (fun h => (xq_iload_n k_129_17 rfl (xq_iconst k_129_18 (xq_aload_n k_129_19 rfl (xq_getr k_129_20 rfl h (fun r8 h => (xq_iload_n k_129_21 rfl (xq_aaload k_129_22 h (fun l9 h => h) (fun l9 r10 h => (match r10, h with
 | some y11, h => (xq_geti0 k_129_23 rfl h (fun z12 h => (xq_iconst k_129_24 (xq_isub k_129_25 (xq_invs2 k_129_26 xr_142 rfl rfl rfl h (fun z14 w13 h => (xq_if_ne k_129_27 h (fun h => (xq_aload_n k_129_28 rfl (xq_iconst k_129_29 (xq_invv1 k_129_30 xr_139 rfl rfl rfl h (fun z20 w19 h => (xq_ireturn k_129_31 h)))))) (fun h => (xq_aload_n k_129_32 rfl (xq_getr k_129_33 rfl h (fun r15 h => (xq_iload_n k_129_34 rfl (xq_aaload k_129_35 h (fun l16 h => h) (fun l16 r17 h => (xq_iload_n k_129_36 rfl (xq_iload_n k_129_37 rfl (xq_invv0 k_129_38 xr_704 rfl rfl rfl h (fun w18 h => (xq_iconst k_129_39 (xq_ireturn k_129_40 h))))))))))))))))))))
 | none, h => False.elim h)))))))))) (fun h => (xq_aload_n k_129_13 rfl (xq_iconst k_129_14 (xq_invv1 k_129_15 xr_139 rfl rfl rfl h (fun z22 w21 h => (xq_ireturn k_129_16 h))))))))))))))))))))
/-- ShodBackwards.move(IIIII)I -/
theorem d_130_0 : List.drop 0 xm_c130 = xm_c130 := rfl
theorem k_130_0 : xm_gi xm_c130 0 = some xm_e130_0 := xm_gt d_130_0
theorem d_130_1 : List.drop 1 xm_c130 = xm_c130_1 := xm_dr d_130_0
theorem k_130_1 : xm_gi xm_c130 1 = some xm_e130_1 := xm_gt d_130_1
theorem d_130_2 : List.drop 2 xm_c130 = xm_c130_2 := xm_dr d_130_1
theorem k_130_2 : xm_gi xm_c130 2 = some xm_e130_2 := xm_gt d_130_2
theorem d_130_3 : List.drop 3 xm_c130 = xm_c130_3 := xm_dr d_130_2
theorem k_130_3 : xm_gi xm_c130 3 = some xm_e130_3 := xm_gt d_130_3
theorem d_130_4 : List.drop 4 xm_c130 = xm_c130_4 := xm_dr d_130_3
theorem k_130_4 : xm_gi xm_c130 4 = some xm_e130_4 := xm_gt d_130_4
theorem d_130_5 : List.drop 5 xm_c130 = xm_c130_5 := xm_dr d_130_4
theorem k_130_5 : xm_gi xm_c130 5 = some xm_e130_5 := xm_gt d_130_5
theorem d_130_6 : List.drop 6 xm_c130 = xm_c130_6 := xm_dr d_130_5
theorem k_130_6 : xm_gi xm_c130 6 = some xm_e130_6 := xm_gt d_130_6
theorem d_130_7 : List.drop 7 xm_c130 = xm_c130_7 := xm_dr d_130_6
theorem k_130_7 : xm_gi xm_c130 7 = some xm_e130_7 := xm_gt d_130_7
theorem d_130_8 : List.drop 8 xm_c130 = xm_c130_8 := xm_dr d_130_7
theorem k_130_8 : xm_gi xm_c130 8 = some xm_e130_8 := xm_gt d_130_8
theorem d_130_9 : List.drop 9 xm_c130 = xm_c130_9 := xm_dr d_130_8
theorem k_130_9 : xm_gi xm_c130 9 = some xm_e130_9 := xm_gt d_130_9
theorem d_130_10 : List.drop 10 xm_c130 = xm_c130_10 := xm_dr d_130_9
theorem k_130_10 : xm_gi xm_c130 10 = some xm_e130_10 := xm_gt d_130_10
theorem d_130_11 : List.drop 11 xm_c130 = xm_c130_11 := xm_dr d_130_10
theorem k_130_11 : xm_gi xm_c130 11 = some xm_e130_11 := xm_gt d_130_11
theorem d_130_12 : List.drop 12 xm_c130 = xm_c130_12 := xm_dr d_130_11
theorem k_130_12 : xm_gi xm_c130 12 = some xm_e130_12 := xm_gt d_130_12
theorem d_130_13 : List.drop 13 xm_c130 = xm_c130_13 := xm_dr d_130_12
theorem k_130_13 : xm_gi xm_c130 13 = some xm_e130_13 := xm_gt d_130_13
theorem d_130_14 : List.drop 14 xm_c130 = xm_c130_14 := xm_dr d_130_13
theorem k_130_14 : xm_gi xm_c130 14 = some xm_e130_14 := xm_gt d_130_14
theorem d_130_15 : List.drop 15 xm_c130 = xm_c130_15 := xm_dr d_130_14
theorem k_130_15 : xm_gi xm_c130 15 = some xm_e130_15 := xm_gt d_130_15
theorem d_130_16 : List.drop 16 xm_c130 = xm_c130_16 := xm_dr d_130_15
theorem k_130_16 : xm_gi xm_c130 16 = some xm_e130_16 := xm_gt d_130_16
theorem d_130_17 : List.drop 17 xm_c130 = xm_c130_17 := xm_dr d_130_16
theorem k_130_17 : xm_gi xm_c130 17 = some xm_e130_17 := xm_gt d_130_17
theorem d_130_18 : List.drop 18 xm_c130 = xm_c130_18 := xm_dr d_130_17
theorem k_130_18 : xm_gi xm_c130 18 = some xm_e130_18 := xm_gt d_130_18
theorem d_130_19 : List.drop 19 xm_c130 = xm_c130_19 := xm_dr d_130_18
theorem k_130_19 : xm_gi xm_c130 19 = some xm_e130_19 := xm_gt d_130_19
theorem d_130_20 : List.drop 20 xm_c130 = xm_c130_20 := xm_dr d_130_19
theorem k_130_20 : xm_gi xm_c130 20 = some xm_e130_20 := xm_gt d_130_20
theorem d_130_21 : List.drop 21 xm_c130 = xm_c130_21 := xm_dr d_130_20
theorem k_130_21 : xm_gi xm_c130 21 = some xm_e130_21 := xm_gt d_130_21
theorem d_130_22 : List.drop 22 xm_c130 = xm_c130_22 := xm_dr d_130_21
theorem k_130_22 : xm_gi xm_c130 22 = some xm_e130_22 := xm_gt d_130_22
theorem d_130_23 : List.drop 23 xm_c130 = xm_c130_23 := xm_dr d_130_22
theorem k_130_23 : xm_gi xm_c130 23 = some xm_e130_23 := xm_gt d_130_23
theorem d_130_24 : List.drop 24 xm_c130 = xm_c130_24 := xm_dr d_130_23
theorem k_130_24 : xm_gi xm_c130 24 = some xm_e130_24 := xm_gt d_130_24
theorem d_130_25 : List.drop 25 xm_c130 = xm_c130_25 := xm_dr d_130_24
theorem k_130_25 : xm_gi xm_c130 25 = some xm_e130_25 := xm_gt d_130_25
theorem d_130_26 : List.drop 26 xm_c130 = xm_c130_26 := xm_dr d_130_25
theorem k_130_26 : xm_gi xm_c130 26 = some xm_e130_26 := xm_gt d_130_26
theorem d_130_27 : List.drop 27 xm_c130 = xm_c130_27 := xm_dr d_130_26
theorem k_130_27 : xm_gi xm_c130 27 = some xm_e130_27 := xm_gt d_130_27
theorem d_130_28 : List.drop 28 xm_c130 = xm_c130_28 := xm_dr d_130_27
theorem k_130_28 : xm_gi xm_c130 28 = some xm_e130_28 := xm_gt d_130_28
theorem d_130_29 : List.drop 29 xm_c130 = xm_c130_29 := xm_dr d_130_28
theorem k_130_29 : xm_gi xm_c130 29 = some xm_e130_29 := xm_gt d_130_29
theorem d_130_30 : List.drop 30 xm_c130 = xm_c130_30 := xm_dr d_130_29
theorem k_130_30 : xm_gi xm_c130 30 = some xm_e130_30 := xm_gt d_130_30
theorem d_130_31 : List.drop 31 xm_c130 = xm_c130_31 := xm_dr d_130_30
theorem k_130_31 : xm_gi xm_c130 31 = some xm_e130_31 := xm_gt d_130_31
theorem d_130_32 : List.drop 32 xm_c130 = xm_c130_32 := xm_dr d_130_31
theorem k_130_32 : xm_gi xm_c130 32 = some xm_e130_32 := xm_gt d_130_32
theorem d_130_33 : List.drop 33 xm_c130 = xm_c130_33 := xm_dr d_130_32
theorem k_130_33 : xm_gi xm_c130 33 = some xm_e130_33 := xm_gt d_130_33
theorem d_130_34 : List.drop 34 xm_c130 = xm_c130_34 := xm_dr d_130_33
theorem k_130_34 : xm_gi xm_c130 34 = some xm_e130_34 := xm_gt d_130_34
theorem d_130_35 : List.drop 35 xm_c130 = xm_c130_35 := xm_dr d_130_34
theorem k_130_35 : xm_gi xm_c130 35 = some xm_e130_35 := xm_gt d_130_35
theorem d_130_36 : List.drop 36 xm_c130 = xm_c130_36 := xm_dr d_130_35
theorem k_130_36 : xm_gi xm_c130 36 = some xm_e130_36 := xm_gt d_130_36
theorem d_130_37 : List.drop 37 xm_c130 = xm_c130_37 := xm_dr d_130_36
theorem k_130_37 : xm_gi xm_c130 37 = some xm_e130_37 := xm_gt d_130_37
theorem d_130_38 : List.drop 38 xm_c130 = xm_c130_38 := xm_dr d_130_37
theorem k_130_38 : xm_gi xm_c130 38 = some xm_e130_38 := xm_gt d_130_38
theorem d_130_39 : List.drop 39 xm_c130 = xm_c130_39 := xm_dr d_130_38
theorem k_130_39 : xm_gi xm_c130 39 = some xm_e130_39 := xm_gt d_130_39
theorem d_130_40 : List.drop 40 xm_c130 = xm_c130_40 := xm_dr d_130_39
theorem k_130_40 : xm_gi xm_c130 40 = some xm_e130_40 := xm_gt d_130_40
theorem d_130_41 : List.drop 41 xm_c130 = xm_c130_41 := xm_dr d_130_40
theorem k_130_41 : xm_gi xm_c130 41 = some xm_e130_41 := xm_gt d_130_41
theorem d_130_42 : List.drop 42 xm_c130 = xm_c130_42 := xm_dr d_130_41
theorem k_130_42 : xm_gi xm_c130 42 = some xm_e130_42 := xm_gt d_130_42
theorem d_130_43 : List.drop 43 xm_c130 = xm_c130_43 := xm_dr d_130_42
theorem k_130_43 : xm_gi xm_c130 43 = some xm_e130_43 := xm_gt d_130_43
theorem d_130_44 : List.drop 44 xm_c130 = xm_c130_44 := xm_dr d_130_43
theorem k_130_44 : xm_gi xm_c130 44 = some xm_e130_44 := xm_gt d_130_44
theorem d_130_45 : List.drop 45 xm_c130 = xm_c130_45 := xm_dr d_130_44
theorem k_130_45 : xm_gi xm_c130 45 = some xm_e130_45 := xm_gt d_130_45
theorem d_130_46 : List.drop 46 xm_c130 = xm_c130_46 := xm_dr d_130_45
theorem k_130_46 : xm_gi xm_c130 46 = some xm_e130_46 := xm_gt d_130_46
theorem d_130_47 : List.drop 47 xm_c130 = xm_c130_47 := xm_dr d_130_46
theorem k_130_47 : xm_gi xm_c130 47 = some xm_e130_47 := xm_gt d_130_47
theorem d_130_48 : List.drop 48 xm_c130 = xm_c130_48 := xm_dr d_130_47
theorem k_130_48 : xm_gi xm_c130 48 = some xm_e130_48 := xm_gt d_130_48
theorem d_130_49 : List.drop 49 xm_c130 = xm_c130_49 := xm_dr d_130_48
theorem k_130_49 : xm_gi xm_c130 49 = some xm_e130_49 := xm_gt d_130_49
theorem d_130_50 : List.drop 50 xm_c130 = xm_c130_50 := xm_dr d_130_49
theorem k_130_50 : xm_gi xm_c130 50 = some xm_e130_50 := xm_gt d_130_50
theorem d_130_51 : List.drop 51 xm_c130 = xm_c130_51 := xm_dr d_130_50
theorem k_130_51 : xm_gi xm_c130 51 = some xm_e130_51 := xm_gt d_130_51
theorem d_130_52 : List.drop 52 xm_c130 = xm_c130_52 := xm_dr d_130_51
theorem k_130_52 : xm_gi xm_c130 52 = some xm_e130_52 := xm_gt d_130_52
theorem d_130_53 : List.drop 53 xm_c130 = xm_c130_53 := xm_dr d_130_52
theorem k_130_53 : xm_gi xm_c130 53 = some xm_e130_53 := xm_gt d_130_53
theorem d_130_54 : List.drop 54 xm_c130 = xm_c130_54 := xm_dr d_130_53
theorem k_130_54 : xm_gi xm_c130 54 = some xm_e130_54 := xm_gt d_130_54
theorem d_130_55 : List.drop 55 xm_c130 = xm_c130_55 := xm_dr d_130_54
theorem k_130_55 : xm_gi xm_c130 55 = some xm_e130_55 := xm_gt d_130_55
theorem d_130_56 : List.drop 56 xm_c130 = xm_c130_56 := xm_dr d_130_55
theorem k_130_56 : xm_gi xm_c130 56 = some xm_e130_56 := xm_gt d_130_56
theorem d_130_57 : List.drop 57 xm_c130 = xm_c130_57 := xm_dr d_130_56
theorem k_130_57 : xm_gi xm_c130 57 = some xm_e130_57 := xm_gt d_130_57
theorem d_130_58 : List.drop 58 xm_c130 = xm_c130_58 := xm_dr d_130_57
theorem k_130_58 : xm_gi xm_c130 58 = some xm_e130_58 := xm_gt d_130_58
theorem d_130_59 : List.drop 59 xm_c130 = xm_c130_59 := xm_dr d_130_58
theorem k_130_59 : xm_gi xm_c130 59 = some xm_e130_59 := xm_gt d_130_59
theorem d_130_60 : List.drop 60 xm_c130 = xm_c130_60 := xm_dr d_130_59
theorem k_130_60 : xm_gi xm_c130 60 = some xm_e130_60 := xm_gt d_130_60
theorem d_130_61 : List.drop 61 xm_c130 = xm_c130_61 := xm_dr d_130_60
theorem k_130_61 : xm_gi xm_c130 61 = some xm_e130_61 := xm_gt d_130_61
theorem d_130_62 : List.drop 62 xm_c130 = xm_c130_62 := xm_dr d_130_61
theorem k_130_62 : xm_gi xm_c130 62 = some xm_e130_62 := xm_gt d_130_62
theorem xb_130_0 {sc : List Int} {f : Nat → List xm_V → xm_W → xm_R} {w : xm_W} {Q : Option xm_V × xm_W → Prop} {x0 : Nat} {x1 : Int} {x2 : Int} {x3 : Int} {x4 : Int} {x5 : Int}
  (h : xm_Oi (f 147 [.inl x1] w) (fun z2 w1 => if (z2 : Int) = 0 then (xm_Oi (f 139 [.inr (.inl (some x0)), .inl 1] w1) (fun z4 w3 => Q (some (.inl z4), w3))) else (xm_Oi (f 147 [.inl x3] w1) (fun z6 w5 => if (z6 : Int) = 0 then (xm_Oi (f 139 [.inr (.inl (some x0)), .inl 1] w5) (fun z39 w38 => Q (some (.inl z39), w38))) else (xm_O (xm_fr (xm_old sc) w5 x0 8 9) (fun r7 => xm_O (xm_refs (xm_old sc) w5 r7) (fun l8 => xm_O (xm_at l8 x1) (fun r9 => xm_O (xm_fr (xm_old sc) w5 x0 8 9) (fun r10 => xm_O (xm_refs (xm_old sc) w5 r10) (fun l11 => xm_O (xm_at l11 x3) (fun r12 => xm_Oi (f 702 [.inr (.inl r9)] w5) (fun z14 w13 => if (z14 : Int) = 0 then (xm_Oi (f 702 [.inr (.inl r12)] w13) (fun z18 w17 => if (z18 : Int) = 0 then (xm_O r9 (fun y19 => xm_O (xm_fi (xm_old sc) w17 y19 5 0) (fun z20 => xm_O r12 (fun y21 => xm_O (xm_fi (xm_old sc) w17 y21 5 0) (fun z22 => if (z20 : Int) = z22 then (xm_Oi (f 705 [.inr (.inl (some y19)), .inl x2, .inl x5] w17) (fun z24 w23 => if (z24 : Int) = 0 then (xm_Oi (f 139 [.inr (.inl (some x0)), .inl 1] w23) (fun z26 w25 => Q (some (.inl z26), w25))) else (xm_Oi (f 705 [.inr (.inl (some y21)), .inl x4, .inl x5] w23) (fun z28 w27 => if (z28 : Int) = 0 then (xm_Oi (f 139 [.inr (.inl (some x0)), .inl 1] w27) (fun z33 w32 => Q (some (.inl z33), w32))) else (xm_O (xm_fr (xm_old sc) w27 y19 5 2) (fun r29 => xm_O (xm_fr (xm_old sc) w27 y21 5 2) (fun r30 => xm_O (xm_copy w27 r29 x2 r30 x4 x5) (fun w31 => Q (some (.inl x5), w31))))))))) else (xm_Oi (f 139 [.inr (.inl (some x0)), .inl 5] w17) (fun z35 w34 => Q (some (.inl z35), w34)))))))) else (xm_Oi (f 139 [.inr (.inl (some x0)), .inl 2] w17) (fun z37 w36 => Q (some (.inl z37), w36))))) else (xm_Oi (f 139 [.inr (.inl (some x0)), .inl 2] w13) (fun z16 w15 => Q (some (.inl z16), w15))))))))))))))) :
  xm_EQ (xm_old sc) xm_sta f xm_c130 0 [some (.inr (.inl (some x0))), some (.inl x1), some (.inl x2), some (.inl x3), some (.inl x4), some (.inl x5), none, none] [] w Q :=
  (xq_iload_n k_130_0 rfl (xq_invs2 k_130_1 xr_147 rfl rfl rfl h (fun z2 w1 h => (xq_if_eq k_130_2 h (fun h => (xq_aload_n k_130_6 rfl (xq_iconst k_130_7 (xq_invv1 k_130_8 xr_139 rfl rfl rfl h (fun z4 w3 h => (xq_ireturn k_130_9 h)))))) (fun h => (xq_iload_n k_130_3 rfl (xq_invs2 k_130_4 xr_147 rfl rfl rfl h (fun z6 w5 h => (xq_if_ne k_130_5 h (fun h => (xq_aload_n k_130_6 rfl (xq_iconst k_130_7 (xq_invv1 k_130_8 xr_139 rfl rfl rfl h (fun z39 w38 h => (xq_ireturn k_130_9 h)))))) (fun h => (xq_aload_n k_130_10 rfl (xq_getr k_130_11 rfl h (fun r7 h => (xq_iload_n k_130_12 rfl (xq_aaload k_130_13 h (fun l8 h => h) (fun l8 r9 h => (xq_astore k_130_14 rfl (xq_aload_n k_130_15 rfl (xq_getr k_130_16 rfl h (fun r10 h => (xq_iload_n k_130_17 rfl (xq_aaload k_130_18 h (fun l11 h => h) (fun l11 r12 h => (xq_astore k_130_19 rfl (xq_aload k_130_20 rfl (xq_invv2 k_130_21 xr_702 rfl rfl rfl h (fun z14 w13 h => (xq_if_ne k_130_22 h (fun h => (xq_aload k_130_23 rfl (xq_invv2 k_130_24 xr_702 rfl rfl rfl h (fun z18 w17 h => (xq_if_eq k_130_25 h (fun h => (xq_aload k_130_30 rfl (match r9, h with
 | some y19, h => (xq_geti0 k_130_31 rfl h (fun z20 h => (xq_aload k_130_32 rfl (match r12, h with
 | some y21, h => (xq_geti0 k_130_33 rfl h (fun z22 h => (xq_ic_eq k_130_34 h (fun h => (xq_aload k_130_39 rfl (xq_iload_n k_130_40 rfl (xq_iload k_130_41 rfl (xq_invv2 k_130_42 xr_705 rfl rfl rfl h (fun z24 w23 h => (xq_if_eq k_130_43 h (fun h => (xq_aload_n k_130_49 rfl (xq_iconst k_130_50 (xq_invv1 k_130_51 xr_139 rfl rfl rfl h (fun z26 w25 h => (xq_ireturn k_130_52 h)))))) (fun h => (xq_aload k_130_44 rfl (xq_iload k_130_45 rfl (xq_iload k_130_46 rfl (xq_invv2 k_130_47 xr_705 rfl rfl rfl h (fun z28 w27 h => (xq_if_ne k_130_48 h (fun h => (xq_aload_n k_130_49 rfl (xq_iconst k_130_50 (xq_invv1 k_130_51 xr_139 rfl rfl rfl h (fun z33 w32 h => (xq_ireturn k_130_52 h)))))) (fun h => (xq_aload k_130_53 rfl (xq_getr k_130_54 rfl h (fun r29 h => (xq_iload_n k_130_55 rfl (xq_aload k_130_56 rfl (xq_getr k_130_57 rfl h (fun r30 h => (xq_iload k_130_58 rfl (xq_iload k_130_59 rfl (xq_copy k_130_60 rfl h (fun w31 h => (xq_iload k_130_61 rfl (xq_ireturn k_130_62 h)))))))))))))))))))))))))))) (fun h => (xq_aload_n k_130_35 rfl (xq_iconst k_130_36 (xq_invv1 k_130_37 xr_139 rfl rfl rfl h (fun z35 w34 h => (xq_ireturn k_130_38 h)))))))))
 | none, h => False.elim h))))
 | none, h => False.elim h))) (fun h => (xq_aload_n k_130_26 rfl (xq_iconst k_130_27 (xq_invv1 k_130_28 xr_139 rfl rfl rfl h (fun z37 w36 h => (xq_ireturn k_130_29 h))))))))))) (fun h => (xq_aload_n k_130_26 rfl (xq_iconst k_130_27 (xq_invv1 k_130_28 xr_139 rfl rfl rfl h (fun z16 w15 h => (xq_ireturn k_130_29 h))))))))))))))))))))))))))))))))))
/-- ShodBackwards.ways(II)I -/
theorem d_131_0 : List.drop 0 xm_c131 = xm_c131 := rfl
theorem k_131_0 : xm_gi xm_c131 0 = some xm_e131_0 := xm_gt d_131_0
theorem d_131_1 : List.drop 1 xm_c131 = xm_c131_1 := xm_dr d_131_0
theorem k_131_1 : xm_gi xm_c131 1 = some xm_e131_1 := xm_gt d_131_1
theorem d_131_2 : List.drop 2 xm_c131 = xm_c131_2 := xm_dr d_131_1
theorem k_131_2 : xm_gi xm_c131 2 = some xm_e131_2 := xm_gt d_131_2
theorem d_131_3 : List.drop 3 xm_c131 = xm_c131_3 := xm_dr d_131_2
theorem k_131_3 : xm_gi xm_c131 3 = some xm_e131_3 := xm_gt d_131_3
theorem d_131_4 : List.drop 4 xm_c131 = xm_c131_4 := xm_dr d_131_3
theorem k_131_4 : xm_gi xm_c131 4 = some xm_e131_4 := xm_gt d_131_4
theorem d_131_5 : List.drop 5 xm_c131 = xm_c131_5 := xm_dr d_131_4
theorem k_131_5 : xm_gi xm_c131 5 = some xm_e131_5 := xm_gt d_131_5
theorem d_131_6 : List.drop 6 xm_c131 = xm_c131_6 := xm_dr d_131_5
theorem k_131_6 : xm_gi xm_c131 6 = some xm_e131_6 := xm_gt d_131_6
theorem d_131_7 : List.drop 7 xm_c131 = xm_c131_7 := xm_dr d_131_6
theorem k_131_7 : xm_gi xm_c131 7 = some xm_e131_7 := xm_gt d_131_7
theorem d_131_8 : List.drop 8 xm_c131 = xm_c131_8 := xm_dr d_131_7
theorem k_131_8 : xm_gi xm_c131 8 = some xm_e131_8 := xm_gt d_131_8
theorem d_131_9 : List.drop 9 xm_c131 = xm_c131_9 := xm_dr d_131_8
theorem k_131_9 : xm_gi xm_c131 9 = some xm_e131_9 := xm_gt d_131_9
theorem d_131_10 : List.drop 10 xm_c131 = xm_c131_10 := xm_dr d_131_9
theorem k_131_10 : xm_gi xm_c131 10 = some xm_e131_10 := xm_gt d_131_10
theorem d_131_11 : List.drop 11 xm_c131 = xm_c131_11 := xm_dr d_131_10
theorem k_131_11 : xm_gi xm_c131 11 = some xm_e131_11 := xm_gt d_131_11
theorem d_131_12 : List.drop 12 xm_c131 = xm_c131_12 := xm_dr d_131_11
theorem k_131_12 : xm_gi xm_c131 12 = some xm_e131_12 := xm_gt d_131_12
theorem d_131_13 : List.drop 13 xm_c131 = xm_c131_13 := xm_dr d_131_12
theorem k_131_13 : xm_gi xm_c131 13 = some xm_e131_13 := xm_gt d_131_13
theorem d_131_14 : List.drop 14 xm_c131 = xm_c131_14 := xm_dr d_131_13
theorem k_131_14 : xm_gi xm_c131 14 = some xm_e131_14 := xm_gt d_131_14
theorem d_131_15 : List.drop 15 xm_c131 = xm_c131_15 := xm_dr d_131_14
theorem k_131_15 : xm_gi xm_c131 15 = some xm_e131_15 := xm_gt d_131_15
theorem d_131_16 : List.drop 16 xm_c131 = xm_c131_16 := xm_dr d_131_15
theorem k_131_16 : xm_gi xm_c131 16 = some xm_e131_16 := xm_gt d_131_16
theorem d_131_17 : List.drop 17 xm_c131 = xm_c131_17 := xm_dr d_131_16
theorem k_131_17 : xm_gi xm_c131 17 = some xm_e131_17 := xm_gt d_131_17
theorem d_131_18 : List.drop 18 xm_c131 = xm_c131_18 := xm_dr d_131_17
theorem k_131_18 : xm_gi xm_c131 18 = some xm_e131_18 := xm_gt d_131_18
theorem d_131_19 : List.drop 19 xm_c131 = xm_c131_19 := xm_dr d_131_18
theorem k_131_19 : xm_gi xm_c131 19 = some xm_e131_19 := xm_gt d_131_19
theorem d_131_20 : List.drop 20 xm_c131 = xm_c131_20 := xm_dr d_131_19
theorem k_131_20 : xm_gi xm_c131 20 = some xm_e131_20 := xm_gt d_131_20
theorem d_131_21 : List.drop 21 xm_c131 = xm_c131_21 := xm_dr d_131_20
theorem k_131_21 : xm_gi xm_c131 21 = some xm_e131_21 := xm_gt d_131_21
theorem d_131_22 : List.drop 22 xm_c131 = xm_c131_22 := xm_dr d_131_21
theorem k_131_22 : xm_gi xm_c131 22 = some xm_e131_22 := xm_gt d_131_22
theorem d_131_23 : List.drop 23 xm_c131 = xm_c131_23 := xm_dr d_131_22
theorem k_131_23 : xm_gi xm_c131 23 = some xm_e131_23 := xm_gt d_131_23
theorem d_131_24 : List.drop 24 xm_c131 = xm_c131_24 := xm_dr d_131_23
theorem k_131_24 : xm_gi xm_c131 24 = some xm_e131_24 := xm_gt d_131_24
theorem d_131_25 : List.drop 25 xm_c131 = xm_c131_25 := xm_dr d_131_24
theorem k_131_25 : xm_gi xm_c131 25 = some xm_e131_25 := xm_gt d_131_25
theorem d_131_26 : List.drop 26 xm_c131 = xm_c131_26 := xm_dr d_131_25
theorem k_131_26 : xm_gi xm_c131 26 = some xm_e131_26 := xm_gt d_131_26
theorem d_131_27 : List.drop 27 xm_c131 = xm_c131_27 := xm_dr d_131_26
theorem k_131_27 : xm_gi xm_c131 27 = some xm_e131_27 := xm_gt d_131_27
theorem d_131_28 : List.drop 28 xm_c131 = xm_c131_28 := xm_dr d_131_27
theorem k_131_28 : xm_gi xm_c131 28 = some xm_e131_28 := xm_gt d_131_28
theorem d_131_29 : List.drop 29 xm_c131 = xm_c131_29 := xm_dr d_131_28
theorem k_131_29 : xm_gi xm_c131 29 = some xm_e131_29 := xm_gt d_131_29
theorem d_131_30 : List.drop 30 xm_c131 = xm_c131_30 := xm_dr d_131_29
theorem k_131_30 : xm_gi xm_c131 30 = some xm_e131_30 := xm_gt d_131_30
theorem d_131_31 : List.drop 31 xm_c131 = xm_c131_31 := xm_dr d_131_30
theorem k_131_31 : xm_gi xm_c131 31 = some xm_e131_31 := xm_gt d_131_31
theorem d_131_32 : List.drop 32 xm_c131 = xm_c131_32 := xm_dr d_131_31
theorem k_131_32 : xm_gi xm_c131 32 = some xm_e131_32 := xm_gt d_131_32
theorem d_131_33 : List.drop 33 xm_c131 = xm_c131_33 := xm_dr d_131_32
theorem k_131_33 : xm_gi xm_c131 33 = some xm_e131_33 := xm_gt d_131_33
theorem d_131_34 : List.drop 34 xm_c131 = xm_c131_34 := xm_dr d_131_33
theorem k_131_34 : xm_gi xm_c131 34 = some xm_e131_34 := xm_gt d_131_34
theorem d_131_35 : List.drop 35 xm_c131 = xm_c131_35 := xm_dr d_131_34
theorem k_131_35 : xm_gi xm_c131 35 = some xm_e131_35 := xm_gt d_131_35
theorem d_131_36 : List.drop 36 xm_c131 = xm_c131_36 := xm_dr d_131_35
theorem k_131_36 : xm_gi xm_c131 36 = some xm_e131_36 := xm_gt d_131_36
theorem d_131_37 : List.drop 37 xm_c131 = xm_c131_37 := xm_dr d_131_36
theorem k_131_37 : xm_gi xm_c131 37 = some xm_e131_37 := xm_gt d_131_37
theorem d_131_38 : List.drop 38 xm_c131 = xm_c131_38 := xm_dr d_131_37
theorem k_131_38 : xm_gi xm_c131 38 = some xm_e131_38 := xm_gt d_131_38
theorem d_131_39 : List.drop 39 xm_c131 = xm_c131_39 := xm_dr d_131_38
theorem k_131_39 : xm_gi xm_c131 39 = some xm_e131_39 := xm_gt d_131_39
theorem d_131_40 : List.drop 40 xm_c131 = xm_c131_40 := xm_dr d_131_39
theorem k_131_40 : xm_gi xm_c131 40 = some xm_e131_40 := xm_gt d_131_40
theorem d_131_41 : List.drop 41 xm_c131 = xm_c131_41 := xm_dr d_131_40
theorem k_131_41 : xm_gi xm_c131 41 = some xm_e131_41 := xm_gt d_131_41
theorem d_131_42 : List.drop 42 xm_c131 = xm_c131_42 := xm_dr d_131_41
theorem k_131_42 : xm_gi xm_c131 42 = some xm_e131_42 := xm_gt d_131_42
theorem d_131_43 : List.drop 43 xm_c131 = xm_c131_43 := xm_dr d_131_42
theorem k_131_43 : xm_gi xm_c131 43 = some xm_e131_43 := xm_gt d_131_43
theorem d_131_44 : List.drop 44 xm_c131 = xm_c131_44 := xm_dr d_131_43
theorem k_131_44 : xm_gi xm_c131 44 = some xm_e131_44 := xm_gt d_131_44
theorem d_131_45 : List.drop 45 xm_c131 = xm_c131_45 := xm_dr d_131_44
theorem k_131_45 : xm_gi xm_c131 45 = some xm_e131_45 := xm_gt d_131_45
theorem d_131_46 : List.drop 46 xm_c131 = xm_c131_46 := xm_dr d_131_45
theorem k_131_46 : xm_gi xm_c131 46 = some xm_e131_46 := xm_gt d_131_46
theorem d_131_47 : List.drop 47 xm_c131 = xm_c131_47 := xm_dr d_131_46
theorem k_131_47 : xm_gi xm_c131 47 = some xm_e131_47 := xm_gt d_131_47
theorem d_131_48 : List.drop 48 xm_c131 = xm_c131_48 := xm_dr d_131_47
theorem k_131_48 : xm_gi xm_c131 48 = some xm_e131_48 := xm_gt d_131_48
theorem d_131_49 : List.drop 49 xm_c131 = xm_c131_49 := xm_dr d_131_48
theorem k_131_49 : xm_gi xm_c131 49 = some xm_e131_49 := xm_gt d_131_49
theorem d_131_50 : List.drop 50 xm_c131 = xm_c131_50 := xm_dr d_131_49
theorem k_131_50 : xm_gi xm_c131 50 = some xm_e131_50 := xm_gt d_131_50
theorem d_131_51 : List.drop 51 xm_c131 = xm_c131_51 := xm_dr d_131_50
theorem k_131_51 : xm_gi xm_c131 51 = some xm_e131_51 := xm_gt d_131_51
theorem d_131_52 : List.drop 52 xm_c131 = xm_c131_52 := xm_dr d_131_51
theorem k_131_52 : xm_gi xm_c131 52 = some xm_e131_52 := xm_gt d_131_52
theorem d_131_53 : List.drop 53 xm_c131 = xm_c131_53 := xm_dr d_131_52
theorem k_131_53 : xm_gi xm_c131 53 = some xm_e131_53 := xm_gt d_131_53
theorem xb_131_0 {sc : List Int} {f : Nat → List xm_V → xm_W → xm_R} {w : xm_W} {Q : Option xm_V × xm_W → Prop} {x0 : Nat} {x1 : Int} {x2 : Int}
  (h : xm_Oi (f 147 [.inl x1] w) (fun z2 w1 => if (z2 : Int) = 0 then (xm_Oi (f 139 [.inr (.inl (some x0)), .inl 1] w1) (fun z4 w3 => Q (some (.inl z4), w3))) else (xm_Oi (f 141 [.inr (.inl (some x0)), .inl x2] w1) (fun z6 w5 => if (z6 : Int) = 0 then (xm_Oi (f 139 [.inr (.inl (some x0)), .inl 1] w5) (fun z15 w14 => Q (some (.inl z15), w14))) else (xm_O (xm_fr (xm_old sc) w5 x0 8 9) (fun r7 => xm_O (xm_refs (xm_old sc) w5 r7) (fun l8 => xm_O (xm_at l8 x1) (fun r9 => xm_Oi (f 702 [.inr (.inl r9)] w5) (fun z11 w10 => if (z11 : Int) = 0 then (xm_EQ (xm_old sc) xm_sta f xm_c131 25 [some (.inr (.inl (some x0))), some (.inl x1), some (.inl x2), some (.inr (.inl r9)), some (.inl 0), none] [] w10 Q) else (xm_Oi (f 139 [.inr (.inl (some x0)), .inl 2] w10) (fun z13 w12 => Q (some (.inl z13), w12)))))))))))) :
  xm_EQ (xm_old sc) xm_sta f xm_c131 0 [some (.inr (.inl (some x0))), some (.inl x1), some (.inl x2), none, none, none] [] w Q :=
  (xq_iload_n k_131_0 rfl (xq_invs2 k_131_1 xr_147 rfl rfl rfl h (fun z2 w1 h => (xq_if_eq k_131_2 h (fun h => (xq_aload_n k_131_7 rfl (xq_iconst k_131_8 (xq_invv1 k_131_9 xr_139 rfl rfl rfl h (fun z4 w3 h => (xq_ireturn k_131_10 h)))))) (fun h => (xq_aload_n k_131_3 rfl (xq_iload_n k_131_4 rfl (xq_invv2 k_131_5 xr_141 rfl rfl rfl h (fun z6 w5 h => (xq_if_ne k_131_6 h (fun h => (xq_aload_n k_131_7 rfl (xq_iconst k_131_8 (xq_invv1 k_131_9 xr_139 rfl rfl rfl h (fun z15 w14 h => (xq_ireturn k_131_10 h)))))) (fun h => (xq_aload_n k_131_11 rfl (xq_getr k_131_12 rfl h (fun r7 h => (xq_iload_n k_131_13 rfl (xq_aaload k_131_14 h (fun l8 h => h) (fun l8 r9 h => (xq_astore_n k_131_15 rfl (xq_aload_n k_131_16 rfl (xq_invv2 k_131_17 xr_702 rfl rfl rfl h (fun z11 w10 h => (xq_if_eq k_131_18 h (fun h => (xq_iconst k_131_23 (xq_istore k_131_24 rfl h))) (fun h => (xq_aload_n k_131_19 rfl (xq_iconst k_131_20 (xq_invv1 k_131_21 xr_139 rfl rfl rfl h (fun z13 w12 h => (xq_ireturn k_131_22 h))))))))))))))))))))))))))))
theorem xb_131_25 {sc : List Int} {f : Nat → List xm_V → xm_W → xm_R} {w : xm_W} {Q : Option xm_V × xm_W → Prop} {x0 : Nat} {x1 : Int} {x2 : Int} {x3 : Option Nat} {x4 : Int} {u5 : Option xm_V}
  (h : xm_O x3 (fun y1 => xm_O (xm_fi (xm_old sc) w y1 5 1) (fun z2 => if (x4 : Int) < z2 then (xm_O (xm_fr (xm_old sc) w y1 5 2) (fun r4 => xm_O (xm_ints (xm_old sc) w r4) (fun l5 => xm_O (xm_at l5 x4) (fun z6 => xm_Oi (f 142 [.inl z6, .inl 0, .inl 3] w) (fun z8 w7 => if (z8 : Int) = 0 then (Q (some (.inl x4), w7)) else (xm_O (xm_fr (xm_old sc) w7 x0 8 0) (fun r9 => xm_O (xm_fr (xm_old sc) w7 r9 2 3) (fun r10 => xm_O (xm_refs (xm_old sc) w7 r10) (fun l11 => xm_O (xm_at l11 x2) (fun r12 => xm_Oi (f 604 [.inr (.inl r12), .inl z6] w7) (fun z14 w13 => if (z14 : Int) = 0 then (Q (some (.inl x4), w13)) else (xm_EQ (xm_old sc) xm_sta f xm_c131 25 [some (.inr (.inl (some x0))), some (.inl x1), some (.inl x2), some (.inr (.inl (some y1))), some (.inl (xm_w (x4 + 1))), some (.inl z6)] [] w13 Q)))))))))))) else (xm_O (xm_fi (xm_old sc) w y1 5 1) (fun z3 => Q (some (.inl z3), w)))))) :
  xm_EQ (xm_old sc) xm_sta f xm_c131 25 [some (.inr (.inl (some x0))), some (.inl x1), some (.inl x2), some (.inr (.inl x3)), some (.inl x4), u5] [] w Q :=
  (xq_iload k_131_25 rfl (xq_aload_n k_131_26 rfl (match x3, h with
 | some y1, h => (xq_geti0 k_131_27 rfl h (fun z2 h => (xq_ic_ge k_131_28 h (fun h => (xq_aload_n k_131_29 rfl (xq_getr k_131_30 rfl h (fun r4 h => (xq_iload k_131_31 rfl (xq_iaload k_131_32 h (fun l5 h => h) (fun l5 z6 h => (xq_istore k_131_33 rfl (xq_iload k_131_34 rfl (xq_iconst k_131_35 (xq_iconst k_131_36 (xq_invs2 k_131_37 xr_142 rfl rfl rfl h (fun z8 w7 h => (xq_if_eq k_131_38 h (fun h => (xq_iload k_131_47 rfl (xq_ireturn k_131_48 h))) (fun h => (xq_aload_n k_131_39 rfl (xq_getr k_131_40 rfl h (fun r9 h => (xq_getr k_131_41 rfl h (fun r10 h => (xq_iload_n k_131_42 rfl (xq_aaload k_131_43 h (fun l11 h => h) (fun l11 r12 h => (xq_iload k_131_44 rfl (xq_invv2 k_131_45 xr_604 rfl rfl rfl h (fun z14 w13 h => (xq_if_ne k_131_46 h (fun h => (xq_iload k_131_47 rfl (xq_ireturn k_131_48 h))) (fun h => (xq_iinc k_131_49 rfl rfl (xq_goto k_131_50 h)))))))))))))))))))))))))))))) (fun h => (xq_aload_n k_131_51 rfl (xq_geti0 k_131_52 rfl h (fun z3 h => (xq_ireturn k_131_53 h))))))))
 | none, h => False.elim h)))
/-- ShodBackwards.judge(II)I -/
theorem d_132_0 : List.drop 0 xm_c132 = xm_c132 := rfl
theorem k_132_0 : xm_gi xm_c132 0 = some xm_e132_0 := xm_gt d_132_0
theorem d_132_1 : List.drop 1 xm_c132 = xm_c132_1 := xm_dr d_132_0
theorem k_132_1 : xm_gi xm_c132 1 = some xm_e132_1 := xm_gt d_132_1
theorem d_132_2 : List.drop 2 xm_c132 = xm_c132_2 := xm_dr d_132_1
theorem k_132_2 : xm_gi xm_c132 2 = some xm_e132_2 := xm_gt d_132_2
theorem d_132_3 : List.drop 3 xm_c132 = xm_c132_3 := xm_dr d_132_2
theorem k_132_3 : xm_gi xm_c132 3 = some xm_e132_3 := xm_gt d_132_3
theorem d_132_4 : List.drop 4 xm_c132 = xm_c132_4 := xm_dr d_132_3
theorem k_132_4 : xm_gi xm_c132 4 = some xm_e132_4 := xm_gt d_132_4
theorem d_132_5 : List.drop 5 xm_c132 = xm_c132_5 := xm_dr d_132_4
theorem k_132_5 : xm_gi xm_c132 5 = some xm_e132_5 := xm_gt d_132_5
theorem d_132_6 : List.drop 6 xm_c132 = xm_c132_6 := xm_dr d_132_5
theorem k_132_6 : xm_gi xm_c132 6 = some xm_e132_6 := xm_gt d_132_6
theorem d_132_7 : List.drop 7 xm_c132 = xm_c132_7 := xm_dr d_132_6
theorem k_132_7 : xm_gi xm_c132 7 = some xm_e132_7 := xm_gt d_132_7
theorem d_132_8 : List.drop 8 xm_c132 = xm_c132_8 := xm_dr d_132_7
theorem k_132_8 : xm_gi xm_c132 8 = some xm_e132_8 := xm_gt d_132_8
theorem d_132_9 : List.drop 9 xm_c132 = xm_c132_9 := xm_dr d_132_8
theorem k_132_9 : xm_gi xm_c132 9 = some xm_e132_9 := xm_gt d_132_9
theorem d_132_10 : List.drop 10 xm_c132 = xm_c132_10 := xm_dr d_132_9
theorem k_132_10 : xm_gi xm_c132 10 = some xm_e132_10 := xm_gt d_132_10
theorem d_132_11 : List.drop 11 xm_c132 = xm_c132_11 := xm_dr d_132_10
theorem k_132_11 : xm_gi xm_c132 11 = some xm_e132_11 := xm_gt d_132_11
theorem d_132_12 : List.drop 12 xm_c132 = xm_c132_12 := xm_dr d_132_11
theorem k_132_12 : xm_gi xm_c132 12 = some xm_e132_12 := xm_gt d_132_12
theorem d_132_13 : List.drop 13 xm_c132 = xm_c132_13 := xm_dr d_132_12
theorem k_132_13 : xm_gi xm_c132 13 = some xm_e132_13 := xm_gt d_132_13
theorem d_132_14 : List.drop 14 xm_c132 = xm_c132_14 := xm_dr d_132_13
theorem k_132_14 : xm_gi xm_c132 14 = some xm_e132_14 := xm_gt d_132_14
theorem d_132_15 : List.drop 15 xm_c132 = xm_c132_15 := xm_dr d_132_14
theorem k_132_15 : xm_gi xm_c132 15 = some xm_e132_15 := xm_gt d_132_15
theorem d_132_16 : List.drop 16 xm_c132 = xm_c132_16 := xm_dr d_132_15
theorem k_132_16 : xm_gi xm_c132 16 = some xm_e132_16 := xm_gt d_132_16
theorem d_132_17 : List.drop 17 xm_c132 = xm_c132_17 := xm_dr d_132_16
theorem k_132_17 : xm_gi xm_c132 17 = some xm_e132_17 := xm_gt d_132_17
theorem d_132_18 : List.drop 18 xm_c132 = xm_c132_18 := xm_dr d_132_17
theorem k_132_18 : xm_gi xm_c132 18 = some xm_e132_18 := xm_gt d_132_18
theorem d_132_19 : List.drop 19 xm_c132 = xm_c132_19 := xm_dr d_132_18
theorem k_132_19 : xm_gi xm_c132 19 = some xm_e132_19 := xm_gt d_132_19
theorem d_132_20 : List.drop 20 xm_c132 = xm_c132_20 := xm_dr d_132_19
theorem k_132_20 : xm_gi xm_c132 20 = some xm_e132_20 := xm_gt d_132_20
theorem d_132_21 : List.drop 21 xm_c132 = xm_c132_21 := xm_dr d_132_20
theorem k_132_21 : xm_gi xm_c132 21 = some xm_e132_21 := xm_gt d_132_21
theorem d_132_22 : List.drop 22 xm_c132 = xm_c132_22 := xm_dr d_132_21
theorem k_132_22 : xm_gi xm_c132 22 = some xm_e132_22 := xm_gt d_132_22
theorem d_132_23 : List.drop 23 xm_c132 = xm_c132_23 := xm_dr d_132_22
theorem k_132_23 : xm_gi xm_c132 23 = some xm_e132_23 := xm_gt d_132_23
theorem d_132_24 : List.drop 24 xm_c132 = xm_c132_24 := xm_dr d_132_23
theorem k_132_24 : xm_gi xm_c132 24 = some xm_e132_24 := xm_gt d_132_24
theorem d_132_25 : List.drop 25 xm_c132 = xm_c132_25 := xm_dr d_132_24
theorem k_132_25 : xm_gi xm_c132 25 = some xm_e132_25 := xm_gt d_132_25
theorem d_132_26 : List.drop 26 xm_c132 = xm_c132_26 := xm_dr d_132_25
theorem k_132_26 : xm_gi xm_c132 26 = some xm_e132_26 := xm_gt d_132_26
theorem d_132_27 : List.drop 27 xm_c132 = xm_c132_27 := xm_dr d_132_26
theorem k_132_27 : xm_gi xm_c132 27 = some xm_e132_27 := xm_gt d_132_27
theorem d_132_28 : List.drop 28 xm_c132 = xm_c132_28 := xm_dr d_132_27
theorem k_132_28 : xm_gi xm_c132 28 = some xm_e132_28 := xm_gt d_132_28
theorem d_132_29 : List.drop 29 xm_c132 = xm_c132_29 := xm_dr d_132_28
theorem k_132_29 : xm_gi xm_c132 29 = some xm_e132_29 := xm_gt d_132_29
theorem d_132_30 : List.drop 30 xm_c132 = xm_c132_30 := xm_dr d_132_29
theorem k_132_30 : xm_gi xm_c132 30 = some xm_e132_30 := xm_gt d_132_30
theorem d_132_31 : List.drop 31 xm_c132 = xm_c132_31 := xm_dr d_132_30
theorem k_132_31 : xm_gi xm_c132 31 = some xm_e132_31 := xm_gt d_132_31
theorem d_132_32 : List.drop 32 xm_c132 = xm_c132_32 := xm_dr d_132_31
theorem k_132_32 : xm_gi xm_c132 32 = some xm_e132_32 := xm_gt d_132_32
theorem d_132_33 : List.drop 33 xm_c132 = xm_c132_33 := xm_dr d_132_32
theorem k_132_33 : xm_gi xm_c132 33 = some xm_e132_33 := xm_gt d_132_33
theorem d_132_34 : List.drop 34 xm_c132 = xm_c132_34 := xm_dr d_132_33
theorem k_132_34 : xm_gi xm_c132 34 = some xm_e132_34 := xm_gt d_132_34
theorem d_132_35 : List.drop 35 xm_c132 = xm_c132_35 := xm_dr d_132_34
theorem k_132_35 : xm_gi xm_c132 35 = some xm_e132_35 := xm_gt d_132_35
theorem d_132_36 : List.drop 36 xm_c132 = xm_c132_36 := xm_dr d_132_35
theorem k_132_36 : xm_gi xm_c132 36 = some xm_e132_36 := xm_gt d_132_36
theorem d_132_37 : List.drop 37 xm_c132 = xm_c132_37 := xm_dr d_132_36
theorem k_132_37 : xm_gi xm_c132 37 = some xm_e132_37 := xm_gt d_132_37
theorem d_132_38 : List.drop 38 xm_c132 = xm_c132_38 := xm_dr d_132_37
theorem k_132_38 : xm_gi xm_c132 38 = some xm_e132_38 := xm_gt d_132_38
theorem d_132_39 : List.drop 39 xm_c132 = xm_c132_39 := xm_dr d_132_38
theorem k_132_39 : xm_gi xm_c132 39 = some xm_e132_39 := xm_gt d_132_39
theorem d_132_40 : List.drop 40 xm_c132 = xm_c132_40 := xm_dr d_132_39
theorem k_132_40 : xm_gi xm_c132 40 = some xm_e132_40 := xm_gt d_132_40
theorem d_132_41 : List.drop 41 xm_c132 = xm_c132_41 := xm_dr d_132_40
theorem k_132_41 : xm_gi xm_c132 41 = some xm_e132_41 := xm_gt d_132_41
theorem d_132_42 : List.drop 42 xm_c132 = xm_c132_42 := xm_dr d_132_41
theorem k_132_42 : xm_gi xm_c132 42 = some xm_e132_42 := xm_gt d_132_42
theorem d_132_43 : List.drop 43 xm_c132 = xm_c132_43 := xm_dr d_132_42
theorem k_132_43 : xm_gi xm_c132 43 = some xm_e132_43 := xm_gt d_132_43
theorem d_132_44 : List.drop 44 xm_c132 = xm_c132_44 := xm_dr d_132_43
theorem k_132_44 : xm_gi xm_c132 44 = some xm_e132_44 := xm_gt d_132_44
theorem d_132_45 : List.drop 45 xm_c132 = xm_c132_45 := xm_dr d_132_44
theorem k_132_45 : xm_gi xm_c132 45 = some xm_e132_45 := xm_gt d_132_45
theorem d_132_46 : List.drop 46 xm_c132 = xm_c132_46 := xm_dr d_132_45
theorem k_132_46 : xm_gi xm_c132 46 = some xm_e132_46 := xm_gt d_132_46
theorem d_132_47 : List.drop 47 xm_c132 = xm_c132_47 := xm_dr d_132_46
theorem k_132_47 : xm_gi xm_c132 47 = some xm_e132_47 := xm_gt d_132_47
theorem d_132_48 : List.drop 48 xm_c132 = xm_c132_48 := xm_dr d_132_47
theorem k_132_48 : xm_gi xm_c132 48 = some xm_e132_48 := xm_gt d_132_48
theorem d_132_49 : List.drop 49 xm_c132 = xm_c132_49 := xm_dr d_132_48
theorem k_132_49 : xm_gi xm_c132 49 = some xm_e132_49 := xm_gt d_132_49
theorem d_132_50 : List.drop 50 xm_c132 = xm_c132_50 := xm_dr d_132_49
theorem k_132_50 : xm_gi xm_c132 50 = some xm_e132_50 := xm_gt d_132_50
theorem d_132_51 : List.drop 51 xm_c132 = xm_c132_51 := xm_dr d_132_50
theorem k_132_51 : xm_gi xm_c132 51 = some xm_e132_51 := xm_gt d_132_51
theorem d_132_52 : List.drop 52 xm_c132 = xm_c132_52 := xm_dr d_132_51
theorem k_132_52 : xm_gi xm_c132 52 = some xm_e132_52 := xm_gt d_132_52
theorem d_132_53 : List.drop 53 xm_c132 = xm_c132_53 := xm_dr d_132_52
theorem k_132_53 : xm_gi xm_c132 53 = some xm_e132_53 := xm_gt d_132_53
theorem d_132_54 : List.drop 54 xm_c132 = xm_c132_54 := xm_dr d_132_53
theorem k_132_54 : xm_gi xm_c132 54 = some xm_e132_54 := xm_gt d_132_54
theorem xb_132_0 {sc : List Int} {f : Nat → List xm_V → xm_W → xm_R} {w : xm_W} {Q : Option xm_V × xm_W → Prop} {x0 : Nat} {x1 : Int} {x2 : Int}
  (h : xm_Oi (f 147 [.inl x1] w) (fun z2 w1 => if (z2 : Int) = 0 then (xm_Oi (f 139 [.inr (.inl (some x0)), .inl 1] w1) (fun z4 w3 => Q (some (.inl z4), w3))) else (xm_Oi (f 141 [.inr (.inl (some x0)), .inl x2] w1) (fun z6 w5 => if (z6 : Int) = 0 then (xm_Oi (f 139 [.inr (.inl (some x0)), .inl 1] w5) (fun z18 w17 => Q (some (.inl z18), w17))) else (xm_O (xm_fr (xm_old sc) w5 x0 8 9) (fun r7 => xm_O (xm_refs (xm_old sc) w5 r7) (fun l8 => xm_O (xm_at l8 x1) (fun r9 => xm_Oi (f 702 [.inr (.inl r9)] w5) (fun z11 w10 => if (z11 : Int) = 0 then (xm_O (xm_fr (xm_old sc) w10 x0 8 1) (fun r12 => xm_O (xm_fr (xm_old sc) w10 x0 8 0) (fun r13 => xm_Ov (f 402 [.inr (.inl (some r12)), .inr (.inl (some r13))] w10) (fun w14 => xm_EQ (xm_old sc) xm_sta f xm_c132 30 [some (.inr (.inl (some x0))), some (.inl x1), some (.inl x2), some (.inr (.inl r9)), some (.inl 0)] [] w14 Q)))) else (xm_Oi (f 139 [.inr (.inl (some x0)), .inl 2] w10) (fun z16 w15 => Q (some (.inl z16), w15)))))))))))) :
  xm_EQ (xm_old sc) xm_sta f xm_c132 0 [some (.inr (.inl (some x0))), some (.inl x1), some (.inl x2), none, none] [] w Q :=
  (xq_iload_n k_132_0 rfl (xq_invs2 k_132_1 xr_147 rfl rfl rfl h (fun z2 w1 h => (xq_if_eq k_132_2 h (fun h => (xq_aload_n k_132_7 rfl (xq_iconst k_132_8 (xq_invv1 k_132_9 xr_139 rfl rfl rfl h (fun z4 w3 h => (xq_ireturn k_132_10 h)))))) (fun h => (xq_aload_n k_132_3 rfl (xq_iload_n k_132_4 rfl (xq_invv2 k_132_5 xr_141 rfl rfl rfl h (fun z6 w5 h => (xq_if_ne k_132_6 h (fun h => (xq_aload_n k_132_7 rfl (xq_iconst k_132_8 (xq_invv1 k_132_9 xr_139 rfl rfl rfl h (fun z18 w17 h => (xq_ireturn k_132_10 h)))))) (fun h => (xq_aload_n k_132_11 rfl (xq_getr k_132_12 rfl h (fun r7 h => (xq_iload_n k_132_13 rfl (xq_aaload k_132_14 h (fun l8 h => h) (fun l8 r9 h => (xq_astore_n k_132_15 rfl (xq_aload_n k_132_16 rfl (xq_invv2 k_132_17 xr_702 rfl rfl rfl h (fun z11 w10 h => (xq_if_eq k_132_18 h (fun h => (xq_aload_n k_132_23 rfl (xq_getr k_132_24 rfl h (fun r12 h => (xq_aload_n k_132_25 rfl (xq_getr k_132_26 rfl h (fun r13 h => (xq_invv0 k_132_27 xr_402 rfl rfl rfl h (fun w14 h => (xq_iconst k_132_28 (xq_istore k_132_29 rfl h))))))))))) (fun h => (xq_aload_n k_132_19 rfl (xq_iconst k_132_20 (xq_invv1 k_132_21 xr_139 rfl rfl rfl h (fun z16 w15 h => (xq_ireturn k_132_22 h))))))))))))))))))))))))))))
theorem xb_132_30 {sc : List Int} {f : Nat → List xm_V → xm_W → xm_R} {w : xm_W} {Q : Option xm_V × xm_W → Prop} {x0 : Nat} {x1 : Int} {x2 : Int} {x3 : Option Nat} {x4 : Int}
  (h : xm_O x3 (fun y1 => xm_O (xm_fi (xm_old sc) w y1 5 1) (fun z2 => if (x4 : Int) < z2 then (xm_O (xm_fr (xm_old sc) w y1 5 2) (fun r4 => xm_O (xm_ints (xm_old sc) w r4) (fun l5 => xm_O (xm_at l5 x4) (fun z6 => xm_O (xm_fr (xm_old sc) w x0 8 1) (fun r7 => xm_O (xm_fr (xm_old sc) w r7 2 3) (fun r8 => xm_O (xm_refs (xm_old sc) w r8) (fun l9 => xm_O (xm_at l9 x2) (fun r10 => xm_O r10 (fun y11 => xm_O (xm_fi (xm_old sc) w y11 4 2) (fun z12 => if (z6 : Int) = z12 then (xm_O (xm_fr (xm_old sc) w x0 8 1) (fun r13 => xm_Ov (f 405 [.inr (.inl (some r13))] w) (fun w14 => xm_EQ (xm_old sc) xm_sta f xm_c132 30 [some (.inr (.inl (some x0))), some (.inl x1), some (.inl x2), some (.inr (.inl (some y1))), some (.inl (xm_w (x4 + 1)))] [] w14 Q))) else (Q (some (.inl x4), w)))))))))))) else (xm_O (xm_fi (xm_old sc) w y1 5 1) (fun z3 => Q (some (.inl z3), w)))))) :
  xm_EQ (xm_old sc) xm_sta f xm_c132 30 [some (.inr (.inl (some x0))), some (.inl x1), some (.inl x2), some (.inr (.inl x3)), some (.inl x4)] [] w Q :=
  (xq_iload k_132_30 rfl (xq_aload_n k_132_31 rfl (match x3, h with
 | some y1, h => (xq_geti0 k_132_32 rfl h (fun z2 h => (xq_ic_ge k_132_33 h (fun h => (xq_aload_n k_132_34 rfl (xq_getr k_132_35 rfl h (fun r4 h => (xq_iload k_132_36 rfl (xq_iaload k_132_37 h (fun l5 h => h) (fun l5 z6 h => (xq_aload_n k_132_38 rfl (xq_getr k_132_39 rfl h (fun r7 h => (xq_getr k_132_40 rfl h (fun r8 h => (xq_iload_n k_132_41 rfl (xq_aaload k_132_42 h (fun l9 h => h) (fun l9 r10 h => (match r10, h with
 | some y11, h => (xq_geti0 k_132_43 rfl h (fun z12 h => (xq_ic_eq k_132_44 h (fun h => (xq_aload_n k_132_47 rfl (xq_getr k_132_48 rfl h (fun r13 h => (xq_invv0 k_132_49 xr_405 rfl rfl rfl h (fun w14 h => (xq_iinc k_132_50 rfl rfl (xq_goto k_132_51 h)))))))) (fun h => (xq_iload k_132_45 rfl (xq_ireturn k_132_46 h))))))
 | none, h => False.elim h)))))))))))))))) (fun h => (xq_aload_n k_132_52 rfl (xq_geti0 k_132_53 rfl h (fun z3 h => (xq_ireturn k_132_54 h))))))))
 | none, h => False.elim h)))
/-- ShodBackwards.image()I -/
theorem d_133_0 : List.drop 0 xm_c133 = xm_c133 := rfl
theorem k_133_0 : xm_gi xm_c133 0 = some xm_e133_0 := xm_gt d_133_0
theorem d_133_1 : List.drop 1 xm_c133 = xm_c133_1 := xm_dr d_133_0
theorem k_133_1 : xm_gi xm_c133 1 = some xm_e133_1 := xm_gt d_133_1
theorem d_133_2 : List.drop 2 xm_c133 = xm_c133_2 := xm_dr d_133_1
theorem k_133_2 : xm_gi xm_c133 2 = some xm_e133_2 := xm_gt d_133_2
theorem d_133_3 : List.drop 3 xm_c133 = xm_c133_3 := xm_dr d_133_2
theorem k_133_3 : xm_gi xm_c133 3 = some xm_e133_3 := xm_gt d_133_3
theorem d_133_4 : List.drop 4 xm_c133 = xm_c133_4 := xm_dr d_133_3
theorem k_133_4 : xm_gi xm_c133 4 = some xm_e133_4 := xm_gt d_133_4
theorem d_133_5 : List.drop 5 xm_c133 = xm_c133_5 := xm_dr d_133_4
theorem k_133_5 : xm_gi xm_c133 5 = some xm_e133_5 := xm_gt d_133_5
theorem d_133_6 : List.drop 6 xm_c133 = xm_c133_6 := xm_dr d_133_5
theorem k_133_6 : xm_gi xm_c133 6 = some xm_e133_6 := xm_gt d_133_6
theorem d_133_7 : List.drop 7 xm_c133 = xm_c133_7 := xm_dr d_133_6
theorem k_133_7 : xm_gi xm_c133 7 = some xm_e133_7 := xm_gt d_133_7
theorem d_133_8 : List.drop 8 xm_c133 = xm_c133_8 := xm_dr d_133_7
theorem k_133_8 : xm_gi xm_c133 8 = some xm_e133_8 := xm_gt d_133_8
theorem d_133_9 : List.drop 9 xm_c133 = xm_c133_9 := xm_dr d_133_8
theorem k_133_9 : xm_gi xm_c133 9 = some xm_e133_9 := xm_gt d_133_9
theorem d_133_10 : List.drop 10 xm_c133 = xm_c133_10 := xm_dr d_133_9
theorem k_133_10 : xm_gi xm_c133 10 = some xm_e133_10 := xm_gt d_133_10
theorem d_133_11 : List.drop 11 xm_c133 = xm_c133_11 := xm_dr d_133_10
theorem k_133_11 : xm_gi xm_c133 11 = some xm_e133_11 := xm_gt d_133_11
theorem d_133_12 : List.drop 12 xm_c133 = xm_c133_12 := xm_dr d_133_11
theorem k_133_12 : xm_gi xm_c133 12 = some xm_e133_12 := xm_gt d_133_12
theorem d_133_13 : List.drop 13 xm_c133 = xm_c133_13 := xm_dr d_133_12
theorem k_133_13 : xm_gi xm_c133 13 = some xm_e133_13 := xm_gt d_133_13
theorem d_133_14 : List.drop 14 xm_c133 = xm_c133_14 := xm_dr d_133_13
theorem k_133_14 : xm_gi xm_c133 14 = some xm_e133_14 := xm_gt d_133_14
theorem d_133_15 : List.drop 15 xm_c133 = xm_c133_15 := xm_dr d_133_14
theorem k_133_15 : xm_gi xm_c133 15 = some xm_e133_15 := xm_gt d_133_15
theorem d_133_16 : List.drop 16 xm_c133 = xm_c133_16 := xm_dr d_133_15
theorem k_133_16 : xm_gi xm_c133 16 = some xm_e133_16 := xm_gt d_133_16
theorem d_133_17 : List.drop 17 xm_c133 = xm_c133_17 := xm_dr d_133_16
theorem k_133_17 : xm_gi xm_c133 17 = some xm_e133_17 := xm_gt d_133_17
theorem d_133_18 : List.drop 18 xm_c133 = xm_c133_18 := xm_dr d_133_17
theorem k_133_18 : xm_gi xm_c133 18 = some xm_e133_18 := xm_gt d_133_18
theorem xb_133_0 {sc : List Int} {f : Nat → List xm_V → xm_W → xm_R} {w : xm_W} {Q : Option xm_V × xm_W → Prop} {x0 : Nat}
  (h : xm_O (xm_fr (xm_old sc) w x0 8 3) (fun r1 => xm_O (xm_fr (xm_old sc) w x0 8 0) (fun r2 => xm_Ov (f 402 [.inr (.inl (some r1)), .inr (.inl (some r2))] w) (fun w3 => xm_O (xm_fr (xm_old sc) w3 x0 8 4) (fun r4 => xm_O (xm_fr (xm_old sc) w3 x0 8 2) (fun r5 => xm_Ov (f 302 [.inr (.inl (some r4)), .inr (.inl (some r5))] w3) (fun w6 => xm_O (xm_fi (xm_old sc) w6 x0 8 5) (fun z7 => xm_O (xm_setf w6 x0 8 5 0 (.inl (xm_w (z7 + 1)))) (fun w8 => xm_O (xm_fi (xm_old sc) w8 x0 8 5) (fun z9 => Q (some (.inl z9), w8))))))))))) :
  xm_EQ (xm_old sc) xm_sta f xm_c133 0 [some (.inr (.inl (some x0)))] [] w Q :=
  (xq_aload_n k_133_0 rfl (xq_getr k_133_1 rfl h (fun r1 h => (xq_aload_n k_133_2 rfl (xq_getr k_133_3 rfl h (fun r2 h => (xq_invv0 k_133_4 xr_402 rfl rfl rfl h (fun w3 h => (xq_aload_n k_133_5 rfl (xq_getr k_133_6 rfl h (fun r4 h => (xq_aload_n k_133_7 rfl (xq_getr k_133_8 rfl h (fun r5 h => (xq_invv0 k_133_9 xr_302 rfl rfl rfl h (fun w6 h => (xq_aload_n k_133_10 rfl (xq_dupr k_133_11 (xq_geti0 k_133_12 rfl h (fun z7 h => (xq_iconst k_133_13 (xq_iadd k_133_14 (xq_put k_133_15 rfl h (fun w8 h => (xq_aload_n k_133_16 rfl (xq_geti0 k_133_17 rfl h (fun z9 h => (xq_ireturn k_133_18 h))))))))))))))))))))))))))))
/-- ShodBackwards.restore()I -/
theorem d_134_0 : List.drop 0 xm_c134 = xm_c134 := rfl
theorem k_134_0 : xm_gi xm_c134 0 = some xm_e134_0 := xm_gt d_134_0
theorem d_134_1 : List.drop 1 xm_c134 = xm_c134_1 := xm_dr d_134_0
theorem k_134_1 : xm_gi xm_c134 1 = some xm_e134_1 := xm_gt d_134_1
theorem d_134_2 : List.drop 2 xm_c134 = xm_c134_2 := xm_dr d_134_1
theorem k_134_2 : xm_gi xm_c134 2 = some xm_e134_2 := xm_gt d_134_2
theorem d_134_3 : List.drop 3 xm_c134 = xm_c134_3 := xm_dr d_134_2
theorem k_134_3 : xm_gi xm_c134 3 = some xm_e134_3 := xm_gt d_134_3
theorem d_134_4 : List.drop 4 xm_c134 = xm_c134_4 := xm_dr d_134_3
theorem k_134_4 : xm_gi xm_c134 4 = some xm_e134_4 := xm_gt d_134_4
theorem d_134_5 : List.drop 5 xm_c134 = xm_c134_5 := xm_dr d_134_4
theorem k_134_5 : xm_gi xm_c134 5 = some xm_e134_5 := xm_gt d_134_5
theorem d_134_6 : List.drop 6 xm_c134 = xm_c134_6 := xm_dr d_134_5
theorem k_134_6 : xm_gi xm_c134 6 = some xm_e134_6 := xm_gt d_134_6
theorem d_134_7 : List.drop 7 xm_c134 = xm_c134_7 := xm_dr d_134_6
theorem k_134_7 : xm_gi xm_c134 7 = some xm_e134_7 := xm_gt d_134_7
theorem d_134_8 : List.drop 8 xm_c134 = xm_c134_8 := xm_dr d_134_7
theorem k_134_8 : xm_gi xm_c134 8 = some xm_e134_8 := xm_gt d_134_8
theorem d_134_9 : List.drop 9 xm_c134 = xm_c134_9 := xm_dr d_134_8
theorem k_134_9 : xm_gi xm_c134 9 = some xm_e134_9 := xm_gt d_134_9
theorem d_134_10 : List.drop 10 xm_c134 = xm_c134_10 := xm_dr d_134_9
theorem k_134_10 : xm_gi xm_c134 10 = some xm_e134_10 := xm_gt d_134_10
theorem d_134_11 : List.drop 11 xm_c134 = xm_c134_11 := xm_dr d_134_10
theorem k_134_11 : xm_gi xm_c134 11 = some xm_e134_11 := xm_gt d_134_11
theorem d_134_12 : List.drop 12 xm_c134 = xm_c134_12 := xm_dr d_134_11
theorem k_134_12 : xm_gi xm_c134 12 = some xm_e134_12 := xm_gt d_134_12
theorem d_134_13 : List.drop 13 xm_c134 = xm_c134_13 := xm_dr d_134_12
theorem k_134_13 : xm_gi xm_c134 13 = some xm_e134_13 := xm_gt d_134_13
theorem d_134_14 : List.drop 14 xm_c134 = xm_c134_14 := xm_dr d_134_13
theorem k_134_14 : xm_gi xm_c134 14 = some xm_e134_14 := xm_gt d_134_14
theorem d_134_15 : List.drop 15 xm_c134 = xm_c134_15 := xm_dr d_134_14
theorem k_134_15 : xm_gi xm_c134 15 = some xm_e134_15 := xm_gt d_134_15
theorem d_134_16 : List.drop 16 xm_c134 = xm_c134_16 := xm_dr d_134_15
theorem k_134_16 : xm_gi xm_c134 16 = some xm_e134_16 := xm_gt d_134_16
theorem d_134_17 : List.drop 17 xm_c134 = xm_c134_17 := xm_dr d_134_16
theorem k_134_17 : xm_gi xm_c134 17 = some xm_e134_17 := xm_gt d_134_17
theorem d_134_18 : List.drop 18 xm_c134 = xm_c134_18 := xm_dr d_134_17
theorem k_134_18 : xm_gi xm_c134 18 = some xm_e134_18 := xm_gt d_134_18
theorem d_134_19 : List.drop 19 xm_c134 = xm_c134_19 := xm_dr d_134_18
theorem k_134_19 : xm_gi xm_c134 19 = some xm_e134_19 := xm_gt d_134_19
theorem d_134_20 : List.drop 20 xm_c134 = xm_c134_20 := xm_dr d_134_19
theorem k_134_20 : xm_gi xm_c134 20 = some xm_e134_20 := xm_gt d_134_20
theorem xb_134_0 {sc : List Int} {f : Nat → List xm_V → xm_W → xm_R} {w : xm_W} {Q : Option xm_V × xm_W → Prop} {x0 : Nat}
  (h : xm_O (xm_fi (xm_old sc) w x0 8 5) (fun z1 => if (z1 : Int) = 0 then (xm_Oi (f 139 [.inr (.inl (some x0)), .inl 2] w) (fun z11 w10 => Q (some (.inl z11), w10))) else (xm_O (xm_fr (xm_old sc) w x0 8 0) (fun r2 => xm_O (xm_fr (xm_old sc) w x0 8 3) (fun r3 => xm_Ov (f 402 [.inr (.inl (some r2)), .inr (.inl (some r3))] w) (fun w4 => xm_O (xm_fr (xm_old sc) w4 x0 8 2) (fun r5 => xm_O (xm_fr (xm_old sc) w4 x0 8 4) (fun r6 => xm_Ov (f 302 [.inr (.inl (some r5)), .inr (.inl (some r6))] w4) (fun w7 => xm_O (xm_fr (xm_old sc) w7 x0 8 0) (fun r8 => xm_O (xm_fi (xm_old sc) w7 r8 2 2) (fun z9 => Q (some (.inl z9), w7)))))))))))) :
  xm_EQ (xm_old sc) xm_sta f xm_c134 0 [some (.inr (.inl (some x0)))] [] w Q :=
  (xq_aload_n k_134_0 rfl (xq_geti0 k_134_1 rfl h (fun z1 h => (xq_if_ne k_134_2 h (fun h => (xq_aload_n k_134_3 rfl (xq_iconst k_134_4 (xq_invv1 k_134_5 xr_139 rfl rfl rfl h (fun z11 w10 h => (xq_ireturn k_134_6 h)))))) (fun h => (xq_aload_n k_134_7 rfl (xq_getr k_134_8 rfl h (fun r2 h => (xq_aload_n k_134_9 rfl (xq_getr k_134_10 rfl h (fun r3 h => (xq_invv0 k_134_11 xr_402 rfl rfl rfl h (fun w4 h => (xq_aload_n k_134_12 rfl (xq_getr k_134_13 rfl h (fun r5 h => (xq_aload_n k_134_14 rfl (xq_getr k_134_15 rfl h (fun r6 h => (xq_invv0 k_134_16 xr_302 rfl rfl rfl h (fun w7 h => (xq_aload_n k_134_17 rfl (xq_getr k_134_18 rfl h (fun r8 h => (xq_geti0 k_134_19 rfl h (fun z9 h => (xq_ireturn k_134_20 h)))))))))))))))))))))))))))
/-- ShodBackwards.tell(I)I -/
theorem d_135_0 : List.drop 0 xm_c135 = xm_c135 := rfl
theorem k_135_0 : xm_gi xm_c135 0 = some xm_e135_0 := xm_gt d_135_0
theorem d_135_1 : List.drop 1 xm_c135 = xm_c135_1 := xm_dr d_135_0
theorem k_135_1 : xm_gi xm_c135 1 = some xm_e135_1 := xm_gt d_135_1
theorem d_135_2 : List.drop 2 xm_c135 = xm_c135_2 := xm_dr d_135_1
theorem k_135_2 : xm_gi xm_c135 2 = some xm_e135_2 := xm_gt d_135_2
theorem d_135_3 : List.drop 3 xm_c135 = xm_c135_3 := xm_dr d_135_2
theorem k_135_3 : xm_gi xm_c135 3 = some xm_e135_3 := xm_gt d_135_3
theorem d_135_4 : List.drop 4 xm_c135 = xm_c135_4 := xm_dr d_135_3
theorem k_135_4 : xm_gi xm_c135 4 = some xm_e135_4 := xm_gt d_135_4
theorem d_135_5 : List.drop 5 xm_c135 = xm_c135_5 := xm_dr d_135_4
theorem k_135_5 : xm_gi xm_c135 5 = some xm_e135_5 := xm_gt d_135_5
theorem d_135_6 : List.drop 6 xm_c135 = xm_c135_6 := xm_dr d_135_5
theorem k_135_6 : xm_gi xm_c135 6 = some xm_e135_6 := xm_gt d_135_6
theorem d_135_7 : List.drop 7 xm_c135 = xm_c135_7 := xm_dr d_135_6
theorem k_135_7 : xm_gi xm_c135 7 = some xm_e135_7 := xm_gt d_135_7
theorem d_135_8 : List.drop 8 xm_c135 = xm_c135_8 := xm_dr d_135_7
theorem k_135_8 : xm_gi xm_c135 8 = some xm_e135_8 := xm_gt d_135_8
theorem d_135_9 : List.drop 9 xm_c135 = xm_c135_9 := xm_dr d_135_8
theorem k_135_9 : xm_gi xm_c135 9 = some xm_e135_9 := xm_gt d_135_9
theorem d_135_10 : List.drop 10 xm_c135 = xm_c135_10 := xm_dr d_135_9
theorem k_135_10 : xm_gi xm_c135 10 = some xm_e135_10 := xm_gt d_135_10
theorem d_135_11 : List.drop 11 xm_c135 = xm_c135_11 := xm_dr d_135_10
theorem k_135_11 : xm_gi xm_c135 11 = some xm_e135_11 := xm_gt d_135_11
theorem d_135_12 : List.drop 12 xm_c135 = xm_c135_12 := xm_dr d_135_11
theorem k_135_12 : xm_gi xm_c135 12 = some xm_e135_12 := xm_gt d_135_12
theorem d_135_13 : List.drop 13 xm_c135 = xm_c135_13 := xm_dr d_135_12
theorem k_135_13 : xm_gi xm_c135 13 = some xm_e135_13 := xm_gt d_135_13
theorem d_135_14 : List.drop 14 xm_c135 = xm_c135_14 := xm_dr d_135_13
theorem k_135_14 : xm_gi xm_c135 14 = some xm_e135_14 := xm_gt d_135_14
theorem d_135_15 : List.drop 15 xm_c135 = xm_c135_15 := xm_dr d_135_14
theorem k_135_15 : xm_gi xm_c135 15 = some xm_e135_15 := xm_gt d_135_15
theorem d_135_16 : List.drop 16 xm_c135 = xm_c135_16 := xm_dr d_135_15
theorem k_135_16 : xm_gi xm_c135 16 = some xm_e135_16 := xm_gt d_135_16
theorem d_135_17 : List.drop 17 xm_c135 = xm_c135_17 := xm_dr d_135_16
theorem k_135_17 : xm_gi xm_c135 17 = some xm_e135_17 := xm_gt d_135_17
theorem d_135_18 : List.drop 18 xm_c135 = xm_c135_18 := xm_dr d_135_17
theorem k_135_18 : xm_gi xm_c135 18 = some xm_e135_18 := xm_gt d_135_18
theorem d_135_19 : List.drop 19 xm_c135 = xm_c135_19 := xm_dr d_135_18
theorem k_135_19 : xm_gi xm_c135 19 = some xm_e135_19 := xm_gt d_135_19
theorem d_135_20 : List.drop 20 xm_c135 = xm_c135_20 := xm_dr d_135_19
theorem k_135_20 : xm_gi xm_c135 20 = some xm_e135_20 := xm_gt d_135_20
theorem d_135_21 : List.drop 21 xm_c135 = xm_c135_21 := xm_dr d_135_20
theorem k_135_21 : xm_gi xm_c135 21 = some xm_e135_21 := xm_gt d_135_21
theorem d_135_22 : List.drop 22 xm_c135 = xm_c135_22 := xm_dr d_135_21
theorem k_135_22 : xm_gi xm_c135 22 = some xm_e135_22 := xm_gt d_135_22
theorem d_135_23 : List.drop 23 xm_c135 = xm_c135_23 := xm_dr d_135_22
theorem k_135_23 : xm_gi xm_c135 23 = some xm_e135_23 := xm_gt d_135_23
theorem d_135_24 : List.drop 24 xm_c135 = xm_c135_24 := xm_dr d_135_23
theorem k_135_24 : xm_gi xm_c135 24 = some xm_e135_24 := xm_gt d_135_24
theorem d_135_25 : List.drop 25 xm_c135 = xm_c135_25 := xm_dr d_135_24
theorem k_135_25 : xm_gi xm_c135 25 = some xm_e135_25 := xm_gt d_135_25
theorem d_135_26 : List.drop 26 xm_c135 = xm_c135_26 := xm_dr d_135_25
theorem k_135_26 : xm_gi xm_c135 26 = some xm_e135_26 := xm_gt d_135_26
theorem d_135_27 : List.drop 27 xm_c135 = xm_c135_27 := xm_dr d_135_26
theorem k_135_27 : xm_gi xm_c135 27 = some xm_e135_27 := xm_gt d_135_27
theorem xb_135_0 {sc : List Int} {f : Nat → List xm_V → xm_W → xm_R} {w : xm_W} {Q : Option xm_V × xm_W → Prop} {x0 : Nat} {x1 : Int}
  (h : xm_O (xm_fr (xm_old sc) w x0 8 2) (fun r1 => xm_O (xm_fi (xm_old sc) w r1 1 3) (fun z2 => if (z2 : Int) < 24 then (xm_O (xm_fr (xm_old sc) w x0 8 2) (fun r3 => xm_O (xm_fr (xm_old sc) w r3 1 2) (fun r4 => xm_O (xm_fr (xm_old sc) w x0 8 2) (fun r5 => xm_O (xm_fi (xm_old sc) w r5 1 3) (fun z6 => xm_O (xm_seti w r4 z6 x1) (fun w7 => xm_O (xm_fr (xm_old sc) w7 x0 8 2) (fun r8 => xm_O (xm_fi (xm_old sc) w7 r8 1 3) (fun z9 => xm_O (xm_setf w7 r8 1 3 0 (.inl (xm_w (z9 + 1)))) (fun w10 => xm_O (xm_fr (xm_old sc) w10 x0 8 2) (fun r11 => xm_O (xm_fi (xm_old sc) w10 r11 1 3) (fun z12 => Q (some (.inl z12), w10)))))))))))) else (xm_Oi (f 139 [.inr (.inl (some x0)), .inl 4] w) (fun z14 w13 => Q (some (.inl z14), w13)))))) :
  xm_EQ (xm_old sc) xm_sta f xm_c135 0 [some (.inr (.inl (some x0))), some (.inl x1)] [] w Q :=
  (xq_aload_n k_135_0 rfl (xq_getr k_135_1 rfl h (fun r1 h => (xq_geti0 k_135_2 rfl h (fun z2 h => (xq_bipush k_135_3 (xq_ic_lt k_135_4 h (fun h => (xq_aload_n k_135_9 rfl (xq_getr k_135_10 rfl h (fun r3 h => (xq_getr k_135_11 rfl h (fun r4 h => (xq_aload_n k_135_12 rfl (xq_getr k_135_13 rfl h (fun r5 h => (xq_geti0 k_135_14 rfl h (fun z6 h => (xq_iload_n k_135_15 rfl (xq_iastore k_135_16 h (fun w7 h => (xq_aload_n k_135_17 rfl (xq_getr k_135_18 rfl h (fun r8 h => (xq_dupr k_135_19 (xq_geti0 k_135_20 rfl h (fun z9 h => (xq_iconst k_135_21 (xq_iadd k_135_22 (xq_put k_135_23 rfl h (fun w10 h => (xq_aload_n k_135_24 rfl (xq_getr k_135_25 rfl h (fun r11 h => (xq_geti0 k_135_26 rfl h (fun z12 h => (xq_ireturn k_135_27 h)))))))))))))))))))))))))))))) (fun h => (xq_aload_n k_135_5 rfl (xq_iconst k_135_6 (xq_invv1 k_135_7 xr_139 rfl rfl rfl h (fun z14 w13 h => (xq_ireturn k_135_8 h)))))))))))))
/-- ShodBackwards.check()I -/
theorem d_136_0 : List.drop 0 xm_c136 = xm_c136 := rfl
theorem k_136_0 : xm_gi xm_c136 0 = some xm_e136_0 := xm_gt d_136_0
theorem d_136_1 : List.drop 1 xm_c136 = xm_c136_1 := xm_dr d_136_0
theorem k_136_1 : xm_gi xm_c136 1 = some xm_e136_1 := xm_gt d_136_1
theorem d_136_2 : List.drop 2 xm_c136 = xm_c136_2 := xm_dr d_136_1
theorem k_136_2 : xm_gi xm_c136 2 = some xm_e136_2 := xm_gt d_136_2
theorem d_136_3 : List.drop 3 xm_c136 = xm_c136_3 := xm_dr d_136_2
theorem k_136_3 : xm_gi xm_c136 3 = some xm_e136_3 := xm_gt d_136_3
theorem d_136_4 : List.drop 4 xm_c136 = xm_c136_4 := xm_dr d_136_3
theorem k_136_4 : xm_gi xm_c136 4 = some xm_e136_4 := xm_gt d_136_4
theorem d_136_5 : List.drop 5 xm_c136 = xm_c136_5 := xm_dr d_136_4
theorem k_136_5 : xm_gi xm_c136 5 = some xm_e136_5 := xm_gt d_136_5
theorem d_136_6 : List.drop 6 xm_c136 = xm_c136_6 := xm_dr d_136_5
theorem k_136_6 : xm_gi xm_c136 6 = some xm_e136_6 := xm_gt d_136_6
theorem d_136_7 : List.drop 7 xm_c136 = xm_c136_7 := xm_dr d_136_6
theorem k_136_7 : xm_gi xm_c136 7 = some xm_e136_7 := xm_gt d_136_7
theorem d_136_8 : List.drop 8 xm_c136 = xm_c136_8 := xm_dr d_136_7
theorem k_136_8 : xm_gi xm_c136 8 = some xm_e136_8 := xm_gt d_136_8
theorem d_136_9 : List.drop 9 xm_c136 = xm_c136_9 := xm_dr d_136_8
theorem k_136_9 : xm_gi xm_c136 9 = some xm_e136_9 := xm_gt d_136_9
theorem d_136_10 : List.drop 10 xm_c136 = xm_c136_10 := xm_dr d_136_9
theorem k_136_10 : xm_gi xm_c136 10 = some xm_e136_10 := xm_gt d_136_10
theorem d_136_11 : List.drop 11 xm_c136 = xm_c136_11 := xm_dr d_136_10
theorem k_136_11 : xm_gi xm_c136 11 = some xm_e136_11 := xm_gt d_136_11
theorem d_136_12 : List.drop 12 xm_c136 = xm_c136_12 := xm_dr d_136_11
theorem k_136_12 : xm_gi xm_c136 12 = some xm_e136_12 := xm_gt d_136_12
theorem d_136_13 : List.drop 13 xm_c136 = xm_c136_13 := xm_dr d_136_12
theorem k_136_13 : xm_gi xm_c136 13 = some xm_e136_13 := xm_gt d_136_13
theorem d_136_14 : List.drop 14 xm_c136 = xm_c136_14 := xm_dr d_136_13
theorem k_136_14 : xm_gi xm_c136 14 = some xm_e136_14 := xm_gt d_136_14
theorem d_136_15 : List.drop 15 xm_c136 = xm_c136_15 := xm_dr d_136_14
theorem k_136_15 : xm_gi xm_c136 15 = some xm_e136_15 := xm_gt d_136_15
theorem d_136_16 : List.drop 16 xm_c136 = xm_c136_16 := xm_dr d_136_15
theorem k_136_16 : xm_gi xm_c136 16 = some xm_e136_16 := xm_gt d_136_16
theorem d_136_17 : List.drop 17 xm_c136 = xm_c136_17 := xm_dr d_136_16
theorem k_136_17 : xm_gi xm_c136 17 = some xm_e136_17 := xm_gt d_136_17
theorem d_136_18 : List.drop 18 xm_c136 = xm_c136_18 := xm_dr d_136_17
theorem k_136_18 : xm_gi xm_c136 18 = some xm_e136_18 := xm_gt d_136_18
theorem d_136_19 : List.drop 19 xm_c136 = xm_c136_19 := xm_dr d_136_18
theorem k_136_19 : xm_gi xm_c136 19 = some xm_e136_19 := xm_gt d_136_19
theorem d_136_20 : List.drop 20 xm_c136 = xm_c136_20 := xm_dr d_136_19
theorem k_136_20 : xm_gi xm_c136 20 = some xm_e136_20 := xm_gt d_136_20
theorem d_136_21 : List.drop 21 xm_c136 = xm_c136_21 := xm_dr d_136_20
theorem k_136_21 : xm_gi xm_c136 21 = some xm_e136_21 := xm_gt d_136_21
theorem d_136_22 : List.drop 22 xm_c136 = xm_c136_22 := xm_dr d_136_21
theorem k_136_22 : xm_gi xm_c136 22 = some xm_e136_22 := xm_gt d_136_22
theorem d_136_23 : List.drop 23 xm_c136 = xm_c136_23 := xm_dr d_136_22
theorem k_136_23 : xm_gi xm_c136 23 = some xm_e136_23 := xm_gt d_136_23
theorem d_136_24 : List.drop 24 xm_c136 = xm_c136_24 := xm_dr d_136_23
theorem k_136_24 : xm_gi xm_c136 24 = some xm_e136_24 := xm_gt d_136_24
theorem d_136_25 : List.drop 25 xm_c136 = xm_c136_25 := xm_dr d_136_24
theorem k_136_25 : xm_gi xm_c136 25 = some xm_e136_25 := xm_gt d_136_25
theorem d_136_26 : List.drop 26 xm_c136 = xm_c136_26 := xm_dr d_136_25
theorem k_136_26 : xm_gi xm_c136 26 = some xm_e136_26 := xm_gt d_136_26
theorem d_136_27 : List.drop 27 xm_c136 = xm_c136_27 := xm_dr d_136_26
theorem k_136_27 : xm_gi xm_c136 27 = some xm_e136_27 := xm_gt d_136_27
theorem d_136_28 : List.drop 28 xm_c136 = xm_c136_28 := xm_dr d_136_27
theorem k_136_28 : xm_gi xm_c136 28 = some xm_e136_28 := xm_gt d_136_28
theorem d_136_29 : List.drop 29 xm_c136 = xm_c136_29 := xm_dr d_136_28
theorem k_136_29 : xm_gi xm_c136 29 = some xm_e136_29 := xm_gt d_136_29
theorem d_136_30 : List.drop 30 xm_c136 = xm_c136_30 := xm_dr d_136_29
theorem k_136_30 : xm_gi xm_c136 30 = some xm_e136_30 := xm_gt d_136_30
theorem d_136_31 : List.drop 31 xm_c136 = xm_c136_31 := xm_dr d_136_30
theorem k_136_31 : xm_gi xm_c136 31 = some xm_e136_31 := xm_gt d_136_31
theorem d_136_32 : List.drop 32 xm_c136 = xm_c136_32 := xm_dr d_136_31
theorem k_136_32 : xm_gi xm_c136 32 = some xm_e136_32 := xm_gt d_136_32
theorem d_136_33 : List.drop 33 xm_c136 = xm_c136_33 := xm_dr d_136_32
theorem k_136_33 : xm_gi xm_c136 33 = some xm_e136_33 := xm_gt d_136_33
theorem d_136_34 : List.drop 34 xm_c136 = xm_c136_34 := xm_dr d_136_33
theorem k_136_34 : xm_gi xm_c136 34 = some xm_e136_34 := xm_gt d_136_34
theorem d_136_35 : List.drop 35 xm_c136 = xm_c136_35 := xm_dr d_136_34
theorem k_136_35 : xm_gi xm_c136 35 = some xm_e136_35 := xm_gt d_136_35
theorem d_136_36 : List.drop 36 xm_c136 = xm_c136_36 := xm_dr d_136_35
theorem k_136_36 : xm_gi xm_c136 36 = some xm_e136_36 := xm_gt d_136_36
theorem d_136_37 : List.drop 37 xm_c136 = xm_c136_37 := xm_dr d_136_36
theorem k_136_37 : xm_gi xm_c136 37 = some xm_e136_37 := xm_gt d_136_37
theorem xb_136_0 {sc : List Int} {f : Nat → List xm_V → xm_W → xm_R} {w : xm_W} {Q : Option xm_V × xm_W → Prop} {x0 : Nat}
  (h : xm_O (xm_fr (xm_old sc) w x0 8 2) (fun r1 => xm_O (xm_fi (xm_old sc) w r1 1 3) (fun z2 => xm_O (xm_fr (xm_old sc) w x0 8 2) (fun r3 => xm_O (xm_setf w r3 1 3 0 (.inl 0)) (fun w4 => xm_O (xm_fr (xm_old sc) w4 x0 8 1) (fun r5 => xm_O (xm_fr (xm_old sc) w4 x0 8 0) (fun r6 => xm_Ov (f 402 [.inr (.inl (some r5)), .inr (.inl (some r6))] w4) (fun w7 => xm_EQ (xm_old sc) xm_sta f xm_c136 15 [some (.inr (.inl (some x0))), some (.inl z2), some (.inl 0)] [] w7 Q)))))))) :
  xm_EQ (xm_old sc) xm_sta f xm_c136 0 [some (.inr (.inl (some x0))), none, none] [] w Q :=
  (xq_aload_n k_136_0 rfl (xq_getr k_136_1 rfl h (fun r1 h => (xq_geti0 k_136_2 rfl h (fun z2 h => (xq_istore_n k_136_3 rfl (xq_aload_n k_136_4 rfl (xq_getr k_136_5 rfl h (fun r3 h => (xq_iconst k_136_6 (xq_put k_136_7 rfl h (fun w4 h => (xq_aload_n k_136_8 rfl (xq_getr k_136_9 rfl h (fun r5 h => (xq_aload_n k_136_10 rfl (xq_getr k_136_11 rfl h (fun r6 h => (xq_invv0 k_136_12 xr_402 rfl rfl rfl h (fun w7 h => (xq_iconst k_136_13 (xq_istore_n k_136_14 rfl h))))))))))))))))))))))
theorem xb_136_15 {sc : List Int} {f : Nat → List xm_V → xm_W → xm_R} {w : xm_W} {Q : Option xm_V × xm_W → Prop} {x0 : Nat} {x1 : Int} {x2 : Int}
  (h : if (x2 : Int) < x1 then (xm_O (xm_fr (xm_old sc) w x0 8 1) (fun r1 => xm_Ov (f 405 [.inr (.inl (some r1))] w) (fun w2 => xm_O (xm_fr (xm_old sc) w2 x0 8 2) (fun r3 => xm_O (xm_fr (xm_old sc) w2 r3 1 2) (fun r4 => xm_O (xm_ints (xm_old sc) w2 r4) (fun l5 => xm_O (xm_at l5 x2) (fun z6 => xm_O (xm_fr (xm_old sc) w2 x0 8 1) (fun r7 => xm_O (xm_fi (xm_old sc) w2 r7 2 6) (fun z8 => if (z6 : Int) = z8 then (xm_EQ (xm_old sc) xm_sta f xm_c136 15 [some (.inr (.inl (some x0))), some (.inl x1), some (.inl (xm_w (x2 + 1)))] [] w2 Q) else (Q (some (.inl (xm_w (1 + x2))), w2))))))))))) else (Q (some (.inl 0), w))) :
  xm_EQ (xm_old sc) xm_sta f xm_c136 15 [some (.inr (.inl (some x0))), some (.inl x1), some (.inl x2)] [] w Q :=
  (xq_iload_n k_136_15 rfl (xq_iload_n k_136_16 rfl (xq_ic_ge k_136_17 h (fun h => (xq_aload_n k_136_18 rfl (xq_getr k_136_19 rfl h (fun r1 h => (xq_invv0 k_136_20 xr_405 rfl rfl rfl h (fun w2 h => (xq_aload_n k_136_21 rfl (xq_getr k_136_22 rfl h (fun r3 h => (xq_getr k_136_23 rfl h (fun r4 h => (xq_iload_n k_136_24 rfl (xq_iaload k_136_25 h (fun l5 h => h) (fun l5 z6 h => (xq_aload_n k_136_26 rfl (xq_getr k_136_27 rfl h (fun r7 h => (xq_geti0 k_136_28 rfl h (fun z8 h => (xq_ic_eq k_136_29 h (fun h => (xq_iinc k_136_34 rfl rfl (xq_goto k_136_35 h))) (fun h => (xq_iconst k_136_30 (xq_iload_n k_136_31 rfl (xq_iadd k_136_32 (xq_ireturn k_136_33 h))))))))))))))))))))))))) (fun h => (xq_iconst k_136_36 (xq_ireturn k_136_37 h))))))
/-- ShodBackwards.count(I)I -/
theorem d_137_0 : List.drop 0 xm_c137 = xm_c137 := rfl
theorem k_137_0 : xm_gi xm_c137 0 = some xm_e137_0 := xm_gt d_137_0
theorem d_137_1 : List.drop 1 xm_c137 = xm_c137_1 := xm_dr d_137_0
theorem k_137_1 : xm_gi xm_c137 1 = some xm_e137_1 := xm_gt d_137_1
theorem d_137_2 : List.drop 2 xm_c137 = xm_c137_2 := xm_dr d_137_1
theorem k_137_2 : xm_gi xm_c137 2 = some xm_e137_2 := xm_gt d_137_2
theorem d_137_3 : List.drop 3 xm_c137 = xm_c137_3 := xm_dr d_137_2
theorem k_137_3 : xm_gi xm_c137 3 = some xm_e137_3 := xm_gt d_137_3
theorem d_137_4 : List.drop 4 xm_c137 = xm_c137_4 := xm_dr d_137_3
theorem k_137_4 : xm_gi xm_c137 4 = some xm_e137_4 := xm_gt d_137_4
theorem d_137_5 : List.drop 5 xm_c137 = xm_c137_5 := xm_dr d_137_4
theorem k_137_5 : xm_gi xm_c137 5 = some xm_e137_5 := xm_gt d_137_5
theorem d_137_6 : List.drop 6 xm_c137 = xm_c137_6 := xm_dr d_137_5
theorem k_137_6 : xm_gi xm_c137 6 = some xm_e137_6 := xm_gt d_137_6
theorem d_137_7 : List.drop 7 xm_c137 = xm_c137_7 := xm_dr d_137_6
theorem k_137_7 : xm_gi xm_c137 7 = some xm_e137_7 := xm_gt d_137_7
theorem d_137_8 : List.drop 8 xm_c137 = xm_c137_8 := xm_dr d_137_7
theorem k_137_8 : xm_gi xm_c137 8 = some xm_e137_8 := xm_gt d_137_8
theorem d_137_9 : List.drop 9 xm_c137 = xm_c137_9 := xm_dr d_137_8
theorem k_137_9 : xm_gi xm_c137 9 = some xm_e137_9 := xm_gt d_137_9
theorem d_137_10 : List.drop 10 xm_c137 = xm_c137_10 := xm_dr d_137_9
theorem k_137_10 : xm_gi xm_c137 10 = some xm_e137_10 := xm_gt d_137_10
theorem d_137_11 : List.drop 11 xm_c137 = xm_c137_11 := xm_dr d_137_10
theorem k_137_11 : xm_gi xm_c137 11 = some xm_e137_11 := xm_gt d_137_11
theorem d_137_12 : List.drop 12 xm_c137 = xm_c137_12 := xm_dr d_137_11
theorem k_137_12 : xm_gi xm_c137 12 = some xm_e137_12 := xm_gt d_137_12
theorem d_137_13 : List.drop 13 xm_c137 = xm_c137_13 := xm_dr d_137_12
theorem k_137_13 : xm_gi xm_c137 13 = some xm_e137_13 := xm_gt d_137_13
theorem d_137_14 : List.drop 14 xm_c137 = xm_c137_14 := xm_dr d_137_13
theorem k_137_14 : xm_gi xm_c137 14 = some xm_e137_14 := xm_gt d_137_14
theorem d_137_15 : List.drop 15 xm_c137 = xm_c137_15 := xm_dr d_137_14
theorem k_137_15 : xm_gi xm_c137 15 = some xm_e137_15 := xm_gt d_137_15
theorem d_137_16 : List.drop 16 xm_c137 = xm_c137_16 := xm_dr d_137_15
theorem k_137_16 : xm_gi xm_c137 16 = some xm_e137_16 := xm_gt d_137_16
theorem d_137_17 : List.drop 17 xm_c137 = xm_c137_17 := xm_dr d_137_16
theorem k_137_17 : xm_gi xm_c137 17 = some xm_e137_17 := xm_gt d_137_17
theorem d_137_18 : List.drop 18 xm_c137 = xm_c137_18 := xm_dr d_137_17
theorem k_137_18 : xm_gi xm_c137 18 = some xm_e137_18 := xm_gt d_137_18
theorem d_137_19 : List.drop 19 xm_c137 = xm_c137_19 := xm_dr d_137_18
theorem k_137_19 : xm_gi xm_c137 19 = some xm_e137_19 := xm_gt d_137_19
theorem d_137_20 : List.drop 20 xm_c137 = xm_c137_20 := xm_dr d_137_19
theorem k_137_20 : xm_gi xm_c137 20 = some xm_e137_20 := xm_gt d_137_20
theorem d_137_21 : List.drop 21 xm_c137 = xm_c137_21 := xm_dr d_137_20
theorem k_137_21 : xm_gi xm_c137 21 = some xm_e137_21 := xm_gt d_137_21
theorem d_137_22 : List.drop 22 xm_c137 = xm_c137_22 := xm_dr d_137_21
theorem k_137_22 : xm_gi xm_c137 22 = some xm_e137_22 := xm_gt d_137_22
theorem d_137_23 : List.drop 23 xm_c137 = xm_c137_23 := xm_dr d_137_22
theorem k_137_23 : xm_gi xm_c137 23 = some xm_e137_23 := xm_gt d_137_23
theorem d_137_24 : List.drop 24 xm_c137 = xm_c137_24 := xm_dr d_137_23
theorem k_137_24 : xm_gi xm_c137 24 = some xm_e137_24 := xm_gt d_137_24
theorem d_137_25 : List.drop 25 xm_c137 = xm_c137_25 := xm_dr d_137_24
theorem k_137_25 : xm_gi xm_c137 25 = some xm_e137_25 := xm_gt d_137_25
theorem d_137_26 : List.drop 26 xm_c137 = xm_c137_26 := xm_dr d_137_25
theorem k_137_26 : xm_gi xm_c137 26 = some xm_e137_26 := xm_gt d_137_26
theorem d_137_27 : List.drop 27 xm_c137 = xm_c137_27 := xm_dr d_137_26
theorem k_137_27 : xm_gi xm_c137 27 = some xm_e137_27 := xm_gt d_137_27
theorem d_137_28 : List.drop 28 xm_c137 = xm_c137_28 := xm_dr d_137_27
theorem k_137_28 : xm_gi xm_c137 28 = some xm_e137_28 := xm_gt d_137_28
theorem d_137_29 : List.drop 29 xm_c137 = xm_c137_29 := xm_dr d_137_28
theorem k_137_29 : xm_gi xm_c137 29 = some xm_e137_29 := xm_gt d_137_29
theorem d_137_30 : List.drop 30 xm_c137 = xm_c137_30 := xm_dr d_137_29
theorem k_137_30 : xm_gi xm_c137 30 = some xm_e137_30 := xm_gt d_137_30
theorem d_137_31 : List.drop 31 xm_c137 = xm_c137_31 := xm_dr d_137_30
theorem k_137_31 : xm_gi xm_c137 31 = some xm_e137_31 := xm_gt d_137_31
theorem d_137_32 : List.drop 32 xm_c137 = xm_c137_32 := xm_dr d_137_31
theorem k_137_32 : xm_gi xm_c137 32 = some xm_e137_32 := xm_gt d_137_32
theorem d_137_33 : List.drop 33 xm_c137 = xm_c137_33 := xm_dr d_137_32
theorem k_137_33 : xm_gi xm_c137 33 = some xm_e137_33 := xm_gt d_137_33
theorem d_137_34 : List.drop 34 xm_c137 = xm_c137_34 := xm_dr d_137_33
theorem k_137_34 : xm_gi xm_c137 34 = some xm_e137_34 := xm_gt d_137_34
theorem d_137_35 : List.drop 35 xm_c137 = xm_c137_35 := xm_dr d_137_34
theorem k_137_35 : xm_gi xm_c137 35 = some xm_e137_35 := xm_gt d_137_35
theorem d_137_36 : List.drop 36 xm_c137 = xm_c137_36 := xm_dr d_137_35
theorem k_137_36 : xm_gi xm_c137 36 = some xm_e137_36 := xm_gt d_137_36
theorem d_137_37 : List.drop 37 xm_c137 = xm_c137_37 := xm_dr d_137_36
theorem k_137_37 : xm_gi xm_c137 37 = some xm_e137_37 := xm_gt d_137_37
theorem xb_137_0 {sc : List Int} {f : Nat → List xm_V → xm_W → xm_R} {w : xm_W} {Q : Option xm_V × xm_W → Prop} {x0 : Nat} {x1 : Int}
  (h : if (x1 : Int) = 0 then (xm_O (xm_fr (xm_old sc) w x0 8 0) (fun r17 => xm_O (xm_fi (xm_old sc) w r17 2 4) (fun z18 => Q (some (.inl z18), w)))) else (if (x1 : Int) = 1 then (xm_O (xm_fr (xm_old sc) w x0 8 0) (fun r15 => xm_O (xm_fi (xm_old sc) w r15 2 2) (fun z16 => Q (some (.inl z16), w)))) else (if (x1 : Int) = 2 then (xm_O (xm_fr (xm_old sc) w x0 8 0) (fun r13 => xm_O (xm_fi (xm_old sc) w r13 2 1) (fun z14 => Q (some (.inl z14), w)))) else (if (x1 : Int) = 3 then (xm_O (xm_fr (xm_old sc) w x0 8 0) (fun r11 => xm_O (xm_fi (xm_old sc) w r11 2 6) (fun z12 => Q (some (.inl z12), w)))) else (if (x1 : Int) = 4 then (xm_O (xm_fr (xm_old sc) w x0 8 2) (fun r9 => xm_O (xm_fi (xm_old sc) w r9 1 1) (fun z10 => Q (some (.inl z10), w)))) else (if (x1 : Int) = 5 then (xm_O (xm_fr (xm_old sc) w x0 8 2) (fun r7 => xm_O (xm_fi (xm_old sc) w r7 1 3) (fun z8 => Q (some (.inl z8), w)))) else (if (x1 : Int) = 6 then (xm_O (xm_fr (xm_old sc) w x0 8 7) (fun r5 => xm_O (xm_fi (xm_old sc) w r5 6 1) (fun z6 => Q (some (.inl z6), w)))) else (if (x1 : Int) = 7 then (xm_O (xm_fr (xm_old sc) w x0 8 2) (fun r3 => xm_O (xm_fi (xm_old sc) w r3 1 4) (fun z4 => Q (some (.inl z4), w)))) else (xm_Oi (f 139 [.inr (.inl (some x0)), .inl 1] w) (fun z2 w1 => Q (some (.inl z2), w1))))))))))) :
  xm_EQ (xm_old sc) xm_sta f xm_c137 0 [some (.inr (.inl (some x0))), some (.inl x1)] [] w Q :=
  (xq_iload_n k_137_0 rfl (xq_tsw k_137_1 (xs_swc h (fun h => (xq_aload_n k_137_2 rfl (xq_getr k_137_3 rfl h (fun r17 h => (xq_geti0 k_137_4 rfl h (fun z18 h => (xq_ireturn k_137_5 h))))))) (fun h => (xs_swc h (fun h => (xq_aload_n k_137_6 rfl (xq_getr k_137_7 rfl h (fun r15 h => (xq_geti0 k_137_8 rfl h (fun z16 h => (xq_ireturn k_137_9 h))))))) (fun h => (xs_swc h (fun h => (xq_aload_n k_137_10 rfl (xq_getr k_137_11 rfl h (fun r13 h => (xq_geti0 k_137_12 rfl h (fun z14 h => (xq_ireturn k_137_13 h))))))) (fun h => (xs_swc h (fun h => (xq_aload_n k_137_14 rfl (xq_getr k_137_15 rfl h (fun r11 h => (xq_geti0 k_137_16 rfl h (fun z12 h => (xq_ireturn k_137_17 h))))))) (fun h => (xs_swc h (fun h => (xq_aload_n k_137_18 rfl (xq_getr k_137_19 rfl h (fun r9 h => (xq_geti0 k_137_20 rfl h (fun z10 h => (xq_ireturn k_137_21 h))))))) (fun h => (xs_swc h (fun h => (xq_aload_n k_137_22 rfl (xq_getr k_137_23 rfl h (fun r7 h => (xq_geti0 k_137_24 rfl h (fun z8 h => (xq_ireturn k_137_25 h))))))) (fun h => (xs_swc h (fun h => (xq_aload_n k_137_26 rfl (xq_getr k_137_27 rfl h (fun r5 h => (xq_geti0 k_137_28 rfl h (fun z6 h => (xq_ireturn k_137_29 h))))))) (fun h => (xs_swc h (fun h => (xq_aload_n k_137_30 rfl (xq_getr k_137_31 rfl h (fun r3 h => (xq_geti0 k_137_32 rfl h (fun z4 h => (xq_ireturn k_137_33 h))))))) (fun h => (xq_aload_n k_137_34 rfl (xq_iconst k_137_35 (xq_invv1 k_137_36 xr_139 rfl rfl rfl h (fun z2 w1 h => (xq_ireturn k_137_37 h)))))))))))))))))))))))
/-- ShodBackwards.told(I)I -/
theorem d_138_0 : List.drop 0 xm_c138 = xm_c138 := rfl
theorem k_138_0 : xm_gi xm_c138 0 = some xm_e138_0 := xm_gt d_138_0
theorem d_138_1 : List.drop 1 xm_c138 = xm_c138_1 := xm_dr d_138_0
theorem k_138_1 : xm_gi xm_c138 1 = some xm_e138_1 := xm_gt d_138_1
theorem d_138_2 : List.drop 2 xm_c138 = xm_c138_2 := xm_dr d_138_1
theorem k_138_2 : xm_gi xm_c138 2 = some xm_e138_2 := xm_gt d_138_2
theorem d_138_3 : List.drop 3 xm_c138 = xm_c138_3 := xm_dr d_138_2
theorem k_138_3 : xm_gi xm_c138 3 = some xm_e138_3 := xm_gt d_138_3
theorem d_138_4 : List.drop 4 xm_c138 = xm_c138_4 := xm_dr d_138_3
theorem k_138_4 : xm_gi xm_c138 4 = some xm_e138_4 := xm_gt d_138_4
theorem d_138_5 : List.drop 5 xm_c138 = xm_c138_5 := xm_dr d_138_4
theorem k_138_5 : xm_gi xm_c138 5 = some xm_e138_5 := xm_gt d_138_5
theorem d_138_6 : List.drop 6 xm_c138 = xm_c138_6 := xm_dr d_138_5
theorem k_138_6 : xm_gi xm_c138 6 = some xm_e138_6 := xm_gt d_138_6
theorem d_138_7 : List.drop 7 xm_c138 = xm_c138_7 := xm_dr d_138_6
theorem k_138_7 : xm_gi xm_c138 7 = some xm_e138_7 := xm_gt d_138_7
theorem d_138_8 : List.drop 8 xm_c138 = xm_c138_8 := xm_dr d_138_7
theorem k_138_8 : xm_gi xm_c138 8 = some xm_e138_8 := xm_gt d_138_8
theorem d_138_9 : List.drop 9 xm_c138 = xm_c138_9 := xm_dr d_138_8
theorem k_138_9 : xm_gi xm_c138 9 = some xm_e138_9 := xm_gt d_138_9
theorem d_138_10 : List.drop 10 xm_c138 = xm_c138_10 := xm_dr d_138_9
theorem k_138_10 : xm_gi xm_c138 10 = some xm_e138_10 := xm_gt d_138_10
theorem d_138_11 : List.drop 11 xm_c138 = xm_c138_11 := xm_dr d_138_10
theorem k_138_11 : xm_gi xm_c138 11 = some xm_e138_11 := xm_gt d_138_11
theorem d_138_12 : List.drop 12 xm_c138 = xm_c138_12 := xm_dr d_138_11
theorem k_138_12 : xm_gi xm_c138 12 = some xm_e138_12 := xm_gt d_138_12
theorem d_138_13 : List.drop 13 xm_c138 = xm_c138_13 := xm_dr d_138_12
theorem k_138_13 : xm_gi xm_c138 13 = some xm_e138_13 := xm_gt d_138_13
theorem xb_138_0 {sc : List Int} {f : Nat → List xm_V → xm_W → xm_R} {w : xm_W} {Q : Option xm_V × xm_W → Prop} {x0 : Nat} {x1 : Int}
  (h : xm_Oi (f 142 [.inl x1, .inl 1, .inl 6] w) (fun z2 w1 => if (z2 : Int) = 0 then (xm_Oi (f 139 [.inr (.inl (some x0)), .inl 1] w1) (fun z7 w6 => Q (some (.inl z7), w6))) else (xm_O (xm_fr (xm_old sc) w1 x0 8 10) (fun r3 => xm_O (xm_ints (xm_old sc) w1 r3) (fun l4 => xm_O (xm_at l4 x1) (fun z5 => Q (some (.inl z5), w1))))))) :
  xm_EQ (xm_old sc) xm_sta f xm_c138 0 [some (.inr (.inl (some x0))), some (.inl x1)] [] w Q :=
  (xq_iload_n k_138_0 rfl (xq_iconst k_138_1 (xq_bipush k_138_2 (xq_invs2 k_138_3 xr_142 rfl rfl rfl h (fun z2 w1 h => (xq_if_ne k_138_4 h (fun h => (xq_aload_n k_138_5 rfl (xq_iconst k_138_6 (xq_invv1 k_138_7 xr_139 rfl rfl rfl h (fun z7 w6 h => (xq_ireturn k_138_8 h)))))) (fun h => (xq_aload_n k_138_9 rfl (xq_getr k_138_10 rfl h (fun r3 h => (xq_iload_n k_138_11 rfl (xq_iaload k_138_12 h (fun l4 h => h) (fun l4 z5 h => (xq_ireturn k_138_13 h))))))))))))))
/-- ShodBackwards.refuse(I)I -/
theorem d_139_0 : List.drop 0 xm_c139 = xm_c139 := rfl
theorem k_139_0 : xm_gi xm_c139 0 = some xm_e139_0 := xm_gt d_139_0
theorem d_139_1 : List.drop 1 xm_c139 = xm_c139_1 := xm_dr d_139_0
theorem k_139_1 : xm_gi xm_c139 1 = some xm_e139_1 := xm_gt d_139_1
theorem d_139_2 : List.drop 2 xm_c139 = xm_c139_2 := xm_dr d_139_1
theorem k_139_2 : xm_gi xm_c139 2 = some xm_e139_2 := xm_gt d_139_2
theorem d_139_3 : List.drop 3 xm_c139 = xm_c139_3 := xm_dr d_139_2
theorem k_139_3 : xm_gi xm_c139 3 = some xm_e139_3 := xm_gt d_139_3
theorem d_139_4 : List.drop 4 xm_c139 = xm_c139_4 := xm_dr d_139_3
theorem k_139_4 : xm_gi xm_c139 4 = some xm_e139_4 := xm_gt d_139_4
theorem d_139_5 : List.drop 5 xm_c139 = xm_c139_5 := xm_dr d_139_4
theorem k_139_5 : xm_gi xm_c139 5 = some xm_e139_5 := xm_gt d_139_5
theorem d_139_6 : List.drop 6 xm_c139 = xm_c139_6 := xm_dr d_139_5
theorem k_139_6 : xm_gi xm_c139 6 = some xm_e139_6 := xm_gt d_139_6
theorem d_139_7 : List.drop 7 xm_c139 = xm_c139_7 := xm_dr d_139_6
theorem k_139_7 : xm_gi xm_c139 7 = some xm_e139_7 := xm_gt d_139_7
theorem d_139_8 : List.drop 8 xm_c139 = xm_c139_8 := xm_dr d_139_7
theorem k_139_8 : xm_gi xm_c139 8 = some xm_e139_8 := xm_gt d_139_8
theorem d_139_9 : List.drop 9 xm_c139 = xm_c139_9 := xm_dr d_139_8
theorem k_139_9 : xm_gi xm_c139 9 = some xm_e139_9 := xm_gt d_139_9
theorem d_139_10 : List.drop 10 xm_c139 = xm_c139_10 := xm_dr d_139_9
theorem k_139_10 : xm_gi xm_c139 10 = some xm_e139_10 := xm_gt d_139_10
theorem d_139_11 : List.drop 11 xm_c139 = xm_c139_11 := xm_dr d_139_10
theorem k_139_11 : xm_gi xm_c139 11 = some xm_e139_11 := xm_gt d_139_11
theorem xb_139_0 {sc : List Int} {f : Nat → List xm_V → xm_W → xm_R} {w : xm_W} {Q : Option xm_V × xm_W → Prop} {x0 : Nat} {x1 : Int}
  (h : xm_O (xm_fr (xm_old sc) w x0 8 10) (fun r1 => xm_O (xm_ints (xm_old sc) w r1) (fun l2 => xm_O (xm_at l2 x1) (fun z3 => xm_O (xm_seti w r1 x1 (xm_w (z3 + 1))) (fun w4 => Q (some (.inl (xm_w ((-1000000000) - x1))), w4)))))) :
  xm_EQ (xm_old sc) xm_sta f xm_c139 0 [some (.inr (.inl (some x0))), some (.inl x1)] [] w Q :=
  (xq_aload_n k_139_0 rfl (xq_getr k_139_1 rfl h (fun r1 h => (xq_iload_n k_139_2 rfl (xq_dup2 k_139_3 (xq_iaload k_139_4 h (fun l2 h => h) (fun l2 z3 h => (xq_iconst k_139_5 (xq_iadd k_139_6 (xq_iastore k_139_7 h (fun w4 h => (xq_ldcw k_139_8 (xq_iload_n k_139_9 rfl (xq_isub k_139_10 (xq_ireturn k_139_11 h)))))))))))))))
/-- ShodBackwards.lookAhead(I)V -/
theorem d_140_0 : List.drop 0 xm_c140 = xm_c140 := rfl
theorem k_140_0 : xm_gi xm_c140 0 = some xm_e140_0 := xm_gt d_140_0
theorem d_140_1 : List.drop 1 xm_c140 = xm_c140_1 := xm_dr d_140_0
theorem k_140_1 : xm_gi xm_c140 1 = some xm_e140_1 := xm_gt d_140_1
theorem d_140_2 : List.drop 2 xm_c140 = xm_c140_2 := xm_dr d_140_1
theorem k_140_2 : xm_gi xm_c140 2 = some xm_e140_2 := xm_gt d_140_2
theorem d_140_3 : List.drop 3 xm_c140 = xm_c140_3 := xm_dr d_140_2
theorem k_140_3 : xm_gi xm_c140 3 = some xm_e140_3 := xm_gt d_140_3
theorem d_140_4 : List.drop 4 xm_c140 = xm_c140_4 := xm_dr d_140_3
theorem k_140_4 : xm_gi xm_c140 4 = some xm_e140_4 := xm_gt d_140_4
theorem d_140_5 : List.drop 5 xm_c140 = xm_c140_5 := xm_dr d_140_4
theorem k_140_5 : xm_gi xm_c140 5 = some xm_e140_5 := xm_gt d_140_5
theorem d_140_6 : List.drop 6 xm_c140 = xm_c140_6 := xm_dr d_140_5
theorem k_140_6 : xm_gi xm_c140 6 = some xm_e140_6 := xm_gt d_140_6
theorem d_140_7 : List.drop 7 xm_c140 = xm_c140_7 := xm_dr d_140_6
theorem k_140_7 : xm_gi xm_c140 7 = some xm_e140_7 := xm_gt d_140_7
theorem d_140_8 : List.drop 8 xm_c140 = xm_c140_8 := xm_dr d_140_7
theorem k_140_8 : xm_gi xm_c140 8 = some xm_e140_8 := xm_gt d_140_8
theorem d_140_9 : List.drop 9 xm_c140 = xm_c140_9 := xm_dr d_140_8
theorem k_140_9 : xm_gi xm_c140 9 = some xm_e140_9 := xm_gt d_140_9
theorem xb_140_0 {sc : List Int} {f : Nat → List xm_V → xm_W → xm_R} {w : xm_W} {Q : Option xm_V × xm_W → Prop} {x0 : Nat} {x1 : Int}
  (h : xm_O (xm_fr (xm_old sc) w x0 8 1) (fun r1 => xm_O (xm_fr (xm_old sc) w x0 8 0) (fun r2 => xm_Ov (f 402 [.inr (.inl (some r1)), .inr (.inl (some r2))] w) (fun w3 => xm_O (xm_fr (xm_old sc) w3 x0 8 1) (fun r4 => xm_Ov (f 404 [.inr (.inl (some r4)), .inl x1] w3) (fun w5 => Q (none, w5))))))) :
  xm_EQ (xm_old sc) xm_sta f xm_c140 0 [some (.inr (.inl (some x0))), some (.inl x1)] [] w Q :=
  (xq_aload_n k_140_0 rfl (xq_getr k_140_1 rfl h (fun r1 h => (xq_aload_n k_140_2 rfl (xq_getr k_140_3 rfl h (fun r2 h => (xq_invv0 k_140_4 xr_402 rfl rfl rfl h (fun w3 h => (xq_aload_n k_140_5 rfl (xq_getr k_140_6 rfl h (fun r4 h => (xq_iload_n k_140_7 rfl (xq_invv0 k_140_8 xr_404 rfl rfl rfl h (fun w5 h => (xq_return k_140_9 h)))))))))))))))
/-- ShodBackwards.isRider(I)Z -/
theorem d_141_0 : List.drop 0 xm_c141 = xm_c141 := rfl
theorem k_141_0 : xm_gi xm_c141 0 = some xm_e141_0 := xm_gt d_141_0
theorem d_141_1 : List.drop 1 xm_c141 = xm_c141_1 := xm_dr d_141_0
theorem k_141_1 : xm_gi xm_c141 1 = some xm_e141_1 := xm_gt d_141_1
theorem d_141_2 : List.drop 2 xm_c141 = xm_c141_2 := xm_dr d_141_1
theorem k_141_2 : xm_gi xm_c141 2 = some xm_e141_2 := xm_gt d_141_2
theorem d_141_3 : List.drop 3 xm_c141 = xm_c141_3 := xm_dr d_141_2
theorem k_141_3 : xm_gi xm_c141 3 = some xm_e141_3 := xm_gt d_141_3
theorem d_141_4 : List.drop 4 xm_c141 = xm_c141_4 := xm_dr d_141_3
theorem k_141_4 : xm_gi xm_c141 4 = some xm_e141_4 := xm_gt d_141_4
theorem d_141_5 : List.drop 5 xm_c141 = xm_c141_5 := xm_dr d_141_4
theorem k_141_5 : xm_gi xm_c141 5 = some xm_e141_5 := xm_gt d_141_5
theorem d_141_6 : List.drop 6 xm_c141 = xm_c141_6 := xm_dr d_141_5
theorem k_141_6 : xm_gi xm_c141 6 = some xm_e141_6 := xm_gt d_141_6
theorem d_141_7 : List.drop 7 xm_c141 = xm_c141_7 := xm_dr d_141_6
theorem k_141_7 : xm_gi xm_c141 7 = some xm_e141_7 := xm_gt d_141_7
theorem d_141_8 : List.drop 8 xm_c141 = xm_c141_8 := xm_dr d_141_7
theorem k_141_8 : xm_gi xm_c141 8 = some xm_e141_8 := xm_gt d_141_8
theorem xb_141_0 {sc : List Int} {f : Nat → List xm_V → xm_W → xm_R} {w : xm_W} {Q : Option xm_V × xm_W → Prop} {x0 : Nat} {x1 : Int}
  (h : xm_O (xm_fr (xm_old sc) w x0 8 0) (fun r1 => xm_O (xm_fi (xm_old sc) w r1 2 4) (fun z2 => xm_Oi (f 142 [.inl x1, .inl 0, .inl (xm_w (z2 - 1))] w) (fun z4 w3 => Q (some (.inl z4), w3))))) :
  xm_EQ (xm_old sc) xm_sta f xm_c141 0 [some (.inr (.inl (some x0))), some (.inl x1)] [] w Q :=
  (xq_iload_n k_141_0 rfl (xq_iconst k_141_1 (xq_aload_n k_141_2 rfl (xq_getr k_141_3 rfl h (fun r1 h => (xq_geti0 k_141_4 rfl h (fun z2 h => (xq_iconst k_141_5 (xq_isub k_141_6 (xq_invs2 k_141_7 xr_142 rfl rfl rfl h (fun z4 w3 h => (xq_ireturn k_141_8 h))))))))))))
/-- ShodBackwards.within(III)Z -/
theorem d_142_0 : List.drop 0 xm_c142 = xm_c142 := rfl
theorem k_142_0 : xm_gi xm_c142 0 = some xm_e142_0 := xm_gt d_142_0
theorem d_142_1 : List.drop 1 xm_c142 = xm_c142_1 := xm_dr d_142_0
theorem k_142_1 : xm_gi xm_c142 1 = some xm_e142_1 := xm_gt d_142_1
theorem d_142_2 : List.drop 2 xm_c142 = xm_c142_2 := xm_dr d_142_1
theorem k_142_2 : xm_gi xm_c142 2 = some xm_e142_2 := xm_gt d_142_2
theorem d_142_3 : List.drop 3 xm_c142 = xm_c142_3 := xm_dr d_142_2
theorem k_142_3 : xm_gi xm_c142 3 = some xm_e142_3 := xm_gt d_142_3
theorem d_142_4 : List.drop 4 xm_c142 = xm_c142_4 := xm_dr d_142_3
theorem k_142_4 : xm_gi xm_c142 4 = some xm_e142_4 := xm_gt d_142_4
theorem d_142_5 : List.drop 5 xm_c142 = xm_c142_5 := xm_dr d_142_4
theorem k_142_5 : xm_gi xm_c142 5 = some xm_e142_5 := xm_gt d_142_5
theorem d_142_6 : List.drop 6 xm_c142 = xm_c142_6 := xm_dr d_142_5
theorem k_142_6 : xm_gi xm_c142 6 = some xm_e142_6 := xm_gt d_142_6
theorem d_142_7 : List.drop 7 xm_c142 = xm_c142_7 := xm_dr d_142_6
theorem k_142_7 : xm_gi xm_c142 7 = some xm_e142_7 := xm_gt d_142_7
theorem d_142_8 : List.drop 8 xm_c142 = xm_c142_8 := xm_dr d_142_7
theorem k_142_8 : xm_gi xm_c142 8 = some xm_e142_8 := xm_gt d_142_8
theorem d_142_9 : List.drop 9 xm_c142 = xm_c142_9 := xm_dr d_142_8
theorem k_142_9 : xm_gi xm_c142 9 = some xm_e142_9 := xm_gt d_142_9
theorem xb_142_0 {sc : List Int} {f : Nat → List xm_V → xm_W → xm_R} {w : xm_W} {Q : Option xm_V × xm_W → Prop} {x0 : Int} {x1 : Int} {x2 : Int}
  (h : if (x0 : Int) < x1 then (Q (some (.inl 0), w)) else (if (x2 : Int) < x0 then (Q (some (.inl 0), w)) else (Q (some (.inl 1), w)))) :
  xm_EQ (xm_old sc) xm_sta f xm_c142 0 [some (.inl x0), some (.inl x1), some (.inl x2)] [] w Q :=
  (xq_iload_n k_142_0 rfl (xq_iload_n k_142_1 rfl (xq_ic_lt k_142_2 h (fun h => (xq_iconst k_142_8 (xq_ireturn k_142_9 h))) (fun h => (xq_iload_n k_142_3 rfl (xq_iload_n k_142_4 rfl (xq_ic_gt k_142_5 h (fun h => (xq_iconst k_142_8 (xq_ireturn k_142_9 h))) (fun h => (xq_iconst k_142_6 (xq_goto k_142_7 (xq_ireturn k_142_9 h)))))))))))
/-- ShodBackwards.isCell(I)Z -/
theorem d_143_0 : List.drop 0 xm_c143 = xm_c143 := rfl
theorem k_143_0 : xm_gi xm_c143 0 = some xm_e143_0 := xm_gt d_143_0
theorem d_143_1 : List.drop 1 xm_c143 = xm_c143_1 := xm_dr d_143_0
theorem k_143_1 : xm_gi xm_c143 1 = some xm_e143_1 := xm_gt d_143_1
theorem d_143_2 : List.drop 2 xm_c143 = xm_c143_2 := xm_dr d_143_1
theorem k_143_2 : xm_gi xm_c143 2 = some xm_e143_2 := xm_gt d_143_2
theorem d_143_3 : List.drop 3 xm_c143 = xm_c143_3 := xm_dr d_143_2
theorem k_143_3 : xm_gi xm_c143 3 = some xm_e143_3 := xm_gt d_143_3
theorem d_143_4 : List.drop 4 xm_c143 = xm_c143_4 := xm_dr d_143_3
theorem k_143_4 : xm_gi xm_c143 4 = some xm_e143_4 := xm_gt d_143_4
theorem xb_143_0 {sc : List Int} {f : Nat → List xm_V → xm_W → xm_R} {w : xm_W} {Q : Option xm_V × xm_W → Prop} {x0 : Int}
  (h : xm_Oi (f 142 [.inl x0, .inl 0, .inl 35] w) (fun z2 w1 => Q (some (.inl z2), w1))) :
  xm_EQ (xm_old sc) xm_sta f xm_c143 0 [some (.inl x0)] [] w Q :=
  (xq_iload_n k_143_0 rfl (xq_iconst k_143_1 (xq_bipush k_143_2 (xq_invs2 k_143_3 xr_142 rfl rfl rfl h (fun z2 w1 h => (xq_ireturn k_143_4 h))))))
/-- ShodBackwards.isRiderFact(I)Z -/
theorem d_144_0 : List.drop 0 xm_c144 = xm_c144 := rfl
theorem k_144_0 : xm_gi xm_c144 0 = some xm_e144_0 := xm_gt d_144_0
theorem d_144_1 : List.drop 1 xm_c144 = xm_c144_1 := xm_dr d_144_0
theorem k_144_1 : xm_gi xm_c144 1 = some xm_e144_1 := xm_gt d_144_1
theorem d_144_2 : List.drop 2 xm_c144 = xm_c144_2 := xm_dr d_144_1
theorem k_144_2 : xm_gi xm_c144 2 = some xm_e144_2 := xm_gt d_144_2
theorem d_144_3 : List.drop 3 xm_c144 = xm_c144_3 := xm_dr d_144_2
theorem k_144_3 : xm_gi xm_c144 3 = some xm_e144_3 := xm_gt d_144_3
theorem d_144_4 : List.drop 4 xm_c144 = xm_c144_4 := xm_dr d_144_3
theorem k_144_4 : xm_gi xm_c144 4 = some xm_e144_4 := xm_gt d_144_4
theorem xb_144_0 {sc : List Int} {f : Nat → List xm_V → xm_W → xm_R} {w : xm_W} {Q : Option xm_V × xm_W → Prop} {x0 : Int}
  (h : xm_Oi (f 142 [.inl x0, .inl 0, .inl 19] w) (fun z2 w1 => Q (some (.inl z2), w1))) :
  xm_EQ (xm_old sc) xm_sta f xm_c144 0 [some (.inl x0)] [] w Q :=
  (xq_iload_n k_144_0 rfl (xq_iconst k_144_1 (xq_bipush k_144_2 (xq_invs2 k_144_3 xr_142 rfl rfl rfl h (fun z2 w1 h => (xq_ireturn k_144_4 h))))))
/-- ShodBackwards.isCellFact(I)Z -/
theorem d_145_0 : List.drop 0 xm_c145 = xm_c145 := rfl
theorem k_145_0 : xm_gi xm_c145 0 = some xm_e145_0 := xm_gt d_145_0
theorem d_145_1 : List.drop 1 xm_c145 = xm_c145_1 := xm_dr d_145_0
theorem k_145_1 : xm_gi xm_c145 1 = some xm_e145_1 := xm_gt d_145_1
theorem d_145_2 : List.drop 2 xm_c145 = xm_c145_2 := xm_dr d_145_1
theorem k_145_2 : xm_gi xm_c145 2 = some xm_e145_2 := xm_gt d_145_2
theorem d_145_3 : List.drop 3 xm_c145 = xm_c145_3 := xm_dr d_145_2
theorem k_145_3 : xm_gi xm_c145 3 = some xm_e145_3 := xm_gt d_145_3
theorem d_145_4 : List.drop 4 xm_c145 = xm_c145_4 := xm_dr d_145_3
theorem k_145_4 : xm_gi xm_c145 4 = some xm_e145_4 := xm_gt d_145_4
theorem xb_145_0 {sc : List Int} {f : Nat → List xm_V → xm_W → xm_R} {w : xm_W} {Q : Option xm_V × xm_W → Prop} {x0 : Int}
  (h : xm_Oi (f 142 [.inl x0, .inl 0, .inl 4] w) (fun z2 w1 => Q (some (.inl z2), w1))) :
  xm_EQ (xm_old sc) xm_sta f xm_c145 0 [some (.inl x0)] [] w Q :=
  (xq_iload_n k_145_0 rfl (xq_iconst k_145_1 (xq_iconst k_145_2 (xq_invs2 k_145_3 xr_142 rfl rfl rfl h (fun z2 w1 h => (xq_ireturn k_145_4 h))))))
/-- ShodBackwards.isUse(I)Z -/
theorem d_146_0 : List.drop 0 xm_c146 = xm_c146 := rfl
theorem k_146_0 : xm_gi xm_c146 0 = some xm_e146_0 := xm_gt d_146_0
theorem d_146_1 : List.drop 1 xm_c146 = xm_c146_1 := xm_dr d_146_0
theorem k_146_1 : xm_gi xm_c146 1 = some xm_e146_1 := xm_gt d_146_1
theorem d_146_2 : List.drop 2 xm_c146 = xm_c146_2 := xm_dr d_146_1
theorem k_146_2 : xm_gi xm_c146 2 = some xm_e146_2 := xm_gt d_146_2
theorem d_146_3 : List.drop 3 xm_c146 = xm_c146_3 := xm_dr d_146_2
theorem k_146_3 : xm_gi xm_c146 3 = some xm_e146_3 := xm_gt d_146_3
theorem d_146_4 : List.drop 4 xm_c146 = xm_c146_4 := xm_dr d_146_3
theorem k_146_4 : xm_gi xm_c146 4 = some xm_e146_4 := xm_gt d_146_4
theorem xb_146_0 {sc : List Int} {f : Nat → List xm_V → xm_W → xm_R} {w : xm_W} {Q : Option xm_V × xm_W → Prop} {x0 : Int}
  (h : xm_Oi (f 142 [.inl x0, .inl 0, .inl 1] w) (fun z2 w1 => Q (some (.inl z2), w1))) :
  xm_EQ (xm_old sc) xm_sta f xm_c146 0 [some (.inl x0)] [] w Q :=
  (xq_iload_n k_146_0 rfl (xq_iconst k_146_1 (xq_iconst k_146_2 (xq_invs2 k_146_3 xr_142 rfl rfl rfl h (fun z2 w1 h => (xq_ireturn k_146_4 h))))))
/-- ShodBackwards.isSheet(I)Z -/
theorem d_147_0 : List.drop 0 xm_c147 = xm_c147 := rfl
theorem k_147_0 : xm_gi xm_c147 0 = some xm_e147_0 := xm_gt d_147_0
theorem d_147_1 : List.drop 1 xm_c147 = xm_c147_1 := xm_dr d_147_0
theorem k_147_1 : xm_gi xm_c147 1 = some xm_e147_1 := xm_gt d_147_1
theorem d_147_2 : List.drop 2 xm_c147 = xm_c147_2 := xm_dr d_147_1
theorem k_147_2 : xm_gi xm_c147 2 = some xm_e147_2 := xm_gt d_147_2
theorem d_147_3 : List.drop 3 xm_c147 = xm_c147_3 := xm_dr d_147_2
theorem k_147_3 : xm_gi xm_c147 3 = some xm_e147_3 := xm_gt d_147_3
theorem d_147_4 : List.drop 4 xm_c147 = xm_c147_4 := xm_dr d_147_3
theorem k_147_4 : xm_gi xm_c147 4 = some xm_e147_4 := xm_gt d_147_4
theorem xb_147_0 {sc : List Int} {f : Nat → List xm_V → xm_W → xm_R} {w : xm_W} {Q : Option xm_V × xm_W → Prop} {x0 : Int}
  (h : xm_Oi (f 142 [.inl x0, .inl 0, .inl 3] w) (fun z2 w1 => Q (some (.inl z2), w1))) :
  xm_EQ (xm_old sc) xm_sta f xm_c147 0 [some (.inl x0)] [] w Q :=
  (xq_iload_n k_147_0 rfl (xq_iconst k_147_1 (xq_iconst k_147_2 (xq_invs2 k_147_3 xr_142 rfl rfl rfl h (fun z2 w1 h => (xq_ireturn k_147_4 h))))))
/-- ShodBackwards.isOrUnder(II)Z -/
theorem d_148_0 : List.drop 0 xm_c148 = xm_c148 := rfl
theorem k_148_0 : xm_gi xm_c148 0 = some xm_e148_0 := xm_gt d_148_0
theorem d_148_1 : List.drop 1 xm_c148 = xm_c148_1 := xm_dr d_148_0
theorem k_148_1 : xm_gi xm_c148 1 = some xm_e148_1 := xm_gt d_148_1
theorem d_148_2 : List.drop 2 xm_c148 = xm_c148_2 := xm_dr d_148_1
theorem k_148_2 : xm_gi xm_c148 2 = some xm_e148_2 := xm_gt d_148_2
theorem d_148_3 : List.drop 3 xm_c148 = xm_c148_3 := xm_dr d_148_2
theorem k_148_3 : xm_gi xm_c148 3 = some xm_e148_3 := xm_gt d_148_3
theorem d_148_4 : List.drop 4 xm_c148 = xm_c148_4 := xm_dr d_148_3
theorem k_148_4 : xm_gi xm_c148 4 = some xm_e148_4 := xm_gt d_148_4
theorem d_148_5 : List.drop 5 xm_c148 = xm_c148_5 := xm_dr d_148_4
theorem k_148_5 : xm_gi xm_c148 5 = some xm_e148_5 := xm_gt d_148_5
theorem d_148_6 : List.drop 6 xm_c148 = xm_c148_6 := xm_dr d_148_5
theorem k_148_6 : xm_gi xm_c148 6 = some xm_e148_6 := xm_gt d_148_6
theorem d_148_7 : List.drop 7 xm_c148 = xm_c148_7 := xm_dr d_148_6
theorem k_148_7 : xm_gi xm_c148 7 = some xm_e148_7 := xm_gt d_148_7
theorem d_148_8 : List.drop 8 xm_c148 = xm_c148_8 := xm_dr d_148_7
theorem k_148_8 : xm_gi xm_c148 8 = some xm_e148_8 := xm_gt d_148_8
theorem d_148_9 : List.drop 9 xm_c148 = xm_c148_9 := xm_dr d_148_8
theorem k_148_9 : xm_gi xm_c148 9 = some xm_e148_9 := xm_gt d_148_9
theorem d_148_10 : List.drop 10 xm_c148 = xm_c148_10 := xm_dr d_148_9
theorem k_148_10 : xm_gi xm_c148 10 = some xm_e148_10 := xm_gt d_148_10
theorem d_148_11 : List.drop 11 xm_c148 = xm_c148_11 := xm_dr d_148_10
theorem k_148_11 : xm_gi xm_c148 11 = some xm_e148_11 := xm_gt d_148_11
theorem d_148_12 : List.drop 12 xm_c148 = xm_c148_12 := xm_dr d_148_11
theorem k_148_12 : xm_gi xm_c148 12 = some xm_e148_12 := xm_gt d_148_12
theorem d_148_13 : List.drop 13 xm_c148 = xm_c148_13 := xm_dr d_148_12
theorem k_148_13 : xm_gi xm_c148 13 = some xm_e148_13 := xm_gt d_148_13
theorem d_148_14 : List.drop 14 xm_c148 = xm_c148_14 := xm_dr d_148_13
theorem k_148_14 : xm_gi xm_c148 14 = some xm_e148_14 := xm_gt d_148_14
theorem d_148_15 : List.drop 15 xm_c148 = xm_c148_15 := xm_dr d_148_14
theorem k_148_15 : xm_gi xm_c148 15 = some xm_e148_15 := xm_gt d_148_15
theorem d_148_16 : List.drop 16 xm_c148 = xm_c148_16 := xm_dr d_148_15
theorem k_148_16 : xm_gi xm_c148 16 = some xm_e148_16 := xm_gt d_148_16
theorem d_148_17 : List.drop 17 xm_c148 = xm_c148_17 := xm_dr d_148_16
theorem k_148_17 : xm_gi xm_c148 17 = some xm_e148_17 := xm_gt d_148_17
theorem d_148_18 : List.drop 18 xm_c148 = xm_c148_18 := xm_dr d_148_17
theorem k_148_18 : xm_gi xm_c148 18 = some xm_e148_18 := xm_gt d_148_18
theorem d_148_19 : List.drop 19 xm_c148 = xm_c148_19 := xm_dr d_148_18
theorem k_148_19 : xm_gi xm_c148 19 = some xm_e148_19 := xm_gt d_148_19
theorem d_148_20 : List.drop 20 xm_c148 = xm_c148_20 := xm_dr d_148_19
theorem k_148_20 : xm_gi xm_c148 20 = some xm_e148_20 := xm_gt d_148_20
theorem d_148_21 : List.drop 21 xm_c148 = xm_c148_21 := xm_dr d_148_20
theorem k_148_21 : xm_gi xm_c148 21 = some xm_e148_21 := xm_gt d_148_21
theorem xb_148_0 {sc : List Int} {f : Nat → List xm_V → xm_W → xm_R} {w : xm_W} {Q : Option xm_V × xm_W → Prop} {x0 : Int} {x1 : Int}
  (h : xm_EQ (xm_old sc) xm_sta f xm_c148 4 [some (.inl x0), some (.inl x1), some (.inl x0), some (.inl 0)] [] w Q) :
  xm_EQ (xm_old sc) xm_sta f xm_c148 0 [some (.inl x0), some (.inl x1), none, none] [] w Q :=
  (xq_iload_n k_148_0 rfl (xq_istore_n k_148_1 rfl (xq_iconst k_148_2 (xq_istore_n k_148_3 rfl h))))
theorem xb_148_4 {sc : List Int} {f : Nat → List xm_V → xm_W → xm_R} {w : xm_W} {Q : Option xm_V × xm_W → Prop} {x0 : Int} {x1 : Int} {x2 : Int} {x3 : Int}
  (h : if (x3 : Int) < 7 then (if (x2 : Int) < 0 then (Q (some (.inl 0), w)) else (if (x2 : Int) = x1 then (Q (some (.inl 1), w)) else (xm_O (xm_ints (xm_old sc) w 1000000) (fun l1 => xm_O (xm_at l1 x2) (fun z2 => xm_EQ (xm_old sc) xm_sta f xm_c148 4 [some (.inl x0), some (.inl x1), some (.inl z2), some (.inl (xm_w (x3 + 1)))] [] w Q))))) else (Q (some (.inl 0), w))) :
  xm_EQ (xm_old sc) xm_sta f xm_c148 4 [some (.inl x0), some (.inl x1), some (.inl x2), some (.inl x3)] [] w Q :=
  (xq_iload_n k_148_4 rfl (xq_bipush k_148_5 (xq_ic_ge k_148_6 h (fun h => (xq_iload_n k_148_7 rfl (xq_if_lt k_148_8 h (fun h => (xq_iconst k_148_20 (xq_ireturn k_148_21 h))) (fun h => (xq_iload_n k_148_9 rfl (xq_iload_n k_148_10 rfl (xq_ic_ne k_148_11 h (fun h => (xq_iconst k_148_12 (xq_ireturn k_148_13 h))) (fun h => (xq_gets k_148_14 rfl (xq_iload_n k_148_15 rfl (xq_iaload k_148_16 h (fun l1 h => h) (fun l1 z2 h => (xq_istore_n k_148_17 rfl (xq_iinc k_148_18 rfl rfl (xq_goto k_148_19 h))))))))))))))) (fun h => (xq_iconst k_148_20 (xq_ireturn k_148_21 h))))))
/-- ShodBackwards.far(II)I -/
theorem d_149_0 : List.drop 0 xm_c149 = xm_c149 := rfl
theorem k_149_0 : xm_gi xm_c149 0 = some xm_e149_0 := xm_gt d_149_0
theorem d_149_1 : List.drop 1 xm_c149 = xm_c149_1 := xm_dr d_149_0
theorem k_149_1 : xm_gi xm_c149 1 = some xm_e149_1 := xm_gt d_149_1
theorem d_149_2 : List.drop 2 xm_c149 = xm_c149_2 := xm_dr d_149_1
theorem k_149_2 : xm_gi xm_c149 2 = some xm_e149_2 := xm_gt d_149_2
theorem d_149_3 : List.drop 3 xm_c149 = xm_c149_3 := xm_dr d_149_2
theorem k_149_3 : xm_gi xm_c149 3 = some xm_e149_3 := xm_gt d_149_3
theorem d_149_4 : List.drop 4 xm_c149 = xm_c149_4 := xm_dr d_149_3
theorem k_149_4 : xm_gi xm_c149 4 = some xm_e149_4 := xm_gt d_149_4
theorem d_149_5 : List.drop 5 xm_c149 = xm_c149_5 := xm_dr d_149_4
theorem k_149_5 : xm_gi xm_c149 5 = some xm_e149_5 := xm_gt d_149_5
theorem d_149_6 : List.drop 6 xm_c149 = xm_c149_6 := xm_dr d_149_5
theorem k_149_6 : xm_gi xm_c149 6 = some xm_e149_6 := xm_gt d_149_6
theorem d_149_7 : List.drop 7 xm_c149 = xm_c149_7 := xm_dr d_149_6
theorem k_149_7 : xm_gi xm_c149 7 = some xm_e149_7 := xm_gt d_149_7
theorem d_149_8 : List.drop 8 xm_c149 = xm_c149_8 := xm_dr d_149_7
theorem k_149_8 : xm_gi xm_c149 8 = some xm_e149_8 := xm_gt d_149_8
theorem d_149_9 : List.drop 9 xm_c149 = xm_c149_9 := xm_dr d_149_8
theorem k_149_9 : xm_gi xm_c149 9 = some xm_e149_9 := xm_gt d_149_9
theorem d_149_10 : List.drop 10 xm_c149 = xm_c149_10 := xm_dr d_149_9
theorem k_149_10 : xm_gi xm_c149 10 = some xm_e149_10 := xm_gt d_149_10
theorem d_149_11 : List.drop 11 xm_c149 = xm_c149_11 := xm_dr d_149_10
theorem k_149_11 : xm_gi xm_c149 11 = some xm_e149_11 := xm_gt d_149_11
theorem d_149_12 : List.drop 12 xm_c149 = xm_c149_12 := xm_dr d_149_11
theorem k_149_12 : xm_gi xm_c149 12 = some xm_e149_12 := xm_gt d_149_12
theorem d_149_13 : List.drop 13 xm_c149 = xm_c149_13 := xm_dr d_149_12
theorem k_149_13 : xm_gi xm_c149 13 = some xm_e149_13 := xm_gt d_149_13
theorem d_149_14 : List.drop 14 xm_c149 = xm_c149_14 := xm_dr d_149_13
theorem k_149_14 : xm_gi xm_c149 14 = some xm_e149_14 := xm_gt d_149_14
theorem d_149_15 : List.drop 15 xm_c149 = xm_c149_15 := xm_dr d_149_14
theorem k_149_15 : xm_gi xm_c149 15 = some xm_e149_15 := xm_gt d_149_15
theorem d_149_16 : List.drop 16 xm_c149 = xm_c149_16 := xm_dr d_149_15
theorem k_149_16 : xm_gi xm_c149 16 = some xm_e149_16 := xm_gt d_149_16
theorem d_149_17 : List.drop 17 xm_c149 = xm_c149_17 := xm_dr d_149_16
theorem k_149_17 : xm_gi xm_c149 17 = some xm_e149_17 := xm_gt d_149_17
theorem xb_149_0 {sc : List Int} {f : Nat → List xm_V → xm_W → xm_R} {w : xm_W} {Q : Option xm_V × xm_W → Prop} {x0 : Int} {x1 : Int}
  (h : (6 : Int) ≠ 0 ∧ ((6 : Int) ≠ 0 ∧ ((6 : Int) ≠ 0 ∧ ((6 : Int) ≠ 0 ∧ (Q (some (.inl (xm_w ((if 0 ≤ (xm_w ((xm_w (Int.tdiv x0 6)) - (xm_w (Int.tdiv x1 6)))) then (xm_w ((xm_w (Int.tdiv x0 6)) - (xm_w (Int.tdiv x1 6)))) else xm_w (0 - (xm_w ((xm_w (Int.tdiv x0 6)) - (xm_w (Int.tdiv x1 6)))))) + (if 0 ≤ (xm_w ((Int.tmod x0 6) - (Int.tmod x1 6))) then (xm_w ((Int.tmod x0 6) - (Int.tmod x1 6))) else xm_w (0 - (xm_w ((Int.tmod x0 6) - (Int.tmod x1 6)))))))), w)))))) :
  xm_EQ (xm_old sc) xm_sta f xm_c149 0 [some (.inl x0), some (.inl x1)] [] w Q :=
  (xq_iload_n k_149_0 rfl (xq_bipush k_149_1 (xq_idiv k_149_2 h (fun h => (xq_iload_n k_149_3 rfl (xq_bipush k_149_4 (xq_idiv k_149_5 h (fun h => (xq_isub k_149_6 (xq_abs k_149_7 rfl (xq_iload_n k_149_8 rfl (xq_bipush k_149_9 (xq_irem k_149_10 h (fun h => (xq_iload_n k_149_11 rfl (xq_bipush k_149_12 (xq_irem k_149_13 h (fun h => (xq_isub k_149_14 (xq_abs k_149_15 rfl (xq_iadd k_149_16 (xq_ireturn k_149_17 h))))))))))))))))))))))
/-- ShodBackwards.nextCell(II)I -/
theorem d_150_0 : List.drop 0 xm_c150 = xm_c150 := rfl
theorem k_150_0 : xm_gi xm_c150 0 = some xm_e150_0 := xm_gt d_150_0
theorem d_150_1 : List.drop 1 xm_c150 = xm_c150_1 := xm_dr d_150_0
theorem k_150_1 : xm_gi xm_c150 1 = some xm_e150_1 := xm_gt d_150_1
theorem d_150_2 : List.drop 2 xm_c150 = xm_c150_2 := xm_dr d_150_1
theorem k_150_2 : xm_gi xm_c150 2 = some xm_e150_2 := xm_gt d_150_2
theorem d_150_3 : List.drop 3 xm_c150 = xm_c150_3 := xm_dr d_150_2
theorem k_150_3 : xm_gi xm_c150 3 = some xm_e150_3 := xm_gt d_150_3
theorem d_150_4 : List.drop 4 xm_c150 = xm_c150_4 := xm_dr d_150_3
theorem k_150_4 : xm_gi xm_c150 4 = some xm_e150_4 := xm_gt d_150_4
theorem d_150_5 : List.drop 5 xm_c150 = xm_c150_5 := xm_dr d_150_4
theorem k_150_5 : xm_gi xm_c150 5 = some xm_e150_5 := xm_gt d_150_5
theorem d_150_6 : List.drop 6 xm_c150 = xm_c150_6 := xm_dr d_150_5
theorem k_150_6 : xm_gi xm_c150 6 = some xm_e150_6 := xm_gt d_150_6
theorem d_150_7 : List.drop 7 xm_c150 = xm_c150_7 := xm_dr d_150_6
theorem k_150_7 : xm_gi xm_c150 7 = some xm_e150_7 := xm_gt d_150_7
theorem d_150_8 : List.drop 8 xm_c150 = xm_c150_8 := xm_dr d_150_7
theorem k_150_8 : xm_gi xm_c150 8 = some xm_e150_8 := xm_gt d_150_8
theorem d_150_9 : List.drop 9 xm_c150 = xm_c150_9 := xm_dr d_150_8
theorem k_150_9 : xm_gi xm_c150 9 = some xm_e150_9 := xm_gt d_150_9
theorem d_150_10 : List.drop 10 xm_c150 = xm_c150_10 := xm_dr d_150_9
theorem k_150_10 : xm_gi xm_c150 10 = some xm_e150_10 := xm_gt d_150_10
theorem d_150_11 : List.drop 11 xm_c150 = xm_c150_11 := xm_dr d_150_10
theorem k_150_11 : xm_gi xm_c150 11 = some xm_e150_11 := xm_gt d_150_11
theorem d_150_12 : List.drop 12 xm_c150 = xm_c150_12 := xm_dr d_150_11
theorem k_150_12 : xm_gi xm_c150 12 = some xm_e150_12 := xm_gt d_150_12
theorem d_150_13 : List.drop 13 xm_c150 = xm_c150_13 := xm_dr d_150_12
theorem k_150_13 : xm_gi xm_c150 13 = some xm_e150_13 := xm_gt d_150_13
theorem d_150_14 : List.drop 14 xm_c150 = xm_c150_14 := xm_dr d_150_13
theorem k_150_14 : xm_gi xm_c150 14 = some xm_e150_14 := xm_gt d_150_14
theorem d_150_15 : List.drop 15 xm_c150 = xm_c150_15 := xm_dr d_150_14
theorem k_150_15 : xm_gi xm_c150 15 = some xm_e150_15 := xm_gt d_150_15
theorem d_150_16 : List.drop 16 xm_c150 = xm_c150_16 := xm_dr d_150_15
theorem k_150_16 : xm_gi xm_c150 16 = some xm_e150_16 := xm_gt d_150_16
theorem d_150_17 : List.drop 17 xm_c150 = xm_c150_17 := xm_dr d_150_16
theorem k_150_17 : xm_gi xm_c150 17 = some xm_e150_17 := xm_gt d_150_17
theorem d_150_18 : List.drop 18 xm_c150 = xm_c150_18 := xm_dr d_150_17
theorem k_150_18 : xm_gi xm_c150 18 = some xm_e150_18 := xm_gt d_150_18
theorem d_150_19 : List.drop 19 xm_c150 = xm_c150_19 := xm_dr d_150_18
theorem k_150_19 : xm_gi xm_c150 19 = some xm_e150_19 := xm_gt d_150_19
theorem d_150_20 : List.drop 20 xm_c150 = xm_c150_20 := xm_dr d_150_19
theorem k_150_20 : xm_gi xm_c150 20 = some xm_e150_20 := xm_gt d_150_20
theorem d_150_21 : List.drop 21 xm_c150 = xm_c150_21 := xm_dr d_150_20
theorem k_150_21 : xm_gi xm_c150 21 = some xm_e150_21 := xm_gt d_150_21
theorem d_150_22 : List.drop 22 xm_c150 = xm_c150_22 := xm_dr d_150_21
theorem k_150_22 : xm_gi xm_c150 22 = some xm_e150_22 := xm_gt d_150_22
theorem d_150_23 : List.drop 23 xm_c150 = xm_c150_23 := xm_dr d_150_22
theorem k_150_23 : xm_gi xm_c150 23 = some xm_e150_23 := xm_gt d_150_23
theorem d_150_24 : List.drop 24 xm_c150 = xm_c150_24 := xm_dr d_150_23
theorem k_150_24 : xm_gi xm_c150 24 = some xm_e150_24 := xm_gt d_150_24
theorem d_150_25 : List.drop 25 xm_c150 = xm_c150_25 := xm_dr d_150_24
theorem k_150_25 : xm_gi xm_c150 25 = some xm_e150_25 := xm_gt d_150_25
theorem d_150_26 : List.drop 26 xm_c150 = xm_c150_26 := xm_dr d_150_25
theorem k_150_26 : xm_gi xm_c150 26 = some xm_e150_26 := xm_gt d_150_26
theorem d_150_27 : List.drop 27 xm_c150 = xm_c150_27 := xm_dr d_150_26
theorem k_150_27 : xm_gi xm_c150 27 = some xm_e150_27 := xm_gt d_150_27
theorem d_150_28 : List.drop 28 xm_c150 = xm_c150_28 := xm_dr d_150_27
theorem k_150_28 : xm_gi xm_c150 28 = some xm_e150_28 := xm_gt d_150_28
theorem d_150_29 : List.drop 29 xm_c150 = xm_c150_29 := xm_dr d_150_28
theorem k_150_29 : xm_gi xm_c150 29 = some xm_e150_29 := xm_gt d_150_29
theorem d_150_30 : List.drop 30 xm_c150 = xm_c150_30 := xm_dr d_150_29
theorem k_150_30 : xm_gi xm_c150 30 = some xm_e150_30 := xm_gt d_150_30
theorem d_150_31 : List.drop 31 xm_c150 = xm_c150_31 := xm_dr d_150_30
theorem k_150_31 : xm_gi xm_c150 31 = some xm_e150_31 := xm_gt d_150_31
theorem d_150_32 : List.drop 32 xm_c150 = xm_c150_32 := xm_dr d_150_31
theorem k_150_32 : xm_gi xm_c150 32 = some xm_e150_32 := xm_gt d_150_32
theorem d_150_33 : List.drop 33 xm_c150 = xm_c150_33 := xm_dr d_150_32
theorem k_150_33 : xm_gi xm_c150 33 = some xm_e150_33 := xm_gt d_150_33
theorem d_150_34 : List.drop 34 xm_c150 = xm_c150_34 := xm_dr d_150_33
theorem k_150_34 : xm_gi xm_c150 34 = some xm_e150_34 := xm_gt d_150_34
theorem d_150_35 : List.drop 35 xm_c150 = xm_c150_35 := xm_dr d_150_34
theorem k_150_35 : xm_gi xm_c150 35 = some xm_e150_35 := xm_gt d_150_35
theorem d_150_36 : List.drop 36 xm_c150 = xm_c150_36 := xm_dr d_150_35
theorem k_150_36 : xm_gi xm_c150 36 = some xm_e150_36 := xm_gt d_150_36
theorem d_150_37 : List.drop 37 xm_c150 = xm_c150_37 := xm_dr d_150_36
theorem k_150_37 : xm_gi xm_c150 37 = some xm_e150_37 := xm_gt d_150_37
theorem d_150_38 : List.drop 38 xm_c150 = xm_c150_38 := xm_dr d_150_37
theorem k_150_38 : xm_gi xm_c150 38 = some xm_e150_38 := xm_gt d_150_38
theorem d_150_39 : List.drop 39 xm_c150 = xm_c150_39 := xm_dr d_150_38
theorem k_150_39 : xm_gi xm_c150 39 = some xm_e150_39 := xm_gt d_150_39
theorem d_150_40 : List.drop 40 xm_c150 = xm_c150_40 := xm_dr d_150_39
theorem k_150_40 : xm_gi xm_c150 40 = some xm_e150_40 := xm_gt d_150_40
theorem xb_150_0 {sc : List Int} {f : Nat → List xm_V → xm_W → xm_R} {w : xm_W} {Q : Option xm_V × xm_W → Prop} {x0 : Int} {x1 : Int}
  (h : if (x1 : Int) = 0 then (if (x0 : Int) < 6 then (Q (some (.inl (-1)), w)) else (Q (some (.inl (xm_w (x0 - 6))), w))) else (if (x1 : Int) = 1 then ((6 : Int) ≠ 0 ∧ (if ((Int.tmod x0 6) : Int) < 5 then (Q (some (.inl (xm_w (x0 + 1))), w)) else (Q (some (.inl (-1)), w)))) else (if (x1 : Int) = 2 then (if (x0 : Int) < 30 then (Q (some (.inl (xm_w (x0 + 6))), w)) else (Q (some (.inl (-1)), w))) else ((6 : Int) ≠ 0 ∧ (if (0 : Int) < (Int.tmod x0 6) then (Q (some (.inl (xm_w (x0 - 1))), w)) else (Q (some (.inl (-1)), w))))))) :
  xm_EQ (xm_old sc) xm_sta f xm_c150 0 [some (.inl x0), some (.inl x1)] [] w Q :=
  (xq_iload_n k_150_0 rfl (xq_tsw k_150_1 (xs_swc h (fun h => (xq_iload_n k_150_2 rfl (xq_bipush k_150_3 (xq_ic_lt k_150_4 h (fun h => (xq_iconst k_150_9 (xq_ireturn k_150_10 h))) (fun h => (xq_iload_n k_150_5 rfl (xq_bipush k_150_6 (xq_isub k_150_7 (xq_goto k_150_8 (xq_ireturn k_150_10 h)))))))))) (fun h => (xs_swc h (fun h => (xq_iload_n k_150_11 rfl (xq_bipush k_150_12 (xq_irem k_150_13 h (fun h => (xq_iconst k_150_14 (xq_ic_ge k_150_15 h (fun h => (xq_iload_n k_150_16 rfl (xq_iconst k_150_17 (xq_iadd k_150_18 (xq_goto k_150_19 (xq_ireturn k_150_21 h)))))) (fun h => (xq_iconst k_150_20 (xq_ireturn k_150_21 h)))))))))) (fun h => (xs_swc h (fun h => (xq_iload_n k_150_22 rfl (xq_bipush k_150_23 (xq_ic_ge k_150_24 h (fun h => (xq_iload_n k_150_25 rfl (xq_bipush k_150_26 (xq_iadd k_150_27 (xq_goto k_150_28 (xq_ireturn k_150_30 h)))))) (fun h => (xq_iconst k_150_29 (xq_ireturn k_150_30 h))))))) (fun h => (xq_iload_n k_150_31 rfl (xq_bipush k_150_32 (xq_irem k_150_33 h (fun h => (xq_if_le k_150_34 h (fun h => (xq_iload_n k_150_35 rfl (xq_iconst k_150_36 (xq_isub k_150_37 (xq_goto k_150_38 (xq_ireturn k_150_40 h)))))) (fun h => (xq_iconst k_150_39 (xq_ireturn k_150_40 h))))))))))))))))
/-- ShodBackwards.back(I)I -/
theorem d_151_0 : List.drop 0 xm_c151 = xm_c151 := rfl
theorem k_151_0 : xm_gi xm_c151 0 = some xm_e151_0 := xm_gt d_151_0
theorem d_151_1 : List.drop 1 xm_c151 = xm_c151_1 := xm_dr d_151_0
theorem k_151_1 : xm_gi xm_c151 1 = some xm_e151_1 := xm_gt d_151_1
theorem d_151_2 : List.drop 2 xm_c151 = xm_c151_2 := xm_dr d_151_1
theorem k_151_2 : xm_gi xm_c151 2 = some xm_e151_2 := xm_gt d_151_2
theorem d_151_3 : List.drop 3 xm_c151 = xm_c151_3 := xm_dr d_151_2
theorem k_151_3 : xm_gi xm_c151 3 = some xm_e151_3 := xm_gt d_151_3
theorem d_151_4 : List.drop 4 xm_c151 = xm_c151_4 := xm_dr d_151_3
theorem k_151_4 : xm_gi xm_c151 4 = some xm_e151_4 := xm_gt d_151_4
theorem d_151_5 : List.drop 5 xm_c151 = xm_c151_5 := xm_dr d_151_4
theorem k_151_5 : xm_gi xm_c151 5 = some xm_e151_5 := xm_gt d_151_5
theorem xb_151_0 {sc : List Int} {f : Nat → List xm_V → xm_W → xm_R} {w : xm_W} {Q : Option xm_V × xm_W → Prop} {x0 : Int}
  (h : (4 : Int) ≠ 0 ∧ (Q (some (.inl (Int.tmod (xm_w (x0 + 2)) 4)), w))) :
  xm_EQ (xm_old sc) xm_sta f xm_c151 0 [some (.inl x0)] [] w Q :=
  (xq_iload_n k_151_0 rfl (xq_iconst k_151_1 (xq_iadd k_151_2 (xq_iconst k_151_3 (xq_irem k_151_4 h (fun h => (xq_ireturn k_151_5 h)))))))
/-- ShodBackwards.shownBy(III)I -/
theorem d_152_0 : List.drop 0 xm_c152 = xm_c152 := rfl
theorem k_152_0 : xm_gi xm_c152 0 = some xm_e152_0 := xm_gt d_152_0
theorem d_152_1 : List.drop 1 xm_c152 = xm_c152_1 := xm_dr d_152_0
theorem k_152_1 : xm_gi xm_c152 1 = some xm_e152_1 := xm_gt d_152_1
theorem d_152_2 : List.drop 2 xm_c152 = xm_c152_2 := xm_dr d_152_1
theorem k_152_2 : xm_gi xm_c152 2 = some xm_e152_2 := xm_gt d_152_2
theorem d_152_3 : List.drop 3 xm_c152 = xm_c152_3 := xm_dr d_152_2
theorem k_152_3 : xm_gi xm_c152 3 = some xm_e152_3 := xm_gt d_152_3
theorem d_152_4 : List.drop 4 xm_c152 = xm_c152_4 := xm_dr d_152_3
theorem k_152_4 : xm_gi xm_c152 4 = some xm_e152_4 := xm_gt d_152_4
theorem d_152_5 : List.drop 5 xm_c152 = xm_c152_5 := xm_dr d_152_4
theorem k_152_5 : xm_gi xm_c152 5 = some xm_e152_5 := xm_gt d_152_5
theorem d_152_6 : List.drop 6 xm_c152 = xm_c152_6 := xm_dr d_152_5
theorem k_152_6 : xm_gi xm_c152 6 = some xm_e152_6 := xm_gt d_152_6
theorem d_152_7 : List.drop 7 xm_c152 = xm_c152_7 := xm_dr d_152_6
theorem k_152_7 : xm_gi xm_c152 7 = some xm_e152_7 := xm_gt d_152_7
theorem d_152_8 : List.drop 8 xm_c152 = xm_c152_8 := xm_dr d_152_7
theorem k_152_8 : xm_gi xm_c152 8 = some xm_e152_8 := xm_gt d_152_8
theorem d_152_9 : List.drop 9 xm_c152 = xm_c152_9 := xm_dr d_152_8
theorem k_152_9 : xm_gi xm_c152 9 = some xm_e152_9 := xm_gt d_152_9
theorem d_152_10 : List.drop 10 xm_c152 = xm_c152_10 := xm_dr d_152_9
theorem k_152_10 : xm_gi xm_c152 10 = some xm_e152_10 := xm_gt d_152_10
theorem d_152_11 : List.drop 11 xm_c152 = xm_c152_11 := xm_dr d_152_10
theorem k_152_11 : xm_gi xm_c152 11 = some xm_e152_11 := xm_gt d_152_11
theorem d_152_12 : List.drop 12 xm_c152 = xm_c152_12 := xm_dr d_152_11
theorem k_152_12 : xm_gi xm_c152 12 = some xm_e152_12 := xm_gt d_152_12
theorem d_152_13 : List.drop 13 xm_c152 = xm_c152_13 := xm_dr d_152_12
theorem k_152_13 : xm_gi xm_c152 13 = some xm_e152_13 := xm_gt d_152_13
theorem d_152_14 : List.drop 14 xm_c152 = xm_c152_14 := xm_dr d_152_13
theorem k_152_14 : xm_gi xm_c152 14 = some xm_e152_14 := xm_gt d_152_14
theorem d_152_15 : List.drop 15 xm_c152 = xm_c152_15 := xm_dr d_152_14
theorem k_152_15 : xm_gi xm_c152 15 = some xm_e152_15 := xm_gt d_152_15
theorem d_152_16 : List.drop 16 xm_c152 = xm_c152_16 := xm_dr d_152_15
theorem k_152_16 : xm_gi xm_c152 16 = some xm_e152_16 := xm_gt d_152_16
theorem d_152_17 : List.drop 17 xm_c152 = xm_c152_17 := xm_dr d_152_16
theorem k_152_17 : xm_gi xm_c152 17 = some xm_e152_17 := xm_gt d_152_17
theorem d_152_18 : List.drop 18 xm_c152 = xm_c152_18 := xm_dr d_152_17
theorem k_152_18 : xm_gi xm_c152 18 = some xm_e152_18 := xm_gt d_152_18
theorem d_152_19 : List.drop 19 xm_c152 = xm_c152_19 := xm_dr d_152_18
theorem k_152_19 : xm_gi xm_c152 19 = some xm_e152_19 := xm_gt d_152_19
theorem d_152_20 : List.drop 20 xm_c152 = xm_c152_20 := xm_dr d_152_19
theorem k_152_20 : xm_gi xm_c152 20 = some xm_e152_20 := xm_gt d_152_20
theorem d_152_21 : List.drop 21 xm_c152 = xm_c152_21 := xm_dr d_152_20
theorem k_152_21 : xm_gi xm_c152 21 = some xm_e152_21 := xm_gt d_152_21
theorem d_152_22 : List.drop 22 xm_c152 = xm_c152_22 := xm_dr d_152_21
theorem k_152_22 : xm_gi xm_c152 22 = some xm_e152_22 := xm_gt d_152_22
theorem d_152_23 : List.drop 23 xm_c152 = xm_c152_23 := xm_dr d_152_22
theorem k_152_23 : xm_gi xm_c152 23 = some xm_e152_23 := xm_gt d_152_23
theorem d_152_24 : List.drop 24 xm_c152 = xm_c152_24 := xm_dr d_152_23
theorem k_152_24 : xm_gi xm_c152 24 = some xm_e152_24 := xm_gt d_152_24
theorem d_152_25 : List.drop 25 xm_c152 = xm_c152_25 := xm_dr d_152_24
theorem k_152_25 : xm_gi xm_c152 25 = some xm_e152_25 := xm_gt d_152_25
theorem d_152_26 : List.drop 26 xm_c152 = xm_c152_26 := xm_dr d_152_25
theorem k_152_26 : xm_gi xm_c152 26 = some xm_e152_26 := xm_gt d_152_26
theorem d_152_27 : List.drop 27 xm_c152 = xm_c152_27 := xm_dr d_152_26
theorem k_152_27 : xm_gi xm_c152 27 = some xm_e152_27 := xm_gt d_152_27
theorem d_152_28 : List.drop 28 xm_c152 = xm_c152_28 := xm_dr d_152_27
theorem k_152_28 : xm_gi xm_c152 28 = some xm_e152_28 := xm_gt d_152_28
theorem d_152_29 : List.drop 29 xm_c152 = xm_c152_29 := xm_dr d_152_28
theorem k_152_29 : xm_gi xm_c152 29 = some xm_e152_29 := xm_gt d_152_29
theorem d_152_30 : List.drop 30 xm_c152 = xm_c152_30 := xm_dr d_152_29
theorem k_152_30 : xm_gi xm_c152 30 = some xm_e152_30 := xm_gt d_152_30
theorem d_152_31 : List.drop 31 xm_c152 = xm_c152_31 := xm_dr d_152_30
theorem k_152_31 : xm_gi xm_c152 31 = some xm_e152_31 := xm_gt d_152_31
theorem d_152_32 : List.drop 32 xm_c152 = xm_c152_32 := xm_dr d_152_31
theorem k_152_32 : xm_gi xm_c152 32 = some xm_e152_32 := xm_gt d_152_32
theorem d_152_33 : List.drop 33 xm_c152 = xm_c152_33 := xm_dr d_152_32
theorem k_152_33 : xm_gi xm_c152 33 = some xm_e152_33 := xm_gt d_152_33
theorem d_152_34 : List.drop 34 xm_c152 = xm_c152_34 := xm_dr d_152_33
theorem k_152_34 : xm_gi xm_c152 34 = some xm_e152_34 := xm_gt d_152_34
theorem d_152_35 : List.drop 35 xm_c152 = xm_c152_35 := xm_dr d_152_34
theorem k_152_35 : xm_gi xm_c152 35 = some xm_e152_35 := xm_gt d_152_35
theorem d_152_36 : List.drop 36 xm_c152 = xm_c152_36 := xm_dr d_152_35
theorem k_152_36 : xm_gi xm_c152 36 = some xm_e152_36 := xm_gt d_152_36
theorem d_152_37 : List.drop 37 xm_c152 = xm_c152_37 := xm_dr d_152_36
theorem k_152_37 : xm_gi xm_c152 37 = some xm_e152_37 := xm_gt d_152_37
theorem d_152_38 : List.drop 38 xm_c152 = xm_c152_38 := xm_dr d_152_37
theorem k_152_38 : xm_gi xm_c152 38 = some xm_e152_38 := xm_gt d_152_38
theorem d_152_39 : List.drop 39 xm_c152 = xm_c152_39 := xm_dr d_152_38
theorem k_152_39 : xm_gi xm_c152 39 = some xm_e152_39 := xm_gt d_152_39
theorem d_152_40 : List.drop 40 xm_c152 = xm_c152_40 := xm_dr d_152_39
theorem k_152_40 : xm_gi xm_c152 40 = some xm_e152_40 := xm_gt d_152_40
theorem d_152_41 : List.drop 41 xm_c152 = xm_c152_41 := xm_dr d_152_40
theorem k_152_41 : xm_gi xm_c152 41 = some xm_e152_41 := xm_gt d_152_41
theorem d_152_42 : List.drop 42 xm_c152 = xm_c152_42 := xm_dr d_152_41
theorem k_152_42 : xm_gi xm_c152 42 = some xm_e152_42 := xm_gt d_152_42
theorem d_152_43 : List.drop 43 xm_c152 = xm_c152_43 := xm_dr d_152_42
theorem k_152_43 : xm_gi xm_c152 43 = some xm_e152_43 := xm_gt d_152_43
theorem d_152_44 : List.drop 44 xm_c152 = xm_c152_44 := xm_dr d_152_43
theorem k_152_44 : xm_gi xm_c152 44 = some xm_e152_44 := xm_gt d_152_44
theorem d_152_45 : List.drop 45 xm_c152 = xm_c152_45 := xm_dr d_152_44
theorem k_152_45 : xm_gi xm_c152 45 = some xm_e152_45 := xm_gt d_152_45
theorem d_152_46 : List.drop 46 xm_c152 = xm_c152_46 := xm_dr d_152_45
theorem k_152_46 : xm_gi xm_c152 46 = some xm_e152_46 := xm_gt d_152_46
theorem d_152_47 : List.drop 47 xm_c152 = xm_c152_47 := xm_dr d_152_46
theorem k_152_47 : xm_gi xm_c152 47 = some xm_e152_47 := xm_gt d_152_47
theorem d_152_48 : List.drop 48 xm_c152 = xm_c152_48 := xm_dr d_152_47
theorem k_152_48 : xm_gi xm_c152 48 = some xm_e152_48 := xm_gt d_152_48
theorem d_152_49 : List.drop 49 xm_c152 = xm_c152_49 := xm_dr d_152_48
theorem k_152_49 : xm_gi xm_c152 49 = some xm_e152_49 := xm_gt d_152_49
theorem d_152_50 : List.drop 50 xm_c152 = xm_c152_50 := xm_dr d_152_49
theorem k_152_50 : xm_gi xm_c152 50 = some xm_e152_50 := xm_gt d_152_50
theorem xb_152_0 {sc : List Int} {f : Nat → List xm_V → xm_W → xm_R} {w : xm_W} {Q : Option xm_V × xm_W → Prop} {x0 : Int} {x1 : Int} {x2 : Int}
  (h : (4 : Int) ≠ 0 ∧ (if ((Int.tmod x2 4) : Int) = 0 then (if (x0 : Int) = 0 then (Q (some (.inl x1), w)) else (if (x0 : Int) = 1 then (xm_Oi (f 151 [.inl x1] w) (fun z32 w31 => Q (some (.inl z32), w31))) else (if (x0 : Int) = 2 then (if (1 : Int) = 0 then (Q (some (.inl x1), w)) else (xm_Oi (f 151 [.inl x1] w) (fun z30 w29 => Q (some (.inl z30), w29)))) else (if (x0 : Int) = 3 then (Q (some (.inl (-1)), w)) else (if (x0 : Int) = 4 then ((2 : Int) ≠ 0 ∧ (if ((Int.tmod x2 2) : Int) = 0 then (xm_Oi (f 151 [.inl x1] w) (fun z28 w27 => Q (some (.inl z28), w27))) else (Q (some (.inl x1), w)))) else (if (x0 : Int) = 5 then (if (1 : Int) = 0 then (if (x1 : Int) = 1 then (xm_Oi (f 151 [.inl x1] w) (fun z18 w17 => Q (some (.inl z18), w17))) else (if (x1 : Int) = 3 then (xm_Oi (f 151 [.inl x1] w) (fun z20 w19 => Q (some (.inl z20), w19))) else (Q (some (.inl x1), w)))) else (xm_Oi (f 151 [.inl x1] w) (fun z22 w21 => if (z22 : Int) = 1 then (xm_Oi (f 151 [.inl z22] w21) (fun z24 w23 => Q (some (.inl z24), w23))) else (if (z22 : Int) = 3 then (xm_Oi (f 151 [.inl z22] w21) (fun z26 w25 => Q (some (.inl z26), w25))) else (Q (some (.inl z22), w21)))))) else (Q (some (.inl (-1)), w)))))))) else (if (x0 : Int) = 0 then (Q (some (.inl x1), w)) else (if (x0 : Int) = 1 then (xm_Oi (f 151 [.inl x1] w) (fun z16 w15 => Q (some (.inl z16), w15))) else (if (x0 : Int) = 2 then (if (0 : Int) = 0 then (Q (some (.inl x1), w)) else (xm_Oi (f 151 [.inl x1] w) (fun z14 w13 => Q (some (.inl z14), w13)))) else (if (x0 : Int) = 3 then (Q (some (.inl (-1)), w)) else (if (x0 : Int) = 4 then ((2 : Int) ≠ 0 ∧ (if ((Int.tmod x2 2) : Int) = 0 then (xm_Oi (f 151 [.inl x1] w) (fun z12 w11 => Q (some (.inl z12), w11))) else (Q (some (.inl x1), w)))) else (if (x0 : Int) = 5 then (if (0 : Int) = 0 then (if (x1 : Int) = 1 then (xm_Oi (f 151 [.inl x1] w) (fun z2 w1 => Q (some (.inl z2), w1))) else (if (x1 : Int) = 3 then (xm_Oi (f 151 [.inl x1] w) (fun z4 w3 => Q (some (.inl z4), w3))) else (Q (some (.inl x1), w)))) else (xm_Oi (f 151 [.inl x1] w) (fun z6 w5 => if (z6 : Int) = 1 then (xm_Oi (f 151 [.inl z6] w5) (fun z8 w7 => Q (some (.inl z8), w7))) else (if (z6 : Int) = 3 then (xm_Oi (f 151 [.inl z6] w5) (fun z10 w9 => Q (some (.inl z10), w9))) else (Q (some (.inl z6), w5)))))) else (Q (some (.inl (-1)), w)))))))))) :
  xm_EQ (xm_old sc) xm_sta f xm_c152 0 [some (.inl x0), some (.inl x1), some (.inl x2), none, none] [] w Q :=
  (xq_iload_n k_152_0 rfl (xq_iconst k_152_1 (xq_irem k_152_2 h (fun h => (xq_if_ne k_152_3 h (fun h => (xq_iconst k_152_4 (xq_goto k_152_5 (xq_istore_n k_152_7 rfl (xq_iload_n k_152_8 rfl (xq_tsw k_152_9 (xs_swc h (fun h => (xq_iload_n k_152_10 rfl (xq_ireturn k_152_11 h))) (fun h => (xs_swc h (fun h => (xq_iload_n k_152_12 rfl (xq_invs1 k_152_13 xr_151 rfl rfl rfl h (fun z32 w31 h => (xq_ireturn k_152_14 h))))) (fun h => (xs_swc h (fun h => (xq_iload_n k_152_15 rfl (xq_if_eq k_152_16 h (fun h => (xq_iload_n k_152_20 rfl (xq_ireturn k_152_21 h))) (fun h => (xq_iload_n k_152_17 rfl (xq_invs1 k_152_18 xr_151 rfl rfl rfl h (fun z30 w29 h => (xq_goto k_152_19 (xq_ireturn k_152_21 h))))))))) (fun h => (xs_swc h (fun h => (xq_iconst k_152_49 (xq_ireturn k_152_50 h))) (fun h => (xs_swc h (fun h => (xq_iload_n k_152_22 rfl (xq_iconst k_152_23 (xq_irem k_152_24 h (fun h => (xq_if_ne k_152_25 h (fun h => (xq_iload_n k_152_26 rfl (xq_invs1 k_152_27 xr_151 rfl rfl rfl h (fun z28 w27 h => (xq_goto k_152_28 (xq_ireturn k_152_30 h)))))) (fun h => (xq_iload_n k_152_29 rfl (xq_ireturn k_152_30 h))))))))) (fun h => (xs_swc h (fun h => (xq_iload_n k_152_31 rfl (xq_if_eq k_152_32 h (fun h => (xq_iload_n k_152_36 rfl (xq_istore k_152_37 rfl (xq_iload k_152_38 rfl (xq_iconst k_152_39 (xq_ic_eq k_152_40 h (fun h => (xq_iload k_152_44 rfl (xq_invs1 k_152_45 xr_151 rfl rfl rfl h (fun z18 w17 h => (xq_goto k_152_46 (xq_ireturn k_152_48 h)))))) (fun h => (xq_iload k_152_41 rfl (xq_iconst k_152_42 (xq_ic_ne k_152_43 h (fun h => (xq_iload k_152_44 rfl (xq_invs1 k_152_45 xr_151 rfl rfl rfl h (fun z20 w19 h => (xq_goto k_152_46 (xq_ireturn k_152_48 h)))))) (fun h => (xq_iload k_152_47 rfl (xq_ireturn k_152_48 h))))))))))))) (fun h => (xq_iload_n k_152_33 rfl (xq_invs1 k_152_34 xr_151 rfl rfl rfl h (fun z22 w21 h => (xq_goto k_152_35 (xq_istore k_152_37 rfl (xq_iload k_152_38 rfl (xq_iconst k_152_39 (xq_ic_eq k_152_40 h (fun h => (xq_iload k_152_44 rfl (xq_invs1 k_152_45 xr_151 rfl rfl rfl h (fun z24 w23 h => (xq_goto k_152_46 (xq_ireturn k_152_48 h)))))) (fun h => (xq_iload k_152_41 rfl (xq_iconst k_152_42 (xq_ic_ne k_152_43 h (fun h => (xq_iload k_152_44 rfl (xq_invs1 k_152_45 xr_151 rfl rfl rfl h (fun z26 w25 h => (xq_goto k_152_46 (xq_ireturn k_152_48 h)))))) (fun h => (xq_iload k_152_47 rfl (xq_ireturn k_152_48 h))))))))))))))))))) (fun h => (xq_iconst k_152_49 (xq_ireturn k_152_50 h)))))))))))))))))))) (fun h => (xq_iconst k_152_6 (xq_istore_n k_152_7 rfl (xq_iload_n k_152_8 rfl (xq_tsw k_152_9 (xs_swc h (fun h => (xq_iload_n k_152_10 rfl (xq_ireturn k_152_11 h))) (fun h => (xs_swc h (fun h => (xq_iload_n k_152_12 rfl (xq_invs1 k_152_13 xr_151 rfl rfl rfl h (fun z16 w15 h => (xq_ireturn k_152_14 h))))) (fun h => (xs_swc h (fun h => (xq_iload_n k_152_15 rfl (xq_if_eq k_152_16 h (fun h => (xq_iload_n k_152_20 rfl (xq_ireturn k_152_21 h))) (fun h => (xq_iload_n k_152_17 rfl (xq_invs1 k_152_18 xr_151 rfl rfl rfl h (fun z14 w13 h => (xq_goto k_152_19 (xq_ireturn k_152_21 h))))))))) (fun h => (xs_swc h (fun h => (xq_iconst k_152_49 (xq_ireturn k_152_50 h))) (fun h => (xs_swc h (fun h => (xq_iload_n k_152_22 rfl (xq_iconst k_152_23 (xq_irem k_152_24 h (fun h => (xq_if_ne k_152_25 h (fun h => (xq_iload_n k_152_26 rfl (xq_invs1 k_152_27 xr_151 rfl rfl rfl h (fun z12 w11 h => (xq_goto k_152_28 (xq_ireturn k_152_30 h)))))) (fun h => (xq_iload_n k_152_29 rfl (xq_ireturn k_152_30 h))))))))) (fun h => (xs_swc h (fun h => (xq_iload_n k_152_31 rfl (xq_if_eq k_152_32 h (fun h => (xq_iload_n k_152_36 rfl (xq_istore k_152_37 rfl (xq_iload k_152_38 rfl (xq_iconst k_152_39 (xq_ic_eq k_152_40 h (fun h => (xq_iload k_152_44 rfl (xq_invs1 k_152_45 xr_151 rfl rfl rfl h (fun z2 w1 h => (xq_goto k_152_46 (xq_ireturn k_152_48 h)))))) (fun h => (xq_iload k_152_41 rfl (xq_iconst k_152_42 (xq_ic_ne k_152_43 h (fun h => (xq_iload k_152_44 rfl (xq_invs1 k_152_45 xr_151 rfl rfl rfl h (fun z4 w3 h => (xq_goto k_152_46 (xq_ireturn k_152_48 h)))))) (fun h => (xq_iload k_152_47 rfl (xq_ireturn k_152_48 h))))))))))))) (fun h => (xq_iload_n k_152_33 rfl (xq_invs1 k_152_34 xr_151 rfl rfl rfl h (fun z6 w5 h => (xq_goto k_152_35 (xq_istore k_152_37 rfl (xq_iload k_152_38 rfl (xq_iconst k_152_39 (xq_ic_eq k_152_40 h (fun h => (xq_iload k_152_44 rfl (xq_invs1 k_152_45 xr_151 rfl rfl rfl h (fun z8 w7 h => (xq_goto k_152_46 (xq_ireturn k_152_48 h)))))) (fun h => (xq_iload k_152_41 rfl (xq_iconst k_152_42 (xq_ic_ne k_152_43 h (fun h => (xq_iload k_152_44 rfl (xq_invs1 k_152_45 xr_151 rfl rfl rfl h (fun z10 w9 h => (xq_goto k_152_46 (xq_ireturn k_152_48 h)))))) (fun h => (xq_iload k_152_47 rfl (xq_ireturn k_152_48 h))))))))))))))))))) (fun h => (xq_iconst k_152_49 (xq_ireturn k_152_50 h))))))))))))))))))))))))
/-- ShodBackwards.depthOf(III)I -/
theorem d_153_0 : List.drop 0 xm_c153 = xm_c153 := rfl
theorem k_153_0 : xm_gi xm_c153 0 = some xm_e153_0 := xm_gt d_153_0
theorem d_153_1 : List.drop 1 xm_c153 = xm_c153_1 := xm_dr d_153_0
theorem k_153_1 : xm_gi xm_c153 1 = some xm_e153_1 := xm_gt d_153_1
theorem d_153_2 : List.drop 2 xm_c153 = xm_c153_2 := xm_dr d_153_1
theorem k_153_2 : xm_gi xm_c153 2 = some xm_e153_2 := xm_gt d_153_2
theorem d_153_3 : List.drop 3 xm_c153 = xm_c153_3 := xm_dr d_153_2
theorem k_153_3 : xm_gi xm_c153 3 = some xm_e153_3 := xm_gt d_153_3
theorem d_153_4 : List.drop 4 xm_c153 = xm_c153_4 := xm_dr d_153_3
theorem k_153_4 : xm_gi xm_c153 4 = some xm_e153_4 := xm_gt d_153_4
theorem d_153_5 : List.drop 5 xm_c153 = xm_c153_5 := xm_dr d_153_4
theorem k_153_5 : xm_gi xm_c153 5 = some xm_e153_5 := xm_gt d_153_5
theorem d_153_6 : List.drop 6 xm_c153 = xm_c153_6 := xm_dr d_153_5
theorem k_153_6 : xm_gi xm_c153 6 = some xm_e153_6 := xm_gt d_153_6
theorem d_153_7 : List.drop 7 xm_c153 = xm_c153_7 := xm_dr d_153_6
theorem k_153_7 : xm_gi xm_c153 7 = some xm_e153_7 := xm_gt d_153_7
theorem d_153_8 : List.drop 8 xm_c153 = xm_c153_8 := xm_dr d_153_7
theorem k_153_8 : xm_gi xm_c153 8 = some xm_e153_8 := xm_gt d_153_8
theorem d_153_9 : List.drop 9 xm_c153 = xm_c153_9 := xm_dr d_153_8
theorem k_153_9 : xm_gi xm_c153 9 = some xm_e153_9 := xm_gt d_153_9
theorem d_153_10 : List.drop 10 xm_c153 = xm_c153_10 := xm_dr d_153_9
theorem k_153_10 : xm_gi xm_c153 10 = some xm_e153_10 := xm_gt d_153_10
theorem d_153_11 : List.drop 11 xm_c153 = xm_c153_11 := xm_dr d_153_10
theorem k_153_11 : xm_gi xm_c153 11 = some xm_e153_11 := xm_gt d_153_11
theorem d_153_12 : List.drop 12 xm_c153 = xm_c153_12 := xm_dr d_153_11
theorem k_153_12 : xm_gi xm_c153 12 = some xm_e153_12 := xm_gt d_153_12
theorem d_153_13 : List.drop 13 xm_c153 = xm_c153_13 := xm_dr d_153_12
theorem k_153_13 : xm_gi xm_c153 13 = some xm_e153_13 := xm_gt d_153_13
theorem d_153_14 : List.drop 14 xm_c153 = xm_c153_14 := xm_dr d_153_13
theorem k_153_14 : xm_gi xm_c153 14 = some xm_e153_14 := xm_gt d_153_14
theorem d_153_15 : List.drop 15 xm_c153 = xm_c153_15 := xm_dr d_153_14
theorem k_153_15 : xm_gi xm_c153 15 = some xm_e153_15 := xm_gt d_153_15
theorem d_153_16 : List.drop 16 xm_c153 = xm_c153_16 := xm_dr d_153_15
theorem k_153_16 : xm_gi xm_c153 16 = some xm_e153_16 := xm_gt d_153_16
theorem d_153_17 : List.drop 17 xm_c153 = xm_c153_17 := xm_dr d_153_16
theorem k_153_17 : xm_gi xm_c153 17 = some xm_e153_17 := xm_gt d_153_17
theorem d_153_18 : List.drop 18 xm_c153 = xm_c153_18 := xm_dr d_153_17
theorem k_153_18 : xm_gi xm_c153 18 = some xm_e153_18 := xm_gt d_153_18
theorem d_153_19 : List.drop 19 xm_c153 = xm_c153_19 := xm_dr d_153_18
theorem k_153_19 : xm_gi xm_c153 19 = some xm_e153_19 := xm_gt d_153_19
theorem d_153_20 : List.drop 20 xm_c153 = xm_c153_20 := xm_dr d_153_19
theorem k_153_20 : xm_gi xm_c153 20 = some xm_e153_20 := xm_gt d_153_20
theorem d_153_21 : List.drop 21 xm_c153 = xm_c153_21 := xm_dr d_153_20
theorem k_153_21 : xm_gi xm_c153 21 = some xm_e153_21 := xm_gt d_153_21
theorem d_153_22 : List.drop 22 xm_c153 = xm_c153_22 := xm_dr d_153_21
theorem k_153_22 : xm_gi xm_c153 22 = some xm_e153_22 := xm_gt d_153_22
theorem d_153_23 : List.drop 23 xm_c153 = xm_c153_23 := xm_dr d_153_22
theorem k_153_23 : xm_gi xm_c153 23 = some xm_e153_23 := xm_gt d_153_23
theorem d_153_24 : List.drop 24 xm_c153 = xm_c153_24 := xm_dr d_153_23
theorem k_153_24 : xm_gi xm_c153 24 = some xm_e153_24 := xm_gt d_153_24
theorem d_153_25 : List.drop 25 xm_c153 = xm_c153_25 := xm_dr d_153_24
theorem k_153_25 : xm_gi xm_c153 25 = some xm_e153_25 := xm_gt d_153_25
theorem xb_153_0 {sc : List Int} {f : Nat → List xm_V → xm_W → xm_R} {w : xm_W} {Q : Option xm_V × xm_W → Prop} {x0 : Int} {x1 : Int} {x2 : Int}
  (h : (10 : Int) ≠ 0 ∧ (if (x0 : Int) = 2 then (Q (some (.inl (xm_w ((xm_w ((xm_w (Int.tdiv x2 10)) + 1)) + x1))), w)) else (if (x0 : Int) = 3 then (Q (some (.inl 0), w)) else (if (x0 : Int) = 4 then (Q (some (.inl (xm_w ((xm_w ((xm_w (Int.tdiv x2 10)) + 1)) * 2))), w)) else (if (x0 : Int) = 5 then ((2 : Int) ≠ 0 ∧ (Q (some (.inl (xm_w (Int.tdiv (xm_w ((xm_w ((xm_w (Int.tdiv x2 10)) + 1)) + x1)) 2))), w))) else (Q (some (.inl (xm_w ((xm_w (Int.tdiv x2 10)) + 1))), w))))))) :
  xm_EQ (xm_old sc) xm_sta f xm_c153 0 [some (.inl x0), some (.inl x1), some (.inl x2), none] [] w Q :=
  (xq_iload_n k_153_0 rfl (xq_bipush k_153_1 (xq_idiv k_153_2 h (fun h => (xq_iconst k_153_3 (xq_iadd k_153_4 (xq_istore_n k_153_5 rfl (xq_iload_n k_153_6 rfl (xq_tsw k_153_7 (xs_swc h (fun h => (xq_iload_n k_153_8 rfl (xq_iload_n k_153_9 rfl (xq_iadd k_153_10 (xq_ireturn k_153_11 h))))) (fun h => (xs_swc h (fun h => (xq_iconst k_153_12 (xq_ireturn k_153_13 h))) (fun h => (xs_swc h (fun h => (xq_iload_n k_153_14 rfl (xq_iconst k_153_15 (xq_imul k_153_16 (xq_ireturn k_153_17 h))))) (fun h => (xs_swc h (fun h => (xq_iload_n k_153_18 rfl (xq_iload_n k_153_19 rfl (xq_iadd k_153_20 (xq_iconst k_153_21 (xq_idiv k_153_22 h (fun h => (xq_ireturn k_153_23 h)))))))) (fun h => (xq_iload_n k_153_24 rfl (xq_ireturn k_153_25 h)))))))))))))))))))
