/-- ShodBackwardsModel.lacks(II)I -/
theorem d_1200_0 : List.drop 0 xm_c1200 = xm_c1200 := rfl
theorem k_1200_0 : xm_gi xm_c1200 0 = some xm_e1200_0 := xm_gt d_1200_0
theorem d_1200_1 : List.drop 1 xm_c1200 = xm_c1200_1 := xm_dr d_1200_0
theorem k_1200_1 : xm_gi xm_c1200 1 = some xm_e1200_1 := xm_gt d_1200_1
theorem d_1200_2 : List.drop 2 xm_c1200 = xm_c1200_2 := xm_dr d_1200_1
theorem k_1200_2 : xm_gi xm_c1200 2 = some xm_e1200_2 := xm_gt d_1200_2
theorem d_1200_3 : List.drop 3 xm_c1200 = xm_c1200_3 := xm_dr d_1200_2
theorem k_1200_3 : xm_gi xm_c1200 3 = some xm_e1200_3 := xm_gt d_1200_3
theorem d_1200_4 : List.drop 4 xm_c1200 = xm_c1200_4 := xm_dr d_1200_3
theorem k_1200_4 : xm_gi xm_c1200 4 = some xm_e1200_4 := xm_gt d_1200_4
theorem d_1200_5 : List.drop 5 xm_c1200 = xm_c1200_5 := xm_dr d_1200_4
theorem k_1200_5 : xm_gi xm_c1200 5 = some xm_e1200_5 := xm_gt d_1200_5
theorem d_1200_6 : List.drop 6 xm_c1200 = xm_c1200_6 := xm_dr d_1200_5
theorem k_1200_6 : xm_gi xm_c1200 6 = some xm_e1200_6 := xm_gt d_1200_6
theorem d_1200_7 : List.drop 7 xm_c1200 = xm_c1200_7 := xm_dr d_1200_6
theorem k_1200_7 : xm_gi xm_c1200 7 = some xm_e1200_7 := xm_gt d_1200_7
theorem d_1200_8 : List.drop 8 xm_c1200 = xm_c1200_8 := xm_dr d_1200_7
theorem k_1200_8 : xm_gi xm_c1200 8 = some xm_e1200_8 := xm_gt d_1200_8
theorem d_1200_9 : List.drop 9 xm_c1200 = xm_c1200_9 := xm_dr d_1200_8
theorem k_1200_9 : xm_gi xm_c1200 9 = some xm_e1200_9 := xm_gt d_1200_9
theorem d_1200_10 : List.drop 10 xm_c1200 = xm_c1200_10 := xm_dr d_1200_9
theorem k_1200_10 : xm_gi xm_c1200 10 = some xm_e1200_10 := xm_gt d_1200_10
theorem d_1200_11 : List.drop 11 xm_c1200 = xm_c1200_11 := xm_dr d_1200_10
theorem k_1200_11 : xm_gi xm_c1200 11 = some xm_e1200_11 := xm_gt d_1200_11
theorem d_1200_12 : List.drop 12 xm_c1200 = xm_c1200_12 := xm_dr d_1200_11
theorem k_1200_12 : xm_gi xm_c1200 12 = some xm_e1200_12 := xm_gt d_1200_12
theorem d_1200_13 : List.drop 13 xm_c1200 = xm_c1200_13 := xm_dr d_1200_12
theorem k_1200_13 : xm_gi xm_c1200 13 = some xm_e1200_13 := xm_gt d_1200_13
theorem d_1200_14 : List.drop 14 xm_c1200 = xm_c1200_14 := xm_dr d_1200_13
theorem k_1200_14 : xm_gi xm_c1200 14 = some xm_e1200_14 := xm_gt d_1200_14
theorem d_1200_15 : List.drop 15 xm_c1200 = xm_c1200_15 := xm_dr d_1200_14
theorem k_1200_15 : xm_gi xm_c1200 15 = some xm_e1200_15 := xm_gt d_1200_15
theorem d_1200_16 : List.drop 16 xm_c1200 = xm_c1200_16 := xm_dr d_1200_15
theorem k_1200_16 : xm_gi xm_c1200 16 = some xm_e1200_16 := xm_gt d_1200_16
theorem d_1200_17 : List.drop 17 xm_c1200 = xm_c1200_17 := xm_dr d_1200_16
theorem k_1200_17 : xm_gi xm_c1200 17 = some xm_e1200_17 := xm_gt d_1200_17
theorem xb_1200_0 {sc : List Int} {f : Nat → List xm_V → xm_W → xm_R} {w : xm_W} {Q : Option xm_V × xm_W → Prop} {x0 : Nat} {x1 : Int} {x2 : Int}
  (h : xm_Oi (f 1196 [.inl x1] w) (fun z2 w1 => if (z2 : Int) = 0 then (Q (some (.inl 1), w1)) else (xm_Oi (f 1109 [.inr (.inl (some x0)), .inl x2] w1) (fun z4 w3 => if (z4 : Int) = 0 then (Q (some (.inl 1), w3)) else (xm_O (xm_fr (xm_old sc) w3 x0 9 18) (fun r5 => xm_O (xm_ints (xm_old sc) w3 r5) (fun l6 => xm_O (xm_at l6 x1) (fun z7 => if (z7 : Int) = 0 then (Q (some (.inl 2), w3)) else (Q (some (.inl 0), w3)))))))))) :
  xm_EQ (xm_old sc) xm_sta f xm_c1200 0 [some (.inr (.inl (some x0))), some (.inl x1), some (.inl x2)] [] w Q :=
  (xq_iload_n k_1200_0 rfl (xq_invs2 k_1200_1 xr_1196 rfl rfl rfl h (fun z2 w1 h => (xq_if_eq k_1200_2 h (fun h => (xq_iconst k_1200_7 (xq_goto k_1200_8 (xq_ireturn k_1200_17 h)))) (fun h => (xq_aload_n k_1200_3 rfl (xq_iload_n k_1200_4 rfl (xq_invv2 k_1200_5 xr_1109 rfl rfl rfl h (fun z4 w3 h => (xq_if_ne k_1200_6 h (fun h => (xq_iconst k_1200_7 (xq_goto k_1200_8 (xq_ireturn k_1200_17 h)))) (fun h => (xq_aload_n k_1200_9 rfl (xq_getr k_1200_10 rfl h (fun r5 h => (xq_iload_n k_1200_11 rfl (xq_iaload k_1200_12 h (fun l6 h => h) (fun l6 z7 h => (xq_if_ne k_1200_13 h (fun h => (xq_iconst k_1200_14 (xq_goto k_1200_15 (xq_ireturn k_1200_17 h)))) (fun h => (xq_iconst k_1200_16 (xq_ireturn k_1200_17 h)))))))))))))))))))))
/-- ShodBackwardsModel.ways(II)I -/
theorem d_1201_0 : List.drop 0 xm_c1201 = xm_c1201 := rfl
theorem k_1201_0 : xm_gi xm_c1201 0 = some xm_e1201_0 := xm_gt d_1201_0
theorem d_1201_1 : List.drop 1 xm_c1201 = xm_c1201_1 := xm_dr d_1201_0
theorem k_1201_1 : xm_gi xm_c1201 1 = some xm_e1201_1 := xm_gt d_1201_1
theorem d_1201_2 : List.drop 2 xm_c1201 = xm_c1201_2 := xm_dr d_1201_1
theorem k_1201_2 : xm_gi xm_c1201 2 = some xm_e1201_2 := xm_gt d_1201_2
theorem d_1201_3 : List.drop 3 xm_c1201 = xm_c1201_3 := xm_dr d_1201_2
theorem k_1201_3 : xm_gi xm_c1201 3 = some xm_e1201_3 := xm_gt d_1201_3
theorem d_1201_4 : List.drop 4 xm_c1201 = xm_c1201_4 := xm_dr d_1201_3
theorem k_1201_4 : xm_gi xm_c1201 4 = some xm_e1201_4 := xm_gt d_1201_4
theorem d_1201_5 : List.drop 5 xm_c1201 = xm_c1201_5 := xm_dr d_1201_4
theorem k_1201_5 : xm_gi xm_c1201 5 = some xm_e1201_5 := xm_gt d_1201_5
theorem d_1201_6 : List.drop 6 xm_c1201 = xm_c1201_6 := xm_dr d_1201_5
theorem k_1201_6 : xm_gi xm_c1201 6 = some xm_e1201_6 := xm_gt d_1201_6
theorem d_1201_7 : List.drop 7 xm_c1201 = xm_c1201_7 := xm_dr d_1201_6
theorem k_1201_7 : xm_gi xm_c1201 7 = some xm_e1201_7 := xm_gt d_1201_7
theorem d_1201_8 : List.drop 8 xm_c1201 = xm_c1201_8 := xm_dr d_1201_7
theorem k_1201_8 : xm_gi xm_c1201 8 = some xm_e1201_8 := xm_gt d_1201_8
theorem d_1201_9 : List.drop 9 xm_c1201 = xm_c1201_9 := xm_dr d_1201_8
theorem k_1201_9 : xm_gi xm_c1201 9 = some xm_e1201_9 := xm_gt d_1201_9
theorem d_1201_10 : List.drop 10 xm_c1201 = xm_c1201_10 := xm_dr d_1201_9
theorem k_1201_10 : xm_gi xm_c1201 10 = some xm_e1201_10 := xm_gt d_1201_10
theorem d_1201_11 : List.drop 11 xm_c1201 = xm_c1201_11 := xm_dr d_1201_10
theorem k_1201_11 : xm_gi xm_c1201 11 = some xm_e1201_11 := xm_gt d_1201_11
theorem d_1201_12 : List.drop 12 xm_c1201 = xm_c1201_12 := xm_dr d_1201_11
theorem k_1201_12 : xm_gi xm_c1201 12 = some xm_e1201_12 := xm_gt d_1201_12
theorem d_1201_13 : List.drop 13 xm_c1201 = xm_c1201_13 := xm_dr d_1201_12
theorem k_1201_13 : xm_gi xm_c1201 13 = some xm_e1201_13 := xm_gt d_1201_13
theorem d_1201_14 : List.drop 14 xm_c1201 = xm_c1201_14 := xm_dr d_1201_13
theorem k_1201_14 : xm_gi xm_c1201 14 = some xm_e1201_14 := xm_gt d_1201_14
theorem d_1201_15 : List.drop 15 xm_c1201 = xm_c1201_15 := xm_dr d_1201_14
theorem k_1201_15 : xm_gi xm_c1201 15 = some xm_e1201_15 := xm_gt d_1201_15
theorem d_1201_16 : List.drop 16 xm_c1201 = xm_c1201_16 := xm_dr d_1201_15
theorem k_1201_16 : xm_gi xm_c1201 16 = some xm_e1201_16 := xm_gt d_1201_16
theorem d_1201_17 : List.drop 17 xm_c1201 = xm_c1201_17 := xm_dr d_1201_16
theorem k_1201_17 : xm_gi xm_c1201 17 = some xm_e1201_17 := xm_gt d_1201_17
theorem d_1201_18 : List.drop 18 xm_c1201 = xm_c1201_18 := xm_dr d_1201_17
theorem k_1201_18 : xm_gi xm_c1201 18 = some xm_e1201_18 := xm_gt d_1201_18
theorem d_1201_19 : List.drop 19 xm_c1201 = xm_c1201_19 := xm_dr d_1201_18
theorem k_1201_19 : xm_gi xm_c1201 19 = some xm_e1201_19 := xm_gt d_1201_19
theorem d_1201_20 : List.drop 20 xm_c1201 = xm_c1201_20 := xm_dr d_1201_19
theorem k_1201_20 : xm_gi xm_c1201 20 = some xm_e1201_20 := xm_gt d_1201_20
theorem d_1201_21 : List.drop 21 xm_c1201 = xm_c1201_21 := xm_dr d_1201_20
theorem k_1201_21 : xm_gi xm_c1201 21 = some xm_e1201_21 := xm_gt d_1201_21
theorem d_1201_22 : List.drop 22 xm_c1201 = xm_c1201_22 := xm_dr d_1201_21
theorem k_1201_22 : xm_gi xm_c1201 22 = some xm_e1201_22 := xm_gt d_1201_22
theorem d_1201_23 : List.drop 23 xm_c1201 = xm_c1201_23 := xm_dr d_1201_22
theorem k_1201_23 : xm_gi xm_c1201 23 = some xm_e1201_23 := xm_gt d_1201_23
theorem d_1201_24 : List.drop 24 xm_c1201 = xm_c1201_24 := xm_dr d_1201_23
theorem k_1201_24 : xm_gi xm_c1201 24 = some xm_e1201_24 := xm_gt d_1201_24
theorem d_1201_25 : List.drop 25 xm_c1201 = xm_c1201_25 := xm_dr d_1201_24
theorem k_1201_25 : xm_gi xm_c1201 25 = some xm_e1201_25 := xm_gt d_1201_25
theorem d_1201_26 : List.drop 26 xm_c1201 = xm_c1201_26 := xm_dr d_1201_25
theorem k_1201_26 : xm_gi xm_c1201 26 = some xm_e1201_26 := xm_gt d_1201_26
theorem d_1201_27 : List.drop 27 xm_c1201 = xm_c1201_27 := xm_dr d_1201_26
theorem k_1201_27 : xm_gi xm_c1201 27 = some xm_e1201_27 := xm_gt d_1201_27
theorem d_1201_28 : List.drop 28 xm_c1201 = xm_c1201_28 := xm_dr d_1201_27
theorem k_1201_28 : xm_gi xm_c1201 28 = some xm_e1201_28 := xm_gt d_1201_28
theorem d_1201_29 : List.drop 29 xm_c1201 = xm_c1201_29 := xm_dr d_1201_28
theorem k_1201_29 : xm_gi xm_c1201 29 = some xm_e1201_29 := xm_gt d_1201_29
theorem d_1201_30 : List.drop 30 xm_c1201 = xm_c1201_30 := xm_dr d_1201_29
theorem k_1201_30 : xm_gi xm_c1201 30 = some xm_e1201_30 := xm_gt d_1201_30
theorem d_1201_31 : List.drop 31 xm_c1201 = xm_c1201_31 := xm_dr d_1201_30
theorem k_1201_31 : xm_gi xm_c1201 31 = some xm_e1201_31 := xm_gt d_1201_31
theorem d_1201_32 : List.drop 32 xm_c1201 = xm_c1201_32 := xm_dr d_1201_31
theorem k_1201_32 : xm_gi xm_c1201 32 = some xm_e1201_32 := xm_gt d_1201_32
theorem d_1201_33 : List.drop 33 xm_c1201 = xm_c1201_33 := xm_dr d_1201_32
theorem k_1201_33 : xm_gi xm_c1201 33 = some xm_e1201_33 := xm_gt d_1201_33
theorem d_1201_34 : List.drop 34 xm_c1201 = xm_c1201_34 := xm_dr d_1201_33
theorem k_1201_34 : xm_gi xm_c1201 34 = some xm_e1201_34 := xm_gt d_1201_34
theorem d_1201_35 : List.drop 35 xm_c1201 = xm_c1201_35 := xm_dr d_1201_34
theorem k_1201_35 : xm_gi xm_c1201 35 = some xm_e1201_35 := xm_gt d_1201_35
theorem d_1201_36 : List.drop 36 xm_c1201 = xm_c1201_36 := xm_dr d_1201_35
theorem k_1201_36 : xm_gi xm_c1201 36 = some xm_e1201_36 := xm_gt d_1201_36
theorem d_1201_37 : List.drop 37 xm_c1201 = xm_c1201_37 := xm_dr d_1201_36
theorem k_1201_37 : xm_gi xm_c1201 37 = some xm_e1201_37 := xm_gt d_1201_37
theorem d_1201_38 : List.drop 38 xm_c1201 = xm_c1201_38 := xm_dr d_1201_37
theorem k_1201_38 : xm_gi xm_c1201 38 = some xm_e1201_38 := xm_gt d_1201_38
theorem d_1201_39 : List.drop 39 xm_c1201 = xm_c1201_39 := xm_dr d_1201_38
theorem k_1201_39 : xm_gi xm_c1201 39 = some xm_e1201_39 := xm_gt d_1201_39
theorem d_1201_40 : List.drop 40 xm_c1201 = xm_c1201_40 := xm_dr d_1201_39
theorem k_1201_40 : xm_gi xm_c1201 40 = some xm_e1201_40 := xm_gt d_1201_40
theorem d_1201_41 : List.drop 41 xm_c1201 = xm_c1201_41 := xm_dr d_1201_40
theorem k_1201_41 : xm_gi xm_c1201 41 = some xm_e1201_41 := xm_gt d_1201_41
theorem d_1201_42 : List.drop 42 xm_c1201 = xm_c1201_42 := xm_dr d_1201_41
theorem k_1201_42 : xm_gi xm_c1201 42 = some xm_e1201_42 := xm_gt d_1201_42
theorem d_1201_43 : List.drop 43 xm_c1201 = xm_c1201_43 := xm_dr d_1201_42
theorem k_1201_43 : xm_gi xm_c1201 43 = some xm_e1201_43 := xm_gt d_1201_43
theorem d_1201_44 : List.drop 44 xm_c1201 = xm_c1201_44 := xm_dr d_1201_43
theorem k_1201_44 : xm_gi xm_c1201 44 = some xm_e1201_44 := xm_gt d_1201_44
theorem d_1201_45 : List.drop 45 xm_c1201 = xm_c1201_45 := xm_dr d_1201_44
theorem k_1201_45 : xm_gi xm_c1201 45 = some xm_e1201_45 := xm_gt d_1201_45
theorem xb_1201_0 {sc : List Int} {f : Nat → List xm_V → xm_W → xm_R} {w : xm_W} {Q : Option xm_V × xm_W → Prop} {x0 : Nat} {x1 : Int} {x2 : Int}
  (h : xm_Oi (f 1200 [.inr (.inl (some x0)), .inl x1, .inl x2] w) (fun z2 w1 => if (0 : Int) < z2 then (xm_Oi (f 1102 [.inr (.inl (some x0)), .inl z2] w1) (fun z4 w3 => Q (some (.inl z4), w3))) else (xm_EQ (xm_old sc) xm_sta f xm_c1201 13 [some (.inr (.inl (some x0))), some (.inl x1), some (.inl x2), some (.inl z2), some (.inl 0)] [] w1 Q))) :
  xm_EQ (xm_old sc) xm_sta f xm_c1201 0 [some (.inr (.inl (some x0))), some (.inl x1), some (.inl x2), none, none] [] w Q :=
  (xq_aload_n k_1201_0 rfl (xq_iload_n k_1201_1 rfl (xq_iload_n k_1201_2 rfl (xq_invv1 k_1201_3 xr_1200 rfl rfl rfl h (fun z2 w1 h => (xq_istore_n k_1201_4 rfl (xq_iload_n k_1201_5 rfl (xq_if_le k_1201_6 h (fun h => (xq_aload_n k_1201_7 rfl (xq_iload_n k_1201_8 rfl (xq_invv1 k_1201_9 xr_1102 rfl rfl rfl h (fun z4 w3 h => (xq_ireturn k_1201_10 h)))))) (fun h => (xq_iconst k_1201_11 (xq_istore k_1201_12 rfl h)))))))))))
theorem xb_1201_13 {sc : List Int} {f : Nat → List xm_V → xm_W → xm_R} {w : xm_W} {Q : Option xm_V × xm_W → Prop} {x0 : Nat} {x1 : Int} {x2 : Int} {x3 : Int} {x4 : Int}
  (h : xm_O (xm_fr (xm_old sc) w x0 9 19) (fun r1 => xm_O (xm_ints (xm_old sc) w r1) (fun l2 => xm_O (xm_at l2 x1) (fun z3 => if (x4 : Int) < z3 then (xm_O (xm_fr (xm_old sc) w x0 9 20) (fun r4 => xm_O (xm_ints (xm_old sc) w r4) (fun l5 => xm_O (xm_at l5 (xm_w ((xm_w (24 * x1)) + x4))) (fun z6 => xm_Oi (f 1150 [.inr (.inl (some x0)), .inl x2, .inl z6] w) (fun z8 w7 => if (z8 : Int) = 0 then (xm_O (xm_fr (xm_old sc) w7 x0 9 20) (fun r9 => xm_O (xm_ints (xm_old sc) w7 r9) (fun l10 => xm_O (xm_at l10 (xm_w ((xm_w (24 * x1)) + x4))) (fun z11 => xm_Ov (f 1151 [.inr (.inl (some x0)), .inl x2, .inl z11] w7) (fun w12 => xm_EQ (xm_old sc) xm_sta f xm_c1201 13 [some (.inr (.inl (some x0))), some (.inl x1), some (.inl x2), some (.inl x3), some (.inl (xm_w (x4 + 1)))] [] w12 Q))))) else (Q (some (.inl x4), w7))))))) else (Q (some (.inl x4), w)))))) :
  xm_EQ (xm_old sc) xm_sta f xm_c1201 13 [some (.inr (.inl (some x0))), some (.inl x1), some (.inl x2), some (.inl x3), some (.inl x4)] [] w Q :=
  (xq_iload k_1201_13 rfl (xq_aload_n k_1201_14 rfl (xq_getr k_1201_15 rfl h (fun r1 h => (xq_iload_n k_1201_16 rfl (xq_iaload k_1201_17 h (fun l2 h => h) (fun l2 z3 h => (xq_ic_ge k_1201_18 h (fun h => (xq_aload_n k_1201_19 rfl (xq_iload_n k_1201_20 rfl (xq_aload_n k_1201_21 rfl (xq_getr k_1201_22 rfl h (fun r4 h => (xq_bipush k_1201_23 (xq_iload_n k_1201_24 rfl (xq_imul k_1201_25 (xq_iload k_1201_26 rfl (xq_iadd k_1201_27 (xq_iaload k_1201_28 h (fun l5 h => h) (fun l5 z6 h => (xq_invv1 k_1201_29 xr_1150 rfl rfl rfl h (fun z8 w7 h => (xq_if_ne k_1201_30 h (fun h => (xq_aload_n k_1201_31 rfl (xq_iload_n k_1201_32 rfl (xq_aload_n k_1201_33 rfl (xq_getr k_1201_34 rfl h (fun r9 h => (xq_bipush k_1201_35 (xq_iload_n k_1201_36 rfl (xq_imul k_1201_37 (xq_iload k_1201_38 rfl (xq_iadd k_1201_39 (xq_iaload k_1201_40 h (fun l10 h => h) (fun l10 z11 h => (xq_invv0 k_1201_41 xr_1151 rfl rfl rfl h (fun w12 h => (xq_iinc k_1201_42 rfl rfl (xq_goto k_1201_43 h))))))))))))))))) (fun h => (xq_iload k_1201_44 rfl (xq_ireturn k_1201_45 h))))))))))))))))))) (fun h => (xq_iload k_1201_44 rfl (xq_ireturn k_1201_45 h)))))))))))
/-- ShodBackwardsModel.judge(II)I -/
theorem d_1202_0 : List.drop 0 xm_c1202 = xm_c1202 := rfl
theorem k_1202_0 : xm_gi xm_c1202 0 = some xm_e1202_0 := xm_gt d_1202_0
theorem d_1202_1 : List.drop 1 xm_c1202 = xm_c1202_1 := xm_dr d_1202_0
theorem k_1202_1 : xm_gi xm_c1202 1 = some xm_e1202_1 := xm_gt d_1202_1
theorem d_1202_2 : List.drop 2 xm_c1202 = xm_c1202_2 := xm_dr d_1202_1
theorem k_1202_2 : xm_gi xm_c1202 2 = some xm_e1202_2 := xm_gt d_1202_2
theorem d_1202_3 : List.drop 3 xm_c1202 = xm_c1202_3 := xm_dr d_1202_2
theorem k_1202_3 : xm_gi xm_c1202 3 = some xm_e1202_3 := xm_gt d_1202_3
theorem d_1202_4 : List.drop 4 xm_c1202 = xm_c1202_4 := xm_dr d_1202_3
theorem k_1202_4 : xm_gi xm_c1202 4 = some xm_e1202_4 := xm_gt d_1202_4
theorem d_1202_5 : List.drop 5 xm_c1202 = xm_c1202_5 := xm_dr d_1202_4
theorem k_1202_5 : xm_gi xm_c1202 5 = some xm_e1202_5 := xm_gt d_1202_5
theorem d_1202_6 : List.drop 6 xm_c1202 = xm_c1202_6 := xm_dr d_1202_5
theorem k_1202_6 : xm_gi xm_c1202 6 = some xm_e1202_6 := xm_gt d_1202_6
theorem d_1202_7 : List.drop 7 xm_c1202 = xm_c1202_7 := xm_dr d_1202_6
theorem k_1202_7 : xm_gi xm_c1202 7 = some xm_e1202_7 := xm_gt d_1202_7
theorem d_1202_8 : List.drop 8 xm_c1202 = xm_c1202_8 := xm_dr d_1202_7
theorem k_1202_8 : xm_gi xm_c1202 8 = some xm_e1202_8 := xm_gt d_1202_8
theorem d_1202_9 : List.drop 9 xm_c1202 = xm_c1202_9 := xm_dr d_1202_8
theorem k_1202_9 : xm_gi xm_c1202 9 = some xm_e1202_9 := xm_gt d_1202_9
theorem d_1202_10 : List.drop 10 xm_c1202 = xm_c1202_10 := xm_dr d_1202_9
theorem k_1202_10 : xm_gi xm_c1202 10 = some xm_e1202_10 := xm_gt d_1202_10
theorem d_1202_11 : List.drop 11 xm_c1202 = xm_c1202_11 := xm_dr d_1202_10
theorem k_1202_11 : xm_gi xm_c1202 11 = some xm_e1202_11 := xm_gt d_1202_11
theorem d_1202_12 : List.drop 12 xm_c1202 = xm_c1202_12 := xm_dr d_1202_11
theorem k_1202_12 : xm_gi xm_c1202 12 = some xm_e1202_12 := xm_gt d_1202_12
theorem d_1202_13 : List.drop 13 xm_c1202 = xm_c1202_13 := xm_dr d_1202_12
theorem k_1202_13 : xm_gi xm_c1202 13 = some xm_e1202_13 := xm_gt d_1202_13
theorem d_1202_14 : List.drop 14 xm_c1202 = xm_c1202_14 := xm_dr d_1202_13
theorem k_1202_14 : xm_gi xm_c1202 14 = some xm_e1202_14 := xm_gt d_1202_14
theorem d_1202_15 : List.drop 15 xm_c1202 = xm_c1202_15 := xm_dr d_1202_14
theorem k_1202_15 : xm_gi xm_c1202 15 = some xm_e1202_15 := xm_gt d_1202_15
theorem d_1202_16 : List.drop 16 xm_c1202 = xm_c1202_16 := xm_dr d_1202_15
theorem k_1202_16 : xm_gi xm_c1202 16 = some xm_e1202_16 := xm_gt d_1202_16
theorem d_1202_17 : List.drop 17 xm_c1202 = xm_c1202_17 := xm_dr d_1202_16
theorem k_1202_17 : xm_gi xm_c1202 17 = some xm_e1202_17 := xm_gt d_1202_17
theorem d_1202_18 : List.drop 18 xm_c1202 = xm_c1202_18 := xm_dr d_1202_17
theorem k_1202_18 : xm_gi xm_c1202 18 = some xm_e1202_18 := xm_gt d_1202_18
theorem d_1202_19 : List.drop 19 xm_c1202 = xm_c1202_19 := xm_dr d_1202_18
theorem k_1202_19 : xm_gi xm_c1202 19 = some xm_e1202_19 := xm_gt d_1202_19
theorem d_1202_20 : List.drop 20 xm_c1202 = xm_c1202_20 := xm_dr d_1202_19
theorem k_1202_20 : xm_gi xm_c1202 20 = some xm_e1202_20 := xm_gt d_1202_20
theorem d_1202_21 : List.drop 21 xm_c1202 = xm_c1202_21 := xm_dr d_1202_20
theorem k_1202_21 : xm_gi xm_c1202 21 = some xm_e1202_21 := xm_gt d_1202_21
theorem d_1202_22 : List.drop 22 xm_c1202 = xm_c1202_22 := xm_dr d_1202_21
theorem k_1202_22 : xm_gi xm_c1202 22 = some xm_e1202_22 := xm_gt d_1202_22
theorem d_1202_23 : List.drop 23 xm_c1202 = xm_c1202_23 := xm_dr d_1202_22
theorem k_1202_23 : xm_gi xm_c1202 23 = some xm_e1202_23 := xm_gt d_1202_23
theorem d_1202_24 : List.drop 24 xm_c1202 = xm_c1202_24 := xm_dr d_1202_23
theorem k_1202_24 : xm_gi xm_c1202 24 = some xm_e1202_24 := xm_gt d_1202_24
theorem d_1202_25 : List.drop 25 xm_c1202 = xm_c1202_25 := xm_dr d_1202_24
theorem k_1202_25 : xm_gi xm_c1202 25 = some xm_e1202_25 := xm_gt d_1202_25
theorem d_1202_26 : List.drop 26 xm_c1202 = xm_c1202_26 := xm_dr d_1202_25
theorem k_1202_26 : xm_gi xm_c1202 26 = some xm_e1202_26 := xm_gt d_1202_26
theorem d_1202_27 : List.drop 27 xm_c1202 = xm_c1202_27 := xm_dr d_1202_26
theorem k_1202_27 : xm_gi xm_c1202 27 = some xm_e1202_27 := xm_gt d_1202_27
theorem d_1202_28 : List.drop 28 xm_c1202 = xm_c1202_28 := xm_dr d_1202_27
theorem k_1202_28 : xm_gi xm_c1202 28 = some xm_e1202_28 := xm_gt d_1202_28
theorem d_1202_29 : List.drop 29 xm_c1202 = xm_c1202_29 := xm_dr d_1202_28
theorem k_1202_29 : xm_gi xm_c1202 29 = some xm_e1202_29 := xm_gt d_1202_29
theorem d_1202_30 : List.drop 30 xm_c1202 = xm_c1202_30 := xm_dr d_1202_29
theorem k_1202_30 : xm_gi xm_c1202 30 = some xm_e1202_30 := xm_gt d_1202_30
theorem d_1202_31 : List.drop 31 xm_c1202 = xm_c1202_31 := xm_dr d_1202_30
theorem k_1202_31 : xm_gi xm_c1202 31 = some xm_e1202_31 := xm_gt d_1202_31
theorem d_1202_32 : List.drop 32 xm_c1202 = xm_c1202_32 := xm_dr d_1202_31
theorem k_1202_32 : xm_gi xm_c1202 32 = some xm_e1202_32 := xm_gt d_1202_32
theorem d_1202_33 : List.drop 33 xm_c1202 = xm_c1202_33 := xm_dr d_1202_32
theorem k_1202_33 : xm_gi xm_c1202 33 = some xm_e1202_33 := xm_gt d_1202_33
theorem d_1202_34 : List.drop 34 xm_c1202 = xm_c1202_34 := xm_dr d_1202_33
theorem k_1202_34 : xm_gi xm_c1202 34 = some xm_e1202_34 := xm_gt d_1202_34
theorem d_1202_35 : List.drop 35 xm_c1202 = xm_c1202_35 := xm_dr d_1202_34
theorem k_1202_35 : xm_gi xm_c1202 35 = some xm_e1202_35 := xm_gt d_1202_35
theorem d_1202_36 : List.drop 36 xm_c1202 = xm_c1202_36 := xm_dr d_1202_35
theorem k_1202_36 : xm_gi xm_c1202 36 = some xm_e1202_36 := xm_gt d_1202_36
theorem d_1202_37 : List.drop 37 xm_c1202 = xm_c1202_37 := xm_dr d_1202_36
theorem k_1202_37 : xm_gi xm_c1202 37 = some xm_e1202_37 := xm_gt d_1202_37
theorem d_1202_38 : List.drop 38 xm_c1202 = xm_c1202_38 := xm_dr d_1202_37
theorem k_1202_38 : xm_gi xm_c1202 38 = some xm_e1202_38 := xm_gt d_1202_38
theorem d_1202_39 : List.drop 39 xm_c1202 = xm_c1202_39 := xm_dr d_1202_38
theorem k_1202_39 : xm_gi xm_c1202 39 = some xm_e1202_39 := xm_gt d_1202_39
theorem d_1202_40 : List.drop 40 xm_c1202 = xm_c1202_40 := xm_dr d_1202_39
theorem k_1202_40 : xm_gi xm_c1202 40 = some xm_e1202_40 := xm_gt d_1202_40
theorem d_1202_41 : List.drop 41 xm_c1202 = xm_c1202_41 := xm_dr d_1202_40
theorem k_1202_41 : xm_gi xm_c1202 41 = some xm_e1202_41 := xm_gt d_1202_41
theorem xb_1202_0 {sc : List Int} {f : Nat → List xm_V → xm_W → xm_R} {w : xm_W} {Q : Option xm_V × xm_W → Prop} {x0 : Nat} {x1 : Int} {x2 : Int}
  (h : xm_Oi (f 1200 [.inr (.inl (some x0)), .inl x1, .inl x2] w) (fun z2 w1 => if (0 : Int) < z2 then (xm_Oi (f 1102 [.inr (.inl (some x0)), .inl z2] w1) (fun z5 w4 => Q (some (.inl z5), w4))) else (xm_Ov (f 1106 [.inr (.inl (some x0))] w1) (fun w3 => xm_EQ (xm_old sc) xm_sta f xm_c1202 15 [some (.inr (.inl (some x0))), some (.inl x1), some (.inl x2), some (.inl z2), some (.inl 0)] [] w3 Q)))) :
  xm_EQ (xm_old sc) xm_sta f xm_c1202 0 [some (.inr (.inl (some x0))), some (.inl x1), some (.inl x2), none, none] [] w Q :=
  (xq_aload_n k_1202_0 rfl (xq_iload_n k_1202_1 rfl (xq_iload_n k_1202_2 rfl (xq_invv1 k_1202_3 xr_1200 rfl rfl rfl h (fun z2 w1 h => (xq_istore_n k_1202_4 rfl (xq_iload_n k_1202_5 rfl (xq_if_le k_1202_6 h (fun h => (xq_aload_n k_1202_7 rfl (xq_iload_n k_1202_8 rfl (xq_invv1 k_1202_9 xr_1102 rfl rfl rfl h (fun z5 w4 h => (xq_ireturn k_1202_10 h)))))) (fun h => (xq_aload_n k_1202_11 rfl (xq_invv0 k_1202_12 xr_1106 rfl rfl rfl h (fun w3 h => (xq_iconst k_1202_13 (xq_istore k_1202_14 rfl h))))))))))))))
theorem xb_1202_15 {sc : List Int} {f : Nat → List xm_V → xm_W → xm_R} {w : xm_W} {Q : Option xm_V × xm_W → Prop} {x0 : Nat} {x1 : Int} {x2 : Int} {x3 : Int} {x4 : Int}
  (h : xm_O (xm_fr (xm_old sc) w x0 9 19) (fun r1 => xm_O (xm_ints (xm_old sc) w r1) (fun l2 => xm_O (xm_at l2 x1) (fun z3 => if (x4 : Int) < z3 then (xm_O (xm_fr (xm_old sc) w x0 9 20) (fun r5 => xm_O (xm_ints (xm_old sc) w r5) (fun l6 => xm_O (xm_at l6 (xm_w ((xm_w (24 * x1)) + x4))) (fun z7 => xm_Oi (f 1110 [.inr (.inl (some x0)), .inl x2, .inl 2] w) (fun z9 w8 => if (z7 : Int) = z9 then (xm_Ov (f 1156 [.inr (.inl (some x0))] w8) (fun w11 => xm_EQ (xm_old sc) xm_sta f xm_c1202 15 [some (.inr (.inl (some x0))), some (.inl x1), some (.inl x2), some (.inl x3), some (.inl (xm_w (x4 + 1)))] [] w11 Q)) else (xm_Ov (f 1107 [.inr (.inl (some x0))] w8) (fun w10 => Q (some (.inl x4), w10)))))))) else (xm_Ov (f 1107 [.inr (.inl (some x0))] w) (fun w4 => Q (some (.inl x4), w4))))))) :
  xm_EQ (xm_old sc) xm_sta f xm_c1202 15 [some (.inr (.inl (some x0))), some (.inl x1), some (.inl x2), some (.inl x3), some (.inl x4)] [] w Q :=
  (xq_iload k_1202_15 rfl (xq_aload_n k_1202_16 rfl (xq_getr k_1202_17 rfl h (fun r1 h => (xq_iload_n k_1202_18 rfl (xq_iaload k_1202_19 h (fun l2 h => h) (fun l2 z3 h => (xq_ic_ge k_1202_20 h (fun h => (xq_aload_n k_1202_21 rfl (xq_getr k_1202_22 rfl h (fun r5 h => (xq_bipush k_1202_23 (xq_iload_n k_1202_24 rfl (xq_imul k_1202_25 (xq_iload k_1202_26 rfl (xq_iadd k_1202_27 (xq_iaload k_1202_28 h (fun l6 h => h) (fun l6 z7 h => (xq_aload_n k_1202_29 rfl (xq_iload_n k_1202_30 rfl (xq_iconst k_1202_31 (xq_invv1 k_1202_32 xr_1110 rfl rfl rfl h (fun z9 w8 h => (xq_ic_ne k_1202_33 h (fun h => (xq_aload_n k_1202_34 rfl (xq_invv0 k_1202_35 xr_1156 rfl rfl rfl h (fun w11 h => (xq_iinc k_1202_36 rfl rfl (xq_goto k_1202_37 h)))))) (fun h => (xq_aload_n k_1202_38 rfl (xq_invv0 k_1202_39 xr_1107 rfl rfl rfl h (fun w10 h => (xq_iload k_1202_40 rfl (xq_ireturn k_1202_41 h))))))))))))))))))))))) (fun h => (xq_aload_n k_1202_38 rfl (xq_invv0 k_1202_39 xr_1107 rfl rfl rfl h (fun w4 h => (xq_iload k_1202_40 rfl (xq_ireturn k_1202_41 h))))))))))))))
/-- ShodBackwardsModel.image()I -/
theorem d_1203_0 : List.drop 0 xm_c1203 = xm_c1203 := rfl
theorem k_1203_0 : xm_gi xm_c1203 0 = some xm_e1203_0 := xm_gt d_1203_0
theorem d_1203_1 : List.drop 1 xm_c1203 = xm_c1203_1 := xm_dr d_1203_0
theorem k_1203_1 : xm_gi xm_c1203 1 = some xm_e1203_1 := xm_gt d_1203_1
theorem d_1203_2 : List.drop 2 xm_c1203 = xm_c1203_2 := xm_dr d_1203_1
theorem k_1203_2 : xm_gi xm_c1203 2 = some xm_e1203_2 := xm_gt d_1203_2
theorem d_1203_3 : List.drop 3 xm_c1203 = xm_c1203_3 := xm_dr d_1203_2
theorem k_1203_3 : xm_gi xm_c1203 3 = some xm_e1203_3 := xm_gt d_1203_3
theorem d_1203_4 : List.drop 4 xm_c1203 = xm_c1203_4 := xm_dr d_1203_3
theorem k_1203_4 : xm_gi xm_c1203 4 = some xm_e1203_4 := xm_gt d_1203_4
theorem d_1203_5 : List.drop 5 xm_c1203 = xm_c1203_5 := xm_dr d_1203_4
theorem k_1203_5 : xm_gi xm_c1203 5 = some xm_e1203_5 := xm_gt d_1203_5
theorem d_1203_6 : List.drop 6 xm_c1203 = xm_c1203_6 := xm_dr d_1203_5
theorem k_1203_6 : xm_gi xm_c1203 6 = some xm_e1203_6 := xm_gt d_1203_6
theorem d_1203_7 : List.drop 7 xm_c1203 = xm_c1203_7 := xm_dr d_1203_6
theorem k_1203_7 : xm_gi xm_c1203 7 = some xm_e1203_7 := xm_gt d_1203_7
theorem d_1203_8 : List.drop 8 xm_c1203 = xm_c1203_8 := xm_dr d_1203_7
theorem k_1203_8 : xm_gi xm_c1203 8 = some xm_e1203_8 := xm_gt d_1203_8
theorem d_1203_9 : List.drop 9 xm_c1203 = xm_c1203_9 := xm_dr d_1203_8
theorem k_1203_9 : xm_gi xm_c1203 9 = some xm_e1203_9 := xm_gt d_1203_9
theorem d_1203_10 : List.drop 10 xm_c1203 = xm_c1203_10 := xm_dr d_1203_9
theorem k_1203_10 : xm_gi xm_c1203 10 = some xm_e1203_10 := xm_gt d_1203_10
theorem d_1203_11 : List.drop 11 xm_c1203 = xm_c1203_11 := xm_dr d_1203_10
theorem k_1203_11 : xm_gi xm_c1203 11 = some xm_e1203_11 := xm_gt d_1203_11
theorem d_1203_12 : List.drop 12 xm_c1203 = xm_c1203_12 := xm_dr d_1203_11
theorem k_1203_12 : xm_gi xm_c1203 12 = some xm_e1203_12 := xm_gt d_1203_12
theorem d_1203_13 : List.drop 13 xm_c1203 = xm_c1203_13 := xm_dr d_1203_12
theorem k_1203_13 : xm_gi xm_c1203 13 = some xm_e1203_13 := xm_gt d_1203_13
theorem d_1203_14 : List.drop 14 xm_c1203 = xm_c1203_14 := xm_dr d_1203_13
theorem k_1203_14 : xm_gi xm_c1203 14 = some xm_e1203_14 := xm_gt d_1203_14
theorem xb_1203_0 {sc : List Int} {f : Nat → List xm_V → xm_W → xm_R} {w : xm_W} {Q : Option xm_V × xm_W → Prop} {x0 : Nat}
  (h : xm_O (xm_fr (xm_old sc) w x0 9 0) (fun r1 => xm_O (xm_fr (xm_old sc) w x0 9 1) (fun r2 => xm_Ov (f 1105 [.inr (.inl (some r1)), .inr (.inl (some r2)), .inl 673] w) (fun w3 => xm_O (xm_fi (xm_old sc) w3 x0 9 4) (fun z4 => xm_O (xm_setf w3 x0 9 4 0 (.inl (xm_w (z4 + 1)))) (fun w5 => xm_O (xm_fi (xm_old sc) w5 x0 9 4) (fun z6 => Q (some (.inl z6), w5)))))))) :
  xm_EQ (xm_old sc) xm_sta f xm_c1203 0 [some (.inr (.inl (some x0)))] [] w Q :=
  (xq_aload_n k_1203_0 rfl (xq_getr k_1203_1 rfl h (fun r1 h => (xq_aload_n k_1203_2 rfl (xq_getr k_1203_3 rfl h (fun r2 h => (xq_sipush k_1203_4 (xq_invs0 k_1203_5 xr_1105 rfl rfl rfl h (fun w3 h => (xq_aload_n k_1203_6 rfl (xq_dupr k_1203_7 (xq_geti0 k_1203_8 rfl h (fun z4 h => (xq_iconst k_1203_9 (xq_iadd k_1203_10 (xq_put k_1203_11 rfl h (fun w5 h => (xq_aload_n k_1203_12 rfl (xq_geti0 k_1203_13 rfl h (fun z6 h => (xq_ireturn k_1203_14 h)))))))))))))))))))))
/-- ShodBackwardsModel.restore()I -/
theorem d_1204_0 : List.drop 0 xm_c1204 = xm_c1204 := rfl
theorem k_1204_0 : xm_gi xm_c1204 0 = some xm_e1204_0 := xm_gt d_1204_0
theorem d_1204_1 : List.drop 1 xm_c1204 = xm_c1204_1 := xm_dr d_1204_0
theorem k_1204_1 : xm_gi xm_c1204 1 = some xm_e1204_1 := xm_gt d_1204_1
theorem d_1204_2 : List.drop 2 xm_c1204 = xm_c1204_2 := xm_dr d_1204_1
theorem k_1204_2 : xm_gi xm_c1204 2 = some xm_e1204_2 := xm_gt d_1204_2
theorem d_1204_3 : List.drop 3 xm_c1204 = xm_c1204_3 := xm_dr d_1204_2
theorem k_1204_3 : xm_gi xm_c1204 3 = some xm_e1204_3 := xm_gt d_1204_3
theorem d_1204_4 : List.drop 4 xm_c1204 = xm_c1204_4 := xm_dr d_1204_3
theorem k_1204_4 : xm_gi xm_c1204 4 = some xm_e1204_4 := xm_gt d_1204_4
theorem d_1204_5 : List.drop 5 xm_c1204 = xm_c1204_5 := xm_dr d_1204_4
theorem k_1204_5 : xm_gi xm_c1204 5 = some xm_e1204_5 := xm_gt d_1204_5
theorem d_1204_6 : List.drop 6 xm_c1204 = xm_c1204_6 := xm_dr d_1204_5
theorem k_1204_6 : xm_gi xm_c1204 6 = some xm_e1204_6 := xm_gt d_1204_6
theorem d_1204_7 : List.drop 7 xm_c1204 = xm_c1204_7 := xm_dr d_1204_6
theorem k_1204_7 : xm_gi xm_c1204 7 = some xm_e1204_7 := xm_gt d_1204_7
theorem d_1204_8 : List.drop 8 xm_c1204 = xm_c1204_8 := xm_dr d_1204_7
theorem k_1204_8 : xm_gi xm_c1204 8 = some xm_e1204_8 := xm_gt d_1204_8
theorem d_1204_9 : List.drop 9 xm_c1204 = xm_c1204_9 := xm_dr d_1204_8
theorem k_1204_9 : xm_gi xm_c1204 9 = some xm_e1204_9 := xm_gt d_1204_9
theorem d_1204_10 : List.drop 10 xm_c1204 = xm_c1204_10 := xm_dr d_1204_9
theorem k_1204_10 : xm_gi xm_c1204 10 = some xm_e1204_10 := xm_gt d_1204_10
theorem d_1204_11 : List.drop 11 xm_c1204 = xm_c1204_11 := xm_dr d_1204_10
theorem k_1204_11 : xm_gi xm_c1204 11 = some xm_e1204_11 := xm_gt d_1204_11
theorem d_1204_12 : List.drop 12 xm_c1204 = xm_c1204_12 := xm_dr d_1204_11
theorem k_1204_12 : xm_gi xm_c1204 12 = some xm_e1204_12 := xm_gt d_1204_12
theorem d_1204_13 : List.drop 13 xm_c1204 = xm_c1204_13 := xm_dr d_1204_12
theorem k_1204_13 : xm_gi xm_c1204 13 = some xm_e1204_13 := xm_gt d_1204_13
theorem d_1204_14 : List.drop 14 xm_c1204 = xm_c1204_14 := xm_dr d_1204_13
theorem k_1204_14 : xm_gi xm_c1204 14 = some xm_e1204_14 := xm_gt d_1204_14
theorem d_1204_15 : List.drop 15 xm_c1204 = xm_c1204_15 := xm_dr d_1204_14
theorem k_1204_15 : xm_gi xm_c1204 15 = some xm_e1204_15 := xm_gt d_1204_15
theorem d_1204_16 : List.drop 16 xm_c1204 = xm_c1204_16 := xm_dr d_1204_15
theorem k_1204_16 : xm_gi xm_c1204 16 = some xm_e1204_16 := xm_gt d_1204_16
theorem d_1204_17 : List.drop 17 xm_c1204 = xm_c1204_17 := xm_dr d_1204_16
theorem k_1204_17 : xm_gi xm_c1204 17 = some xm_e1204_17 := xm_gt d_1204_17
theorem xb_1204_0 {sc : List Int} {f : Nat → List xm_V → xm_W → xm_R} {w : xm_W} {Q : Option xm_V × xm_W → Prop} {x0 : Nat}
  (h : xm_O (xm_fi (xm_old sc) w x0 9 4) (fun z1 => if (z1 : Int) = 0 then (xm_Oi (f 1102 [.inr (.inl (some x0)), .inl 2] w) (fun z9 w8 => Q (some (.inl z9), w8))) else (xm_O (xm_fr (xm_old sc) w x0 9 1) (fun r2 => xm_O (xm_fr (xm_old sc) w x0 9 0) (fun r3 => xm_Ov (f 1105 [.inr (.inl (some r2)), .inr (.inl (some r3)), .inl 673] w) (fun w4 => xm_O (xm_fr (xm_old sc) w4 x0 9 0) (fun r5 => xm_O (xm_ints (xm_old sc) w4 r5) (fun l6 => xm_O (xm_at l6 1) (fun z7 => Q (some (.inl z7), w4)))))))))) :
  xm_EQ (xm_old sc) xm_sta f xm_c1204 0 [some (.inr (.inl (some x0)))] [] w Q :=
  (xq_aload_n k_1204_0 rfl (xq_geti0 k_1204_1 rfl h (fun z1 h => (xq_if_ne k_1204_2 h (fun h => (xq_aload_n k_1204_3 rfl (xq_iconst k_1204_4 (xq_invv1 k_1204_5 xr_1102 rfl rfl rfl h (fun z9 w8 h => (xq_ireturn k_1204_6 h)))))) (fun h => (xq_aload_n k_1204_7 rfl (xq_getr k_1204_8 rfl h (fun r2 h => (xq_aload_n k_1204_9 rfl (xq_getr k_1204_10 rfl h (fun r3 h => (xq_sipush k_1204_11 (xq_invs0 k_1204_12 xr_1105 rfl rfl rfl h (fun w4 h => (xq_aload_n k_1204_13 rfl (xq_getr k_1204_14 rfl h (fun r5 h => (xq_iconst k_1204_15 (xq_iaload k_1204_16 h (fun l6 h => h) (fun l6 z7 h => (xq_ireturn k_1204_17 h)))))))))))))))))))))
/-- ShodBackwardsModel.tell(I)I -/
theorem d_1205_0 : List.drop 0 xm_c1205 = xm_c1205 := rfl
theorem k_1205_0 : xm_gi xm_c1205 0 = some xm_e1205_0 := xm_gt d_1205_0
theorem d_1205_1 : List.drop 1 xm_c1205 = xm_c1205_1 := xm_dr d_1205_0
theorem k_1205_1 : xm_gi xm_c1205 1 = some xm_e1205_1 := xm_gt d_1205_1
theorem d_1205_2 : List.drop 2 xm_c1205 = xm_c1205_2 := xm_dr d_1205_1
theorem k_1205_2 : xm_gi xm_c1205 2 = some xm_e1205_2 := xm_gt d_1205_2
theorem d_1205_3 : List.drop 3 xm_c1205 = xm_c1205_3 := xm_dr d_1205_2
theorem k_1205_3 : xm_gi xm_c1205 3 = some xm_e1205_3 := xm_gt d_1205_3
theorem d_1205_4 : List.drop 4 xm_c1205 = xm_c1205_4 := xm_dr d_1205_3
theorem k_1205_4 : xm_gi xm_c1205 4 = some xm_e1205_4 := xm_gt d_1205_4
theorem d_1205_5 : List.drop 5 xm_c1205 = xm_c1205_5 := xm_dr d_1205_4
theorem k_1205_5 : xm_gi xm_c1205 5 = some xm_e1205_5 := xm_gt d_1205_5
theorem d_1205_6 : List.drop 6 xm_c1205 = xm_c1205_6 := xm_dr d_1205_5
theorem k_1205_6 : xm_gi xm_c1205 6 = some xm_e1205_6 := xm_gt d_1205_6
theorem d_1205_7 : List.drop 7 xm_c1205 = xm_c1205_7 := xm_dr d_1205_6
theorem k_1205_7 : xm_gi xm_c1205 7 = some xm_e1205_7 := xm_gt d_1205_7
theorem d_1205_8 : List.drop 8 xm_c1205 = xm_c1205_8 := xm_dr d_1205_7
theorem k_1205_8 : xm_gi xm_c1205 8 = some xm_e1205_8 := xm_gt d_1205_8
theorem d_1205_9 : List.drop 9 xm_c1205 = xm_c1205_9 := xm_dr d_1205_8
theorem k_1205_9 : xm_gi xm_c1205 9 = some xm_e1205_9 := xm_gt d_1205_9
theorem d_1205_10 : List.drop 10 xm_c1205 = xm_c1205_10 := xm_dr d_1205_9
theorem k_1205_10 : xm_gi xm_c1205 10 = some xm_e1205_10 := xm_gt d_1205_10
theorem d_1205_11 : List.drop 11 xm_c1205 = xm_c1205_11 := xm_dr d_1205_10
theorem k_1205_11 : xm_gi xm_c1205 11 = some xm_e1205_11 := xm_gt d_1205_11
theorem d_1205_12 : List.drop 12 xm_c1205 = xm_c1205_12 := xm_dr d_1205_11
theorem k_1205_12 : xm_gi xm_c1205 12 = some xm_e1205_12 := xm_gt d_1205_12
theorem d_1205_13 : List.drop 13 xm_c1205 = xm_c1205_13 := xm_dr d_1205_12
theorem k_1205_13 : xm_gi xm_c1205 13 = some xm_e1205_13 := xm_gt d_1205_13
theorem d_1205_14 : List.drop 14 xm_c1205 = xm_c1205_14 := xm_dr d_1205_13
theorem k_1205_14 : xm_gi xm_c1205 14 = some xm_e1205_14 := xm_gt d_1205_14
theorem d_1205_15 : List.drop 15 xm_c1205 = xm_c1205_15 := xm_dr d_1205_14
theorem k_1205_15 : xm_gi xm_c1205 15 = some xm_e1205_15 := xm_gt d_1205_15
theorem d_1205_16 : List.drop 16 xm_c1205 = xm_c1205_16 := xm_dr d_1205_15
theorem k_1205_16 : xm_gi xm_c1205 16 = some xm_e1205_16 := xm_gt d_1205_16
theorem d_1205_17 : List.drop 17 xm_c1205 = xm_c1205_17 := xm_dr d_1205_16
theorem k_1205_17 : xm_gi xm_c1205 17 = some xm_e1205_17 := xm_gt d_1205_17
theorem d_1205_18 : List.drop 18 xm_c1205 = xm_c1205_18 := xm_dr d_1205_17
theorem k_1205_18 : xm_gi xm_c1205 18 = some xm_e1205_18 := xm_gt d_1205_18
theorem d_1205_19 : List.drop 19 xm_c1205 = xm_c1205_19 := xm_dr d_1205_18
theorem k_1205_19 : xm_gi xm_c1205 19 = some xm_e1205_19 := xm_gt d_1205_19
theorem d_1205_20 : List.drop 20 xm_c1205 = xm_c1205_20 := xm_dr d_1205_19
theorem k_1205_20 : xm_gi xm_c1205 20 = some xm_e1205_20 := xm_gt d_1205_20
theorem d_1205_21 : List.drop 21 xm_c1205 = xm_c1205_21 := xm_dr d_1205_20
theorem k_1205_21 : xm_gi xm_c1205 21 = some xm_e1205_21 := xm_gt d_1205_21
theorem d_1205_22 : List.drop 22 xm_c1205 = xm_c1205_22 := xm_dr d_1205_21
theorem k_1205_22 : xm_gi xm_c1205 22 = some xm_e1205_22 := xm_gt d_1205_22
theorem d_1205_23 : List.drop 23 xm_c1205 = xm_c1205_23 := xm_dr d_1205_22
theorem k_1205_23 : xm_gi xm_c1205 23 = some xm_e1205_23 := xm_gt d_1205_23
theorem d_1205_24 : List.drop 24 xm_c1205 = xm_c1205_24 := xm_dr d_1205_23
theorem k_1205_24 : xm_gi xm_c1205 24 = some xm_e1205_24 := xm_gt d_1205_24
theorem d_1205_25 : List.drop 25 xm_c1205 = xm_c1205_25 := xm_dr d_1205_24
theorem k_1205_25 : xm_gi xm_c1205 25 = some xm_e1205_25 := xm_gt d_1205_25
theorem d_1205_26 : List.drop 26 xm_c1205 = xm_c1205_26 := xm_dr d_1205_25
theorem k_1205_26 : xm_gi xm_c1205 26 = some xm_e1205_26 := xm_gt d_1205_26
theorem d_1205_27 : List.drop 27 xm_c1205 = xm_c1205_27 := xm_dr d_1205_26
theorem k_1205_27 : xm_gi xm_c1205 27 = some xm_e1205_27 := xm_gt d_1205_27
theorem d_1205_28 : List.drop 28 xm_c1205 = xm_c1205_28 := xm_dr d_1205_27
theorem k_1205_28 : xm_gi xm_c1205 28 = some xm_e1205_28 := xm_gt d_1205_28
theorem d_1205_29 : List.drop 29 xm_c1205 = xm_c1205_29 := xm_dr d_1205_28
theorem k_1205_29 : xm_gi xm_c1205 29 = some xm_e1205_29 := xm_gt d_1205_29
theorem d_1205_30 : List.drop 30 xm_c1205 = xm_c1205_30 := xm_dr d_1205_29
theorem k_1205_30 : xm_gi xm_c1205 30 = some xm_e1205_30 := xm_gt d_1205_30
theorem d_1205_31 : List.drop 31 xm_c1205 = xm_c1205_31 := xm_dr d_1205_30
theorem k_1205_31 : xm_gi xm_c1205 31 = some xm_e1205_31 := xm_gt d_1205_31
theorem d_1205_32 : List.drop 32 xm_c1205 = xm_c1205_32 := xm_dr d_1205_31
theorem k_1205_32 : xm_gi xm_c1205 32 = some xm_e1205_32 := xm_gt d_1205_32
theorem xb_1205_0 {sc : List Int} {f : Nat → List xm_V → xm_W → xm_R} {w : xm_W} {Q : Option xm_V × xm_W → Prop} {x0 : Nat} {x1 : Int}
  (h : xm_O (xm_fr (xm_old sc) w x0 9 0) (fun r1 => xm_O (xm_ints (xm_old sc) w r1) (fun l2 => xm_O (xm_at l2 5) (fun z3 => if (z3 : Int) = 24 then (xm_Oi (f 1102 [.inr (.inl (some x0)), .inl 4] w) (fun z17 w16 => Q (some (.inl z17), w16))) else (xm_O (xm_fr (xm_old sc) w x0 9 0) (fun r4 => xm_O (xm_fr (xm_old sc) w x0 9 0) (fun r5 => xm_O (xm_ints (xm_old sc) w r5) (fun l6 => xm_O (xm_at l6 5) (fun z7 => xm_O (xm_seti w r4 (xm_w (649 + z7)) x1) (fun w8 => xm_O (xm_fr (xm_old sc) w8 x0 9 0) (fun r9 => xm_O (xm_ints (xm_old sc) w8 r9) (fun l10 => xm_O (xm_at l10 5) (fun z11 => xm_O (xm_seti w8 r9 5 (xm_w (z11 + 1))) (fun w12 => xm_O (xm_fr (xm_old sc) w12 x0 9 0) (fun r13 => xm_O (xm_ints (xm_old sc) w12 r13) (fun l14 => xm_O (xm_at l14 5) (fun z15 => Q (some (.inl z15), w12)))))))))))))))))) :
  xm_EQ (xm_old sc) xm_sta f xm_c1205 0 [some (.inr (.inl (some x0))), some (.inl x1)] [] w Q :=
  (xq_aload_n k_1205_0 rfl (xq_getr k_1205_1 rfl h (fun r1 h => (xq_iconst k_1205_2 (xq_iaload k_1205_3 h (fun l2 h => h) (fun l2 z3 h => (xq_bipush k_1205_4 (xq_ic_ne k_1205_5 h (fun h => (xq_aload_n k_1205_6 rfl (xq_iconst k_1205_7 (xq_invv1 k_1205_8 xr_1102 rfl rfl rfl h (fun z17 w16 h => (xq_ireturn k_1205_9 h)))))) (fun h => (xq_aload_n k_1205_10 rfl (xq_getr k_1205_11 rfl h (fun r4 h => (xq_sipush k_1205_12 (xq_aload_n k_1205_13 rfl (xq_getr k_1205_14 rfl h (fun r5 h => (xq_iconst k_1205_15 (xq_iaload k_1205_16 h (fun l6 h => h) (fun l6 z7 h => (xq_iadd k_1205_17 (xq_iload_n k_1205_18 rfl (xq_iastore k_1205_19 h (fun w8 h => (xq_aload_n k_1205_20 rfl (xq_getr k_1205_21 rfl h (fun r9 h => (xq_iconst k_1205_22 (xq_dup2 k_1205_23 (xq_iaload k_1205_24 h (fun l10 h => h) (fun l10 z11 h => (xq_iconst k_1205_25 (xq_iadd k_1205_26 (xq_iastore k_1205_27 h (fun w12 h => (xq_aload_n k_1205_28 rfl (xq_getr k_1205_29 rfl h (fun r13 h => (xq_iconst k_1205_30 (xq_iaload k_1205_31 h (fun l14 h => h) (fun l14 z15 h => (xq_ireturn k_1205_32 h)))))))))))))))))))))))))))))))))))))))))
/-- ShodBackwardsModel.check()I -/
theorem d_1206_0 : List.drop 0 xm_c1206 = xm_c1206 := rfl
theorem k_1206_0 : xm_gi xm_c1206 0 = some xm_e1206_0 := xm_gt d_1206_0
theorem d_1206_1 : List.drop 1 xm_c1206 = xm_c1206_1 := xm_dr d_1206_0
theorem k_1206_1 : xm_gi xm_c1206 1 = some xm_e1206_1 := xm_gt d_1206_1
theorem d_1206_2 : List.drop 2 xm_c1206 = xm_c1206_2 := xm_dr d_1206_1
theorem k_1206_2 : xm_gi xm_c1206 2 = some xm_e1206_2 := xm_gt d_1206_2
theorem d_1206_3 : List.drop 3 xm_c1206 = xm_c1206_3 := xm_dr d_1206_2
theorem k_1206_3 : xm_gi xm_c1206 3 = some xm_e1206_3 := xm_gt d_1206_3
theorem d_1206_4 : List.drop 4 xm_c1206 = xm_c1206_4 := xm_dr d_1206_3
theorem k_1206_4 : xm_gi xm_c1206 4 = some xm_e1206_4 := xm_gt d_1206_4
theorem d_1206_5 : List.drop 5 xm_c1206 = xm_c1206_5 := xm_dr d_1206_4
theorem k_1206_5 : xm_gi xm_c1206 5 = some xm_e1206_5 := xm_gt d_1206_5
theorem d_1206_6 : List.drop 6 xm_c1206 = xm_c1206_6 := xm_dr d_1206_5
theorem k_1206_6 : xm_gi xm_c1206 6 = some xm_e1206_6 := xm_gt d_1206_6
theorem d_1206_7 : List.drop 7 xm_c1206 = xm_c1206_7 := xm_dr d_1206_6
theorem k_1206_7 : xm_gi xm_c1206 7 = some xm_e1206_7 := xm_gt d_1206_7
theorem d_1206_8 : List.drop 8 xm_c1206 = xm_c1206_8 := xm_dr d_1206_7
theorem k_1206_8 : xm_gi xm_c1206 8 = some xm_e1206_8 := xm_gt d_1206_8
theorem d_1206_9 : List.drop 9 xm_c1206 = xm_c1206_9 := xm_dr d_1206_8
theorem k_1206_9 : xm_gi xm_c1206 9 = some xm_e1206_9 := xm_gt d_1206_9
theorem d_1206_10 : List.drop 10 xm_c1206 = xm_c1206_10 := xm_dr d_1206_9
theorem k_1206_10 : xm_gi xm_c1206 10 = some xm_e1206_10 := xm_gt d_1206_10
theorem d_1206_11 : List.drop 11 xm_c1206 = xm_c1206_11 := xm_dr d_1206_10
theorem k_1206_11 : xm_gi xm_c1206 11 = some xm_e1206_11 := xm_gt d_1206_11
theorem d_1206_12 : List.drop 12 xm_c1206 = xm_c1206_12 := xm_dr d_1206_11
theorem k_1206_12 : xm_gi xm_c1206 12 = some xm_e1206_12 := xm_gt d_1206_12
theorem d_1206_13 : List.drop 13 xm_c1206 = xm_c1206_13 := xm_dr d_1206_12
theorem k_1206_13 : xm_gi xm_c1206 13 = some xm_e1206_13 := xm_gt d_1206_13
theorem d_1206_14 : List.drop 14 xm_c1206 = xm_c1206_14 := xm_dr d_1206_13
theorem k_1206_14 : xm_gi xm_c1206 14 = some xm_e1206_14 := xm_gt d_1206_14
theorem d_1206_15 : List.drop 15 xm_c1206 = xm_c1206_15 := xm_dr d_1206_14
theorem k_1206_15 : xm_gi xm_c1206 15 = some xm_e1206_15 := xm_gt d_1206_15
theorem d_1206_16 : List.drop 16 xm_c1206 = xm_c1206_16 := xm_dr d_1206_15
theorem k_1206_16 : xm_gi xm_c1206 16 = some xm_e1206_16 := xm_gt d_1206_16
theorem d_1206_17 : List.drop 17 xm_c1206 = xm_c1206_17 := xm_dr d_1206_16
theorem k_1206_17 : xm_gi xm_c1206 17 = some xm_e1206_17 := xm_gt d_1206_17
theorem d_1206_18 : List.drop 18 xm_c1206 = xm_c1206_18 := xm_dr d_1206_17
theorem k_1206_18 : xm_gi xm_c1206 18 = some xm_e1206_18 := xm_gt d_1206_18
theorem d_1206_19 : List.drop 19 xm_c1206 = xm_c1206_19 := xm_dr d_1206_18
theorem k_1206_19 : xm_gi xm_c1206 19 = some xm_e1206_19 := xm_gt d_1206_19
theorem d_1206_20 : List.drop 20 xm_c1206 = xm_c1206_20 := xm_dr d_1206_19
theorem k_1206_20 : xm_gi xm_c1206 20 = some xm_e1206_20 := xm_gt d_1206_20
theorem d_1206_21 : List.drop 21 xm_c1206 = xm_c1206_21 := xm_dr d_1206_20
theorem k_1206_21 : xm_gi xm_c1206 21 = some xm_e1206_21 := xm_gt d_1206_21
theorem d_1206_22 : List.drop 22 xm_c1206 = xm_c1206_22 := xm_dr d_1206_21
theorem k_1206_22 : xm_gi xm_c1206 22 = some xm_e1206_22 := xm_gt d_1206_22
theorem d_1206_23 : List.drop 23 xm_c1206 = xm_c1206_23 := xm_dr d_1206_22
theorem k_1206_23 : xm_gi xm_c1206 23 = some xm_e1206_23 := xm_gt d_1206_23
theorem d_1206_24 : List.drop 24 xm_c1206 = xm_c1206_24 := xm_dr d_1206_23
theorem k_1206_24 : xm_gi xm_c1206 24 = some xm_e1206_24 := xm_gt d_1206_24
theorem d_1206_25 : List.drop 25 xm_c1206 = xm_c1206_25 := xm_dr d_1206_24
theorem k_1206_25 : xm_gi xm_c1206 25 = some xm_e1206_25 := xm_gt d_1206_25
theorem d_1206_26 : List.drop 26 xm_c1206 = xm_c1206_26 := xm_dr d_1206_25
theorem k_1206_26 : xm_gi xm_c1206 26 = some xm_e1206_26 := xm_gt d_1206_26
theorem d_1206_27 : List.drop 27 xm_c1206 = xm_c1206_27 := xm_dr d_1206_26
theorem k_1206_27 : xm_gi xm_c1206 27 = some xm_e1206_27 := xm_gt d_1206_27
theorem d_1206_28 : List.drop 28 xm_c1206 = xm_c1206_28 := xm_dr d_1206_27
theorem k_1206_28 : xm_gi xm_c1206 28 = some xm_e1206_28 := xm_gt d_1206_28
theorem d_1206_29 : List.drop 29 xm_c1206 = xm_c1206_29 := xm_dr d_1206_28
theorem k_1206_29 : xm_gi xm_c1206 29 = some xm_e1206_29 := xm_gt d_1206_29
theorem d_1206_30 : List.drop 30 xm_c1206 = xm_c1206_30 := xm_dr d_1206_29
theorem k_1206_30 : xm_gi xm_c1206 30 = some xm_e1206_30 := xm_gt d_1206_30
theorem d_1206_31 : List.drop 31 xm_c1206 = xm_c1206_31 := xm_dr d_1206_30
theorem k_1206_31 : xm_gi xm_c1206 31 = some xm_e1206_31 := xm_gt d_1206_31
theorem d_1206_32 : List.drop 32 xm_c1206 = xm_c1206_32 := xm_dr d_1206_31
theorem k_1206_32 : xm_gi xm_c1206 32 = some xm_e1206_32 := xm_gt d_1206_32
theorem d_1206_33 : List.drop 33 xm_c1206 = xm_c1206_33 := xm_dr d_1206_32
theorem k_1206_33 : xm_gi xm_c1206 33 = some xm_e1206_33 := xm_gt d_1206_33
theorem d_1206_34 : List.drop 34 xm_c1206 = xm_c1206_34 := xm_dr d_1206_33
theorem k_1206_34 : xm_gi xm_c1206 34 = some xm_e1206_34 := xm_gt d_1206_34
theorem d_1206_35 : List.drop 35 xm_c1206 = xm_c1206_35 := xm_dr d_1206_34
theorem k_1206_35 : xm_gi xm_c1206 35 = some xm_e1206_35 := xm_gt d_1206_35
theorem d_1206_36 : List.drop 36 xm_c1206 = xm_c1206_36 := xm_dr d_1206_35
theorem k_1206_36 : xm_gi xm_c1206 36 = some xm_e1206_36 := xm_gt d_1206_36
theorem d_1206_37 : List.drop 37 xm_c1206 = xm_c1206_37 := xm_dr d_1206_36
theorem k_1206_37 : xm_gi xm_c1206 37 = some xm_e1206_37 := xm_gt d_1206_37
theorem d_1206_38 : List.drop 38 xm_c1206 = xm_c1206_38 := xm_dr d_1206_37
theorem k_1206_38 : xm_gi xm_c1206 38 = some xm_e1206_38 := xm_gt d_1206_38
theorem d_1206_39 : List.drop 39 xm_c1206 = xm_c1206_39 := xm_dr d_1206_38
theorem k_1206_39 : xm_gi xm_c1206 39 = some xm_e1206_39 := xm_gt d_1206_39
theorem d_1206_40 : List.drop 40 xm_c1206 = xm_c1206_40 := xm_dr d_1206_39
theorem k_1206_40 : xm_gi xm_c1206 40 = some xm_e1206_40 := xm_gt d_1206_40
theorem d_1206_41 : List.drop 41 xm_c1206 = xm_c1206_41 := xm_dr d_1206_40
theorem k_1206_41 : xm_gi xm_c1206 41 = some xm_e1206_41 := xm_gt d_1206_41
theorem d_1206_42 : List.drop 42 xm_c1206 = xm_c1206_42 := xm_dr d_1206_41
theorem k_1206_42 : xm_gi xm_c1206 42 = some xm_e1206_42 := xm_gt d_1206_42
theorem d_1206_43 : List.drop 43 xm_c1206 = xm_c1206_43 := xm_dr d_1206_42
theorem k_1206_43 : xm_gi xm_c1206 43 = some xm_e1206_43 := xm_gt d_1206_43
theorem d_1206_44 : List.drop 44 xm_c1206 = xm_c1206_44 := xm_dr d_1206_43
theorem k_1206_44 : xm_gi xm_c1206 44 = some xm_e1206_44 := xm_gt d_1206_44
theorem d_1206_45 : List.drop 45 xm_c1206 = xm_c1206_45 := xm_dr d_1206_44
theorem k_1206_45 : xm_gi xm_c1206 45 = some xm_e1206_45 := xm_gt d_1206_45
theorem d_1206_46 : List.drop 46 xm_c1206 = xm_c1206_46 := xm_dr d_1206_45
theorem k_1206_46 : xm_gi xm_c1206 46 = some xm_e1206_46 := xm_gt d_1206_46
theorem d_1206_47 : List.drop 47 xm_c1206 = xm_c1206_47 := xm_dr d_1206_46
theorem k_1206_47 : xm_gi xm_c1206 47 = some xm_e1206_47 := xm_gt d_1206_47
theorem d_1206_48 : List.drop 48 xm_c1206 = xm_c1206_48 := xm_dr d_1206_47
theorem k_1206_48 : xm_gi xm_c1206 48 = some xm_e1206_48 := xm_gt d_1206_48
theorem d_1206_49 : List.drop 49 xm_c1206 = xm_c1206_49 := xm_dr d_1206_48
theorem k_1206_49 : xm_gi xm_c1206 49 = some xm_e1206_49 := xm_gt d_1206_49
theorem d_1206_50 : List.drop 50 xm_c1206 = xm_c1206_50 := xm_dr d_1206_49
theorem k_1206_50 : xm_gi xm_c1206 50 = some xm_e1206_50 := xm_gt d_1206_50
theorem d_1206_51 : List.drop 51 xm_c1206 = xm_c1206_51 := xm_dr d_1206_50
theorem k_1206_51 : xm_gi xm_c1206 51 = some xm_e1206_51 := xm_gt d_1206_51
theorem d_1206_52 : List.drop 52 xm_c1206 = xm_c1206_52 := xm_dr d_1206_51
theorem k_1206_52 : xm_gi xm_c1206 52 = some xm_e1206_52 := xm_gt d_1206_52
theorem d_1206_53 : List.drop 53 xm_c1206 = xm_c1206_53 := xm_dr d_1206_52
theorem k_1206_53 : xm_gi xm_c1206 53 = some xm_e1206_53 := xm_gt d_1206_53
theorem d_1206_54 : List.drop 54 xm_c1206 = xm_c1206_54 := xm_dr d_1206_53
theorem k_1206_54 : xm_gi xm_c1206 54 = some xm_e1206_54 := xm_gt d_1206_54
theorem d_1206_55 : List.drop 55 xm_c1206 = xm_c1206_55 := xm_dr d_1206_54
theorem k_1206_55 : xm_gi xm_c1206 55 = some xm_e1206_55 := xm_gt d_1206_55
theorem d_1206_56 : List.drop 56 xm_c1206 = xm_c1206_56 := xm_dr d_1206_55
theorem k_1206_56 : xm_gi xm_c1206 56 = some xm_e1206_56 := xm_gt d_1206_56
theorem xb_1206_0 {sc : List Int} {f : Nat → List xm_V → xm_W → xm_R} {w : xm_W} {Q : Option xm_V × xm_W → Prop} {x0 : Nat}
  (h : xm_O (xm_fr (xm_old sc) w x0 9 0) (fun r1 => xm_O (xm_ints (xm_old sc) w r1) (fun l2 => xm_O (xm_at l2 5) (fun z3 => xm_O (xm_fr (xm_old sc) w x0 9 0) (fun r4 => xm_O (xm_seti w r4 5 0) (fun w5 => xm_Ov (f 1106 [.inr (.inl (some x0))] w5) (fun w6 => xm_EQ (xm_old sc) xm_sta f xm_c1206 16 [some (.inr (.inl (some x0))), some (.inl z3), some (.inl 0), some (.inl 1)] [] w6 Q))))))) :
  xm_EQ (xm_old sc) xm_sta f xm_c1206 0 [some (.inr (.inl (some x0))), none, none, none] [] w Q :=
  (xq_aload_n k_1206_0 rfl (xq_getr k_1206_1 rfl h (fun r1 h => (xq_iconst k_1206_2 (xq_iaload k_1206_3 h (fun l2 h => h) (fun l2 z3 h => (xq_istore_n k_1206_4 rfl (xq_aload_n k_1206_5 rfl (xq_getr k_1206_6 rfl h (fun r4 h => (xq_iconst k_1206_7 (xq_iconst k_1206_8 (xq_iastore k_1206_9 h (fun w5 h => (xq_aload_n k_1206_10 rfl (xq_invv0 k_1206_11 xr_1106 rfl rfl rfl h (fun w6 h => (xq_iconst k_1206_12 (xq_istore_n k_1206_13 rfl (xq_iconst k_1206_14 (xq_istore_n k_1206_15 rfl h)))))))))))))))))))))
theorem xb_1206_16 {sc : List Int} {f : Nat → List xm_V → xm_W → xm_R} {w : xm_W} {Q : Option xm_V × xm_W → Prop} {x0 : Nat} {x1 : Int} {x2 : Int} {x3 : Int}
  (h : if (x2 : Int) < x1 then (if (x3 : Int) = 0 then (xm_Ov (f 1107 [.inr (.inl (some x0))] w) (fun w2 => if (x3 : Int) = 0 then (Q (some (.inl (xm_w (1 + x2))), w2)) else (Q (some (.inl 0), w2)))) else (xm_Ov (f 1156 [.inr (.inl (some x0))] w) (fun w3 => xm_O (xm_fr (xm_old sc) w3 x0 9 0) (fun r4 => xm_O (xm_ints (xm_old sc) w3 r4) (fun l5 => xm_O (xm_at l5 (xm_w (649 + x2))) (fun z6 => xm_O (xm_fr (xm_old sc) w3 x0 9 0) (fun r7 => xm_O (xm_ints (xm_old sc) w3 r7) (fun l8 => xm_O (xm_at l8 3) (fun z9 => if (z6 : Int) = z9 then (if (1 : Int) = 0 then (xm_EQ (xm_old sc) xm_sta f xm_c1206 16 [some (.inr (.inl (some x0))), some (.inl x1), some (.inl (xm_w (x2 + 0))), some (.inl 1)] [] w3 Q) else (xm_EQ (xm_old sc) xm_sta f xm_c1206 16 [some (.inr (.inl (some x0))), some (.inl x1), some (.inl (xm_w (x2 + 1))), some (.inl 1)] [] w3 Q)) else (if (0 : Int) = 0 then (xm_EQ (xm_old sc) xm_sta f xm_c1206 16 [some (.inr (.inl (some x0))), some (.inl x1), some (.inl (xm_w (x2 + 0))), some (.inl 0)] [] w3 Q) else (xm_EQ (xm_old sc) xm_sta f xm_c1206 16 [some (.inr (.inl (some x0))), some (.inl x1), some (.inl (xm_w (x2 + 1))), some (.inl 0)] [] w3 Q))))))))))) else (xm_Ov (f 1107 [.inr (.inl (some x0))] w) (fun w1 => if (x3 : Int) = 0 then (Q (some (.inl (xm_w (1 + x2))), w1)) else (Q (some (.inl 0), w1))))) :
  xm_EQ (xm_old sc) xm_sta f xm_c1206 16 [some (.inr (.inl (some x0))), some (.inl x1), some (.inl x2), some (.inl x3)] [] w Q :=
  (xq_iload_n k_1206_16 rfl (xq_iload_n k_1206_17 rfl (xq_ic_ge k_1206_18 h (fun h => (xq_iload_n k_1206_19 rfl (xq_if_eq k_1206_20 h (fun h => (xq_aload_n k_1206_47 rfl (xq_invv0 k_1206_48 xr_1107 rfl rfl rfl h (fun w2 h => (xq_iload_n k_1206_49 rfl (xq_if_eq k_1206_50 h (fun h => (xq_iconst k_1206_53 (xq_iload_n k_1206_54 rfl (xq_iadd k_1206_55 (xq_ireturn k_1206_56 h))))) (fun h => (xq_iconst k_1206_51 (xq_goto k_1206_52 (xq_ireturn k_1206_56 h)))))))))) (fun h => (xq_aload_n k_1206_21 rfl (xq_invv0 k_1206_22 xr_1156 rfl rfl rfl h (fun w3 h => (xq_aload_n k_1206_23 rfl (xq_getr k_1206_24 rfl h (fun r4 h => (xq_sipush k_1206_25 (xq_iload_n k_1206_26 rfl (xq_iadd k_1206_27 (xq_iaload k_1206_28 h (fun l5 h => h) (fun l5 z6 h => (xq_aload_n k_1206_29 rfl (xq_getr k_1206_30 rfl h (fun r7 h => (xq_iconst k_1206_31 (xq_iaload k_1206_32 h (fun l8 h => h) (fun l8 z9 h => (xq_ic_ne k_1206_33 h (fun h => (xq_iconst k_1206_34 (xq_goto k_1206_35 (xq_istore_n k_1206_37 rfl (xq_iload_n k_1206_38 rfl (xq_iload_n k_1206_39 rfl (xq_if_eq k_1206_40 h (fun h => (xq_iconst k_1206_43 (xq_iadd k_1206_44 (xq_istore_n k_1206_45 rfl (xq_goto k_1206_46 h))))) (fun h => (xq_iconst k_1206_41 (xq_goto k_1206_42 (xq_iadd k_1206_44 (xq_istore_n k_1206_45 rfl (xq_goto k_1206_46 h))))))))))))) (fun h => (xq_iconst k_1206_36 (xq_istore_n k_1206_37 rfl (xq_iload_n k_1206_38 rfl (xq_iload_n k_1206_39 rfl (xq_if_eq k_1206_40 h (fun h => (xq_iconst k_1206_43 (xq_iadd k_1206_44 (xq_istore_n k_1206_45 rfl (xq_goto k_1206_46 h))))) (fun h => (xq_iconst k_1206_41 (xq_goto k_1206_42 (xq_iadd k_1206_44 (xq_istore_n k_1206_45 rfl (xq_goto k_1206_46 h)))))))))))))))))))))))))))))))))) (fun h => (xq_aload_n k_1206_47 rfl (xq_invv0 k_1206_48 xr_1107 rfl rfl rfl h (fun w1 h => (xq_iload_n k_1206_49 rfl (xq_if_eq k_1206_50 h (fun h => (xq_iconst k_1206_53 (xq_iload_n k_1206_54 rfl (xq_iadd k_1206_55 (xq_ireturn k_1206_56 h))))) (fun h => (xq_iconst k_1206_51 (xq_goto k_1206_52 (xq_ireturn k_1206_56 h)))))))))))))
/-- ShodBackwardsModel.count(I)I -/
theorem d_1207_0 : List.drop 0 xm_c1207 = xm_c1207 := rfl
theorem k_1207_0 : xm_gi xm_c1207 0 = some xm_e1207_0 := xm_gt d_1207_0
theorem d_1207_1 : List.drop 1 xm_c1207 = xm_c1207_1 := xm_dr d_1207_0
theorem k_1207_1 : xm_gi xm_c1207 1 = some xm_e1207_1 := xm_gt d_1207_1
theorem d_1207_2 : List.drop 2 xm_c1207 = xm_c1207_2 := xm_dr d_1207_1
theorem k_1207_2 : xm_gi xm_c1207 2 = some xm_e1207_2 := xm_gt d_1207_2
theorem d_1207_3 : List.drop 3 xm_c1207 = xm_c1207_3 := xm_dr d_1207_2
theorem k_1207_3 : xm_gi xm_c1207 3 = some xm_e1207_3 := xm_gt d_1207_3
theorem d_1207_4 : List.drop 4 xm_c1207 = xm_c1207_4 := xm_dr d_1207_3
theorem k_1207_4 : xm_gi xm_c1207 4 = some xm_e1207_4 := xm_gt d_1207_4
theorem d_1207_5 : List.drop 5 xm_c1207 = xm_c1207_5 := xm_dr d_1207_4
theorem k_1207_5 : xm_gi xm_c1207 5 = some xm_e1207_5 := xm_gt d_1207_5
theorem d_1207_6 : List.drop 6 xm_c1207 = xm_c1207_6 := xm_dr d_1207_5
theorem k_1207_6 : xm_gi xm_c1207 6 = some xm_e1207_6 := xm_gt d_1207_6
theorem d_1207_7 : List.drop 7 xm_c1207 = xm_c1207_7 := xm_dr d_1207_6
theorem k_1207_7 : xm_gi xm_c1207 7 = some xm_e1207_7 := xm_gt d_1207_7
theorem d_1207_8 : List.drop 8 xm_c1207 = xm_c1207_8 := xm_dr d_1207_7
theorem k_1207_8 : xm_gi xm_c1207 8 = some xm_e1207_8 := xm_gt d_1207_8
theorem d_1207_9 : List.drop 9 xm_c1207 = xm_c1207_9 := xm_dr d_1207_8
theorem k_1207_9 : xm_gi xm_c1207 9 = some xm_e1207_9 := xm_gt d_1207_9
theorem d_1207_10 : List.drop 10 xm_c1207 = xm_c1207_10 := xm_dr d_1207_9
theorem k_1207_10 : xm_gi xm_c1207 10 = some xm_e1207_10 := xm_gt d_1207_10
theorem d_1207_11 : List.drop 11 xm_c1207 = xm_c1207_11 := xm_dr d_1207_10
theorem k_1207_11 : xm_gi xm_c1207 11 = some xm_e1207_11 := xm_gt d_1207_11
theorem d_1207_12 : List.drop 12 xm_c1207 = xm_c1207_12 := xm_dr d_1207_11
theorem k_1207_12 : xm_gi xm_c1207 12 = some xm_e1207_12 := xm_gt d_1207_12
theorem d_1207_13 : List.drop 13 xm_c1207 = xm_c1207_13 := xm_dr d_1207_12
theorem k_1207_13 : xm_gi xm_c1207 13 = some xm_e1207_13 := xm_gt d_1207_13
theorem d_1207_14 : List.drop 14 xm_c1207 = xm_c1207_14 := xm_dr d_1207_13
theorem k_1207_14 : xm_gi xm_c1207 14 = some xm_e1207_14 := xm_gt d_1207_14
theorem d_1207_15 : List.drop 15 xm_c1207 = xm_c1207_15 := xm_dr d_1207_14
theorem k_1207_15 : xm_gi xm_c1207 15 = some xm_e1207_15 := xm_gt d_1207_15
theorem d_1207_16 : List.drop 16 xm_c1207 = xm_c1207_16 := xm_dr d_1207_15
theorem k_1207_16 : xm_gi xm_c1207 16 = some xm_e1207_16 := xm_gt d_1207_16
theorem d_1207_17 : List.drop 17 xm_c1207 = xm_c1207_17 := xm_dr d_1207_16
theorem k_1207_17 : xm_gi xm_c1207 17 = some xm_e1207_17 := xm_gt d_1207_17
theorem d_1207_18 : List.drop 18 xm_c1207 = xm_c1207_18 := xm_dr d_1207_17
theorem k_1207_18 : xm_gi xm_c1207 18 = some xm_e1207_18 := xm_gt d_1207_18
theorem d_1207_19 : List.drop 19 xm_c1207 = xm_c1207_19 := xm_dr d_1207_18
theorem k_1207_19 : xm_gi xm_c1207 19 = some xm_e1207_19 := xm_gt d_1207_19
theorem d_1207_20 : List.drop 20 xm_c1207 = xm_c1207_20 := xm_dr d_1207_19
theorem k_1207_20 : xm_gi xm_c1207 20 = some xm_e1207_20 := xm_gt d_1207_20
theorem d_1207_21 : List.drop 21 xm_c1207 = xm_c1207_21 := xm_dr d_1207_20
theorem k_1207_21 : xm_gi xm_c1207 21 = some xm_e1207_21 := xm_gt d_1207_21
theorem d_1207_22 : List.drop 22 xm_c1207 = xm_c1207_22 := xm_dr d_1207_21
theorem k_1207_22 : xm_gi xm_c1207 22 = some xm_e1207_22 := xm_gt d_1207_22
theorem d_1207_23 : List.drop 23 xm_c1207 = xm_c1207_23 := xm_dr d_1207_22
theorem k_1207_23 : xm_gi xm_c1207 23 = some xm_e1207_23 := xm_gt d_1207_23
theorem d_1207_24 : List.drop 24 xm_c1207 = xm_c1207_24 := xm_dr d_1207_23
theorem k_1207_24 : xm_gi xm_c1207 24 = some xm_e1207_24 := xm_gt d_1207_24
theorem d_1207_25 : List.drop 25 xm_c1207 = xm_c1207_25 := xm_dr d_1207_24
theorem k_1207_25 : xm_gi xm_c1207 25 = some xm_e1207_25 := xm_gt d_1207_25
theorem d_1207_26 : List.drop 26 xm_c1207 = xm_c1207_26 := xm_dr d_1207_25
theorem k_1207_26 : xm_gi xm_c1207 26 = some xm_e1207_26 := xm_gt d_1207_26
theorem d_1207_27 : List.drop 27 xm_c1207 = xm_c1207_27 := xm_dr d_1207_26
theorem k_1207_27 : xm_gi xm_c1207 27 = some xm_e1207_27 := xm_gt d_1207_27
theorem d_1207_28 : List.drop 28 xm_c1207 = xm_c1207_28 := xm_dr d_1207_27
theorem k_1207_28 : xm_gi xm_c1207 28 = some xm_e1207_28 := xm_gt d_1207_28
theorem d_1207_29 : List.drop 29 xm_c1207 = xm_c1207_29 := xm_dr d_1207_28
theorem k_1207_29 : xm_gi xm_c1207 29 = some xm_e1207_29 := xm_gt d_1207_29
theorem d_1207_30 : List.drop 30 xm_c1207 = xm_c1207_30 := xm_dr d_1207_29
theorem k_1207_30 : xm_gi xm_c1207 30 = some xm_e1207_30 := xm_gt d_1207_30
theorem d_1207_31 : List.drop 31 xm_c1207 = xm_c1207_31 := xm_dr d_1207_30
theorem k_1207_31 : xm_gi xm_c1207 31 = some xm_e1207_31 := xm_gt d_1207_31
theorem d_1207_32 : List.drop 32 xm_c1207 = xm_c1207_32 := xm_dr d_1207_31
theorem k_1207_32 : xm_gi xm_c1207 32 = some xm_e1207_32 := xm_gt d_1207_32
theorem d_1207_33 : List.drop 33 xm_c1207 = xm_c1207_33 := xm_dr d_1207_32
theorem k_1207_33 : xm_gi xm_c1207 33 = some xm_e1207_33 := xm_gt d_1207_33
theorem d_1207_34 : List.drop 34 xm_c1207 = xm_c1207_34 := xm_dr d_1207_33
theorem k_1207_34 : xm_gi xm_c1207 34 = some xm_e1207_34 := xm_gt d_1207_34
theorem d_1207_35 : List.drop 35 xm_c1207 = xm_c1207_35 := xm_dr d_1207_34
theorem k_1207_35 : xm_gi xm_c1207 35 = some xm_e1207_35 := xm_gt d_1207_35
theorem d_1207_36 : List.drop 36 xm_c1207 = xm_c1207_36 := xm_dr d_1207_35
theorem k_1207_36 : xm_gi xm_c1207 36 = some xm_e1207_36 := xm_gt d_1207_36
theorem d_1207_37 : List.drop 37 xm_c1207 = xm_c1207_37 := xm_dr d_1207_36
theorem k_1207_37 : xm_gi xm_c1207 37 = some xm_e1207_37 := xm_gt d_1207_37
theorem d_1207_38 : List.drop 38 xm_c1207 = xm_c1207_38 := xm_dr d_1207_37
theorem k_1207_38 : xm_gi xm_c1207 38 = some xm_e1207_38 := xm_gt d_1207_38
theorem d_1207_39 : List.drop 39 xm_c1207 = xm_c1207_39 := xm_dr d_1207_38
theorem k_1207_39 : xm_gi xm_c1207 39 = some xm_e1207_39 := xm_gt d_1207_39
theorem d_1207_40 : List.drop 40 xm_c1207 = xm_c1207_40 := xm_dr d_1207_39
theorem k_1207_40 : xm_gi xm_c1207 40 = some xm_e1207_40 := xm_gt d_1207_40
theorem d_1207_41 : List.drop 41 xm_c1207 = xm_c1207_41 := xm_dr d_1207_40
theorem k_1207_41 : xm_gi xm_c1207 41 = some xm_e1207_41 := xm_gt d_1207_41
theorem d_1207_42 : List.drop 42 xm_c1207 = xm_c1207_42 := xm_dr d_1207_41
theorem k_1207_42 : xm_gi xm_c1207 42 = some xm_e1207_42 := xm_gt d_1207_42
theorem d_1207_43 : List.drop 43 xm_c1207 = xm_c1207_43 := xm_dr d_1207_42
theorem k_1207_43 : xm_gi xm_c1207 43 = some xm_e1207_43 := xm_gt d_1207_43
theorem xb_1207_0 {sc : List Int} {f : Nat → List xm_V → xm_W → xm_R} {w : xm_W} {Q : Option xm_V × xm_W → Prop} {x0 : Nat} {x1 : Int}
  (h : if (x1 : Int) = 0 then (xm_O (xm_fr (xm_old sc) w x0 9 0) (fun r22 => xm_O (xm_ints (xm_old sc) w r22) (fun l23 => xm_O (xm_at l23 0) (fun z24 => Q (some (.inl z24), w))))) else (if (x1 : Int) = 1 then (xm_O (xm_fr (xm_old sc) w x0 9 0) (fun r19 => xm_O (xm_ints (xm_old sc) w r19) (fun l20 => xm_O (xm_at l20 1) (fun z21 => Q (some (.inl z21), w))))) else (if (x1 : Int) = 2 then (xm_O (xm_fr (xm_old sc) w x0 9 0) (fun r16 => xm_O (xm_ints (xm_old sc) w r16) (fun l17 => xm_O (xm_at l17 2) (fun z18 => Q (some (.inl z18), w))))) else (if (x1 : Int) = 3 then (xm_O (xm_fr (xm_old sc) w x0 9 0) (fun r13 => xm_O (xm_ints (xm_old sc) w r13) (fun l14 => xm_O (xm_at l14 3) (fun z15 => Q (some (.inl z15), w))))) else (if (x1 : Int) = 4 then (xm_O (xm_fr (xm_old sc) w x0 9 0) (fun r10 => xm_O (xm_ints (xm_old sc) w r10) (fun l11 => xm_O (xm_at l11 4) (fun z12 => Q (some (.inl z12), w))))) else (if (x1 : Int) = 5 then (xm_O (xm_fr (xm_old sc) w x0 9 0) (fun r7 => xm_O (xm_ints (xm_old sc) w r7) (fun l8 => xm_O (xm_at l8 5) (fun z9 => Q (some (.inl z9), w))))) else (if (x1 : Int) = 6 then (xm_O (xm_fi (xm_old sc) w x0 9 15) (fun z6 => Q (some (.inl z6), w))) else (if (x1 : Int) = 7 then (xm_O (xm_fr (xm_old sc) w x0 9 0) (fun r3 => xm_O (xm_ints (xm_old sc) w r3) (fun l4 => xm_O (xm_at l4 6) (fun z5 => Q (some (.inl z5), w))))) else (xm_Oi (f 1102 [.inr (.inl (some x0)), .inl 1] w) (fun z2 w1 => Q (some (.inl z2), w1))))))))))) :
  xm_EQ (xm_old sc) xm_sta f xm_c1207 0 [some (.inr (.inl (some x0))), some (.inl x1)] [] w Q :=
  (xq_iload_n k_1207_0 rfl (xq_tsw k_1207_1 (xs_swc h (fun h => (xq_aload_n k_1207_2 rfl (xq_getr k_1207_3 rfl h (fun r22 h => (xq_iconst k_1207_4 (xq_iaload k_1207_5 h (fun l23 h => h) (fun l23 z24 h => (xq_ireturn k_1207_6 h)))))))) (fun h => (xs_swc h (fun h => (xq_aload_n k_1207_7 rfl (xq_getr k_1207_8 rfl h (fun r19 h => (xq_iconst k_1207_9 (xq_iaload k_1207_10 h (fun l20 h => h) (fun l20 z21 h => (xq_ireturn k_1207_11 h)))))))) (fun h => (xs_swc h (fun h => (xq_aload_n k_1207_12 rfl (xq_getr k_1207_13 rfl h (fun r16 h => (xq_iconst k_1207_14 (xq_iaload k_1207_15 h (fun l17 h => h) (fun l17 z18 h => (xq_ireturn k_1207_16 h)))))))) (fun h => (xs_swc h (fun h => (xq_aload_n k_1207_17 rfl (xq_getr k_1207_18 rfl h (fun r13 h => (xq_iconst k_1207_19 (xq_iaload k_1207_20 h (fun l14 h => h) (fun l14 z15 h => (xq_ireturn k_1207_21 h)))))))) (fun h => (xs_swc h (fun h => (xq_aload_n k_1207_22 rfl (xq_getr k_1207_23 rfl h (fun r10 h => (xq_iconst k_1207_24 (xq_iaload k_1207_25 h (fun l11 h => h) (fun l11 z12 h => (xq_ireturn k_1207_26 h)))))))) (fun h => (xs_swc h (fun h => (xq_aload_n k_1207_27 rfl (xq_getr k_1207_28 rfl h (fun r7 h => (xq_iconst k_1207_29 (xq_iaload k_1207_30 h (fun l8 h => h) (fun l8 z9 h => (xq_ireturn k_1207_31 h)))))))) (fun h => (xs_swc h (fun h => (xq_aload_n k_1207_32 rfl (xq_geti0 k_1207_33 rfl h (fun z6 h => (xq_ireturn k_1207_34 h))))) (fun h => (xs_swc h (fun h => (xq_aload_n k_1207_35 rfl (xq_getr k_1207_36 rfl h (fun r3 h => (xq_bipush k_1207_37 (xq_iaload k_1207_38 h (fun l4 h => h) (fun l4 z5 h => (xq_ireturn k_1207_39 h)))))))) (fun h => (xq_aload_n k_1207_40 rfl (xq_iconst k_1207_41 (xq_invv1 k_1207_42 xr_1102 rfl rfl rfl h (fun z2 w1 h => (xq_ireturn k_1207_43 h)))))))))))))))))))))))
/-- ShodBackwardsModel.told(I)I -/
theorem d_1208_0 : List.drop 0 xm_c1208 = xm_c1208 := rfl
theorem k_1208_0 : xm_gi xm_c1208 0 = some xm_e1208_0 := xm_gt d_1208_0
theorem d_1208_1 : List.drop 1 xm_c1208 = xm_c1208_1 := xm_dr d_1208_0
theorem k_1208_1 : xm_gi xm_c1208 1 = some xm_e1208_1 := xm_gt d_1208_1
theorem d_1208_2 : List.drop 2 xm_c1208 = xm_c1208_2 := xm_dr d_1208_1
theorem k_1208_2 : xm_gi xm_c1208 2 = some xm_e1208_2 := xm_gt d_1208_2
theorem d_1208_3 : List.drop 3 xm_c1208 = xm_c1208_3 := xm_dr d_1208_2
theorem k_1208_3 : xm_gi xm_c1208 3 = some xm_e1208_3 := xm_gt d_1208_3
theorem d_1208_4 : List.drop 4 xm_c1208 = xm_c1208_4 := xm_dr d_1208_3
theorem k_1208_4 : xm_gi xm_c1208 4 = some xm_e1208_4 := xm_gt d_1208_4
theorem d_1208_5 : List.drop 5 xm_c1208 = xm_c1208_5 := xm_dr d_1208_4
theorem k_1208_5 : xm_gi xm_c1208 5 = some xm_e1208_5 := xm_gt d_1208_5
theorem d_1208_6 : List.drop 6 xm_c1208 = xm_c1208_6 := xm_dr d_1208_5
theorem k_1208_6 : xm_gi xm_c1208 6 = some xm_e1208_6 := xm_gt d_1208_6
theorem d_1208_7 : List.drop 7 xm_c1208 = xm_c1208_7 := xm_dr d_1208_6
theorem k_1208_7 : xm_gi xm_c1208 7 = some xm_e1208_7 := xm_gt d_1208_7
theorem d_1208_8 : List.drop 8 xm_c1208 = xm_c1208_8 := xm_dr d_1208_7
theorem k_1208_8 : xm_gi xm_c1208 8 = some xm_e1208_8 := xm_gt d_1208_8
theorem d_1208_9 : List.drop 9 xm_c1208 = xm_c1208_9 := xm_dr d_1208_8
theorem k_1208_9 : xm_gi xm_c1208 9 = some xm_e1208_9 := xm_gt d_1208_9
theorem d_1208_10 : List.drop 10 xm_c1208 = xm_c1208_10 := xm_dr d_1208_9
theorem k_1208_10 : xm_gi xm_c1208 10 = some xm_e1208_10 := xm_gt d_1208_10
theorem d_1208_11 : List.drop 11 xm_c1208 = xm_c1208_11 := xm_dr d_1208_10
theorem k_1208_11 : xm_gi xm_c1208 11 = some xm_e1208_11 := xm_gt d_1208_11
theorem d_1208_12 : List.drop 12 xm_c1208 = xm_c1208_12 := xm_dr d_1208_11
theorem k_1208_12 : xm_gi xm_c1208 12 = some xm_e1208_12 := xm_gt d_1208_12
theorem d_1208_13 : List.drop 13 xm_c1208 = xm_c1208_13 := xm_dr d_1208_12
theorem k_1208_13 : xm_gi xm_c1208 13 = some xm_e1208_13 := xm_gt d_1208_13
theorem xb_1208_0 {sc : List Int} {f : Nat → List xm_V → xm_W → xm_R} {w : xm_W} {Q : Option xm_V × xm_W → Prop} {x0 : Nat} {x1 : Int}
  (h : xm_Oi (f 1103 [.inl x1, .inl 1, .inl 6] w) (fun z2 w1 => if (z2 : Int) = 0 then (xm_Oi (f 1102 [.inr (.inl (some x0)), .inl 1] w1) (fun z4 w3 => Q (some (.inl z4), w3))) else (xm_O (xm_fr (xm_old sc) w1 x0 9 5) (fun r5 => xm_O (xm_ints (xm_old sc) w1 r5) (fun l6 => xm_O (xm_at l6 x1) (fun z7 => Q (some (.inl z7), w1))))))) :
  xm_EQ (xm_old sc) xm_sta f xm_c1208 0 [some (.inr (.inl (some x0))), some (.inl x1)] [] w Q :=
  (xq_iload_n k_1208_0 rfl (xq_iconst k_1208_1 (xq_bipush k_1208_2 (xq_invs2 k_1208_3 xr_1103 rfl rfl rfl h (fun z2 w1 h => (xq_if_eq k_1208_4 h (fun h => (xq_aload_n k_1208_10 rfl (xq_iconst k_1208_11 (xq_invv1 k_1208_12 xr_1102 rfl rfl rfl h (fun z4 w3 h => (xq_ireturn k_1208_13 h)))))) (fun h => (xq_aload_n k_1208_5 rfl (xq_getr k_1208_6 rfl h (fun r5 h => (xq_iload_n k_1208_7 rfl (xq_iaload k_1208_8 h (fun l6 h => h) (fun l6 z7 h => (xq_goto k_1208_9 (xq_ireturn k_1208_13 h)))))))))))))))
