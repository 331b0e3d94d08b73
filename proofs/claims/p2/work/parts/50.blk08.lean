/-- ShodBackwards$Speaker.<init>()V -/
theorem d_801_0 : List.drop 0 xm_c801 = xm_c801 := rfl
theorem k_801_0 : xm_gi xm_c801 0 = some xm_e801_0 := xm_gt d_801_0
theorem d_801_1 : List.drop 1 xm_c801 = xm_c801_1 := xm_dr d_801_0
theorem k_801_1 : xm_gi xm_c801 1 = some xm_e801_1 := xm_gt d_801_1
theorem d_801_2 : List.drop 2 xm_c801 = xm_c801_2 := xm_dr d_801_1
theorem k_801_2 : xm_gi xm_c801 2 = some xm_e801_2 := xm_gt d_801_2
theorem d_801_3 : List.drop 3 xm_c801 = xm_c801_3 := xm_dr d_801_2
theorem k_801_3 : xm_gi xm_c801 3 = some xm_e801_3 := xm_gt d_801_3
theorem d_801_4 : List.drop 4 xm_c801 = xm_c801_4 := xm_dr d_801_3
theorem k_801_4 : xm_gi xm_c801 4 = some xm_e801_4 := xm_gt d_801_4
theorem d_801_5 : List.drop 5 xm_c801 = xm_c801_5 := xm_dr d_801_4
theorem k_801_5 : xm_gi xm_c801 5 = some xm_e801_5 := xm_gt d_801_5
theorem d_801_6 : List.drop 6 xm_c801 = xm_c801_6 := xm_dr d_801_5
theorem k_801_6 : xm_gi xm_c801 6 = some xm_e801_6 := xm_gt d_801_6
theorem xb_801_0 {sc : List Int} {f : Nat → List xm_V → xm_W → xm_R} {w : xm_W} {Q : Option xm_V × xm_W → Prop} {x0 : Nat}
  (h : (0 ≤ (30 : Int) ∧ (30 : Int) ≤ 1000) ∧ (xm_O (xm_setf (w ++ [.inl (List.replicate (Int.toNat 30) 0)]) x0 6 0 2 (.inr (.inl (some w.length)))) (fun w1 => Q (none, w1)))) :
  xm_EQ (xm_old sc) xm_sta f xm_c801 0 [some (.inr (.inl (some x0)))] [] w Q :=
  (xq_aload_n k_801_0 rfl (xq_obj k_801_1 rfl (xq_aload_n k_801_2 rfl (xq_bipush k_801_3 (xq_newarray k_801_4 h (fun h => (xq_put k_801_5 rfl h (fun w1 h => (xq_return k_801_6 h)))))))))
/-- ShodBackwards$Speaker.answer(LShodBackwards$Rider;III)I -/
theorem d_802_0 : List.drop 0 xm_c802 = xm_c802 := rfl
theorem k_802_0 : xm_gi xm_c802 0 = some xm_e802_0 := xm_gt d_802_0
theorem d_802_1 : List.drop 1 xm_c802 = xm_c802_1 := xm_dr d_802_0
theorem k_802_1 : xm_gi xm_c802 1 = some xm_e802_1 := xm_gt d_802_1
theorem d_802_2 : List.drop 2 xm_c802 = xm_c802_2 := xm_dr d_802_1
theorem k_802_2 : xm_gi xm_c802 2 = some xm_e802_2 := xm_gt d_802_2
theorem d_802_3 : List.drop 3 xm_c802 = xm_c802_3 := xm_dr d_802_2
theorem k_802_3 : xm_gi xm_c802 3 = some xm_e802_3 := xm_gt d_802_3
theorem d_802_4 : List.drop 4 xm_c802 = xm_c802_4 := xm_dr d_802_3
theorem k_802_4 : xm_gi xm_c802 4 = some xm_e802_4 := xm_gt d_802_4
theorem d_802_5 : List.drop 5 xm_c802 = xm_c802_5 := xm_dr d_802_4
theorem k_802_5 : xm_gi xm_c802 5 = some xm_e802_5 := xm_gt d_802_5
theorem d_802_6 : List.drop 6 xm_c802 = xm_c802_6 := xm_dr d_802_5
theorem k_802_6 : xm_gi xm_c802 6 = some xm_e802_6 := xm_gt d_802_6
theorem d_802_7 : List.drop 7 xm_c802 = xm_c802_7 := xm_dr d_802_6
theorem k_802_7 : xm_gi xm_c802 7 = some xm_e802_7 := xm_gt d_802_7
theorem d_802_8 : List.drop 8 xm_c802 = xm_c802_8 := xm_dr d_802_7
theorem k_802_8 : xm_gi xm_c802 8 = some xm_e802_8 := xm_gt d_802_8
theorem d_802_9 : List.drop 9 xm_c802 = xm_c802_9 := xm_dr d_802_8
theorem k_802_9 : xm_gi xm_c802 9 = some xm_e802_9 := xm_gt d_802_9
theorem d_802_10 : List.drop 10 xm_c802 = xm_c802_10 := xm_dr d_802_9
theorem k_802_10 : xm_gi xm_c802 10 = some xm_e802_10 := xm_gt d_802_10
theorem d_802_11 : List.drop 11 xm_c802 = xm_c802_11 := xm_dr d_802_10
theorem k_802_11 : xm_gi xm_c802 11 = some xm_e802_11 := xm_gt d_802_11
theorem d_802_12 : List.drop 12 xm_c802 = xm_c802_12 := xm_dr d_802_11
theorem k_802_12 : xm_gi xm_c802 12 = some xm_e802_12 := xm_gt d_802_12
theorem d_802_13 : List.drop 13 xm_c802 = xm_c802_13 := xm_dr d_802_12
theorem k_802_13 : xm_gi xm_c802 13 = some xm_e802_13 := xm_gt d_802_13
theorem d_802_14 : List.drop 14 xm_c802 = xm_c802_14 := xm_dr d_802_13
theorem k_802_14 : xm_gi xm_c802 14 = some xm_e802_14 := xm_gt d_802_14
theorem d_802_15 : List.drop 15 xm_c802 = xm_c802_15 := xm_dr d_802_14
theorem k_802_15 : xm_gi xm_c802 15 = some xm_e802_15 := xm_gt d_802_15
theorem d_802_16 : List.drop 16 xm_c802 = xm_c802_16 := xm_dr d_802_15
theorem k_802_16 : xm_gi xm_c802 16 = some xm_e802_16 := xm_gt d_802_16
theorem d_802_17 : List.drop 17 xm_c802 = xm_c802_17 := xm_dr d_802_16
theorem k_802_17 : xm_gi xm_c802 17 = some xm_e802_17 := xm_gt d_802_17
theorem d_802_18 : List.drop 18 xm_c802 = xm_c802_18 := xm_dr d_802_17
theorem k_802_18 : xm_gi xm_c802 18 = some xm_e802_18 := xm_gt d_802_18
theorem d_802_19 : List.drop 19 xm_c802 = xm_c802_19 := xm_dr d_802_18
theorem k_802_19 : xm_gi xm_c802 19 = some xm_e802_19 := xm_gt d_802_19
theorem d_802_20 : List.drop 20 xm_c802 = xm_c802_20 := xm_dr d_802_19
theorem k_802_20 : xm_gi xm_c802 20 = some xm_e802_20 := xm_gt d_802_20
theorem d_802_21 : List.drop 21 xm_c802 = xm_c802_21 := xm_dr d_802_20
theorem k_802_21 : xm_gi xm_c802 21 = some xm_e802_21 := xm_gt d_802_21
theorem xb_802_0 {sc : List Int} {f : Nat → List xm_V → xm_W → xm_R} {w : xm_W} {Q : Option xm_V × xm_W → Prop} {x0 : Nat} {x1 : Nat} {x2 : Int} {x3 : Int} {x4 : Int}
  (h : xm_O (xm_fi (xm_old sc) w x1 4 0) (fun z1 => xm_O (xm_setf w x0 6 2 0 (.inl z1)) (fun w2 => xm_O (xm_fi (xm_old sc) w2 x1 4 1) (fun z3 => xm_O (xm_setf w2 x0 6 3 0 (.inl z3)) (fun w4 => xm_O (xm_setf w4 x0 6 4 0 (.inl x2)) (fun w5 => xm_O (xm_setf w5 x0 6 1 0 (.inl 0)) (fun w6 => xm_O (xm_fi (xm_old sc) w6 x0 6 2) (fun z7 => xm_Oi (f 803 [.inr (.inl (some x0)), .inl z7, .inl x3, .inl x4, .inl 0] w6) (fun z9 w8 => Q (some (.inl z9), w8)))))))))) :
  xm_EQ (xm_old sc) xm_sta f xm_c802 0 [some (.inr (.inl (some x0))), some (.inr (.inl (some x1))), some (.inl x2), some (.inl x3), some (.inl x4)] [] w Q :=
  (xq_aload_n k_802_0 rfl (xq_aload_n k_802_1 rfl (xq_geti0 k_802_2 rfl h (fun z1 h => (xq_put k_802_3 rfl h (fun w2 h => (xq_aload_n k_802_4 rfl (xq_aload_n k_802_5 rfl (xq_geti0 k_802_6 rfl h (fun z3 h => (xq_put k_802_7 rfl h (fun w4 h => (xq_aload_n k_802_8 rfl (xq_iload_n k_802_9 rfl (xq_put k_802_10 rfl h (fun w5 h => (xq_aload_n k_802_11 rfl (xq_iconst k_802_12 (xq_put k_802_13 rfl h (fun w6 h => (xq_aload_n k_802_14 rfl (xq_aload_n k_802_15 rfl (xq_geti0 k_802_16 rfl h (fun z7 h => (xq_iload_n k_802_17 rfl (xq_iload k_802_18 rfl (xq_iconst k_802_19 (xq_invv1 k_802_20 xr_803 rfl rfl rfl h (fun z9 w8 h => (xq_ireturn k_802_21 h))))))))))))))))))))))))))))))
/-- ShodBackwards$Speaker.say(IIII)I -/
theorem d_803_0 : List.drop 0 xm_c803 = xm_c803 := rfl
theorem k_803_0 : xm_gi xm_c803 0 = some xm_e803_0 := xm_gt d_803_0
theorem d_803_1 : List.drop 1 xm_c803 = xm_c803_1 := xm_dr d_803_0
theorem k_803_1 : xm_gi xm_c803 1 = some xm_e803_1 := xm_gt d_803_1
theorem d_803_2 : List.drop 2 xm_c803 = xm_c803_2 := xm_dr d_803_1
theorem k_803_2 : xm_gi xm_c803 2 = some xm_e803_2 := xm_gt d_803_2
theorem d_803_3 : List.drop 3 xm_c803 = xm_c803_3 := xm_dr d_803_2
theorem k_803_3 : xm_gi xm_c803 3 = some xm_e803_3 := xm_gt d_803_3
theorem d_803_4 : List.drop 4 xm_c803 = xm_c803_4 := xm_dr d_803_3
theorem k_803_4 : xm_gi xm_c803 4 = some xm_e803_4 := xm_gt d_803_4
theorem d_803_5 : List.drop 5 xm_c803 = xm_c803_5 := xm_dr d_803_4
theorem k_803_5 : xm_gi xm_c803 5 = some xm_e803_5 := xm_gt d_803_5
theorem d_803_6 : List.drop 6 xm_c803 = xm_c803_6 := xm_dr d_803_5
theorem k_803_6 : xm_gi xm_c803 6 = some xm_e803_6 := xm_gt d_803_6
theorem d_803_7 : List.drop 7 xm_c803 = xm_c803_7 := xm_dr d_803_6
theorem k_803_7 : xm_gi xm_c803 7 = some xm_e803_7 := xm_gt d_803_7
theorem d_803_8 : List.drop 8 xm_c803 = xm_c803_8 := xm_dr d_803_7
theorem k_803_8 : xm_gi xm_c803 8 = some xm_e803_8 := xm_gt d_803_8
theorem d_803_9 : List.drop 9 xm_c803 = xm_c803_9 := xm_dr d_803_8
theorem k_803_9 : xm_gi xm_c803 9 = some xm_e803_9 := xm_gt d_803_9
theorem d_803_10 : List.drop 10 xm_c803 = xm_c803_10 := xm_dr d_803_9
theorem k_803_10 : xm_gi xm_c803 10 = some xm_e803_10 := xm_gt d_803_10
theorem d_803_11 : List.drop 11 xm_c803 = xm_c803_11 := xm_dr d_803_10
theorem k_803_11 : xm_gi xm_c803 11 = some xm_e803_11 := xm_gt d_803_11
theorem d_803_12 : List.drop 12 xm_c803 = xm_c803_12 := xm_dr d_803_11
theorem k_803_12 : xm_gi xm_c803 12 = some xm_e803_12 := xm_gt d_803_12
theorem d_803_13 : List.drop 13 xm_c803 = xm_c803_13 := xm_dr d_803_12
theorem k_803_13 : xm_gi xm_c803 13 = some xm_e803_13 := xm_gt d_803_13
theorem d_803_14 : List.drop 14 xm_c803 = xm_c803_14 := xm_dr d_803_13
theorem k_803_14 : xm_gi xm_c803 14 = some xm_e803_14 := xm_gt d_803_14
theorem d_803_15 : List.drop 15 xm_c803 = xm_c803_15 := xm_dr d_803_14
theorem k_803_15 : xm_gi xm_c803 15 = some xm_e803_15 := xm_gt d_803_15
theorem d_803_16 : List.drop 16 xm_c803 = xm_c803_16 := xm_dr d_803_15
theorem k_803_16 : xm_gi xm_c803 16 = some xm_e803_16 := xm_gt d_803_16
theorem d_803_17 : List.drop 17 xm_c803 = xm_c803_17 := xm_dr d_803_16
theorem k_803_17 : xm_gi xm_c803 17 = some xm_e803_17 := xm_gt d_803_17
theorem d_803_18 : List.drop 18 xm_c803 = xm_c803_18 := xm_dr d_803_17
theorem k_803_18 : xm_gi xm_c803 18 = some xm_e803_18 := xm_gt d_803_18
theorem d_803_19 : List.drop 19 xm_c803 = xm_c803_19 := xm_dr d_803_18
theorem k_803_19 : xm_gi xm_c803 19 = some xm_e803_19 := xm_gt d_803_19
theorem d_803_20 : List.drop 20 xm_c803 = xm_c803_20 := xm_dr d_803_19
theorem k_803_20 : xm_gi xm_c803 20 = some xm_e803_20 := xm_gt d_803_20
theorem d_803_21 : List.drop 21 xm_c803 = xm_c803_21 := xm_dr d_803_20
theorem k_803_21 : xm_gi xm_c803 21 = some xm_e803_21 := xm_gt d_803_21
theorem d_803_22 : List.drop 22 xm_c803 = xm_c803_22 := xm_dr d_803_21
theorem k_803_22 : xm_gi xm_c803 22 = some xm_e803_22 := xm_gt d_803_22
theorem d_803_23 : List.drop 23 xm_c803 = xm_c803_23 := xm_dr d_803_22
theorem k_803_23 : xm_gi xm_c803 23 = some xm_e803_23 := xm_gt d_803_23
theorem d_803_24 : List.drop 24 xm_c803 = xm_c803_24 := xm_dr d_803_23
theorem k_803_24 : xm_gi xm_c803 24 = some xm_e803_24 := xm_gt d_803_24
theorem d_803_25 : List.drop 25 xm_c803 = xm_c803_25 := xm_dr d_803_24
theorem k_803_25 : xm_gi xm_c803 25 = some xm_e803_25 := xm_gt d_803_25
theorem d_803_26 : List.drop 26 xm_c803 = xm_c803_26 := xm_dr d_803_25
theorem k_803_26 : xm_gi xm_c803 26 = some xm_e803_26 := xm_gt d_803_26
theorem d_803_27 : List.drop 27 xm_c803 = xm_c803_27 := xm_dr d_803_26
theorem k_803_27 : xm_gi xm_c803 27 = some xm_e803_27 := xm_gt d_803_27
theorem d_803_28 : List.drop 28 xm_c803 = xm_c803_28 := xm_dr d_803_27
theorem k_803_28 : xm_gi xm_c803 28 = some xm_e803_28 := xm_gt d_803_28
theorem d_803_29 : List.drop 29 xm_c803 = xm_c803_29 := xm_dr d_803_28
theorem k_803_29 : xm_gi xm_c803 29 = some xm_e803_29 := xm_gt d_803_29
theorem d_803_30 : List.drop 30 xm_c803 = xm_c803_30 := xm_dr d_803_29
theorem k_803_30 : xm_gi xm_c803 30 = some xm_e803_30 := xm_gt d_803_30
theorem d_803_31 : List.drop 31 xm_c803 = xm_c803_31 := xm_dr d_803_30
theorem k_803_31 : xm_gi xm_c803 31 = some xm_e803_31 := xm_gt d_803_31
theorem d_803_32 : List.drop 32 xm_c803 = xm_c803_32 := xm_dr d_803_31
theorem k_803_32 : xm_gi xm_c803 32 = some xm_e803_32 := xm_gt d_803_32
theorem xb_803_0 {sc : List Int} {f : Nat → List xm_V → xm_W → xm_R} {w : xm_W} {Q : Option xm_V × xm_W → Prop} {x0 : Nat} {x1 : Int} {x2 : Int} {x3 : Int} {x4 : Int}
  (h : xm_Oi (f 805 [.inl x1, .inl x2] w) (fun z2 w1 => if (z2 : Int) < 0 then (Q (some (.inl 0), w1)) else (if (40 : Int) < x4 then (Q (some (.inl 0), w1)) else (xm_O (xm_ints (xm_old sc) w1 1000001) (fun l3 => xm_O (xm_at l3 (xm_w ((xm_w (z2 * 4)) + x2))) (fun z4 => xm_Ov (f 806 [.inr (.inl (some x0)), .inl z4] w1) (fun w5 => xm_O (xm_ints (xm_old sc) w5 1000000) (fun l6 => xm_O (xm_at l6 z2) (fun z7 => xm_Oi (f 804 [.inr (.inl (some x0)), .inl z4, .inl z7, .inl x3, .inl (xm_w (x4 + 1))] w5) (fun z9 w8 => Q (some (.inl z9), w8))))))))))) :
  xm_EQ (xm_old sc) xm_sta f xm_c803 0 [some (.inr (.inl (some x0))), some (.inl x1), some (.inl x2), some (.inl x3), some (.inl x4), none, none] [] w Q :=
  (xq_iload_n k_803_0 rfl (xq_iload_n k_803_1 rfl (xq_invs1 k_803_2 xr_805 rfl rfl rfl h (fun z2 w1 h => (xq_istore k_803_3 rfl (xq_iload k_803_4 rfl (xq_if_lt k_803_5 h (fun h => (xq_iconst k_803_9 (xq_ireturn k_803_10 h))) (fun h => (xq_iload k_803_6 rfl (xq_bipush k_803_7 (xq_ic_le k_803_8 h (fun h => (xq_iconst k_803_9 (xq_ireturn k_803_10 h))) (fun h => (xq_gets k_803_11 rfl (xq_iload k_803_12 rfl (xq_iconst k_803_13 (xq_imul k_803_14 (xq_iload_n k_803_15 rfl (xq_iadd k_803_16 (xq_iaload k_803_17 h (fun l3 h => h) (fun l3 z4 h => (xq_istore k_803_18 rfl (xq_aload_n k_803_19 rfl (xq_iload k_803_20 rfl (xq_invv0 k_803_21 xr_806 rfl rfl rfl h (fun w5 h => (xq_aload_n k_803_22 rfl (xq_iload k_803_23 rfl (xq_gets k_803_24 rfl (xq_iload k_803_25 rfl (xq_iaload k_803_26 h (fun l6 h => h) (fun l6 z7 h => (xq_iload_n k_803_27 rfl (xq_iload k_803_28 rfl (xq_iconst k_803_29 (xq_iadd k_803_30 (xq_invv1 k_803_31 xr_804 rfl rfl rfl h (fun z9 w8 h => (xq_ireturn k_803_32 h))))))))))))))))))))))))))))))))))))))
/-- ShodBackwards$Speaker.workOut(IIII)I -/
theorem d_804_0 : List.drop 0 xm_c804 = xm_c804 := rfl
theorem k_804_0 : xm_gi xm_c804 0 = some xm_e804_0 := xm_gt d_804_0
theorem d_804_1 : List.drop 1 xm_c804 = xm_c804_1 := xm_dr d_804_0
theorem k_804_1 : xm_gi xm_c804 1 = some xm_e804_1 := xm_gt d_804_1
theorem d_804_2 : List.drop 2 xm_c804 = xm_c804_2 := xm_dr d_804_1
theorem k_804_2 : xm_gi xm_c804 2 = some xm_e804_2 := xm_gt d_804_2
theorem d_804_3 : List.drop 3 xm_c804 = xm_c804_3 := xm_dr d_804_2
theorem k_804_3 : xm_gi xm_c804 3 = some xm_e804_3 := xm_gt d_804_3
theorem d_804_4 : List.drop 4 xm_c804 = xm_c804_4 := xm_dr d_804_3
theorem k_804_4 : xm_gi xm_c804 4 = some xm_e804_4 := xm_gt d_804_4
theorem d_804_5 : List.drop 5 xm_c804 = xm_c804_5 := xm_dr d_804_4
theorem k_804_5 : xm_gi xm_c804 5 = some xm_e804_5 := xm_gt d_804_5
theorem d_804_6 : List.drop 6 xm_c804 = xm_c804_6 := xm_dr d_804_5
theorem k_804_6 : xm_gi xm_c804 6 = some xm_e804_6 := xm_gt d_804_6
theorem d_804_7 : List.drop 7 xm_c804 = xm_c804_7 := xm_dr d_804_6
theorem k_804_7 : xm_gi xm_c804 7 = some xm_e804_7 := xm_gt d_804_7
theorem d_804_8 : List.drop 8 xm_c804 = xm_c804_8 := xm_dr d_804_7
theorem k_804_8 : xm_gi xm_c804 8 = some xm_e804_8 := xm_gt d_804_8
theorem d_804_9 : List.drop 9 xm_c804 = xm_c804_9 := xm_dr d_804_8
theorem k_804_9 : xm_gi xm_c804 9 = some xm_e804_9 := xm_gt d_804_9
theorem d_804_10 : List.drop 10 xm_c804 = xm_c804_10 := xm_dr d_804_9
theorem k_804_10 : xm_gi xm_c804 10 = some xm_e804_10 := xm_gt d_804_10
theorem d_804_11 : List.drop 11 xm_c804 = xm_c804_11 := xm_dr d_804_10
theorem k_804_11 : xm_gi xm_c804 11 = some xm_e804_11 := xm_gt d_804_11
theorem d_804_12 : List.drop 12 xm_c804 = xm_c804_12 := xm_dr d_804_11
theorem k_804_12 : xm_gi xm_c804 12 = some xm_e804_12 := xm_gt d_804_12
theorem d_804_13 : List.drop 13 xm_c804 = xm_c804_13 := xm_dr d_804_12
theorem k_804_13 : xm_gi xm_c804 13 = some xm_e804_13 := xm_gt d_804_13
theorem d_804_14 : List.drop 14 xm_c804 = xm_c804_14 := xm_dr d_804_13
theorem k_804_14 : xm_gi xm_c804 14 = some xm_e804_14 := xm_gt d_804_14
theorem d_804_15 : List.drop 15 xm_c804 = xm_c804_15 := xm_dr d_804_14
theorem k_804_15 : xm_gi xm_c804 15 = some xm_e804_15 := xm_gt d_804_15
theorem d_804_16 : List.drop 16 xm_c804 = xm_c804_16 := xm_dr d_804_15
theorem k_804_16 : xm_gi xm_c804 16 = some xm_e804_16 := xm_gt d_804_16
theorem d_804_17 : List.drop 17 xm_c804 = xm_c804_17 := xm_dr d_804_16
theorem k_804_17 : xm_gi xm_c804 17 = some xm_e804_17 := xm_gt d_804_17
theorem d_804_18 : List.drop 18 xm_c804 = xm_c804_18 := xm_dr d_804_17
theorem k_804_18 : xm_gi xm_c804 18 = some xm_e804_18 := xm_gt d_804_18
theorem d_804_19 : List.drop 19 xm_c804 = xm_c804_19 := xm_dr d_804_18
theorem k_804_19 : xm_gi xm_c804 19 = some xm_e804_19 := xm_gt d_804_19
theorem d_804_20 : List.drop 20 xm_c804 = xm_c804_20 := xm_dr d_804_19
theorem k_804_20 : xm_gi xm_c804 20 = some xm_e804_20 := xm_gt d_804_20
theorem d_804_21 : List.drop 21 xm_c804 = xm_c804_21 := xm_dr d_804_20
theorem k_804_21 : xm_gi xm_c804 21 = some xm_e804_21 := xm_gt d_804_21
theorem d_804_22 : List.drop 22 xm_c804 = xm_c804_22 := xm_dr d_804_21
theorem k_804_22 : xm_gi xm_c804 22 = some xm_e804_22 := xm_gt d_804_22
theorem d_804_23 : List.drop 23 xm_c804 = xm_c804_23 := xm_dr d_804_22
theorem k_804_23 : xm_gi xm_c804 23 = some xm_e804_23 := xm_gt d_804_23
theorem d_804_24 : List.drop 24 xm_c804 = xm_c804_24 := xm_dr d_804_23
theorem k_804_24 : xm_gi xm_c804 24 = some xm_e804_24 := xm_gt d_804_24
theorem d_804_25 : List.drop 25 xm_c804 = xm_c804_25 := xm_dr d_804_24
theorem k_804_25 : xm_gi xm_c804 25 = some xm_e804_25 := xm_gt d_804_25
theorem d_804_26 : List.drop 26 xm_c804 = xm_c804_26 := xm_dr d_804_25
theorem k_804_26 : xm_gi xm_c804 26 = some xm_e804_26 := xm_gt d_804_26
theorem d_804_27 : List.drop 27 xm_c804 = xm_c804_27 := xm_dr d_804_26
theorem k_804_27 : xm_gi xm_c804 27 = some xm_e804_27 := xm_gt d_804_27
theorem d_804_28 : List.drop 28 xm_c804 = xm_c804_28 := xm_dr d_804_27
theorem k_804_28 : xm_gi xm_c804 28 = some xm_e804_28 := xm_gt d_804_28
theorem d_804_29 : List.drop 29 xm_c804 = xm_c804_29 := xm_dr d_804_28
theorem k_804_29 : xm_gi xm_c804 29 = some xm_e804_29 := xm_gt d_804_29
theorem d_804_30 : List.drop 30 xm_c804 = xm_c804_30 := xm_dr d_804_29
theorem k_804_30 : xm_gi xm_c804 30 = some xm_e804_30 := xm_gt d_804_30
theorem d_804_31 : List.drop 31 xm_c804 = xm_c804_31 := xm_dr d_804_30
theorem k_804_31 : xm_gi xm_c804 31 = some xm_e804_31 := xm_gt d_804_31
theorem d_804_32 : List.drop 32 xm_c804 = xm_c804_32 := xm_dr d_804_31
theorem k_804_32 : xm_gi xm_c804 32 = some xm_e804_32 := xm_gt d_804_32
theorem d_804_33 : List.drop 33 xm_c804 = xm_c804_33 := xm_dr d_804_32
theorem k_804_33 : xm_gi xm_c804 33 = some xm_e804_33 := xm_gt d_804_33
theorem d_804_34 : List.drop 34 xm_c804 = xm_c804_34 := xm_dr d_804_33
theorem k_804_34 : xm_gi xm_c804 34 = some xm_e804_34 := xm_gt d_804_34
theorem d_804_35 : List.drop 35 xm_c804 = xm_c804_35 := xm_dr d_804_34
theorem k_804_35 : xm_gi xm_c804 35 = some xm_e804_35 := xm_gt d_804_35
theorem d_804_36 : List.drop 36 xm_c804 = xm_c804_36 := xm_dr d_804_35
theorem k_804_36 : xm_gi xm_c804 36 = some xm_e804_36 := xm_gt d_804_36
theorem d_804_37 : List.drop 37 xm_c804 = xm_c804_37 := xm_dr d_804_36
theorem k_804_37 : xm_gi xm_c804 37 = some xm_e804_37 := xm_gt d_804_37
theorem d_804_38 : List.drop 38 xm_c804 = xm_c804_38 := xm_dr d_804_37
theorem k_804_38 : xm_gi xm_c804 38 = some xm_e804_38 := xm_gt d_804_38
theorem d_804_39 : List.drop 39 xm_c804 = xm_c804_39 := xm_dr d_804_38
theorem k_804_39 : xm_gi xm_c804 39 = some xm_e804_39 := xm_gt d_804_39
theorem d_804_40 : List.drop 40 xm_c804 = xm_c804_40 := xm_dr d_804_39
theorem k_804_40 : xm_gi xm_c804 40 = some xm_e804_40 := xm_gt d_804_40
theorem d_804_41 : List.drop 41 xm_c804 = xm_c804_41 := xm_dr d_804_40
theorem k_804_41 : xm_gi xm_c804 41 = some xm_e804_41 := xm_gt d_804_41
theorem d_804_42 : List.drop 42 xm_c804 = xm_c804_42 := xm_dr d_804_41
theorem k_804_42 : xm_gi xm_c804 42 = some xm_e804_42 := xm_gt d_804_42
theorem d_804_43 : List.drop 43 xm_c804 = xm_c804_43 := xm_dr d_804_42
theorem k_804_43 : xm_gi xm_c804 43 = some xm_e804_43 := xm_gt d_804_43
theorem d_804_44 : List.drop 44 xm_c804 = xm_c804_44 := xm_dr d_804_43
theorem k_804_44 : xm_gi xm_c804 44 = some xm_e804_44 := xm_gt d_804_44
theorem d_804_45 : List.drop 45 xm_c804 = xm_c804_45 := xm_dr d_804_44
theorem k_804_45 : xm_gi xm_c804 45 = some xm_e804_45 := xm_gt d_804_45
theorem d_804_46 : List.drop 46 xm_c804 = xm_c804_46 := xm_dr d_804_45
theorem k_804_46 : xm_gi xm_c804 46 = some xm_e804_46 := xm_gt d_804_46
theorem d_804_47 : List.drop 47 xm_c804 = xm_c804_47 := xm_dr d_804_46
theorem k_804_47 : xm_gi xm_c804 47 = some xm_e804_47 := xm_gt d_804_47
theorem d_804_48 : List.drop 48 xm_c804 = xm_c804_48 := xm_dr d_804_47
theorem k_804_48 : xm_gi xm_c804 48 = some xm_e804_48 := xm_gt d_804_48
theorem d_804_49 : List.drop 49 xm_c804 = xm_c804_49 := xm_dr d_804_48
theorem k_804_49 : xm_gi xm_c804 49 = some xm_e804_49 := xm_gt d_804_49
theorem d_804_50 : List.drop 50 xm_c804 = xm_c804_50 := xm_dr d_804_49
theorem k_804_50 : xm_gi xm_c804 50 = some xm_e804_50 := xm_gt d_804_50
theorem d_804_51 : List.drop 51 xm_c804 = xm_c804_51 := xm_dr d_804_50
theorem k_804_51 : xm_gi xm_c804 51 = some xm_e804_51 := xm_gt d_804_51
theorem d_804_52 : List.drop 52 xm_c804 = xm_c804_52 := xm_dr d_804_51
theorem k_804_52 : xm_gi xm_c804 52 = some xm_e804_52 := xm_gt d_804_52
theorem d_804_53 : List.drop 53 xm_c804 = xm_c804_53 := xm_dr d_804_52
theorem k_804_53 : xm_gi xm_c804 53 = some xm_e804_53 := xm_gt d_804_53
theorem d_804_54 : List.drop 54 xm_c804 = xm_c804_54 := xm_dr d_804_53
theorem k_804_54 : xm_gi xm_c804 54 = some xm_e804_54 := xm_gt d_804_54
theorem d_804_55 : List.drop 55 xm_c804 = xm_c804_55 := xm_dr d_804_54
theorem k_804_55 : xm_gi xm_c804 55 = some xm_e804_55 := xm_gt d_804_55
theorem d_804_56 : List.drop 56 xm_c804 = xm_c804_56 := xm_dr d_804_55
theorem k_804_56 : xm_gi xm_c804 56 = some xm_e804_56 := xm_gt d_804_56
theorem d_804_57 : List.drop 57 xm_c804 = xm_c804_57 := xm_dr d_804_56
theorem k_804_57 : xm_gi xm_c804 57 = some xm_e804_57 := xm_gt d_804_57
theorem d_804_58 : List.drop 58 xm_c804 = xm_c804_58 := xm_dr d_804_57
theorem k_804_58 : xm_gi xm_c804 58 = some xm_e804_58 := xm_gt d_804_58
theorem d_804_59 : List.drop 59 xm_c804 = xm_c804_59 := xm_dr d_804_58
theorem k_804_59 : xm_gi xm_c804 59 = some xm_e804_59 := xm_gt d_804_59
theorem d_804_60 : List.drop 60 xm_c804 = xm_c804_60 := xm_dr d_804_59
theorem k_804_60 : xm_gi xm_c804 60 = some xm_e804_60 := xm_gt d_804_60
theorem d_804_61 : List.drop 61 xm_c804 = xm_c804_61 := xm_dr d_804_60
theorem k_804_61 : xm_gi xm_c804 61 = some xm_e804_61 := xm_gt d_804_61
theorem d_804_62 : List.drop 62 xm_c804 = xm_c804_62 := xm_dr d_804_61
theorem k_804_62 : xm_gi xm_c804 62 = some xm_e804_62 := xm_gt d_804_62
theorem d_804_63 : List.drop 63 xm_c804 = xm_c804_63 := xm_dr d_804_62
theorem k_804_63 : xm_gi xm_c804 63 = some xm_e804_63 := xm_gt d_804_63
theorem d_804_64 : List.drop 64 xm_c804 = xm_c804_64 := xm_dr d_804_63
theorem k_804_64 : xm_gi xm_c804 64 = some xm_e804_64 := xm_gt d_804_64
theorem d_804_65 : List.drop 65 xm_c804 = xm_c804_65 := xm_dr d_804_64
theorem k_804_65 : xm_gi xm_c804 65 = some xm_e804_65 := xm_gt d_804_65
theorem d_804_66 : List.drop 66 xm_c804 = xm_c804_66 := xm_dr d_804_65
theorem k_804_66 : xm_gi xm_c804 66 = some xm_e804_66 := xm_gt d_804_66
theorem d_804_67 : List.drop 67 xm_c804 = xm_c804_67 := xm_dr d_804_66
theorem k_804_67 : xm_gi xm_c804 67 = some xm_e804_67 := xm_gt d_804_67
theorem d_804_68 : List.drop 68 xm_c804 = xm_c804_68 := xm_dr d_804_67
theorem k_804_68 : xm_gi xm_c804 68 = some xm_e804_68 := xm_gt d_804_68
theorem d_804_69 : List.drop 69 xm_c804 = xm_c804_69 := xm_dr d_804_68
theorem k_804_69 : xm_gi xm_c804 69 = some xm_e804_69 := xm_gt d_804_69
theorem d_804_70 : List.drop 70 xm_c804 = xm_c804_70 := xm_dr d_804_69
theorem k_804_70 : xm_gi xm_c804 70 = some xm_e804_70 := xm_gt d_804_70
theorem d_804_71 : List.drop 71 xm_c804 = xm_c804_71 := xm_dr d_804_70
theorem k_804_71 : xm_gi xm_c804 71 = some xm_e804_71 := xm_gt d_804_71
theorem d_804_72 : List.drop 72 xm_c804 = xm_c804_72 := xm_dr d_804_71
theorem k_804_72 : xm_gi xm_c804 72 = some xm_e804_72 := xm_gt d_804_72
theorem d_804_73 : List.drop 73 xm_c804 = xm_c804_73 := xm_dr d_804_72
theorem k_804_73 : xm_gi xm_c804 73 = some xm_e804_73 := xm_gt d_804_73
theorem d_804_74 : List.drop 74 xm_c804 = xm_c804_74 := xm_dr d_804_73
theorem k_804_74 : xm_gi xm_c804 74 = some xm_e804_74 := xm_gt d_804_74
theorem d_804_75 : List.drop 75 xm_c804 = xm_c804_75 := xm_dr d_804_74
theorem k_804_75 : xm_gi xm_c804 75 = some xm_e804_75 := xm_gt d_804_75
theorem d_804_76 : List.drop 76 xm_c804 = xm_c804_76 := xm_dr d_804_75
theorem k_804_76 : xm_gi xm_c804 76 = some xm_e804_76 := xm_gt d_804_76
theorem d_804_77 : List.drop 77 xm_c804 = xm_c804_77 := xm_dr d_804_76
theorem k_804_77 : xm_gi xm_c804 77 = some xm_e804_77 := xm_gt d_804_77
theorem d_804_78 : List.drop 78 xm_c804 = xm_c804_78 := xm_dr d_804_77
theorem k_804_78 : xm_gi xm_c804 78 = some xm_e804_78 := xm_gt d_804_78
theorem d_804_79 : List.drop 79 xm_c804 = xm_c804_79 := xm_dr d_804_78
theorem k_804_79 : xm_gi xm_c804 79 = some xm_e804_79 := xm_gt d_804_79
theorem d_804_80 : List.drop 80 xm_c804 = xm_c804_80 := xm_dr d_804_79
theorem k_804_80 : xm_gi xm_c804 80 = some xm_e804_80 := xm_gt d_804_80
theorem d_804_81 : List.drop 81 xm_c804 = xm_c804_81 := xm_dr d_804_80
theorem k_804_81 : xm_gi xm_c804 81 = some xm_e804_81 := xm_gt d_804_81
theorem d_804_82 : List.drop 82 xm_c804 = xm_c804_82 := xm_dr d_804_81
theorem k_804_82 : xm_gi xm_c804 82 = some xm_e804_82 := xm_gt d_804_82
theorem d_804_83 : List.drop 83 xm_c804 = xm_c804_83 := xm_dr d_804_82
theorem k_804_83 : xm_gi xm_c804 83 = some xm_e804_83 := xm_gt d_804_83
theorem d_804_84 : List.drop 84 xm_c804 = xm_c804_84 := xm_dr d_804_83
theorem k_804_84 : xm_gi xm_c804 84 = some xm_e804_84 := xm_gt d_804_84
theorem d_804_85 : List.drop 85 xm_c804 = xm_c804_85 := xm_dr d_804_84
theorem k_804_85 : xm_gi xm_c804 85 = some xm_e804_85 := xm_gt d_804_85
theorem d_804_86 : List.drop 86 xm_c804 = xm_c804_86 := xm_dr d_804_85
theorem k_804_86 : xm_gi xm_c804 86 = some xm_e804_86 := xm_gt d_804_86
theorem d_804_87 : List.drop 87 xm_c804 = xm_c804_87 := xm_dr d_804_86
theorem k_804_87 : xm_gi xm_c804 87 = some xm_e804_87 := xm_gt d_804_87
theorem d_804_88 : List.drop 88 xm_c804 = xm_c804_88 := xm_dr d_804_87
theorem k_804_88 : xm_gi xm_c804 88 = some xm_e804_88 := xm_gt d_804_88
theorem d_804_89 : List.drop 89 xm_c804 = xm_c804_89 := xm_dr d_804_88
theorem k_804_89 : xm_gi xm_c804 89 = some xm_e804_89 := xm_gt d_804_89
theorem d_804_90 : List.drop 90 xm_c804 = xm_c804_90 := xm_dr d_804_89
theorem k_804_90 : xm_gi xm_c804 90 = some xm_e804_90 := xm_gt d_804_90
theorem d_804_91 : List.drop 91 xm_c804 = xm_c804_91 := xm_dr d_804_90
theorem k_804_91 : xm_gi xm_c804 91 = some xm_e804_91 := xm_gt d_804_91
theorem d_804_92 : List.drop 92 xm_c804 = xm_c804_92 := xm_dr d_804_91
theorem k_804_92 : xm_gi xm_c804 92 = some xm_e804_92 := xm_gt d_804_92
theorem d_804_93 : List.drop 93 xm_c804 = xm_c804_93 := xm_dr d_804_92
theorem k_804_93 : xm_gi xm_c804 93 = some xm_e804_93 := xm_gt d_804_93
theorem d_804_94 : List.drop 94 xm_c804 = xm_c804_94 := xm_dr d_804_93
theorem k_804_94 : xm_gi xm_c804 94 = some xm_e804_94 := xm_gt d_804_94
theorem d_804_95 : List.drop 95 xm_c804 = xm_c804_95 := xm_dr d_804_94
theorem k_804_95 : xm_gi xm_c804 95 = some xm_e804_95 := xm_gt d_804_95
theorem d_804_96 : List.drop 96 xm_c804 = xm_c804_96 := xm_dr d_804_95
theorem k_804_96 : xm_gi xm_c804 96 = some xm_e804_96 := xm_gt d_804_96
theorem d_804_97 : List.drop 97 xm_c804 = xm_c804_97 := xm_dr d_804_96
theorem k_804_97 : xm_gi xm_c804 97 = some xm_e804_97 := xm_gt d_804_97
theorem d_804_98 : List.drop 98 xm_c804 = xm_c804_98 := xm_dr d_804_97
theorem k_804_98 : xm_gi xm_c804 98 = some xm_e804_98 := xm_gt d_804_98
theorem d_804_99 : List.drop 99 xm_c804 = xm_c804_99 := xm_dr d_804_98
theorem k_804_99 : xm_gi xm_c804 99 = some xm_e804_99 := xm_gt d_804_99
theorem d_804_100 : List.drop 100 xm_c804 = xm_c804_100 := xm_dr d_804_99
theorem k_804_100 : xm_gi xm_c804 100 = some xm_e804_100 := xm_gt d_804_100
theorem d_804_101 : List.drop 101 xm_c804 = xm_c804_101 := xm_dr d_804_100
theorem k_804_101 : xm_gi xm_c804 101 = some xm_e804_101 := xm_gt d_804_101
theorem d_804_102 : List.drop 102 xm_c804 = xm_c804_102 := xm_dr d_804_101
theorem k_804_102 : xm_gi xm_c804 102 = some xm_e804_102 := xm_gt d_804_102
theorem d_804_103 : List.drop 103 xm_c804 = xm_c804_103 := xm_dr d_804_102
theorem k_804_103 : xm_gi xm_c804 103 = some xm_e804_103 := xm_gt d_804_103
theorem d_804_104 : List.drop 104 xm_c804 = xm_c804_104 := xm_dr d_804_103
theorem k_804_104 : xm_gi xm_c804 104 = some xm_e804_104 := xm_gt d_804_104
theorem d_804_105 : List.drop 105 xm_c804 = xm_c804_105 := xm_dr d_804_104
theorem k_804_105 : xm_gi xm_c804 105 = some xm_e804_105 := xm_gt d_804_105
theorem d_804_106 : List.drop 106 xm_c804 = xm_c804_106 := xm_dr d_804_105
theorem k_804_106 : xm_gi xm_c804 106 = some xm_e804_106 := xm_gt d_804_106
theorem d_804_107 : List.drop 107 xm_c804 = xm_c804_107 := xm_dr d_804_106
theorem k_804_107 : xm_gi xm_c804 107 = some xm_e804_107 := xm_gt d_804_107
theorem d_804_108 : List.drop 108 xm_c804 = xm_c804_108 := xm_dr d_804_107
theorem k_804_108 : xm_gi xm_c804 108 = some xm_e804_108 := xm_gt d_804_108
theorem d_804_109 : List.drop 109 xm_c804 = xm_c804_109 := xm_dr d_804_108
theorem k_804_109 : xm_gi xm_c804 109 = some xm_e804_109 := xm_gt d_804_109
theorem d_804_110 : List.drop 110 xm_c804 = xm_c804_110 := xm_dr d_804_109
theorem k_804_110 : xm_gi xm_c804 110 = some xm_e804_110 := xm_gt d_804_110
theorem d_804_111 : List.drop 111 xm_c804 = xm_c804_111 := xm_dr d_804_110
theorem k_804_111 : xm_gi xm_c804 111 = some xm_e804_111 := xm_gt d_804_111
theorem d_804_112 : List.drop 112 xm_c804 = xm_c804_112 := xm_dr d_804_111
theorem k_804_112 : xm_gi xm_c804 112 = some xm_e804_112 := xm_gt d_804_112
theorem d_804_113 : List.drop 113 xm_c804 = xm_c804_113 := xm_dr d_804_112
theorem k_804_113 : xm_gi xm_c804 113 = some xm_e804_113 := xm_gt d_804_113
theorem d_804_114 : List.drop 114 xm_c804 = xm_c804_114 := xm_dr d_804_113
theorem k_804_114 : xm_gi xm_c804 114 = some xm_e804_114 := xm_gt d_804_114
theorem d_804_115 : List.drop 115 xm_c804 = xm_c804_115 := xm_dr d_804_114
theorem k_804_115 : xm_gi xm_c804 115 = some xm_e804_115 := xm_gt d_804_115
theorem d_804_116 : List.drop 116 xm_c804 = xm_c804_116 := xm_dr d_804_115
theorem k_804_116 : xm_gi xm_c804 116 = some xm_e804_116 := xm_gt d_804_116
theorem d_804_117 : List.drop 117 xm_c804 = xm_c804_117 := xm_dr d_804_116
theorem k_804_117 : xm_gi xm_c804 117 = some xm_e804_117 := xm_gt d_804_117
theorem d_804_118 : List.drop 118 xm_c804 = xm_c804_118 := xm_dr d_804_117
theorem k_804_118 : xm_gi xm_c804 118 = some xm_e804_118 := xm_gt d_804_118
theorem d_804_119 : List.drop 119 xm_c804 = xm_c804_119 := xm_dr d_804_118
theorem k_804_119 : xm_gi xm_c804 119 = some xm_e804_119 := xm_gt d_804_119
theorem d_804_120 : List.drop 120 xm_c804 = xm_c804_120 := xm_dr d_804_119
theorem k_804_120 : xm_gi xm_c804 120 = some xm_e804_120 := xm_gt d_804_120
theorem d_804_121 : List.drop 121 xm_c804 = xm_c804_121 := xm_dr d_804_120
theorem k_804_121 : xm_gi xm_c804 121 = some xm_e804_121 := xm_gt d_804_121
theorem d_804_122 : List.drop 122 xm_c804 = xm_c804_122 := xm_dr d_804_121
theorem k_804_122 : xm_gi xm_c804 122 = some xm_e804_122 := xm_gt d_804_122
theorem d_804_123 : List.drop 123 xm_c804 = xm_c804_123 := xm_dr d_804_122
theorem k_804_123 : xm_gi xm_c804 123 = some xm_e804_123 := xm_gt d_804_123
theorem d_804_124 : List.drop 124 xm_c804 = xm_c804_124 := xm_dr d_804_123
theorem k_804_124 : xm_gi xm_c804 124 = some xm_e804_124 := xm_gt d_804_124
theorem xb_804_0 {sc : List Int} {f : Nat → List xm_V → xm_W → xm_R} {w : xm_W} {Q : Option xm_V × xm_W → Prop} {x0 : Nat} {x1 : Int} {x2 : Int} {x3 : Int} {x4 : Int}
  (h : if (x1 : Int) = 10 then (xm_O (xm_fi (xm_old sc) w x0 6 4) (fun z33 => Q (some (.inl (xm_w (x3 + z33))), w))) else (if (x1 : Int) = 11 then (xm_O (xm_fi (xm_old sc) w x0 6 2) (fun z30 => xm_Oi (f 803 [.inr (.inl (some x0)), .inl z30, .inl 0, .inl x3, .inl x4] w) (fun z32 w31 => Q (some (.inl (xm_w (z32 * 2))), w31)))) else (if (x1 : Int) = 12 then (xm_O (xm_fi (xm_old sc) w x0 6 2) (fun z26 => xm_Oi (f 803 [.inr (.inl (some x0)), .inl z26, .inl 1, .inl x3, .inl x4] w) (fun z28 w27 => xm_O (xm_fi (xm_old sc) w27 x0 6 3) (fun z29 => Q (some (.inl (xm_w (z28 - z29))), w27))))) else (if (x1 : Int) = 13 then (xm_O (xm_fi (xm_old sc) w x0 6 3) (fun z22 => xm_O (xm_fi (xm_old sc) w x0 6 4) (fun z23 => if (z22 : Int) = z23 then (Q (some (.inl 0), w)) else (xm_O (xm_fi (xm_old sc) w x0 6 3) (fun z24 => xm_O (xm_fi (xm_old sc) w x0 6 4) (fun z25 => ((xm_w (z24 - z25)) : Int) ≠ 0 ∧ (Q (some (.inl (xm_w (Int.tdiv x3 (xm_w (z24 - z25))))), w)))))))) else (if (x1 : Int) = 20 then (xm_Oi (f 803 [.inr (.inl (some x0)), .inl x2, .inl 0, .inl x3, .inl x4] w) (fun z21 w20 => Q (some (.inl (xm_w (z21 - 7))), w20))) else (if (x1 : Int) = 21 then (xm_Oi (f 803 [.inr (.inl (some x0)), .inl x2, .inl 3, .inl x3, .inl x4] w) (fun z16 w15 => xm_O (xm_fi (xm_old sc) w15 x0 6 2) (fun z17 => xm_Oi (f 803 [.inr (.inl (some x0)), .inl z17, .inl 1, .inl 1, .inl x4] w15) (fun z19 w18 => Q (some (.inl (xm_w (z16 + z19))), w18))))) else (if (x1 : Int) = 30 then (xm_Oi (f 803 [.inr (.inl (some x0)), .inl x2, .inl 1, .inl x3, .inl x4] w) (fun z14 w13 => Q (some (.inl (xm_w (0 - z14))), w13))) else (if (x1 : Int) = 40 then ((2 : Int) ≠ 0 ∧ (xm_Oi (f 803 [.inr (.inl (some x0)), .inl x2, .inl 2, .inl (xm_w (Int.tdiv x3 2)), .inl x4] w) (fun z12 w11 => Q (some (.inl z12), w11)))) else (if (x1 : Int) = 50 then (xm_Oi (f 803 [.inr (.inl (some x0)), .inl x2, .inl 0, .inl x3, .inl x4] w) (fun z10 w9 => Q (some (.inl (xm_w (z10 * 3))), w9))) else (if (x1 : Int) = 51 then (xm_Oi (f 803 [.inr (.inl (some x0)), .inl x2, .inl 2, .inl x3, .inl x4] w) (fun z7 w6 => xm_O (xm_fi (xm_old sc) w6 x0 6 4) (fun z8 => Q (some (.inl (xm_xor z7 z8)), w6)))) else (if (x1 : Int) = 60 then (xm_Oi (f 803 [.inr (.inl (some x0)), .inl x2, .inl 1, .inl (xm_w (x3 + 1)), .inl x4] w) (fun z5 w4 => Q (some (.inl z5), w4))) else (if (x1 : Int) = 70 then (Q (some (.inl 5), w)) else (xm_Oi (f 803 [.inr (.inl (some x0)), .inl x2, .inl 1, .inl x3, .inl x4] w) (fun z2 w1 => xm_O (xm_fi (xm_old sc) w1 x0 6 3) (fun z3 => Q (some (.inl (xm_w (z2 + z3))), w1)))))))))))))))) :
  xm_EQ (xm_old sc) xm_sta f xm_c804 0 [some (.inr (.inl (some x0))), some (.inl x1), some (.inl x2), some (.inl x3), some (.inl x4)] [] w Q :=
  (xq_iload_n k_804_0 rfl (xq_lsw k_804_1 (xs_swc h (fun h => (xq_iload_n k_804_2 rfl (xq_aload_n k_804_3 rfl (xq_geti0 k_804_4 rfl h (fun z33 h => (xq_iadd k_804_5 (xq_ireturn k_804_6 h))))))) (fun h => (xs_swc h (fun h => (xq_aload_n k_804_7 rfl (xq_aload_n k_804_8 rfl (xq_geti0 k_804_9 rfl h (fun z30 h => (xq_iconst k_804_10 (xq_iload_n k_804_11 rfl (xq_iload k_804_12 rfl (xq_invv1 k_804_13 xr_803 rfl rfl rfl h (fun z32 w31 h => (xq_iconst k_804_14 (xq_imul k_804_15 (xq_ireturn k_804_16 h))))))))))))) (fun h => (xs_swc h (fun h => (xq_aload_n k_804_17 rfl (xq_aload_n k_804_18 rfl (xq_geti0 k_804_19 rfl h (fun z26 h => (xq_iconst k_804_20 (xq_iload_n k_804_21 rfl (xq_iload k_804_22 rfl (xq_invv1 k_804_23 xr_803 rfl rfl rfl h (fun z28 w27 h => (xq_aload_n k_804_24 rfl (xq_geti0 k_804_25 rfl h (fun z29 h => (xq_isub k_804_26 (xq_ireturn k_804_27 h))))))))))))))) (fun h => (xs_swc h (fun h => (xq_aload_n k_804_28 rfl (xq_geti0 k_804_29 rfl h (fun z22 h => (xq_aload_n k_804_30 rfl (xq_geti0 k_804_31 rfl h (fun z23 h => (xq_ic_ne k_804_32 h (fun h => (xq_iconst k_804_33 (xq_goto k_804_34 (xq_ireturn k_804_42 h)))) (fun h => (xq_iload_n k_804_35 rfl (xq_aload_n k_804_36 rfl (xq_geti0 k_804_37 rfl h (fun z24 h => (xq_aload_n k_804_38 rfl (xq_geti0 k_804_39 rfl h (fun z25 h => (xq_isub k_804_40 (xq_idiv k_804_41 h (fun h => (xq_ireturn k_804_42 h)))))))))))))))))))) (fun h => (xs_swc h (fun h => (xq_aload_n k_804_43 rfl (xq_iload_n k_804_44 rfl (xq_iconst k_804_45 (xq_iload_n k_804_46 rfl (xq_iload k_804_47 rfl (xq_invv1 k_804_48 xr_803 rfl rfl rfl h (fun z21 w20 h => (xq_bipush k_804_49 (xq_isub k_804_50 (xq_ireturn k_804_51 h))))))))))) (fun h => (xs_swc h (fun h => (xq_aload_n k_804_52 rfl (xq_iload_n k_804_53 rfl (xq_iconst k_804_54 (xq_iload_n k_804_55 rfl (xq_iload k_804_56 rfl (xq_invv1 k_804_57 xr_803 rfl rfl rfl h (fun z16 w15 h => (xq_aload_n k_804_58 rfl (xq_aload_n k_804_59 rfl (xq_geti0 k_804_60 rfl h (fun z17 h => (xq_iconst k_804_61 (xq_iconst k_804_62 (xq_iload k_804_63 rfl (xq_invv1 k_804_64 xr_803 rfl rfl rfl h (fun z19 w18 h => (xq_iadd k_804_65 (xq_ireturn k_804_66 h))))))))))))))))))) (fun h => (xs_swc h (fun h => (xq_iconst k_804_67 (xq_aload_n k_804_68 rfl (xq_iload_n k_804_69 rfl (xq_iconst k_804_70 (xq_iload_n k_804_71 rfl (xq_iload k_804_72 rfl (xq_invv1 k_804_73 xr_803 rfl rfl rfl h (fun z14 w13 h => (xq_isub k_804_74 (xq_ireturn k_804_75 h))))))))))) (fun h => (xs_swc h (fun h => (xq_aload_n k_804_76 rfl (xq_iload_n k_804_77 rfl (xq_iconst k_804_78 (xq_iload_n k_804_79 rfl (xq_iconst k_804_80 (xq_idiv k_804_81 h (fun h => (xq_iload k_804_82 rfl (xq_invv1 k_804_83 xr_803 rfl rfl rfl h (fun z12 w11 h => (xq_ireturn k_804_84 h)))))))))))) (fun h => (xs_swc h (fun h => (xq_aload_n k_804_85 rfl (xq_iload_n k_804_86 rfl (xq_iconst k_804_87 (xq_iload_n k_804_88 rfl (xq_iload k_804_89 rfl (xq_invv1 k_804_90 xr_803 rfl rfl rfl h (fun z10 w9 h => (xq_iconst k_804_91 (xq_imul k_804_92 (xq_ireturn k_804_93 h))))))))))) (fun h => (xs_swc h (fun h => (xq_aload_n k_804_94 rfl (xq_iload_n k_804_95 rfl (xq_iconst k_804_96 (xq_iload_n k_804_97 rfl (xq_iload k_804_98 rfl (xq_invv1 k_804_99 xr_803 rfl rfl rfl h (fun z7 w6 h => (xq_aload_n k_804_100 rfl (xq_geti0 k_804_101 rfl h (fun z8 h => (xq_ixor k_804_102 (xq_ireturn k_804_103 h))))))))))))) (fun h => (xs_swc h (fun h => (xq_aload_n k_804_104 rfl (xq_iload_n k_804_105 rfl (xq_iconst k_804_106 (xq_iload_n k_804_107 rfl (xq_iconst k_804_108 (xq_iadd k_804_109 (xq_iload k_804_110 rfl (xq_invv1 k_804_111 xr_803 rfl rfl rfl h (fun z5 w4 h => (xq_ireturn k_804_112 h))))))))))) (fun h => (xs_swc h (fun h => (xq_iconst k_804_113 (xq_ireturn k_804_114 h))) (fun h => (xq_aload_n k_804_115 rfl (xq_iload_n k_804_116 rfl (xq_iconst k_804_117 (xq_iload_n k_804_118 rfl (xq_iload k_804_119 rfl (xq_invv1 k_804_120 xr_803 rfl rfl rfl h (fun z2 w1 h => (xq_aload_n k_804_121 rfl (xq_geti0 k_804_122 rfl h (fun z3 h => (xq_iadd k_804_123 (xq_ireturn k_804_124 h))))))))))))))))))))))))))))))))))))))
/-- ShodBackwards$Speaker.holderOf(II)I -/
theorem d_805_0 : List.drop 0 xm_c805 = xm_c805 := rfl
theorem k_805_0 : xm_gi xm_c805 0 = some xm_e805_0 := xm_gt d_805_0
theorem d_805_1 : List.drop 1 xm_c805 = xm_c805_1 := xm_dr d_805_0
theorem k_805_1 : xm_gi xm_c805 1 = some xm_e805_1 := xm_gt d_805_1
theorem d_805_2 : List.drop 2 xm_c805 = xm_c805_2 := xm_dr d_805_1
theorem k_805_2 : xm_gi xm_c805 2 = some xm_e805_2 := xm_gt d_805_2
theorem d_805_3 : List.drop 3 xm_c805 = xm_c805_3 := xm_dr d_805_2
theorem k_805_3 : xm_gi xm_c805 3 = some xm_e805_3 := xm_gt d_805_3
theorem d_805_4 : List.drop 4 xm_c805 = xm_c805_4 := xm_dr d_805_3
theorem k_805_4 : xm_gi xm_c805 4 = some xm_e805_4 := xm_gt d_805_4
theorem d_805_5 : List.drop 5 xm_c805 = xm_c805_5 := xm_dr d_805_4
theorem k_805_5 : xm_gi xm_c805 5 = some xm_e805_5 := xm_gt d_805_5
theorem d_805_6 : List.drop 6 xm_c805 = xm_c805_6 := xm_dr d_805_5
theorem k_805_6 : xm_gi xm_c805 6 = some xm_e805_6 := xm_gt d_805_6
theorem d_805_7 : List.drop 7 xm_c805 = xm_c805_7 := xm_dr d_805_6
theorem k_805_7 : xm_gi xm_c805 7 = some xm_e805_7 := xm_gt d_805_7
theorem d_805_8 : List.drop 8 xm_c805 = xm_c805_8 := xm_dr d_805_7
theorem k_805_8 : xm_gi xm_c805 8 = some xm_e805_8 := xm_gt d_805_8
theorem d_805_9 : List.drop 9 xm_c805 = xm_c805_9 := xm_dr d_805_8
theorem k_805_9 : xm_gi xm_c805 9 = some xm_e805_9 := xm_gt d_805_9
theorem d_805_10 : List.drop 10 xm_c805 = xm_c805_10 := xm_dr d_805_9
theorem k_805_10 : xm_gi xm_c805 10 = some xm_e805_10 := xm_gt d_805_10
theorem d_805_11 : List.drop 11 xm_c805 = xm_c805_11 := xm_dr d_805_10
theorem k_805_11 : xm_gi xm_c805 11 = some xm_e805_11 := xm_gt d_805_11
theorem d_805_12 : List.drop 12 xm_c805 = xm_c805_12 := xm_dr d_805_11
theorem k_805_12 : xm_gi xm_c805 12 = some xm_e805_12 := xm_gt d_805_12
theorem d_805_13 : List.drop 13 xm_c805 = xm_c805_13 := xm_dr d_805_12
theorem k_805_13 : xm_gi xm_c805 13 = some xm_e805_13 := xm_gt d_805_13
theorem d_805_14 : List.drop 14 xm_c805 = xm_c805_14 := xm_dr d_805_13
theorem k_805_14 : xm_gi xm_c805 14 = some xm_e805_14 := xm_gt d_805_14
theorem d_805_15 : List.drop 15 xm_c805 = xm_c805_15 := xm_dr d_805_14
theorem k_805_15 : xm_gi xm_c805 15 = some xm_e805_15 := xm_gt d_805_15
theorem d_805_16 : List.drop 16 xm_c805 = xm_c805_16 := xm_dr d_805_15
theorem k_805_16 : xm_gi xm_c805 16 = some xm_e805_16 := xm_gt d_805_16
theorem d_805_17 : List.drop 17 xm_c805 = xm_c805_17 := xm_dr d_805_16
theorem k_805_17 : xm_gi xm_c805 17 = some xm_e805_17 := xm_gt d_805_17
theorem d_805_18 : List.drop 18 xm_c805 = xm_c805_18 := xm_dr d_805_17
theorem k_805_18 : xm_gi xm_c805 18 = some xm_e805_18 := xm_gt d_805_18
theorem d_805_19 : List.drop 19 xm_c805 = xm_c805_19 := xm_dr d_805_18
theorem k_805_19 : xm_gi xm_c805 19 = some xm_e805_19 := xm_gt d_805_19
theorem d_805_20 : List.drop 20 xm_c805 = xm_c805_20 := xm_dr d_805_19
theorem k_805_20 : xm_gi xm_c805 20 = some xm_e805_20 := xm_gt d_805_20
theorem d_805_21 : List.drop 21 xm_c805 = xm_c805_21 := xm_dr d_805_20
theorem k_805_21 : xm_gi xm_c805 21 = some xm_e805_21 := xm_gt d_805_21
theorem d_805_22 : List.drop 22 xm_c805 = xm_c805_22 := xm_dr d_805_21
theorem k_805_22 : xm_gi xm_c805 22 = some xm_e805_22 := xm_gt d_805_22
theorem d_805_23 : List.drop 23 xm_c805 = xm_c805_23 := xm_dr d_805_22
theorem k_805_23 : xm_gi xm_c805 23 = some xm_e805_23 := xm_gt d_805_23
theorem d_805_24 : List.drop 24 xm_c805 = xm_c805_24 := xm_dr d_805_23
theorem k_805_24 : xm_gi xm_c805 24 = some xm_e805_24 := xm_gt d_805_24
theorem d_805_25 : List.drop 25 xm_c805 = xm_c805_25 := xm_dr d_805_24
theorem k_805_25 : xm_gi xm_c805 25 = some xm_e805_25 := xm_gt d_805_25
theorem d_805_26 : List.drop 26 xm_c805 = xm_c805_26 := xm_dr d_805_25
theorem k_805_26 : xm_gi xm_c805 26 = some xm_e805_26 := xm_gt d_805_26
theorem xb_805_0 {sc : List Int} {f : Nat → List xm_V → xm_W → xm_R} {w : xm_W} {Q : Option xm_V × xm_W → Prop} {x0 : Int} {x1 : Int}
  (h : xm_EQ (xm_old sc) xm_sta f xm_c805 4 [some (.inl x0), some (.inl x1), some (.inl x0), some (.inl 0)] [] w Q) :
  xm_EQ (xm_old sc) xm_sta f xm_c805 0 [some (.inl x0), some (.inl x1), none, none] [] w Q :=
  (xq_iload_n k_805_0 rfl (xq_istore_n k_805_1 rfl (xq_iconst k_805_2 (xq_istore_n k_805_3 rfl h))))
theorem xb_805_4 {sc : List Int} {f : Nat → List xm_V → xm_W → xm_R} {w : xm_W} {Q : Option xm_V × xm_W → Prop} {x0 : Int} {x1 : Int} {x2 : Int} {x3 : Int}
  (h : if (x3 : Int) < 7 then (if (x2 : Int) < 0 then (Q (some (.inl (-1)), w)) else (xm_O (xm_ints (xm_old sc) w 1000001) (fun l1 => xm_O (xm_at l1 (xm_w ((xm_w (x2 * 4)) + x1))) (fun z2 => if (z2 : Int) = 0 then (xm_O (xm_ints (xm_old sc) w 1000000) (fun l3 => xm_O (xm_at l3 x2) (fun z4 => xm_EQ (xm_old sc) xm_sta f xm_c805 4 [some (.inl x0), some (.inl x1), some (.inl z4), some (.inl (xm_w (x3 + 1)))] [] w Q))) else (Q (some (.inl x2), w)))))) else (Q (some (.inl (-1)), w))) :
  xm_EQ (xm_old sc) xm_sta f xm_c805 4 [some (.inl x0), some (.inl x1), some (.inl x2), some (.inl x3)] [] w Q :=
  (xq_iload_n k_805_4 rfl (xq_bipush k_805_5 (xq_ic_ge k_805_6 h (fun h => (xq_iload_n k_805_7 rfl (xq_if_lt k_805_8 h (fun h => (xq_iconst k_805_25 (xq_ireturn k_805_26 h))) (fun h => (xq_gets k_805_9 rfl (xq_iload_n k_805_10 rfl (xq_iconst k_805_11 (xq_imul k_805_12 (xq_iload_n k_805_13 rfl (xq_iadd k_805_14 (xq_iaload k_805_15 h (fun l1 h => h) (fun l1 z2 h => (xq_if_eq k_805_16 h (fun h => (xq_gets k_805_19 rfl (xq_iload_n k_805_20 rfl (xq_iaload k_805_21 h (fun l3 h => h) (fun l3 z4 h => (xq_istore_n k_805_22 rfl (xq_iinc k_805_23 rfl rfl (xq_goto k_805_24 h)))))))) (fun h => (xq_iload_n k_805_17 rfl (xq_ireturn k_805_18 h)))))))))))))))) (fun h => (xq_iconst k_805_25 (xq_ireturn k_805_26 h))))))
/-- ShodBackwards$Speaker.begin(I)V -/
theorem d_806_0 : List.drop 0 xm_c806 = xm_c806 := rfl
theorem k_806_0 : xm_gi xm_c806 0 = some xm_e806_0 := xm_gt d_806_0
theorem d_806_1 : List.drop 1 xm_c806 = xm_c806_1 := xm_dr d_806_0
theorem k_806_1 : xm_gi xm_c806 1 = some xm_e806_1 := xm_gt d_806_1
theorem d_806_2 : List.drop 2 xm_c806 = xm_c806_2 := xm_dr d_806_1
theorem k_806_2 : xm_gi xm_c806 2 = some xm_e806_2 := xm_gt d_806_2
theorem d_806_3 : List.drop 3 xm_c806 = xm_c806_3 := xm_dr d_806_2
theorem k_806_3 : xm_gi xm_c806 3 = some xm_e806_3 := xm_gt d_806_3
theorem d_806_4 : List.drop 4 xm_c806 = xm_c806_4 := xm_dr d_806_3
theorem k_806_4 : xm_gi xm_c806 4 = some xm_e806_4 := xm_gt d_806_4
theorem d_806_5 : List.drop 5 xm_c806 = xm_c806_5 := xm_dr d_806_4
theorem k_806_5 : xm_gi xm_c806 5 = some xm_e806_5 := xm_gt d_806_5
theorem d_806_6 : List.drop 6 xm_c806 = xm_c806_6 := xm_dr d_806_5
theorem k_806_6 : xm_gi xm_c806 6 = some xm_e806_6 := xm_gt d_806_6
theorem d_806_7 : List.drop 7 xm_c806 = xm_c806_7 := xm_dr d_806_6
theorem k_806_7 : xm_gi xm_c806 7 = some xm_e806_7 := xm_gt d_806_7
theorem d_806_8 : List.drop 8 xm_c806 = xm_c806_8 := xm_dr d_806_7
theorem k_806_8 : xm_gi xm_c806 8 = some xm_e806_8 := xm_gt d_806_8
theorem d_806_9 : List.drop 9 xm_c806 = xm_c806_9 := xm_dr d_806_8
theorem k_806_9 : xm_gi xm_c806 9 = some xm_e806_9 := xm_gt d_806_9
theorem d_806_10 : List.drop 10 xm_c806 = xm_c806_10 := xm_dr d_806_9
theorem k_806_10 : xm_gi xm_c806 10 = some xm_e806_10 := xm_gt d_806_10
theorem d_806_11 : List.drop 11 xm_c806 = xm_c806_11 := xm_dr d_806_10
theorem k_806_11 : xm_gi xm_c806 11 = some xm_e806_11 := xm_gt d_806_11
theorem d_806_12 : List.drop 12 xm_c806 = xm_c806_12 := xm_dr d_806_11
theorem k_806_12 : xm_gi xm_c806 12 = some xm_e806_12 := xm_gt d_806_12
theorem d_806_13 : List.drop 13 xm_c806 = xm_c806_13 := xm_dr d_806_12
theorem k_806_13 : xm_gi xm_c806 13 = some xm_e806_13 := xm_gt d_806_13
theorem d_806_14 : List.drop 14 xm_c806 = xm_c806_14 := xm_dr d_806_13
theorem k_806_14 : xm_gi xm_c806 14 = some xm_e806_14 := xm_gt d_806_14
theorem d_806_15 : List.drop 15 xm_c806 = xm_c806_15 := xm_dr d_806_14
theorem k_806_15 : xm_gi xm_c806 15 = some xm_e806_15 := xm_gt d_806_15
theorem d_806_16 : List.drop 16 xm_c806 = xm_c806_16 := xm_dr d_806_15
theorem k_806_16 : xm_gi xm_c806 16 = some xm_e806_16 := xm_gt d_806_16
theorem xb_806_0 {sc : List Int} {f : Nat → List xm_V → xm_W → xm_R} {w : xm_W} {Q : Option xm_V × xm_W → Prop} {x0 : Nat} {x1 : Int}
  (h : xm_O (xm_fi (xm_old sc) w x0 6 1) (fun z1 => if (z1 : Int) < 30 then (xm_O (xm_fr (xm_old sc) w x0 6 0) (fun r2 => xm_O (xm_fi (xm_old sc) w x0 6 1) (fun z3 => xm_O (xm_seti w r2 z3 x1) (fun w4 => xm_O (xm_fi (xm_old sc) w4 x0 6 1) (fun z5 => xm_O (xm_setf w4 x0 6 1 0 (.inl (xm_w (z5 + 1)))) (fun w6 => Q (none, w6))))))) else (Q (none, w)))) :
  xm_EQ (xm_old sc) xm_sta f xm_c806 0 [some (.inr (.inl (some x0))), some (.inl x1)] [] w Q :=
  (xq_aload_n k_806_0 rfl (xq_geti0 k_806_1 rfl h (fun z1 h => (xq_bipush k_806_2 (xq_ic_ge k_806_3 h (fun h => (xq_aload_n k_806_4 rfl (xq_getr k_806_5 rfl h (fun r2 h => (xq_aload_n k_806_6 rfl (xq_geti0 k_806_7 rfl h (fun z3 h => (xq_iload_n k_806_8 rfl (xq_iastore k_806_9 h (fun w4 h => (xq_aload_n k_806_10 rfl (xq_dupr k_806_11 (xq_geti0 k_806_12 rfl h (fun z5 h => (xq_iconst k_806_13 (xq_iadd k_806_14 (xq_put k_806_15 rfl h (fun w6 h => (xq_return k_806_16 h))))))))))))))))))) (fun h => (xq_return k_806_16 h)))))))
