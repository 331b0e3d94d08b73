/-- ShodBackwards$Rider.<init>()V -/
theorem d_601_0 : List.drop 0 xm_c601 = xm_c601 := rfl
theorem k_601_0 : xm_gi xm_c601 0 = some xm_e601_0 := xm_gt d_601_0
theorem d_601_1 : List.drop 1 xm_c601 = xm_c601_1 := xm_dr d_601_0
theorem k_601_1 : xm_gi xm_c601 1 = some xm_e601_1 := xm_gt d_601_1
theorem d_601_2 : List.drop 2 xm_c601 = xm_c601_2 := xm_dr d_601_1
theorem k_601_2 : xm_gi xm_c601 2 = some xm_e601_2 := xm_gt d_601_2
theorem d_601_3 : List.drop 3 xm_c601 = xm_c601_3 := xm_dr d_601_2
theorem k_601_3 : xm_gi xm_c601 3 = some xm_e601_3 := xm_gt d_601_3
theorem d_601_4 : List.drop 4 xm_c601 = xm_c601_4 := xm_dr d_601_3
theorem k_601_4 : xm_gi xm_c601 4 = some xm_e601_4 := xm_gt d_601_4
theorem d_601_5 : List.drop 5 xm_c601 = xm_c601_5 := xm_dr d_601_4
theorem k_601_5 : xm_gi xm_c601 5 = some xm_e601_5 := xm_gt d_601_5
theorem d_601_6 : List.drop 6 xm_c601 = xm_c601_6 := xm_dr d_601_5
theorem k_601_6 : xm_gi xm_c601 6 = some xm_e601_6 := xm_gt d_601_6
theorem xb_601_0 {sc : List Int} {f : Nat → List xm_V → xm_W → xm_R} {w : xm_W} {Q : Option xm_V × xm_W → Prop} {x0 : Nat}
  (h : (0 ≤ (12 : Int) ∧ (12 : Int) ≤ 1000) ∧ (xm_O (xm_setf (w ++ [.inl (List.replicate (Int.toNat 12) 0)]) x0 4 6 2 (.inr (.inl (some w.length)))) (fun w1 => Q (none, w1)))) :
  xm_EQ (xm_old sc) xm_sta f xm_c601 0 [some (.inr (.inl (some x0)))] [] w Q :=
  (xq_aload_n k_601_0 rfl (xq_obj k_601_1 rfl (xq_aload_n k_601_2 rfl (xq_bipush k_601_3 (xq_newarray k_601_4 h (fun h => (xq_put k_601_5 rfl h (fun w1 h => (xq_return k_601_6 h)))))))))
/-- ShodBackwards$Rider.begin(III)V -/
theorem d_602_0 : List.drop 0 xm_c602 = xm_c602 := rfl
theorem k_602_0 : xm_gi xm_c602 0 = some xm_e602_0 := xm_gt d_602_0
theorem d_602_1 : List.drop 1 xm_c602 = xm_c602_1 := xm_dr d_602_0
theorem k_602_1 : xm_gi xm_c602 1 = some xm_e602_1 := xm_gt d_602_1
theorem d_602_2 : List.drop 2 xm_c602 = xm_c602_2 := xm_dr d_602_1
theorem k_602_2 : xm_gi xm_c602 2 = some xm_e602_2 := xm_gt d_602_2
theorem d_602_3 : List.drop 3 xm_c602 = xm_c602_3 := xm_dr d_602_2
theorem k_602_3 : xm_gi xm_c602 3 = some xm_e602_3 := xm_gt d_602_3
theorem d_602_4 : List.drop 4 xm_c602 = xm_c602_4 := xm_dr d_602_3
theorem k_602_4 : xm_gi xm_c602 4 = some xm_e602_4 := xm_gt d_602_4
theorem d_602_5 : List.drop 5 xm_c602 = xm_c602_5 := xm_dr d_602_4
theorem k_602_5 : xm_gi xm_c602 5 = some xm_e602_5 := xm_gt d_602_5
theorem d_602_6 : List.drop 6 xm_c602 = xm_c602_6 := xm_dr d_602_5
theorem k_602_6 : xm_gi xm_c602 6 = some xm_e602_6 := xm_gt d_602_6
theorem d_602_7 : List.drop 7 xm_c602 = xm_c602_7 := xm_dr d_602_6
theorem k_602_7 : xm_gi xm_c602 7 = some xm_e602_7 := xm_gt d_602_7
theorem d_602_8 : List.drop 8 xm_c602 = xm_c602_8 := xm_dr d_602_7
theorem k_602_8 : xm_gi xm_c602 8 = some xm_e602_8 := xm_gt d_602_8
theorem d_602_9 : List.drop 9 xm_c602 = xm_c602_9 := xm_dr d_602_8
theorem k_602_9 : xm_gi xm_c602 9 = some xm_e602_9 := xm_gt d_602_9
theorem d_602_10 : List.drop 10 xm_c602 = xm_c602_10 := xm_dr d_602_9
theorem k_602_10 : xm_gi xm_c602 10 = some xm_e602_10 := xm_gt d_602_10
theorem d_602_11 : List.drop 11 xm_c602 = xm_c602_11 := xm_dr d_602_10
theorem k_602_11 : xm_gi xm_c602 11 = some xm_e602_11 := xm_gt d_602_11
theorem d_602_12 : List.drop 12 xm_c602 = xm_c602_12 := xm_dr d_602_11
theorem k_602_12 : xm_gi xm_c602 12 = some xm_e602_12 := xm_gt d_602_12
theorem d_602_13 : List.drop 13 xm_c602 = xm_c602_13 := xm_dr d_602_12
theorem k_602_13 : xm_gi xm_c602 13 = some xm_e602_13 := xm_gt d_602_13
theorem d_602_14 : List.drop 14 xm_c602 = xm_c602_14 := xm_dr d_602_13
theorem k_602_14 : xm_gi xm_c602 14 = some xm_e602_14 := xm_gt d_602_14
theorem d_602_15 : List.drop 15 xm_c602 = xm_c602_15 := xm_dr d_602_14
theorem k_602_15 : xm_gi xm_c602 15 = some xm_e602_15 := xm_gt d_602_15
theorem d_602_16 : List.drop 16 xm_c602 = xm_c602_16 := xm_dr d_602_15
theorem k_602_16 : xm_gi xm_c602 16 = some xm_e602_16 := xm_gt d_602_16
theorem d_602_17 : List.drop 17 xm_c602 = xm_c602_17 := xm_dr d_602_16
theorem k_602_17 : xm_gi xm_c602 17 = some xm_e602_17 := xm_gt d_602_17
theorem d_602_18 : List.drop 18 xm_c602 = xm_c602_18 := xm_dr d_602_17
theorem k_602_18 : xm_gi xm_c602 18 = some xm_e602_18 := xm_gt d_602_18
theorem xb_602_0 {sc : List Int} {f : Nat → List xm_V → xm_W → xm_R} {w : xm_W} {Q : Option xm_V × xm_W → Prop} {x0 : Nat} {x1 : Int} {x2 : Int} {x3 : Int}
  (h : xm_O (xm_setf w x0 4 0 0 (.inl x1)) (fun w1 => xm_O (xm_setf w1 x0 4 1 0 (.inl x2)) (fun w2 => xm_O (xm_setf w2 x0 4 2 0 (.inl x3)) (fun w3 => xm_O (xm_setf w3 x0 4 3 0 (.inl 0)) (fun w4 => xm_O (xm_setf w4 x0 4 4 0 (.inl 0)) (fun w5 => xm_O (xm_setf w5 x0 4 5 0 (.inl 0)) (fun w6 => Q (none, w6)))))))) :
  xm_EQ (xm_old sc) xm_sta f xm_c602 0 [some (.inr (.inl (some x0))), some (.inl x1), some (.inl x2), some (.inl x3)] [] w Q :=
  (xq_aload_n k_602_0 rfl (xq_iload_n k_602_1 rfl (xq_put k_602_2 rfl h (fun w1 h => (xq_aload_n k_602_3 rfl (xq_iload_n k_602_4 rfl (xq_put k_602_5 rfl h (fun w2 h => (xq_aload_n k_602_6 rfl (xq_iload_n k_602_7 rfl (xq_put k_602_8 rfl h (fun w3 h => (xq_aload_n k_602_9 rfl (xq_iconst k_602_10 (xq_put k_602_11 rfl h (fun w4 h => (xq_aload_n k_602_12 rfl (xq_iconst k_602_13 (xq_put k_602_14 rfl h (fun w5 h => (xq_aload_n k_602_15 rfl (xq_iconst k_602_16 (xq_put k_602_17 rfl h (fun w6 h => (xq_return k_602_18 h)))))))))))))))))))))))))
/-- ShodBackwards$Rider.copyFrom(LShodBackwards$Rider;)V -/
theorem d_603_0 : List.drop 0 xm_c603 = xm_c603 := rfl
theorem k_603_0 : xm_gi xm_c603 0 = some xm_e603_0 := xm_gt d_603_0
theorem d_603_1 : List.drop 1 xm_c603 = xm_c603_1 := xm_dr d_603_0
theorem k_603_1 : xm_gi xm_c603 1 = some xm_e603_1 := xm_gt d_603_1
theorem d_603_2 : List.drop 2 xm_c603 = xm_c603_2 := xm_dr d_603_1
theorem k_603_2 : xm_gi xm_c603 2 = some xm_e603_2 := xm_gt d_603_2
theorem d_603_3 : List.drop 3 xm_c603 = xm_c603_3 := xm_dr d_603_2
theorem k_603_3 : xm_gi xm_c603 3 = some xm_e603_3 := xm_gt d_603_3
theorem d_603_4 : List.drop 4 xm_c603 = xm_c603_4 := xm_dr d_603_3
theorem k_603_4 : xm_gi xm_c603 4 = some xm_e603_4 := xm_gt d_603_4
theorem d_603_5 : List.drop 5 xm_c603 = xm_c603_5 := xm_dr d_603_4
theorem k_603_5 : xm_gi xm_c603 5 = some xm_e603_5 := xm_gt d_603_5
theorem d_603_6 : List.drop 6 xm_c603 = xm_c603_6 := xm_dr d_603_5
theorem k_603_6 : xm_gi xm_c603 6 = some xm_e603_6 := xm_gt d_603_6
theorem d_603_7 : List.drop 7 xm_c603 = xm_c603_7 := xm_dr d_603_6
theorem k_603_7 : xm_gi xm_c603 7 = some xm_e603_7 := xm_gt d_603_7
theorem d_603_8 : List.drop 8 xm_c603 = xm_c603_8 := xm_dr d_603_7
theorem k_603_8 : xm_gi xm_c603 8 = some xm_e603_8 := xm_gt d_603_8
theorem d_603_9 : List.drop 9 xm_c603 = xm_c603_9 := xm_dr d_603_8
theorem k_603_9 : xm_gi xm_c603 9 = some xm_e603_9 := xm_gt d_603_9
theorem d_603_10 : List.drop 10 xm_c603 = xm_c603_10 := xm_dr d_603_9
theorem k_603_10 : xm_gi xm_c603 10 = some xm_e603_10 := xm_gt d_603_10
theorem d_603_11 : List.drop 11 xm_c603 = xm_c603_11 := xm_dr d_603_10
theorem k_603_11 : xm_gi xm_c603 11 = some xm_e603_11 := xm_gt d_603_11
theorem d_603_12 : List.drop 12 xm_c603 = xm_c603_12 := xm_dr d_603_11
theorem k_603_12 : xm_gi xm_c603 12 = some xm_e603_12 := xm_gt d_603_12
theorem d_603_13 : List.drop 13 xm_c603 = xm_c603_13 := xm_dr d_603_12
theorem k_603_13 : xm_gi xm_c603 13 = some xm_e603_13 := xm_gt d_603_13
theorem d_603_14 : List.drop 14 xm_c603 = xm_c603_14 := xm_dr d_603_13
theorem k_603_14 : xm_gi xm_c603 14 = some xm_e603_14 := xm_gt d_603_14
theorem d_603_15 : List.drop 15 xm_c603 = xm_c603_15 := xm_dr d_603_14
theorem k_603_15 : xm_gi xm_c603 15 = some xm_e603_15 := xm_gt d_603_15
theorem d_603_16 : List.drop 16 xm_c603 = xm_c603_16 := xm_dr d_603_15
theorem k_603_16 : xm_gi xm_c603 16 = some xm_e603_16 := xm_gt d_603_16
theorem d_603_17 : List.drop 17 xm_c603 = xm_c603_17 := xm_dr d_603_16
theorem k_603_17 : xm_gi xm_c603 17 = some xm_e603_17 := xm_gt d_603_17
theorem d_603_18 : List.drop 18 xm_c603 = xm_c603_18 := xm_dr d_603_17
theorem k_603_18 : xm_gi xm_c603 18 = some xm_e603_18 := xm_gt d_603_18
theorem d_603_19 : List.drop 19 xm_c603 = xm_c603_19 := xm_dr d_603_18
theorem k_603_19 : xm_gi xm_c603 19 = some xm_e603_19 := xm_gt d_603_19
theorem d_603_20 : List.drop 20 xm_c603 = xm_c603_20 := xm_dr d_603_19
theorem k_603_20 : xm_gi xm_c603 20 = some xm_e603_20 := xm_gt d_603_20
theorem d_603_21 : List.drop 21 xm_c603 = xm_c603_21 := xm_dr d_603_20
theorem k_603_21 : xm_gi xm_c603 21 = some xm_e603_21 := xm_gt d_603_21
theorem d_603_22 : List.drop 22 xm_c603 = xm_c603_22 := xm_dr d_603_21
theorem k_603_22 : xm_gi xm_c603 22 = some xm_e603_22 := xm_gt d_603_22
theorem d_603_23 : List.drop 23 xm_c603 = xm_c603_23 := xm_dr d_603_22
theorem k_603_23 : xm_gi xm_c603 23 = some xm_e603_23 := xm_gt d_603_23
theorem d_603_24 : List.drop 24 xm_c603 = xm_c603_24 := xm_dr d_603_23
theorem k_603_24 : xm_gi xm_c603 24 = some xm_e603_24 := xm_gt d_603_24
theorem d_603_25 : List.drop 25 xm_c603 = xm_c603_25 := xm_dr d_603_24
theorem k_603_25 : xm_gi xm_c603 25 = some xm_e603_25 := xm_gt d_603_25
theorem d_603_26 : List.drop 26 xm_c603 = xm_c603_26 := xm_dr d_603_25
theorem k_603_26 : xm_gi xm_c603 26 = some xm_e603_26 := xm_gt d_603_26
theorem d_603_27 : List.drop 27 xm_c603 = xm_c603_27 := xm_dr d_603_26
theorem k_603_27 : xm_gi xm_c603 27 = some xm_e603_27 := xm_gt d_603_27
theorem d_603_28 : List.drop 28 xm_c603 = xm_c603_28 := xm_dr d_603_27
theorem k_603_28 : xm_gi xm_c603 28 = some xm_e603_28 := xm_gt d_603_28
theorem d_603_29 : List.drop 29 xm_c603 = xm_c603_29 := xm_dr d_603_28
theorem k_603_29 : xm_gi xm_c603 29 = some xm_e603_29 := xm_gt d_603_29
theorem d_603_30 : List.drop 30 xm_c603 = xm_c603_30 := xm_dr d_603_29
theorem k_603_30 : xm_gi xm_c603 30 = some xm_e603_30 := xm_gt d_603_30
theorem d_603_31 : List.drop 31 xm_c603 = xm_c603_31 := xm_dr d_603_30
theorem k_603_31 : xm_gi xm_c603 31 = some xm_e603_31 := xm_gt d_603_31
theorem d_603_32 : List.drop 32 xm_c603 = xm_c603_32 := xm_dr d_603_31
theorem k_603_32 : xm_gi xm_c603 32 = some xm_e603_32 := xm_gt d_603_32
theorem xb_603_0 {sc : List Int} {f : Nat → List xm_V → xm_W → xm_R} {w : xm_W} {Q : Option xm_V × xm_W → Prop} {x0 : Nat} {x1 : Nat}
  (h : xm_O (xm_fi (xm_old sc) w x1 4 0) (fun z1 => xm_O (xm_setf w x0 4 0 0 (.inl z1)) (fun w2 => xm_O (xm_fi (xm_old sc) w2 x1 4 1) (fun z3 => xm_O (xm_setf w2 x0 4 1 0 (.inl z3)) (fun w4 => xm_O (xm_fi (xm_old sc) w4 x1 4 2) (fun z5 => xm_O (xm_setf w4 x0 4 2 0 (.inl z5)) (fun w6 => xm_O (xm_fi (xm_old sc) w6 x1 4 3) (fun z7 => xm_O (xm_setf w6 x0 4 3 0 (.inl z7)) (fun w8 => xm_O (xm_fi (xm_old sc) w8 x1 4 4) (fun z9 => xm_O (xm_setf w8 x0 4 4 0 (.inl z9)) (fun w10 => xm_O (xm_fi (xm_old sc) w10 x1 4 5) (fun z11 => xm_O (xm_setf w10 x0 4 5 0 (.inl z11)) (fun w12 => xm_O (xm_fr (xm_old sc) w12 x1 4 6) (fun r13 => xm_O (xm_fr (xm_old sc) w12 x0 4 6) (fun r14 => xm_O (xm_copy w12 r13 0 r14 0 12) (fun w15 => Q (none, w15))))))))))))))))) :
  xm_EQ (xm_old sc) xm_sta f xm_c603 0 [some (.inr (.inl (some x0))), some (.inr (.inl (some x1)))] [] w Q :=
  (xq_aload_n k_603_0 rfl (xq_aload_n k_603_1 rfl (xq_geti0 k_603_2 rfl h (fun z1 h => (xq_put k_603_3 rfl h (fun w2 h => (xq_aload_n k_603_4 rfl (xq_aload_n k_603_5 rfl (xq_geti0 k_603_6 rfl h (fun z3 h => (xq_put k_603_7 rfl h (fun w4 h => (xq_aload_n k_603_8 rfl (xq_aload_n k_603_9 rfl (xq_geti0 k_603_10 rfl h (fun z5 h => (xq_put k_603_11 rfl h (fun w6 h => (xq_aload_n k_603_12 rfl (xq_aload_n k_603_13 rfl (xq_geti0 k_603_14 rfl h (fun z7 h => (xq_put k_603_15 rfl h (fun w8 h => (xq_aload_n k_603_16 rfl (xq_aload_n k_603_17 rfl (xq_geti0 k_603_18 rfl h (fun z9 h => (xq_put k_603_19 rfl h (fun w10 h => (xq_aload_n k_603_20 rfl (xq_aload_n k_603_21 rfl (xq_geti0 k_603_22 rfl h (fun z11 h => (xq_put k_603_23 rfl h (fun w12 h => (xq_aload_n k_603_24 rfl (xq_getr k_603_25 rfl h (fun r13 h => (xq_iconst k_603_26 (xq_aload_n k_603_27 rfl (xq_getr k_603_28 rfl h (fun r14 h => (xq_iconst k_603_29 (xq_bipush k_603_30 (xq_copy k_603_31 rfl h (fun w15 h => (xq_return k_603_32 h))))))))))))))))))))))))))))))))))))))))))))))))
/-- ShodBackwards$Rider.addWay(I)Z -/
theorem d_604_0 : List.drop 0 xm_c604 = xm_c604 := rfl
theorem k_604_0 : xm_gi xm_c604 0 = some xm_e604_0 := xm_gt d_604_0
theorem d_604_1 : List.drop 1 xm_c604 = xm_c604_1 := xm_dr d_604_0
theorem k_604_1 : xm_gi xm_c604 1 = some xm_e604_1 := xm_gt d_604_1
theorem d_604_2 : List.drop 2 xm_c604 = xm_c604_2 := xm_dr d_604_1
theorem k_604_2 : xm_gi xm_c604 2 = some xm_e604_2 := xm_gt d_604_2
theorem d_604_3 : List.drop 3 xm_c604 = xm_c604_3 := xm_dr d_604_2
theorem k_604_3 : xm_gi xm_c604 3 = some xm_e604_3 := xm_gt d_604_3
theorem d_604_4 : List.drop 4 xm_c604 = xm_c604_4 := xm_dr d_604_3
theorem k_604_4 : xm_gi xm_c604 4 = some xm_e604_4 := xm_gt d_604_4
theorem d_604_5 : List.drop 5 xm_c604 = xm_c604_5 := xm_dr d_604_4
theorem k_604_5 : xm_gi xm_c604 5 = some xm_e604_5 := xm_gt d_604_5
theorem d_604_6 : List.drop 6 xm_c604 = xm_c604_6 := xm_dr d_604_5
theorem k_604_6 : xm_gi xm_c604 6 = some xm_e604_6 := xm_gt d_604_6
theorem d_604_7 : List.drop 7 xm_c604 = xm_c604_7 := xm_dr d_604_6
theorem k_604_7 : xm_gi xm_c604 7 = some xm_e604_7 := xm_gt d_604_7
theorem d_604_8 : List.drop 8 xm_c604 = xm_c604_8 := xm_dr d_604_7
theorem k_604_8 : xm_gi xm_c604 8 = some xm_e604_8 := xm_gt d_604_8
theorem d_604_9 : List.drop 9 xm_c604 = xm_c604_9 := xm_dr d_604_8
theorem k_604_9 : xm_gi xm_c604 9 = some xm_e604_9 := xm_gt d_604_9
theorem d_604_10 : List.drop 10 xm_c604 = xm_c604_10 := xm_dr d_604_9
theorem k_604_10 : xm_gi xm_c604 10 = some xm_e604_10 := xm_gt d_604_10
theorem d_604_11 : List.drop 11 xm_c604 = xm_c604_11 := xm_dr d_604_10
theorem k_604_11 : xm_gi xm_c604 11 = some xm_e604_11 := xm_gt d_604_11
theorem d_604_12 : List.drop 12 xm_c604 = xm_c604_12 := xm_dr d_604_11
theorem k_604_12 : xm_gi xm_c604 12 = some xm_e604_12 := xm_gt d_604_12
theorem d_604_13 : List.drop 13 xm_c604 = xm_c604_13 := xm_dr d_604_12
theorem k_604_13 : xm_gi xm_c604 13 = some xm_e604_13 := xm_gt d_604_13
theorem d_604_14 : List.drop 14 xm_c604 = xm_c604_14 := xm_dr d_604_13
theorem k_604_14 : xm_gi xm_c604 14 = some xm_e604_14 := xm_gt d_604_14
theorem d_604_15 : List.drop 15 xm_c604 = xm_c604_15 := xm_dr d_604_14
theorem k_604_15 : xm_gi xm_c604 15 = some xm_e604_15 := xm_gt d_604_15
theorem d_604_16 : List.drop 16 xm_c604 = xm_c604_16 := xm_dr d_604_15
theorem k_604_16 : xm_gi xm_c604 16 = some xm_e604_16 := xm_gt d_604_16
theorem d_604_17 : List.drop 17 xm_c604 = xm_c604_17 := xm_dr d_604_16
theorem k_604_17 : xm_gi xm_c604 17 = some xm_e604_17 := xm_gt d_604_17
theorem d_604_18 : List.drop 18 xm_c604 = xm_c604_18 := xm_dr d_604_17
theorem k_604_18 : xm_gi xm_c604 18 = some xm_e604_18 := xm_gt d_604_18
theorem d_604_19 : List.drop 19 xm_c604 = xm_c604_19 := xm_dr d_604_18
theorem k_604_19 : xm_gi xm_c604 19 = some xm_e604_19 := xm_gt d_604_19
theorem xb_604_0 {sc : List Int} {f : Nat → List xm_V → xm_W → xm_R} {w : xm_W} {Q : Option xm_V × xm_W → Prop} {x0 : Nat} {x1 : Int}
  (h : xm_O (xm_fi (xm_old sc) w x0 4 4) (fun z1 => if (z1 : Int) < 12 then (xm_O (xm_fr (xm_old sc) w x0 4 6) (fun r2 => xm_O (xm_fi (xm_old sc) w x0 4 4) (fun z3 => xm_O (xm_seti w r2 z3 x1) (fun w4 => xm_O (xm_fi (xm_old sc) w4 x0 4 4) (fun z5 => xm_O (xm_setf w4 x0 4 4 0 (.inl (xm_w (z5 + 1)))) (fun w6 => Q (some (.inl 1), w6))))))) else (Q (some (.inl 0), w)))) :
  xm_EQ (xm_old sc) xm_sta f xm_c604 0 [some (.inr (.inl (some x0))), some (.inl x1)] [] w Q :=
  (xq_aload_n k_604_0 rfl (xq_geti0 k_604_1 rfl h (fun z1 h => (xq_bipush k_604_2 (xq_ic_lt k_604_3 h (fun h => (xq_aload_n k_604_6 rfl (xq_getr k_604_7 rfl h (fun r2 h => (xq_aload_n k_604_8 rfl (xq_geti0 k_604_9 rfl h (fun z3 h => (xq_iload_n k_604_10 rfl (xq_iastore k_604_11 h (fun w4 h => (xq_aload_n k_604_12 rfl (xq_dupr k_604_13 (xq_geti0 k_604_14 rfl h (fun z5 h => (xq_iconst k_604_15 (xq_iadd k_604_16 (xq_put k_604_17 rfl h (fun w6 h => (xq_iconst k_604_18 (xq_ireturn k_604_19 h)))))))))))))))))))) (fun h => (xq_iconst k_604_4 (xq_ireturn k_604_5 h))))))))
/-- ShodBackwards$Rider.greatest(I)I -/
theorem d_605_0 : List.drop 0 xm_c605 = xm_c605 := rfl
theorem k_605_0 : xm_gi xm_c605 0 = some xm_e605_0 := xm_gt d_605_0
theorem d_605_1 : List.drop 1 xm_c605 = xm_c605_1 := xm_dr d_605_0
theorem k_605_1 : xm_gi xm_c605 1 = some xm_e605_1 := xm_gt d_605_1
theorem d_605_2 : List.drop 2 xm_c605 = xm_c605_2 := xm_dr d_605_1
theorem k_605_2 : xm_gi xm_c605 2 = some xm_e605_2 := xm_gt d_605_2
theorem d_605_3 : List.drop 3 xm_c605 = xm_c605_3 := xm_dr d_605_2
theorem k_605_3 : xm_gi xm_c605 3 = some xm_e605_3 := xm_gt d_605_3
theorem d_605_4 : List.drop 4 xm_c605 = xm_c605_4 := xm_dr d_605_3
theorem k_605_4 : xm_gi xm_c605 4 = some xm_e605_4 := xm_gt d_605_4
theorem d_605_5 : List.drop 5 xm_c605 = xm_c605_5 := xm_dr d_605_4
theorem k_605_5 : xm_gi xm_c605 5 = some xm_e605_5 := xm_gt d_605_5
theorem d_605_6 : List.drop 6 xm_c605 = xm_c605_6 := xm_dr d_605_5
theorem k_605_6 : xm_gi xm_c605 6 = some xm_e605_6 := xm_gt d_605_6
theorem d_605_7 : List.drop 7 xm_c605 = xm_c605_7 := xm_dr d_605_6
theorem k_605_7 : xm_gi xm_c605 7 = some xm_e605_7 := xm_gt d_605_7
theorem d_605_8 : List.drop 8 xm_c605 = xm_c605_8 := xm_dr d_605_7
theorem k_605_8 : xm_gi xm_c605 8 = some xm_e605_8 := xm_gt d_605_8
theorem d_605_9 : List.drop 9 xm_c605 = xm_c605_9 := xm_dr d_605_8
theorem k_605_9 : xm_gi xm_c605 9 = some xm_e605_9 := xm_gt d_605_9
theorem d_605_10 : List.drop 10 xm_c605 = xm_c605_10 := xm_dr d_605_9
theorem k_605_10 : xm_gi xm_c605 10 = some xm_e605_10 := xm_gt d_605_10
theorem d_605_11 : List.drop 11 xm_c605 = xm_c605_11 := xm_dr d_605_10
theorem k_605_11 : xm_gi xm_c605 11 = some xm_e605_11 := xm_gt d_605_11
theorem d_605_12 : List.drop 12 xm_c605 = xm_c605_12 := xm_dr d_605_11
theorem k_605_12 : xm_gi xm_c605 12 = some xm_e605_12 := xm_gt d_605_12
theorem d_605_13 : List.drop 13 xm_c605 = xm_c605_13 := xm_dr d_605_12
theorem k_605_13 : xm_gi xm_c605 13 = some xm_e605_13 := xm_gt d_605_13
theorem d_605_14 : List.drop 14 xm_c605 = xm_c605_14 := xm_dr d_605_13
theorem k_605_14 : xm_gi xm_c605 14 = some xm_e605_14 := xm_gt d_605_14
theorem xb_605_0 {sc : List Int} {f : Nat → List xm_V → xm_W → xm_R} {w : xm_W} {Q : Option xm_V × xm_W → Prop} {x0 : Nat} {x1 : Int}
  (h : if (x1 : Int) = 0 then (Q (some (.inl 6), w)) else (if (x1 : Int) = 1 then (Q (some (.inl 9), w)) else (if (x1 : Int) = 2 then (Q (some (.inl 35), w)) else (if (x1 : Int) = 3 then (Q (some (.inl 99), w)) else (if (x1 : Int) = 4 then (Q (some (.inl (-1)), w)) else (if (x1 : Int) = 5 then (xm_O (xm_fi (xm_old sc) w x0 4 4) (fun z1 => Q (some (.inl z1), w))) else (Q (some (.inl (-1)), w)))))))) :
  xm_EQ (xm_old sc) xm_sta f xm_c605 0 [some (.inr (.inl (some x0))), some (.inl x1)] [] w Q :=
  (xq_iload_n k_605_0 rfl (xq_tsw k_605_1 (xs_swc h (fun h => (xq_bipush k_605_2 (xq_ireturn k_605_3 h))) (fun h => (xs_swc h (fun h => (xq_bipush k_605_4 (xq_ireturn k_605_5 h))) (fun h => (xs_swc h (fun h => (xq_bipush k_605_6 (xq_ireturn k_605_7 h))) (fun h => (xs_swc h (fun h => (xq_bipush k_605_8 (xq_ireturn k_605_9 h))) (fun h => (xs_swc h (fun h => (xq_iconst k_605_13 (xq_ireturn k_605_14 h))) (fun h => (xs_swc h (fun h => (xq_aload_n k_605_10 rfl (xq_geti0 k_605_11 rfl h (fun z1 h => (xq_ireturn k_605_12 h))))) (fun h => (xq_iconst k_605_13 (xq_ireturn k_605_14 h))))))))))))))))
/-- ShodBackwards$Rider.change(II)I -/
theorem d_606_0 : List.drop 0 xm_c606 = xm_c606 := rfl
theorem k_606_0 : xm_gi xm_c606 0 = some xm_e606_0 := xm_gt d_606_0
theorem d_606_1 : List.drop 1 xm_c606 = xm_c606_1 := xm_dr d_606_0
theorem k_606_1 : xm_gi xm_c606 1 = some xm_e606_1 := xm_gt d_606_1
theorem d_606_2 : List.drop 2 xm_c606 = xm_c606_2 := xm_dr d_606_1
theorem k_606_2 : xm_gi xm_c606 2 = some xm_e606_2 := xm_gt d_606_2
theorem d_606_3 : List.drop 3 xm_c606 = xm_c606_3 := xm_dr d_606_2
theorem k_606_3 : xm_gi xm_c606 3 = some xm_e606_3 := xm_gt d_606_3
theorem d_606_4 : List.drop 4 xm_c606 = xm_c606_4 := xm_dr d_606_3
theorem k_606_4 : xm_gi xm_c606 4 = some xm_e606_4 := xm_gt d_606_4
theorem d_606_5 : List.drop 5 xm_c606 = xm_c606_5 := xm_dr d_606_4
theorem k_606_5 : xm_gi xm_c606 5 = some xm_e606_5 := xm_gt d_606_5
theorem d_606_6 : List.drop 6 xm_c606 = xm_c606_6 := xm_dr d_606_5
theorem k_606_6 : xm_gi xm_c606 6 = some xm_e606_6 := xm_gt d_606_6
theorem d_606_7 : List.drop 7 xm_c606 = xm_c606_7 := xm_dr d_606_6
theorem k_606_7 : xm_gi xm_c606 7 = some xm_e606_7 := xm_gt d_606_7
theorem d_606_8 : List.drop 8 xm_c606 = xm_c606_8 := xm_dr d_606_7
theorem k_606_8 : xm_gi xm_c606 8 = some xm_e606_8 := xm_gt d_606_8
theorem d_606_9 : List.drop 9 xm_c606 = xm_c606_9 := xm_dr d_606_8
theorem k_606_9 : xm_gi xm_c606 9 = some xm_e606_9 := xm_gt d_606_9
theorem d_606_10 : List.drop 10 xm_c606 = xm_c606_10 := xm_dr d_606_9
theorem k_606_10 : xm_gi xm_c606 10 = some xm_e606_10 := xm_gt d_606_10
theorem d_606_11 : List.drop 11 xm_c606 = xm_c606_11 := xm_dr d_606_10
theorem k_606_11 : xm_gi xm_c606 11 = some xm_e606_11 := xm_gt d_606_11
theorem d_606_12 : List.drop 12 xm_c606 = xm_c606_12 := xm_dr d_606_11
theorem k_606_12 : xm_gi xm_c606 12 = some xm_e606_12 := xm_gt d_606_12
theorem d_606_13 : List.drop 13 xm_c606 = xm_c606_13 := xm_dr d_606_12
theorem k_606_13 : xm_gi xm_c606 13 = some xm_e606_13 := xm_gt d_606_13
theorem d_606_14 : List.drop 14 xm_c606 = xm_c606_14 := xm_dr d_606_13
theorem k_606_14 : xm_gi xm_c606 14 = some xm_e606_14 := xm_gt d_606_14
theorem d_606_15 : List.drop 15 xm_c606 = xm_c606_15 := xm_dr d_606_14
theorem k_606_15 : xm_gi xm_c606 15 = some xm_e606_15 := xm_gt d_606_15
theorem d_606_16 : List.drop 16 xm_c606 = xm_c606_16 := xm_dr d_606_15
theorem k_606_16 : xm_gi xm_c606 16 = some xm_e606_16 := xm_gt d_606_16
theorem d_606_17 : List.drop 17 xm_c606 = xm_c606_17 := xm_dr d_606_16
theorem k_606_17 : xm_gi xm_c606 17 = some xm_e606_17 := xm_gt d_606_17
theorem d_606_18 : List.drop 18 xm_c606 = xm_c606_18 := xm_dr d_606_17
theorem k_606_18 : xm_gi xm_c606 18 = some xm_e606_18 := xm_gt d_606_18
theorem d_606_19 : List.drop 19 xm_c606 = xm_c606_19 := xm_dr d_606_18
theorem k_606_19 : xm_gi xm_c606 19 = some xm_e606_19 := xm_gt d_606_19
theorem d_606_20 : List.drop 20 xm_c606 = xm_c606_20 := xm_dr d_606_19
theorem k_606_20 : xm_gi xm_c606 20 = some xm_e606_20 := xm_gt d_606_20
theorem d_606_21 : List.drop 21 xm_c606 = xm_c606_21 := xm_dr d_606_20
theorem k_606_21 : xm_gi xm_c606 21 = some xm_e606_21 := xm_gt d_606_21
theorem d_606_22 : List.drop 22 xm_c606 = xm_c606_22 := xm_dr d_606_21
theorem k_606_22 : xm_gi xm_c606 22 = some xm_e606_22 := xm_gt d_606_22
theorem d_606_23 : List.drop 23 xm_c606 = xm_c606_23 := xm_dr d_606_22
theorem k_606_23 : xm_gi xm_c606 23 = some xm_e606_23 := xm_gt d_606_23
theorem d_606_24 : List.drop 24 xm_c606 = xm_c606_24 := xm_dr d_606_23
theorem k_606_24 : xm_gi xm_c606 24 = some xm_e606_24 := xm_gt d_606_24
theorem d_606_25 : List.drop 25 xm_c606 = xm_c606_25 := xm_dr d_606_24
theorem k_606_25 : xm_gi xm_c606 25 = some xm_e606_25 := xm_gt d_606_25
theorem d_606_26 : List.drop 26 xm_c606 = xm_c606_26 := xm_dr d_606_25
theorem k_606_26 : xm_gi xm_c606 26 = some xm_e606_26 := xm_gt d_606_26
theorem xb_606_0 {sc : List Int} {f : Nat → List xm_V → xm_W → xm_R} {w : xm_W} {Q : Option xm_V × xm_W → Prop} {x0 : Nat} {x1 : Int} {x2 : Int}
  (h : xm_Oi (f 607 [.inr (.inl (some x0)), .inl x1] w) (fun z2 w1 => if (x1 : Int) = 0 then (xm_O (xm_setf w1 x0 4 0 0 (.inl x2)) (fun w7 => Q (some (.inl z2), w7))) else (if (x1 : Int) = 1 then (xm_O (xm_setf w1 x0 4 1 0 (.inl x2)) (fun w6 => Q (some (.inl z2), w6))) else (if (x1 : Int) = 2 then (xm_O (xm_setf w1 x0 4 2 0 (.inl x2)) (fun w5 => Q (some (.inl z2), w5))) else (if (x1 : Int) = 3 then (xm_O (xm_setf w1 x0 4 3 0 (.inl x2)) (fun w4 => Q (some (.inl z2), w4))) else (xm_O (xm_setf w1 x0 4 5 0 (.inl x2)) (fun w3 => Q (some (.inl z2), w3)))))))) :
  xm_EQ (xm_old sc) xm_sta f xm_c606 0 [some (.inr (.inl (some x0))), some (.inl x1), some (.inl x2), none] [] w Q :=
  (xq_aload_n k_606_0 rfl (xq_iload_n k_606_1 rfl (xq_invv1 k_606_2 xr_607 rfl rfl rfl h (fun z2 w1 h => (xq_istore_n k_606_3 rfl (xq_iload_n k_606_4 rfl (xq_tsw k_606_5 (xs_swc h (fun h => (xq_aload_n k_606_6 rfl (xq_iload_n k_606_7 rfl (xq_put k_606_8 rfl h (fun w7 h => (xq_goto k_606_9 (xq_iload_n k_606_25 rfl (xq_ireturn k_606_26 h)))))))) (fun h => (xs_swc h (fun h => (xq_aload_n k_606_10 rfl (xq_iload_n k_606_11 rfl (xq_put k_606_12 rfl h (fun w6 h => (xq_goto k_606_13 (xq_iload_n k_606_25 rfl (xq_ireturn k_606_26 h)))))))) (fun h => (xs_swc h (fun h => (xq_aload_n k_606_14 rfl (xq_iload_n k_606_15 rfl (xq_put k_606_16 rfl h (fun w5 h => (xq_goto k_606_17 (xq_iload_n k_606_25 rfl (xq_ireturn k_606_26 h)))))))) (fun h => (xs_swc h (fun h => (xq_aload_n k_606_18 rfl (xq_iload_n k_606_19 rfl (xq_put k_606_20 rfl h (fun w4 h => (xq_goto k_606_21 (xq_iload_n k_606_25 rfl (xq_ireturn k_606_26 h)))))))) (fun h => (xq_aload_n k_606_22 rfl (xq_iload_n k_606_23 rfl (xq_put k_606_24 rfl h (fun w3 h => (xq_iload_n k_606_25 rfl (xq_ireturn k_606_26 h)))))))))))))))))))))
/-- ShodBackwards$Rider.fact(I)I -/
theorem d_607_0 : List.drop 0 xm_c607 = xm_c607 := rfl
theorem k_607_0 : xm_gi xm_c607 0 = some xm_e607_0 := xm_gt d_607_0
theorem d_607_1 : List.drop 1 xm_c607 = xm_c607_1 := xm_dr d_607_0
theorem k_607_1 : xm_gi xm_c607 1 = some xm_e607_1 := xm_gt d_607_1
theorem d_607_2 : List.drop 2 xm_c607 = xm_c607_2 := xm_dr d_607_1
theorem k_607_2 : xm_gi xm_c607 2 = some xm_e607_2 := xm_gt d_607_2
theorem d_607_3 : List.drop 3 xm_c607 = xm_c607_3 := xm_dr d_607_2
theorem k_607_3 : xm_gi xm_c607 3 = some xm_e607_3 := xm_gt d_607_3
theorem d_607_4 : List.drop 4 xm_c607 = xm_c607_4 := xm_dr d_607_3
theorem k_607_4 : xm_gi xm_c607 4 = some xm_e607_4 := xm_gt d_607_4
theorem d_607_5 : List.drop 5 xm_c607 = xm_c607_5 := xm_dr d_607_4
theorem k_607_5 : xm_gi xm_c607 5 = some xm_e607_5 := xm_gt d_607_5
theorem d_607_6 : List.drop 6 xm_c607 = xm_c607_6 := xm_dr d_607_5
theorem k_607_6 : xm_gi xm_c607 6 = some xm_e607_6 := xm_gt d_607_6
theorem d_607_7 : List.drop 7 xm_c607 = xm_c607_7 := xm_dr d_607_6
theorem k_607_7 : xm_gi xm_c607 7 = some xm_e607_7 := xm_gt d_607_7
theorem d_607_8 : List.drop 8 xm_c607 = xm_c607_8 := xm_dr d_607_7
theorem k_607_8 : xm_gi xm_c607 8 = some xm_e607_8 := xm_gt d_607_8
theorem d_607_9 : List.drop 9 xm_c607 = xm_c607_9 := xm_dr d_607_8
theorem k_607_9 : xm_gi xm_c607 9 = some xm_e607_9 := xm_gt d_607_9
theorem d_607_10 : List.drop 10 xm_c607 = xm_c607_10 := xm_dr d_607_9
theorem k_607_10 : xm_gi xm_c607 10 = some xm_e607_10 := xm_gt d_607_10
theorem d_607_11 : List.drop 11 xm_c607 = xm_c607_11 := xm_dr d_607_10
theorem k_607_11 : xm_gi xm_c607 11 = some xm_e607_11 := xm_gt d_607_11
theorem d_607_12 : List.drop 12 xm_c607 = xm_c607_12 := xm_dr d_607_11
theorem k_607_12 : xm_gi xm_c607 12 = some xm_e607_12 := xm_gt d_607_12
theorem d_607_13 : List.drop 13 xm_c607 = xm_c607_13 := xm_dr d_607_12
theorem k_607_13 : xm_gi xm_c607 13 = some xm_e607_13 := xm_gt d_607_13
theorem d_607_14 : List.drop 14 xm_c607 = xm_c607_14 := xm_dr d_607_13
theorem k_607_14 : xm_gi xm_c607 14 = some xm_e607_14 := xm_gt d_607_14
theorem d_607_15 : List.drop 15 xm_c607 = xm_c607_15 := xm_dr d_607_14
theorem k_607_15 : xm_gi xm_c607 15 = some xm_e607_15 := xm_gt d_607_15
theorem d_607_16 : List.drop 16 xm_c607 = xm_c607_16 := xm_dr d_607_15
theorem k_607_16 : xm_gi xm_c607 16 = some xm_e607_16 := xm_gt d_607_16
theorem d_607_17 : List.drop 17 xm_c607 = xm_c607_17 := xm_dr d_607_16
theorem k_607_17 : xm_gi xm_c607 17 = some xm_e607_17 := xm_gt d_607_17
theorem d_607_18 : List.drop 18 xm_c607 = xm_c607_18 := xm_dr d_607_17
theorem k_607_18 : xm_gi xm_c607 18 = some xm_e607_18 := xm_gt d_607_18
theorem d_607_19 : List.drop 19 xm_c607 = xm_c607_19 := xm_dr d_607_18
theorem k_607_19 : xm_gi xm_c607 19 = some xm_e607_19 := xm_gt d_607_19
theorem d_607_20 : List.drop 20 xm_c607 = xm_c607_20 := xm_dr d_607_19
theorem k_607_20 : xm_gi xm_c607 20 = some xm_e607_20 := xm_gt d_607_20
theorem d_607_21 : List.drop 21 xm_c607 = xm_c607_21 := xm_dr d_607_20
theorem k_607_21 : xm_gi xm_c607 21 = some xm_e607_21 := xm_gt d_607_21
theorem d_607_22 : List.drop 22 xm_c607 = xm_c607_22 := xm_dr d_607_21
theorem k_607_22 : xm_gi xm_c607 22 = some xm_e607_22 := xm_gt d_607_22
theorem d_607_23 : List.drop 23 xm_c607 = xm_c607_23 := xm_dr d_607_22
theorem k_607_23 : xm_gi xm_c607 23 = some xm_e607_23 := xm_gt d_607_23
theorem d_607_24 : List.drop 24 xm_c607 = xm_c607_24 := xm_dr d_607_23
theorem k_607_24 : xm_gi xm_c607 24 = some xm_e607_24 := xm_gt d_607_24
theorem d_607_25 : List.drop 25 xm_c607 = xm_c607_25 := xm_dr d_607_24
theorem k_607_25 : xm_gi xm_c607 25 = some xm_e607_25 := xm_gt d_607_25
theorem d_607_26 : List.drop 26 xm_c607 = xm_c607_26 := xm_dr d_607_25
theorem k_607_26 : xm_gi xm_c607 26 = some xm_e607_26 := xm_gt d_607_26
theorem d_607_27 : List.drop 27 xm_c607 = xm_c607_27 := xm_dr d_607_26
theorem k_607_27 : xm_gi xm_c607 27 = some xm_e607_27 := xm_gt d_607_27
theorem d_607_28 : List.drop 28 xm_c607 = xm_c607_28 := xm_dr d_607_27
theorem k_607_28 : xm_gi xm_c607 28 = some xm_e607_28 := xm_gt d_607_28
theorem d_607_29 : List.drop 29 xm_c607 = xm_c607_29 := xm_dr d_607_28
theorem k_607_29 : xm_gi xm_c607 29 = some xm_e607_29 := xm_gt d_607_29
theorem d_607_30 : List.drop 30 xm_c607 = xm_c607_30 := xm_dr d_607_29
theorem k_607_30 : xm_gi xm_c607 30 = some xm_e607_30 := xm_gt d_607_30
theorem d_607_31 : List.drop 31 xm_c607 = xm_c607_31 := xm_dr d_607_30
theorem k_607_31 : xm_gi xm_c607 31 = some xm_e607_31 := xm_gt d_607_31
theorem d_607_32 : List.drop 32 xm_c607 = xm_c607_32 := xm_dr d_607_31
theorem k_607_32 : xm_gi xm_c607 32 = some xm_e607_32 := xm_gt d_607_32
theorem d_607_33 : List.drop 33 xm_c607 = xm_c607_33 := xm_dr d_607_32
theorem k_607_33 : xm_gi xm_c607 33 = some xm_e607_33 := xm_gt d_607_33
theorem d_607_34 : List.drop 34 xm_c607 = xm_c607_34 := xm_dr d_607_33
theorem k_607_34 : xm_gi xm_c607 34 = some xm_e607_34 := xm_gt d_607_34
theorem d_607_35 : List.drop 35 xm_c607 = xm_c607_35 := xm_dr d_607_34
theorem k_607_35 : xm_gi xm_c607 35 = some xm_e607_35 := xm_gt d_607_35
theorem d_607_36 : List.drop 36 xm_c607 = xm_c607_36 := xm_dr d_607_35
theorem k_607_36 : xm_gi xm_c607 36 = some xm_e607_36 := xm_gt d_607_36
theorem d_607_37 : List.drop 37 xm_c607 = xm_c607_37 := xm_dr d_607_36
theorem k_607_37 : xm_gi xm_c607 37 = some xm_e607_37 := xm_gt d_607_37
theorem d_607_38 : List.drop 38 xm_c607 = xm_c607_38 := xm_dr d_607_37
theorem k_607_38 : xm_gi xm_c607 38 = some xm_e607_38 := xm_gt d_607_38
theorem d_607_39 : List.drop 39 xm_c607 = xm_c607_39 := xm_dr d_607_38
theorem k_607_39 : xm_gi xm_c607 39 = some xm_e607_39 := xm_gt d_607_39
theorem d_607_40 : List.drop 40 xm_c607 = xm_c607_40 := xm_dr d_607_39
theorem k_607_40 : xm_gi xm_c607 40 = some xm_e607_40 := xm_gt d_607_40
theorem d_607_41 : List.drop 41 xm_c607 = xm_c607_41 := xm_dr d_607_40
theorem k_607_41 : xm_gi xm_c607 41 = some xm_e607_41 := xm_gt d_607_41
theorem d_607_42 : List.drop 42 xm_c607 = xm_c607_42 := xm_dr d_607_41
theorem k_607_42 : xm_gi xm_c607 42 = some xm_e607_42 := xm_gt d_607_42
theorem d_607_43 : List.drop 43 xm_c607 = xm_c607_43 := xm_dr d_607_42
theorem k_607_43 : xm_gi xm_c607 43 = some xm_e607_43 := xm_gt d_607_43
theorem d_607_44 : List.drop 44 xm_c607 = xm_c607_44 := xm_dr d_607_43
theorem k_607_44 : xm_gi xm_c607 44 = some xm_e607_44 := xm_gt d_607_44
theorem d_607_45 : List.drop 45 xm_c607 = xm_c607_45 := xm_dr d_607_44
theorem k_607_45 : xm_gi xm_c607 45 = some xm_e607_45 := xm_gt d_607_45
theorem d_607_46 : List.drop 46 xm_c607 = xm_c607_46 := xm_dr d_607_45
theorem k_607_46 : xm_gi xm_c607 46 = some xm_e607_46 := xm_gt d_607_46
theorem xb_607_0 {sc : List Int} {f : Nat → List xm_V → xm_W → xm_R} {w : xm_W} {Q : Option xm_V × xm_W → Prop} {x0 : Nat} {x1 : Int}
  (h : if (x1 : Int) = 0 then (xm_O (xm_fi (xm_old sc) w x0 4 0) (fun z17 => Q (some (.inl z17), w))) else (if (x1 : Int) = 1 then (xm_O (xm_fi (xm_old sc) w x0 4 1) (fun z16 => Q (some (.inl z16), w))) else (if (x1 : Int) = 2 then (xm_O (xm_fi (xm_old sc) w x0 4 2) (fun z15 => Q (some (.inl z15), w))) else (if (x1 : Int) = 3 then (xm_O (xm_fi (xm_old sc) w x0 4 3) (fun z14 => Q (some (.inl z14), w))) else (if (x1 : Int) = 4 then (xm_O (xm_fi (xm_old sc) w x0 4 4) (fun z13 => Q (some (.inl z13), w))) else (if (x1 : Int) = 5 then (xm_O (xm_fi (xm_old sc) w x0 4 5) (fun z12 => Q (some (.inl z12), w))) else (if (x1 : Int) = 6 then (xm_O (xm_fi (xm_old sc) w x0 4 0) (fun z7 => xm_O (xm_fi (xm_old sc) w x0 4 1) (fun z8 => xm_O (xm_fi (xm_old sc) w x0 4 3) (fun z9 => xm_Oi (f 153 [.inl z7, .inl z8, .inl z9] w) (fun z11 w10 => Q (some (.inl z11), w10)))))) else (xm_O (xm_fi (xm_old sc) w x0 4 4) (fun z1 => xm_Oi (f 142 [.inl (xm_w (x1 - 8)), .inl 0, .inl (xm_w (z1 - 1))] w) (fun z3 w2 => if (z3 : Int) = 0 then (Q (some (.inl (-1)), w2)) else (xm_O (xm_fr (xm_old sc) w2 x0 4 6) (fun r4 => xm_O (xm_ints (xm_old sc) w2 r4) (fun l5 => xm_O (xm_at l5 (xm_w (x1 - 8))) (fun z6 => Q (some (.inl z6), w2))))))))))))))) :
  xm_EQ (xm_old sc) xm_sta f xm_c607 0 [some (.inr (.inl (some x0))), some (.inl x1)] [] w Q :=
  (xq_iload_n k_607_0 rfl (xq_tsw k_607_1 (xs_swc h (fun h => (xq_aload_n k_607_2 rfl (xq_geti0 k_607_3 rfl h (fun z17 h => (xq_ireturn k_607_4 h))))) (fun h => (xs_swc h (fun h => (xq_aload_n k_607_5 rfl (xq_geti0 k_607_6 rfl h (fun z16 h => (xq_ireturn k_607_7 h))))) (fun h => (xs_swc h (fun h => (xq_aload_n k_607_8 rfl (xq_geti0 k_607_9 rfl h (fun z15 h => (xq_ireturn k_607_10 h))))) (fun h => (xs_swc h (fun h => (xq_aload_n k_607_11 rfl (xq_geti0 k_607_12 rfl h (fun z14 h => (xq_ireturn k_607_13 h))))) (fun h => (xs_swc h (fun h => (xq_aload_n k_607_14 rfl (xq_geti0 k_607_15 rfl h (fun z13 h => (xq_ireturn k_607_16 h))))) (fun h => (xs_swc h (fun h => (xq_aload_n k_607_17 rfl (xq_geti0 k_607_18 rfl h (fun z12 h => (xq_ireturn k_607_19 h))))) (fun h => (xs_swc h (fun h => (xq_aload_n k_607_20 rfl (xq_geti0 k_607_21 rfl h (fun z7 h => (xq_aload_n k_607_22 rfl (xq_geti0 k_607_23 rfl h (fun z8 h => (xq_aload_n k_607_24 rfl (xq_geti0 k_607_25 rfl h (fun z9 h => (xq_invs1 k_607_26 xr_153 rfl rfl rfl h (fun z11 w10 h => (xq_ireturn k_607_27 h))))))))))))) (fun h => (xq_iload_n k_607_28 rfl (xq_bipush k_607_29 (xq_isub k_607_30 (xq_iconst k_607_31 (xq_aload_n k_607_32 rfl (xq_geti0 k_607_33 rfl h (fun z1 h => (xq_iconst k_607_34 (xq_isub k_607_35 (xq_invs2 k_607_36 xr_142 rfl rfl rfl h (fun z3 w2 h => (xq_if_eq k_607_37 h (fun h => (xq_iconst k_607_45 (xq_ireturn k_607_46 h))) (fun h => (xq_aload_n k_607_38 rfl (xq_getr k_607_39 rfl h (fun r4 h => (xq_iload_n k_607_40 rfl (xq_bipush k_607_41 (xq_isub k_607_42 (xq_iaload k_607_43 h (fun l5 h => h) (fun l5 z6 h => (xq_goto k_607_44 (xq_ireturn k_607_46 h)))))))))))))))))))))))))))))))))))))))
