/-- ShodBackwards$Desk.<init>()V -/
theorem d_301_0 : List.drop 0 xm_c301 = xm_c301 := rfl
theorem k_301_0 : xm_gi xm_c301 0 = some xm_e301_0 := xm_gt d_301_0
theorem d_301_1 : List.drop 1 xm_c301 = xm_c301_1 := xm_dr d_301_0
theorem k_301_1 : xm_gi xm_c301 1 = some xm_e301_1 := xm_gt d_301_1
theorem d_301_2 : List.drop 2 xm_c301 = xm_c301_2 := xm_dr d_301_1
theorem k_301_2 : xm_gi xm_c301 2 = some xm_e301_2 := xm_gt d_301_2
theorem d_301_3 : List.drop 3 xm_c301 = xm_c301_3 := xm_dr d_301_2
theorem k_301_3 : xm_gi xm_c301 3 = some xm_e301_3 := xm_gt d_301_3
theorem d_301_4 : List.drop 4 xm_c301 = xm_c301_4 := xm_dr d_301_3
theorem k_301_4 : xm_gi xm_c301 4 = some xm_e301_4 := xm_gt d_301_4
theorem d_301_5 : List.drop 5 xm_c301 = xm_c301_5 := xm_dr d_301_4
theorem k_301_5 : xm_gi xm_c301 5 = some xm_e301_5 := xm_gt d_301_5
theorem d_301_6 : List.drop 6 xm_c301 = xm_c301_6 := xm_dr d_301_5
theorem k_301_6 : xm_gi xm_c301 6 = some xm_e301_6 := xm_gt d_301_6
theorem d_301_7 : List.drop 7 xm_c301 = xm_c301_7 := xm_dr d_301_6
theorem k_301_7 : xm_gi xm_c301 7 = some xm_e301_7 := xm_gt d_301_7
theorem d_301_8 : List.drop 8 xm_c301 = xm_c301_8 := xm_dr d_301_7
theorem k_301_8 : xm_gi xm_c301 8 = some xm_e301_8 := xm_gt d_301_8
theorem d_301_9 : List.drop 9 xm_c301 = xm_c301_9 := xm_dr d_301_8
theorem k_301_9 : xm_gi xm_c301 9 = some xm_e301_9 := xm_gt d_301_9
theorem d_301_10 : List.drop 10 xm_c301 = xm_c301_10 := xm_dr d_301_9
theorem k_301_10 : xm_gi xm_c301 10 = some xm_e301_10 := xm_gt d_301_10
theorem d_301_11 : List.drop 11 xm_c301 = xm_c301_11 := xm_dr d_301_10
theorem k_301_11 : xm_gi xm_c301 11 = some xm_e301_11 := xm_gt d_301_11
theorem d_301_12 : List.drop 12 xm_c301 = xm_c301_12 := xm_dr d_301_11
theorem k_301_12 : xm_gi xm_c301 12 = some xm_e301_12 := xm_gt d_301_12
theorem d_301_13 : List.drop 13 xm_c301 = xm_c301_13 := xm_dr d_301_12
theorem k_301_13 : xm_gi xm_c301 13 = some xm_e301_13 := xm_gt d_301_13
theorem xb_301_0 {sc : List Int} {f : Nat → List xm_V → xm_W → xm_R} {w : xm_W} {Q : Option xm_V × xm_W → Prop} {x0 : Nat}
  (h : (0 ≤ (60 : Int) ∧ (60 : Int) ≤ 1000) ∧ (xm_O (xm_setf (w ++ [.inl (List.replicate (Int.toNat 60) 0)]) x0 1 0 2 (.inr (.inl (some w.length)))) (fun w1 => (0 ≤ (24 : Int) ∧ (24 : Int) ≤ 1000) ∧ (xm_O (xm_setf (w1 ++ [.inl (List.replicate (Int.toNat 24) 0)]) x0 1 2 2 (.inr (.inl (some w1.length)))) (fun w2 => xm_O (xm_setf w2 x0 1 4 0 (.inl 1)) (fun w3 => Q (none, w3))))))) :
  xm_EQ (xm_old sc) xm_sta f xm_c301 0 [some (.inr (.inl (some x0)))] [] w Q :=
  (xq_aload_n k_301_0 rfl (xq_obj k_301_1 rfl (xq_aload_n k_301_2 rfl (xq_bipush k_301_3 (xq_newarray k_301_4 h (fun h => (xq_put k_301_5 rfl h (fun w1 h => (xq_aload_n k_301_6 rfl (xq_bipush k_301_7 (xq_newarray k_301_8 h (fun h => (xq_put k_301_9 rfl h (fun w2 h => (xq_aload_n k_301_10 rfl (xq_iconst k_301_11 (xq_put k_301_12 rfl h (fun w3 h => (xq_return k_301_13 h)))))))))))))))))))
/-- ShodBackwards$Desk.copyFrom(LShodBackwards$Desk;)V -/
theorem d_302_0 : List.drop 0 xm_c302 = xm_c302 := rfl
theorem k_302_0 : xm_gi xm_c302 0 = some xm_e302_0 := xm_gt d_302_0
theorem d_302_1 : List.drop 1 xm_c302 = xm_c302_1 := xm_dr d_302_0
theorem k_302_1 : xm_gi xm_c302 1 = some xm_e302_1 := xm_gt d_302_1
theorem d_302_2 : List.drop 2 xm_c302 = xm_c302_2 := xm_dr d_302_1
theorem k_302_2 : xm_gi xm_c302 2 = some xm_e302_2 := xm_gt d_302_2
theorem d_302_3 : List.drop 3 xm_c302 = xm_c302_3 := xm_dr d_302_2
theorem k_302_3 : xm_gi xm_c302 3 = some xm_e302_3 := xm_gt d_302_3
theorem d_302_4 : List.drop 4 xm_c302 = xm_c302_4 := xm_dr d_302_3
theorem k_302_4 : xm_gi xm_c302 4 = some xm_e302_4 := xm_gt d_302_4
theorem d_302_5 : List.drop 5 xm_c302 = xm_c302_5 := xm_dr d_302_4
theorem k_302_5 : xm_gi xm_c302 5 = some xm_e302_5 := xm_gt d_302_5
theorem d_302_6 : List.drop 6 xm_c302 = xm_c302_6 := xm_dr d_302_5
theorem k_302_6 : xm_gi xm_c302 6 = some xm_e302_6 := xm_gt d_302_6
theorem d_302_7 : List.drop 7 xm_c302 = xm_c302_7 := xm_dr d_302_6
theorem k_302_7 : xm_gi xm_c302 7 = some xm_e302_7 := xm_gt d_302_7
theorem d_302_8 : List.drop 8 xm_c302 = xm_c302_8 := xm_dr d_302_7
theorem k_302_8 : xm_gi xm_c302 8 = some xm_e302_8 := xm_gt d_302_8
theorem d_302_9 : List.drop 9 xm_c302 = xm_c302_9 := xm_dr d_302_8
theorem k_302_9 : xm_gi xm_c302 9 = some xm_e302_9 := xm_gt d_302_9
theorem d_302_10 : List.drop 10 xm_c302 = xm_c302_10 := xm_dr d_302_9
theorem k_302_10 : xm_gi xm_c302 10 = some xm_e302_10 := xm_gt d_302_10
theorem d_302_11 : List.drop 11 xm_c302 = xm_c302_11 := xm_dr d_302_10
theorem k_302_11 : xm_gi xm_c302 11 = some xm_e302_11 := xm_gt d_302_11
theorem d_302_12 : List.drop 12 xm_c302 = xm_c302_12 := xm_dr d_302_11
theorem k_302_12 : xm_gi xm_c302 12 = some xm_e302_12 := xm_gt d_302_12
theorem d_302_13 : List.drop 13 xm_c302 = xm_c302_13 := xm_dr d_302_12
theorem k_302_13 : xm_gi xm_c302 13 = some xm_e302_13 := xm_gt d_302_13
theorem d_302_14 : List.drop 14 xm_c302 = xm_c302_14 := xm_dr d_302_13
theorem k_302_14 : xm_gi xm_c302 14 = some xm_e302_14 := xm_gt d_302_14
theorem d_302_15 : List.drop 15 xm_c302 = xm_c302_15 := xm_dr d_302_14
theorem k_302_15 : xm_gi xm_c302 15 = some xm_e302_15 := xm_gt d_302_15
theorem d_302_16 : List.drop 16 xm_c302 = xm_c302_16 := xm_dr d_302_15
theorem k_302_16 : xm_gi xm_c302 16 = some xm_e302_16 := xm_gt d_302_16
theorem d_302_17 : List.drop 17 xm_c302 = xm_c302_17 := xm_dr d_302_16
theorem k_302_17 : xm_gi xm_c302 17 = some xm_e302_17 := xm_gt d_302_17
theorem d_302_18 : List.drop 18 xm_c302 = xm_c302_18 := xm_dr d_302_17
theorem k_302_18 : xm_gi xm_c302 18 = some xm_e302_18 := xm_gt d_302_18
theorem d_302_19 : List.drop 19 xm_c302 = xm_c302_19 := xm_dr d_302_18
theorem k_302_19 : xm_gi xm_c302 19 = some xm_e302_19 := xm_gt d_302_19
theorem d_302_20 : List.drop 20 xm_c302 = xm_c302_20 := xm_dr d_302_19
theorem k_302_20 : xm_gi xm_c302 20 = some xm_e302_20 := xm_gt d_302_20
theorem d_302_21 : List.drop 21 xm_c302 = xm_c302_21 := xm_dr d_302_20
theorem k_302_21 : xm_gi xm_c302 21 = some xm_e302_21 := xm_gt d_302_21
theorem d_302_22 : List.drop 22 xm_c302 = xm_c302_22 := xm_dr d_302_21
theorem k_302_22 : xm_gi xm_c302 22 = some xm_e302_22 := xm_gt d_302_22
theorem d_302_23 : List.drop 23 xm_c302 = xm_c302_23 := xm_dr d_302_22
theorem k_302_23 : xm_gi xm_c302 23 = some xm_e302_23 := xm_gt d_302_23
theorem d_302_24 : List.drop 24 xm_c302 = xm_c302_24 := xm_dr d_302_23
theorem k_302_24 : xm_gi xm_c302 24 = some xm_e302_24 := xm_gt d_302_24
theorem d_302_25 : List.drop 25 xm_c302 = xm_c302_25 := xm_dr d_302_24
theorem k_302_25 : xm_gi xm_c302 25 = some xm_e302_25 := xm_gt d_302_25
theorem d_302_26 : List.drop 26 xm_c302 = xm_c302_26 := xm_dr d_302_25
theorem k_302_26 : xm_gi xm_c302 26 = some xm_e302_26 := xm_gt d_302_26
theorem d_302_27 : List.drop 27 xm_c302 = xm_c302_27 := xm_dr d_302_26
theorem k_302_27 : xm_gi xm_c302 27 = some xm_e302_27 := xm_gt d_302_27
theorem d_302_28 : List.drop 28 xm_c302 = xm_c302_28 := xm_dr d_302_27
theorem k_302_28 : xm_gi xm_c302 28 = some xm_e302_28 := xm_gt d_302_28
theorem xb_302_0 {sc : List Int} {f : Nat → List xm_V → xm_W → xm_R} {w : xm_W} {Q : Option xm_V × xm_W → Prop} {x0 : Nat} {x1 : Nat}
  (h : xm_O (xm_fr (xm_old sc) w x1 1 0) (fun r1 => xm_O (xm_fr (xm_old sc) w x0 1 0) (fun r2 => xm_O (xm_copy w r1 0 r2 0 60) (fun w3 => xm_O (xm_fi (xm_old sc) w3 x1 1 1) (fun z4 => xm_O (xm_setf w3 x0 1 1 0 (.inl z4)) (fun w5 => xm_O (xm_fr (xm_old sc) w5 x1 1 2) (fun r6 => xm_O (xm_fr (xm_old sc) w5 x0 1 2) (fun r7 => xm_O (xm_copy w5 r6 0 r7 0 24) (fun w8 => xm_O (xm_fi (xm_old sc) w8 x1 1 3) (fun z9 => xm_O (xm_setf w8 x0 1 3 0 (.inl z9)) (fun w10 => xm_O (xm_fi (xm_old sc) w10 x1 1 4) (fun z11 => xm_O (xm_setf w10 x0 1 4 0 (.inl z11)) (fun w12 => Q (none, w12)))))))))))))) :
  xm_EQ (xm_old sc) xm_sta f xm_c302 0 [some (.inr (.inl (some x0))), some (.inr (.inl (some x1)))] [] w Q :=
  (xq_aload_n k_302_0 rfl (xq_getr k_302_1 rfl h (fun r1 h => (xq_iconst k_302_2 (xq_aload_n k_302_3 rfl (xq_getr k_302_4 rfl h (fun r2 h => (xq_iconst k_302_5 (xq_bipush k_302_6 (xq_copy k_302_7 rfl h (fun w3 h => (xq_aload_n k_302_8 rfl (xq_aload_n k_302_9 rfl (xq_geti0 k_302_10 rfl h (fun z4 h => (xq_put k_302_11 rfl h (fun w5 h => (xq_aload_n k_302_12 rfl (xq_getr k_302_13 rfl h (fun r6 h => (xq_iconst k_302_14 (xq_aload_n k_302_15 rfl (xq_getr k_302_16 rfl h (fun r7 h => (xq_iconst k_302_17 (xq_bipush k_302_18 (xq_copy k_302_19 rfl h (fun w8 h => (xq_aload_n k_302_20 rfl (xq_aload_n k_302_21 rfl (xq_geti0 k_302_22 rfl h (fun z9 h => (xq_put k_302_23 rfl h (fun w10 h => (xq_aload_n k_302_24 rfl (xq_aload_n k_302_25 rfl (xq_geti0 k_302_26 rfl h (fun z11 h => (xq_put k_302_27 rfl h (fun w12 h => (xq_return k_302_28 h)))))))))))))))))))))))))))))))))))))))))
/-- ShodBackwards$Desk.drawn()I -/
theorem d_303_0 : List.drop 0 xm_c303 = xm_c303 := rfl
theorem k_303_0 : xm_gi xm_c303 0 = some xm_e303_0 := xm_gt d_303_0
theorem d_303_1 : List.drop 1 xm_c303 = xm_c303_1 := xm_dr d_303_0
theorem k_303_1 : xm_gi xm_c303 1 = some xm_e303_1 := xm_gt d_303_1
theorem d_303_2 : List.drop 2 xm_c303 = xm_c303_2 := xm_dr d_303_1
theorem k_303_2 : xm_gi xm_c303 2 = some xm_e303_2 := xm_gt d_303_2
theorem d_303_3 : List.drop 3 xm_c303 = xm_c303_3 := xm_dr d_303_2
theorem k_303_3 : xm_gi xm_c303 3 = some xm_e303_3 := xm_gt d_303_3
theorem d_303_4 : List.drop 4 xm_c303 = xm_c303_4 := xm_dr d_303_3
theorem k_303_4 : xm_gi xm_c303 4 = some xm_e303_4 := xm_gt d_303_4
theorem d_303_5 : List.drop 5 xm_c303 = xm_c303_5 := xm_dr d_303_4
theorem k_303_5 : xm_gi xm_c303 5 = some xm_e303_5 := xm_gt d_303_5
theorem d_303_6 : List.drop 6 xm_c303 = xm_c303_6 := xm_dr d_303_5
theorem k_303_6 : xm_gi xm_c303 6 = some xm_e303_6 := xm_gt d_303_6
theorem d_303_7 : List.drop 7 xm_c303 = xm_c303_7 := xm_dr d_303_6
theorem k_303_7 : xm_gi xm_c303 7 = some xm_e303_7 := xm_gt d_303_7
theorem d_303_8 : List.drop 8 xm_c303 = xm_c303_8 := xm_dr d_303_7
theorem k_303_8 : xm_gi xm_c303 8 = some xm_e303_8 := xm_gt d_303_8
theorem d_303_9 : List.drop 9 xm_c303 = xm_c303_9 := xm_dr d_303_8
theorem k_303_9 : xm_gi xm_c303 9 = some xm_e303_9 := xm_gt d_303_9
theorem d_303_10 : List.drop 10 xm_c303 = xm_c303_10 := xm_dr d_303_9
theorem k_303_10 : xm_gi xm_c303 10 = some xm_e303_10 := xm_gt d_303_10
theorem d_303_11 : List.drop 11 xm_c303 = xm_c303_11 := xm_dr d_303_10
theorem k_303_11 : xm_gi xm_c303 11 = some xm_e303_11 := xm_gt d_303_11
theorem d_303_12 : List.drop 12 xm_c303 = xm_c303_12 := xm_dr d_303_11
theorem k_303_12 : xm_gi xm_c303 12 = some xm_e303_12 := xm_gt d_303_12
theorem xb_303_0 {sc : List Int} {f : Nat → List xm_V → xm_W → xm_R} {w : xm_W} {Q : Option xm_V × xm_W → Prop} {x0 : Nat}
  (h : xm_O (xm_fi (xm_old sc) w x0 1 4) (fun z1 => xm_O (xm_setf w x0 1 4 0 (.inl (xm_w ((xm_w (z1 * 1103515245)) + 12345)))) (fun w2 => xm_O (xm_fi (xm_old sc) w2 x0 1 4) (fun z3 => Q (some (.inl (xm_ushr z3 8)), w2))))) :
  xm_EQ (xm_old sc) xm_sta f xm_c303 0 [some (.inr (.inl (some x0)))] [] w Q :=
  (xq_aload_n k_303_0 rfl (xq_aload_n k_303_1 rfl (xq_geti0 k_303_2 rfl h (fun z1 h => (xq_ldc k_303_3 (xq_imul k_303_4 (xq_sipush k_303_5 (xq_iadd k_303_6 (xq_put k_303_7 rfl h (fun w2 h => (xq_aload_n k_303_8 rfl (xq_geti0 k_303_9 rfl h (fun z3 h => (xq_bipush k_303_10 (xq_iushr k_303_11 (xq_ireturn k_303_12 h))))))))))))))))
