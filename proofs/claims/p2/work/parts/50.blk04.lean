/-- ShodBackwards$Moor.<init>()V -/
theorem d_401_0 : List.drop 0 xm_c401 = xm_c401 := rfl
theorem k_401_0 : xm_gi xm_c401 0 = some xm_e401_0 := xm_gt d_401_0
theorem d_401_1 : List.drop 1 xm_c401 = xm_c401_1 := xm_dr d_401_0
theorem k_401_1 : xm_gi xm_c401 1 = some xm_e401_1 := xm_gt d_401_1
theorem d_401_2 : List.drop 2 xm_c401 = xm_c401_2 := xm_dr d_401_1
theorem k_401_2 : xm_gi xm_c401 2 = some xm_e401_2 := xm_gt d_401_2
theorem d_401_3 : List.drop 3 xm_c401 = xm_c401_3 := xm_dr d_401_2
theorem k_401_3 : xm_gi xm_c401 3 = some xm_e401_3 := xm_gt d_401_3
theorem d_401_4 : List.drop 4 xm_c401 = xm_c401_4 := xm_dr d_401_3
theorem k_401_4 : xm_gi xm_c401 4 = some xm_e401_4 := xm_gt d_401_4
theorem d_401_5 : List.drop 5 xm_c401 = xm_c401_5 := xm_dr d_401_4
theorem k_401_5 : xm_gi xm_c401 5 = some xm_e401_5 := xm_gt d_401_5
theorem d_401_6 : List.drop 6 xm_c401 = xm_c401_6 := xm_dr d_401_5
theorem k_401_6 : xm_gi xm_c401 6 = some xm_e401_6 := xm_gt d_401_6
theorem d_401_7 : List.drop 7 xm_c401 = xm_c401_7 := xm_dr d_401_6
theorem k_401_7 : xm_gi xm_c401 7 = some xm_e401_7 := xm_gt d_401_7
theorem d_401_8 : List.drop 8 xm_c401 = xm_c401_8 := xm_dr d_401_7
theorem k_401_8 : xm_gi xm_c401 8 = some xm_e401_8 := xm_gt d_401_8
theorem d_401_9 : List.drop 9 xm_c401 = xm_c401_9 := xm_dr d_401_8
theorem k_401_9 : xm_gi xm_c401 9 = some xm_e401_9 := xm_gt d_401_9
theorem d_401_10 : List.drop 10 xm_c401 = xm_c401_10 := xm_dr d_401_9
theorem k_401_10 : xm_gi xm_c401 10 = some xm_e401_10 := xm_gt d_401_10
theorem d_401_11 : List.drop 11 xm_c401 = xm_c401_11 := xm_dr d_401_10
theorem k_401_11 : xm_gi xm_c401 11 = some xm_e401_11 := xm_gt d_401_11
theorem d_401_12 : List.drop 12 xm_c401 = xm_c401_12 := xm_dr d_401_11
theorem k_401_12 : xm_gi xm_c401 12 = some xm_e401_12 := xm_gt d_401_12
theorem d_401_13 : List.drop 13 xm_c401 = xm_c401_13 := xm_dr d_401_12
theorem k_401_13 : xm_gi xm_c401 13 = some xm_e401_13 := xm_gt d_401_13
theorem d_401_14 : List.drop 14 xm_c401 = xm_c401_14 := xm_dr d_401_13
theorem k_401_14 : xm_gi xm_c401 14 = some xm_e401_14 := xm_gt d_401_14
theorem d_401_15 : List.drop 15 xm_c401 = xm_c401_15 := xm_dr d_401_14
theorem k_401_15 : xm_gi xm_c401 15 = some xm_e401_15 := xm_gt d_401_15
theorem d_401_16 : List.drop 16 xm_c401 = xm_c401_16 := xm_dr d_401_15
theorem k_401_16 : xm_gi xm_c401 16 = some xm_e401_16 := xm_gt d_401_16
theorem d_401_17 : List.drop 17 xm_c401 = xm_c401_17 := xm_dr d_401_16
theorem k_401_17 : xm_gi xm_c401 17 = some xm_e401_17 := xm_gt d_401_17
theorem d_401_18 : List.drop 18 xm_c401 = xm_c401_18 := xm_dr d_401_17
theorem k_401_18 : xm_gi xm_c401 18 = some xm_e401_18 := xm_gt d_401_18
theorem d_401_19 : List.drop 19 xm_c401 = xm_c401_19 := xm_dr d_401_18
theorem k_401_19 : xm_gi xm_c401 19 = some xm_e401_19 := xm_gt d_401_19
theorem d_401_20 : List.drop 20 xm_c401 = xm_c401_20 := xm_dr d_401_19
theorem k_401_20 : xm_gi xm_c401 20 = some xm_e401_20 := xm_gt d_401_20
theorem d_401_21 : List.drop 21 xm_c401 = xm_c401_21 := xm_dr d_401_20
theorem k_401_21 : xm_gi xm_c401 21 = some xm_e401_21 := xm_gt d_401_21
theorem d_401_22 : List.drop 22 xm_c401 = xm_c401_22 := xm_dr d_401_21
theorem k_401_22 : xm_gi xm_c401 22 = some xm_e401_22 := xm_gt d_401_22
theorem d_401_23 : List.drop 23 xm_c401 = xm_c401_23 := xm_dr d_401_22
theorem k_401_23 : xm_gi xm_c401 23 = some xm_e401_23 := xm_gt d_401_23
theorem d_401_24 : List.drop 24 xm_c401 = xm_c401_24 := xm_dr d_401_23
theorem k_401_24 : xm_gi xm_c401 24 = some xm_e401_24 := xm_gt d_401_24
theorem d_401_25 : List.drop 25 xm_c401 = xm_c401_25 := xm_dr d_401_24
theorem k_401_25 : xm_gi xm_c401 25 = some xm_e401_25 := xm_gt d_401_25
theorem d_401_26 : List.drop 26 xm_c401 = xm_c401_26 := xm_dr d_401_25
theorem k_401_26 : xm_gi xm_c401 26 = some xm_e401_26 := xm_gt d_401_26
theorem d_401_27 : List.drop 27 xm_c401 = xm_c401_27 := xm_dr d_401_26
theorem k_401_27 : xm_gi xm_c401 27 = some xm_e401_27 := xm_gt d_401_27
theorem d_401_28 : List.drop 28 xm_c401 = xm_c401_28 := xm_dr d_401_27
theorem k_401_28 : xm_gi xm_c401 28 = some xm_e401_28 := xm_gt d_401_28
theorem d_401_29 : List.drop 29 xm_c401 = xm_c401_29 := xm_dr d_401_28
theorem k_401_29 : xm_gi xm_c401 29 = some xm_e401_29 := xm_gt d_401_29
theorem d_401_30 : List.drop 30 xm_c401 = xm_c401_30 := xm_dr d_401_29
theorem k_401_30 : xm_gi xm_c401 30 = some xm_e401_30 := xm_gt d_401_30
theorem d_401_31 : List.drop 31 xm_c401 = xm_c401_31 := xm_dr d_401_30
theorem k_401_31 : xm_gi xm_c401 31 = some xm_e401_31 := xm_gt d_401_31
theorem d_401_32 : List.drop 32 xm_c401 = xm_c401_32 := xm_dr d_401_31
theorem k_401_32 : xm_gi xm_c401 32 = some xm_e401_32 := xm_gt d_401_32
theorem d_401_33 : List.drop 33 xm_c401 = xm_c401_33 := xm_dr d_401_32
theorem k_401_33 : xm_gi xm_c401 33 = some xm_e401_33 := xm_gt d_401_33
theorem d_401_34 : List.drop 34 xm_c401 = xm_c401_34 := xm_dr d_401_33
theorem k_401_34 : xm_gi xm_c401 34 = some xm_e401_34 := xm_gt d_401_34
theorem d_401_35 : List.drop 35 xm_c401 = xm_c401_35 := xm_dr d_401_34
theorem k_401_35 : xm_gi xm_c401 35 = some xm_e401_35 := xm_gt d_401_35
theorem d_401_36 : List.drop 36 xm_c401 = xm_c401_36 := xm_dr d_401_35
theorem k_401_36 : xm_gi xm_c401 36 = some xm_e401_36 := xm_gt d_401_36
theorem d_401_37 : List.drop 37 xm_c401 = xm_c401_37 := xm_dr d_401_36
theorem k_401_37 : xm_gi xm_c401 37 = some xm_e401_37 := xm_gt d_401_37
theorem d_401_38 : List.drop 38 xm_c401 = xm_c401_38 := xm_dr d_401_37
theorem k_401_38 : xm_gi xm_c401 38 = some xm_e401_38 := xm_gt d_401_38
theorem d_401_39 : List.drop 39 xm_c401 = xm_c401_39 := xm_dr d_401_38
theorem k_401_39 : xm_gi xm_c401 39 = some xm_e401_39 := xm_gt d_401_39
theorem d_401_40 : List.drop 40 xm_c401 = xm_c401_40 := xm_dr d_401_39
theorem k_401_40 : xm_gi xm_c401 40 = some xm_e401_40 := xm_gt d_401_40
theorem xb_401_0 {sc : List Int} {f : Nat → List xm_V → xm_W → xm_R} {w : xm_W} {Q : Option xm_V × xm_W → Prop} {x0 : Nat}
  (h : (0 ≤ (36 : Int) ∧ (36 : Int) ≤ 1000) ∧ (xm_O (xm_setf (w ++ [.inl (List.replicate (Int.toNat 36) 0)]) x0 2 0 2 (.inr (.inl (some w.length)))) (fun w1 => (0 ≤ (5 : Int) ∧ (5 : Int) ≤ 1000) ∧ (xm_O (xm_setf (w1 ++ [.inr (.inl (4, List.replicate (Int.toNat 5) none))]) x0 2 3 2 (.inr (.inl (some w1.length)))) (fun w2 => (0 ≤ (200 : Int) ∧ (200 : Int) ≤ 1000) ∧ (xm_O (xm_setf (w2 ++ [.inl (List.replicate (Int.toNat 200) 0)]) x0 2 5 2 (.inr (.inl (some w2.length)))) (fun w3 => (0 ≤ (2 : Int) ∧ (2 : Int) ≤ 1000) ∧ (xm_O (xm_setf (w3 ++ [.inr (.inl (7, List.replicate (Int.toNat 2) none))]) x0 2 7 2 (.inr (.inl (some w3.length)))) (fun w4 => (0 ≤ (4 : Int) ∧ (4 : Int) ≤ 1000) ∧ (xm_O (xm_setf (w4 ++ [.inl (List.replicate (Int.toNat 4) 0)]) x0 2 8 2 (.inr (.inl (some w4.length)))) (fun w5 => (0 ≤ (60 : Int) ∧ (60 : Int) ≤ 1000) ∧ (xm_O (xm_setf (w5 ++ [.inl (List.replicate (Int.toNat 60) 0)]) x0 2 9 2 (.inr (.inl (some w5.length)))) (fun w6 => xm_EQ (xm_old sc) xm_sta f xm_c401 28 [some (.inr (.inl (some x0))), some (.inl 0)] [] w6 Q))))))))))))) :
  xm_EQ (xm_old sc) xm_sta f xm_c401 0 [some (.inr (.inl (some x0))), none] [] w Q :=
  (xq_aload_n k_401_0 rfl (xq_obj k_401_1 rfl (xq_aload_n k_401_2 rfl (xq_bipush k_401_3 (xq_newarray k_401_4 h (fun h => (xq_put k_401_5 rfl h (fun w1 h => (xq_aload_n k_401_6 rfl (xq_iconst k_401_7 (xq_anewarray k_401_8 h (fun h => (xq_put k_401_9 rfl h (fun w2 h => (xq_aload_n k_401_10 rfl (xq_sipush k_401_11 (xq_newarray k_401_12 h (fun h => (xq_put k_401_13 rfl h (fun w3 h => (xq_aload_n k_401_14 rfl (xq_iconst k_401_15 (xq_anewarray k_401_16 h (fun h => (xq_put k_401_17 rfl h (fun w4 h => (xq_aload_n k_401_18 rfl (xq_iconst k_401_19 (xq_newarray k_401_20 h (fun h => (xq_put k_401_21 rfl h (fun w5 h => (xq_aload_n k_401_22 rfl (xq_bipush k_401_23 (xq_newarray k_401_24 h (fun h => (xq_put k_401_25 rfl h (fun w6 h => (xq_iconst k_401_26 (xq_istore_n k_401_27 rfl h))))))))))))))))))))))))))))))))))))))))
theorem xb_401_28 {sc : List Int} {f : Nat → List xm_V → xm_W → xm_R} {w : xm_W} {Q : Option xm_V × xm_W → Prop} {x0 : Nat} {x1 : Int}
  (h : if (x1 : Int) < 5 then (xm_O (xm_fr (xm_old sc) w x0 2 3) (fun r1 => xm_Ov (f 601 [.inr (.inl (some w.length))] (w ++ [.inr (.inr (4, (xm_kd 4).map xm_dflt))])) (fun w2 => xm_O (xm_setq w2 r1 x1 (some w.length)) (fun w3 => xm_EQ (xm_old sc) xm_sta f xm_c401 28 [some (.inr (.inl (some x0))), some (.inl (xm_w (x1 + 1)))] [] w3 Q)))) else (Q (none, w))) :
  xm_EQ (xm_old sc) xm_sta f xm_c401 28 [some (.inr (.inl (some x0))), some (.inl x1)] [] w Q :=
  (xq_iload_n k_401_28 rfl (xq_iconst k_401_29 (xq_ic_ge k_401_30 h (fun h => (xq_aload_n k_401_31 rfl (xq_getr k_401_32 rfl h (fun r1 h => (xq_iload_n k_401_33 rfl (xq_new k_401_34 (xq_dupr k_401_35 (xq_invi0 k_401_36 xr_601 rfl rfl rfl h (fun w2 h => (xq_aastore k_401_37 h (fun w3 h => (xq_iinc k_401_38 rfl rfl (xq_goto k_401_39 h))))))))))))) (fun h => (xq_return k_401_40 h)))))
/-- ShodBackwards$Moor.copyFrom(LShodBackwards$Moor;)V -/
theorem d_402_0 : List.drop 0 xm_c402 = xm_c402 := rfl
theorem k_402_0 : xm_gi xm_c402 0 = some xm_e402_0 := xm_gt d_402_0
theorem d_402_1 : List.drop 1 xm_c402 = xm_c402_1 := xm_dr d_402_0
theorem k_402_1 : xm_gi xm_c402 1 = some xm_e402_1 := xm_gt d_402_1
theorem d_402_2 : List.drop 2 xm_c402 = xm_c402_2 := xm_dr d_402_1
theorem k_402_2 : xm_gi xm_c402 2 = some xm_e402_2 := xm_gt d_402_2
theorem d_402_3 : List.drop 3 xm_c402 = xm_c402_3 := xm_dr d_402_2
theorem k_402_3 : xm_gi xm_c402 3 = some xm_e402_3 := xm_gt d_402_3
theorem d_402_4 : List.drop 4 xm_c402 = xm_c402_4 := xm_dr d_402_3
theorem k_402_4 : xm_gi xm_c402 4 = some xm_e402_4 := xm_gt d_402_4
theorem d_402_5 : List.drop 5 xm_c402 = xm_c402_5 := xm_dr d_402_4
theorem k_402_5 : xm_gi xm_c402 5 = some xm_e402_5 := xm_gt d_402_5
theorem d_402_6 : List.drop 6 xm_c402 = xm_c402_6 := xm_dr d_402_5
theorem k_402_6 : xm_gi xm_c402 6 = some xm_e402_6 := xm_gt d_402_6
theorem d_402_7 : List.drop 7 xm_c402 = xm_c402_7 := xm_dr d_402_6
theorem k_402_7 : xm_gi xm_c402 7 = some xm_e402_7 := xm_gt d_402_7
theorem d_402_8 : List.drop 8 xm_c402 = xm_c402_8 := xm_dr d_402_7
theorem k_402_8 : xm_gi xm_c402 8 = some xm_e402_8 := xm_gt d_402_8
theorem d_402_9 : List.drop 9 xm_c402 = xm_c402_9 := xm_dr d_402_8
theorem k_402_9 : xm_gi xm_c402 9 = some xm_e402_9 := xm_gt d_402_9
theorem d_402_10 : List.drop 10 xm_c402 = xm_c402_10 := xm_dr d_402_9
theorem k_402_10 : xm_gi xm_c402 10 = some xm_e402_10 := xm_gt d_402_10
theorem d_402_11 : List.drop 11 xm_c402 = xm_c402_11 := xm_dr d_402_10
theorem k_402_11 : xm_gi xm_c402 11 = some xm_e402_11 := xm_gt d_402_11
theorem d_402_12 : List.drop 12 xm_c402 = xm_c402_12 := xm_dr d_402_11
theorem k_402_12 : xm_gi xm_c402 12 = some xm_e402_12 := xm_gt d_402_12
theorem d_402_13 : List.drop 13 xm_c402 = xm_c402_13 := xm_dr d_402_12
theorem k_402_13 : xm_gi xm_c402 13 = some xm_e402_13 := xm_gt d_402_13
theorem d_402_14 : List.drop 14 xm_c402 = xm_c402_14 := xm_dr d_402_13
theorem k_402_14 : xm_gi xm_c402 14 = some xm_e402_14 := xm_gt d_402_14
theorem d_402_15 : List.drop 15 xm_c402 = xm_c402_15 := xm_dr d_402_14
theorem k_402_15 : xm_gi xm_c402 15 = some xm_e402_15 := xm_gt d_402_15
theorem d_402_16 : List.drop 16 xm_c402 = xm_c402_16 := xm_dr d_402_15
theorem k_402_16 : xm_gi xm_c402 16 = some xm_e402_16 := xm_gt d_402_16
theorem d_402_17 : List.drop 17 xm_c402 = xm_c402_17 := xm_dr d_402_16
theorem k_402_17 : xm_gi xm_c402 17 = some xm_e402_17 := xm_gt d_402_17
theorem d_402_18 : List.drop 18 xm_c402 = xm_c402_18 := xm_dr d_402_17
theorem k_402_18 : xm_gi xm_c402 18 = some xm_e402_18 := xm_gt d_402_18
theorem d_402_19 : List.drop 19 xm_c402 = xm_c402_19 := xm_dr d_402_18
theorem k_402_19 : xm_gi xm_c402 19 = some xm_e402_19 := xm_gt d_402_19
theorem d_402_20 : List.drop 20 xm_c402 = xm_c402_20 := xm_dr d_402_19
theorem k_402_20 : xm_gi xm_c402 20 = some xm_e402_20 := xm_gt d_402_20
theorem d_402_21 : List.drop 21 xm_c402 = xm_c402_21 := xm_dr d_402_20
theorem k_402_21 : xm_gi xm_c402 21 = some xm_e402_21 := xm_gt d_402_21
theorem d_402_22 : List.drop 22 xm_c402 = xm_c402_22 := xm_dr d_402_21
theorem k_402_22 : xm_gi xm_c402 22 = some xm_e402_22 := xm_gt d_402_22
theorem d_402_23 : List.drop 23 xm_c402 = xm_c402_23 := xm_dr d_402_22
theorem k_402_23 : xm_gi xm_c402 23 = some xm_e402_23 := xm_gt d_402_23
theorem d_402_24 : List.drop 24 xm_c402 = xm_c402_24 := xm_dr d_402_23
theorem k_402_24 : xm_gi xm_c402 24 = some xm_e402_24 := xm_gt d_402_24
theorem d_402_25 : List.drop 25 xm_c402 = xm_c402_25 := xm_dr d_402_24
theorem k_402_25 : xm_gi xm_c402 25 = some xm_e402_25 := xm_gt d_402_25
theorem d_402_26 : List.drop 26 xm_c402 = xm_c402_26 := xm_dr d_402_25
theorem k_402_26 : xm_gi xm_c402 26 = some xm_e402_26 := xm_gt d_402_26
theorem d_402_27 : List.drop 27 xm_c402 = xm_c402_27 := xm_dr d_402_26
theorem k_402_27 : xm_gi xm_c402 27 = some xm_e402_27 := xm_gt d_402_27
theorem d_402_28 : List.drop 28 xm_c402 = xm_c402_28 := xm_dr d_402_27
theorem k_402_28 : xm_gi xm_c402 28 = some xm_e402_28 := xm_gt d_402_28
theorem d_402_29 : List.drop 29 xm_c402 = xm_c402_29 := xm_dr d_402_28
theorem k_402_29 : xm_gi xm_c402 29 = some xm_e402_29 := xm_gt d_402_29
theorem d_402_30 : List.drop 30 xm_c402 = xm_c402_30 := xm_dr d_402_29
theorem k_402_30 : xm_gi xm_c402 30 = some xm_e402_30 := xm_gt d_402_30
theorem d_402_31 : List.drop 31 xm_c402 = xm_c402_31 := xm_dr d_402_30
theorem k_402_31 : xm_gi xm_c402 31 = some xm_e402_31 := xm_gt d_402_31
theorem d_402_32 : List.drop 32 xm_c402 = xm_c402_32 := xm_dr d_402_31
theorem k_402_32 : xm_gi xm_c402 32 = some xm_e402_32 := xm_gt d_402_32
theorem d_402_33 : List.drop 33 xm_c402 = xm_c402_33 := xm_dr d_402_32
theorem k_402_33 : xm_gi xm_c402 33 = some xm_e402_33 := xm_gt d_402_33
theorem d_402_34 : List.drop 34 xm_c402 = xm_c402_34 := xm_dr d_402_33
theorem k_402_34 : xm_gi xm_c402 34 = some xm_e402_34 := xm_gt d_402_34
theorem d_402_35 : List.drop 35 xm_c402 = xm_c402_35 := xm_dr d_402_34
theorem k_402_35 : xm_gi xm_c402 35 = some xm_e402_35 := xm_gt d_402_35
theorem d_402_36 : List.drop 36 xm_c402 = xm_c402_36 := xm_dr d_402_35
theorem k_402_36 : xm_gi xm_c402 36 = some xm_e402_36 := xm_gt d_402_36
theorem d_402_37 : List.drop 37 xm_c402 = xm_c402_37 := xm_dr d_402_36
theorem k_402_37 : xm_gi xm_c402 37 = some xm_e402_37 := xm_gt d_402_37
theorem d_402_38 : List.drop 38 xm_c402 = xm_c402_38 := xm_dr d_402_37
theorem k_402_38 : xm_gi xm_c402 38 = some xm_e402_38 := xm_gt d_402_38
theorem d_402_39 : List.drop 39 xm_c402 = xm_c402_39 := xm_dr d_402_38
theorem k_402_39 : xm_gi xm_c402 39 = some xm_e402_39 := xm_gt d_402_39
theorem d_402_40 : List.drop 40 xm_c402 = xm_c402_40 := xm_dr d_402_39
theorem k_402_40 : xm_gi xm_c402 40 = some xm_e402_40 := xm_gt d_402_40
theorem d_402_41 : List.drop 41 xm_c402 = xm_c402_41 := xm_dr d_402_40
theorem k_402_41 : xm_gi xm_c402 41 = some xm_e402_41 := xm_gt d_402_41
theorem d_402_42 : List.drop 42 xm_c402 = xm_c402_42 := xm_dr d_402_41
theorem k_402_42 : xm_gi xm_c402 42 = some xm_e402_42 := xm_gt d_402_42
theorem d_402_43 : List.drop 43 xm_c402 = xm_c402_43 := xm_dr d_402_42
theorem k_402_43 : xm_gi xm_c402 43 = some xm_e402_43 := xm_gt d_402_43
theorem d_402_44 : List.drop 44 xm_c402 = xm_c402_44 := xm_dr d_402_43
theorem k_402_44 : xm_gi xm_c402 44 = some xm_e402_44 := xm_gt d_402_44
theorem d_402_45 : List.drop 45 xm_c402 = xm_c402_45 := xm_dr d_402_44
theorem k_402_45 : xm_gi xm_c402 45 = some xm_e402_45 := xm_gt d_402_45
theorem d_402_46 : List.drop 46 xm_c402 = xm_c402_46 := xm_dr d_402_45
theorem k_402_46 : xm_gi xm_c402 46 = some xm_e402_46 := xm_gt d_402_46
theorem d_402_47 : List.drop 47 xm_c402 = xm_c402_47 := xm_dr d_402_46
theorem k_402_47 : xm_gi xm_c402 47 = some xm_e402_47 := xm_gt d_402_47
theorem d_402_48 : List.drop 48 xm_c402 = xm_c402_48 := xm_dr d_402_47
theorem k_402_48 : xm_gi xm_c402 48 = some xm_e402_48 := xm_gt d_402_48
theorem d_402_49 : List.drop 49 xm_c402 = xm_c402_49 := xm_dr d_402_48
theorem k_402_49 : xm_gi xm_c402 49 = some xm_e402_49 := xm_gt d_402_49
theorem d_402_50 : List.drop 50 xm_c402 = xm_c402_50 := xm_dr d_402_49
theorem k_402_50 : xm_gi xm_c402 50 = some xm_e402_50 := xm_gt d_402_50
theorem d_402_51 : List.drop 51 xm_c402 = xm_c402_51 := xm_dr d_402_50
theorem k_402_51 : xm_gi xm_c402 51 = some xm_e402_51 := xm_gt d_402_51
theorem d_402_52 : List.drop 52 xm_c402 = xm_c402_52 := xm_dr d_402_51
theorem k_402_52 : xm_gi xm_c402 52 = some xm_e402_52 := xm_gt d_402_52
theorem d_402_53 : List.drop 53 xm_c402 = xm_c402_53 := xm_dr d_402_52
theorem k_402_53 : xm_gi xm_c402 53 = some xm_e402_53 := xm_gt d_402_53
theorem d_402_54 : List.drop 54 xm_c402 = xm_c402_54 := xm_dr d_402_53
theorem k_402_54 : xm_gi xm_c402 54 = some xm_e402_54 := xm_gt d_402_54
theorem d_402_55 : List.drop 55 xm_c402 = xm_c402_55 := xm_dr d_402_54
theorem k_402_55 : xm_gi xm_c402 55 = some xm_e402_55 := xm_gt d_402_55
theorem d_402_56 : List.drop 56 xm_c402 = xm_c402_56 := xm_dr d_402_55
theorem k_402_56 : xm_gi xm_c402 56 = some xm_e402_56 := xm_gt d_402_56
theorem d_402_57 : List.drop 57 xm_c402 = xm_c402_57 := xm_dr d_402_56
theorem k_402_57 : xm_gi xm_c402 57 = some xm_e402_57 := xm_gt d_402_57
theorem d_402_58 : List.drop 58 xm_c402 = xm_c402_58 := xm_dr d_402_57
theorem k_402_58 : xm_gi xm_c402 58 = some xm_e402_58 := xm_gt d_402_58
theorem d_402_59 : List.drop 59 xm_c402 = xm_c402_59 := xm_dr d_402_58
theorem k_402_59 : xm_gi xm_c402 59 = some xm_e402_59 := xm_gt d_402_59
theorem d_402_60 : List.drop 60 xm_c402 = xm_c402_60 := xm_dr d_402_59
theorem k_402_60 : xm_gi xm_c402 60 = some xm_e402_60 := xm_gt d_402_60
theorem d_402_61 : List.drop 61 xm_c402 = xm_c402_61 := xm_dr d_402_60
theorem k_402_61 : xm_gi xm_c402 61 = some xm_e402_61 := xm_gt d_402_61
theorem d_402_62 : List.drop 62 xm_c402 = xm_c402_62 := xm_dr d_402_61
theorem k_402_62 : xm_gi xm_c402 62 = some xm_e402_62 := xm_gt d_402_62
theorem d_402_63 : List.drop 63 xm_c402 = xm_c402_63 := xm_dr d_402_62
theorem k_402_63 : xm_gi xm_c402 63 = some xm_e402_63 := xm_gt d_402_63
theorem d_402_64 : List.drop 64 xm_c402 = xm_c402_64 := xm_dr d_402_63
theorem k_402_64 : xm_gi xm_c402 64 = some xm_e402_64 := xm_gt d_402_64
theorem xb_402_0 {sc : List Int} {f : Nat → List xm_V → xm_W → xm_R} {w : xm_W} {Q : Option xm_V × xm_W → Prop} {x0 : Nat} {x1 : Nat}
  (h : xm_O (xm_fr (xm_old sc) w x1 2 0) (fun r1 => xm_O (xm_fr (xm_old sc) w x0 2 0) (fun r2 => xm_O (xm_copy w r1 0 r2 0 36) (fun w3 => xm_O (xm_fi (xm_old sc) w3 x1 2 1) (fun z4 => xm_O (xm_setf w3 x0 2 1 0 (.inl z4)) (fun w5 => xm_O (xm_fi (xm_old sc) w5 x1 2 2) (fun z6 => xm_O (xm_setf w5 x0 2 2 0 (.inl z6)) (fun w7 => xm_O (xm_fi (xm_old sc) w7 x1 2 4) (fun z8 => xm_O (xm_setf w7 x0 2 4 0 (.inl z8)) (fun w9 => xm_EQ (xm_old sc) xm_sta f xm_c402 22 [some (.inr (.inl (some x0))), some (.inr (.inl (some x1))), some (.inl 0)] [] w9 Q)))))))))) :
  xm_EQ (xm_old sc) xm_sta f xm_c402 0 [some (.inr (.inl (some x0))), some (.inr (.inl (some x1))), none] [] w Q :=
  (xq_aload_n k_402_0 rfl (xq_getr k_402_1 rfl h (fun r1 h => (xq_iconst k_402_2 (xq_aload_n k_402_3 rfl (xq_getr k_402_4 rfl h (fun r2 h => (xq_iconst k_402_5 (xq_bipush k_402_6 (xq_copy k_402_7 rfl h (fun w3 h => (xq_aload_n k_402_8 rfl (xq_aload_n k_402_9 rfl (xq_geti0 k_402_10 rfl h (fun z4 h => (xq_put k_402_11 rfl h (fun w5 h => (xq_aload_n k_402_12 rfl (xq_aload_n k_402_13 rfl (xq_geti0 k_402_14 rfl h (fun z6 h => (xq_put k_402_15 rfl h (fun w7 h => (xq_aload_n k_402_16 rfl (xq_aload_n k_402_17 rfl (xq_geti0 k_402_18 rfl h (fun z8 h => (xq_put k_402_19 rfl h (fun w9 h => (xq_iconst k_402_20 (xq_istore_n k_402_21 rfl h)))))))))))))))))))))))))))))))
theorem xb_402_22 {sc : List Int} {f : Nat → List xm_V → xm_W → xm_R} {w : xm_W} {Q : Option xm_V × xm_W → Prop} {x0 : Nat} {x1 : Nat} {x2 : Int}
  (h : if (x2 : Int) < 5 then (xm_O (xm_fr (xm_old sc) w x0 2 3) (fun r16 => xm_O (xm_refs (xm_old sc) w r16) (fun l17 => xm_O (xm_at l17 x2) (fun r18 => xm_O (xm_fr (xm_old sc) w x1 2 3) (fun r19 => xm_O (xm_refs (xm_old sc) w r19) (fun l20 => xm_O (xm_at l20 x2) (fun r21 => xm_Ov (f 603 [.inr (.inl r18), .inr (.inl r21)] w) (fun w22 => xm_EQ (xm_old sc) xm_sta f xm_c402 22 [some (.inr (.inl (some x0))), some (.inr (.inl (some x1))), some (.inl (xm_w (x2 + 1)))] [] w22 Q)))))))) else (xm_O (xm_fi (xm_old sc) w x1 2 6) (fun z1 => xm_O (xm_setf w x0 2 6 0 (.inl z1)) (fun w2 => xm_O (xm_fr (xm_old sc) w2 x1 2 5) (fun r3 => xm_O (xm_fr (xm_old sc) w2 x0 2 5) (fun r4 => xm_O (xm_copy w2 r3 0 r4 0 200) (fun w5 => xm_O (xm_fr (xm_old sc) w5 x0 2 7) (fun r6 => xm_O (xm_fr (xm_old sc) w5 x1 2 7) (fun r7 => xm_O (xm_refs (xm_old sc) w5 r7) (fun l8 => xm_O (xm_at l8 0) (fun r9 => xm_O (xm_setq w5 r6 0 r9) (fun w10 => xm_O (xm_fr (xm_old sc) w10 x0 2 7) (fun r11 => xm_O (xm_fr (xm_old sc) w10 x1 2 7) (fun r12 => xm_O (xm_refs (xm_old sc) w10 r12) (fun l13 => xm_O (xm_at l13 1) (fun r14 => xm_O (xm_setq w10 r11 1 r14) (fun w15 => Q (none, w15)))))))))))))))))) :
  xm_EQ (xm_old sc) xm_sta f xm_c402 22 [some (.inr (.inl (some x0))), some (.inr (.inl (some x1))), some (.inl x2)] [] w Q :=
  (xq_iload_n k_402_22 rfl (xq_iconst k_402_23 (xq_ic_ge k_402_24 h (fun h => (xq_aload_n k_402_25 rfl (xq_getr k_402_26 rfl h (fun r16 h => (xq_iload_n k_402_27 rfl (xq_aaload k_402_28 h (fun l17 h => h) (fun l17 r18 h => (xq_aload_n k_402_29 rfl (xq_getr k_402_30 rfl h (fun r19 h => (xq_iload_n k_402_31 rfl (xq_aaload k_402_32 h (fun l20 h => h) (fun l20 r21 h => (xq_invv0 k_402_33 xr_603 rfl rfl rfl h (fun w22 h => (xq_iinc k_402_34 rfl rfl (xq_goto k_402_35 h))))))))))))))))) (fun h => (xq_aload_n k_402_36 rfl (xq_aload_n k_402_37 rfl (xq_geti0 k_402_38 rfl h (fun z1 h => (xq_put k_402_39 rfl h (fun w2 h => (xq_aload_n k_402_40 rfl (xq_getr k_402_41 rfl h (fun r3 h => (xq_iconst k_402_42 (xq_aload_n k_402_43 rfl (xq_getr k_402_44 rfl h (fun r4 h => (xq_iconst k_402_45 (xq_sipush k_402_46 (xq_copy k_402_47 rfl h (fun w5 h => (xq_aload_n k_402_48 rfl (xq_getr k_402_49 rfl h (fun r6 h => (xq_iconst k_402_50 (xq_aload_n k_402_51 rfl (xq_getr k_402_52 rfl h (fun r7 h => (xq_iconst k_402_53 (xq_aaload k_402_54 h (fun l8 h => h) (fun l8 r9 h => (xq_aastore k_402_55 h (fun w10 h => (xq_aload_n k_402_56 rfl (xq_getr k_402_57 rfl h (fun r11 h => (xq_iconst k_402_58 (xq_aload_n k_402_59 rfl (xq_getr k_402_60 rfl h (fun r12 h => (xq_iconst k_402_61 (xq_aaload k_402_62 h (fun l13 h => h) (fun l13 r14 h => (xq_aastore k_402_63 h (fun w15 h => (xq_return k_402_64 h))))))))))))))))))))))))))))))))))))))))))))))
/-- ShodBackwards$Moor.keeps(I)I -/
theorem d_403_0 : List.drop 0 xm_c403 = xm_c403 := rfl
theorem k_403_0 : xm_gi xm_c403 0 = some xm_e403_0 := xm_gt d_403_0
theorem d_403_1 : List.drop 1 xm_c403 = xm_c403_1 := xm_dr d_403_0
theorem k_403_1 : xm_gi xm_c403 1 = some xm_e403_1 := xm_gt d_403_1
theorem d_403_2 : List.drop 2 xm_c403 = xm_c403_2 := xm_dr d_403_1
theorem k_403_2 : xm_gi xm_c403 2 = some xm_e403_2 := xm_gt d_403_2
theorem d_403_3 : List.drop 3 xm_c403 = xm_c403_3 := xm_dr d_403_2
theorem k_403_3 : xm_gi xm_c403 3 = some xm_e403_3 := xm_gt d_403_3
theorem d_403_4 : List.drop 4 xm_c403 = xm_c403_4 := xm_dr d_403_3
theorem k_403_4 : xm_gi xm_c403 4 = some xm_e403_4 := xm_gt d_403_4
theorem d_403_5 : List.drop 5 xm_c403 = xm_c403_5 := xm_dr d_403_4
theorem k_403_5 : xm_gi xm_c403 5 = some xm_e403_5 := xm_gt d_403_5
theorem d_403_6 : List.drop 6 xm_c403 = xm_c403_6 := xm_dr d_403_5
theorem k_403_6 : xm_gi xm_c403 6 = some xm_e403_6 := xm_gt d_403_6
theorem d_403_7 : List.drop 7 xm_c403 = xm_c403_7 := xm_dr d_403_6
theorem k_403_7 : xm_gi xm_c403 7 = some xm_e403_7 := xm_gt d_403_7
theorem d_403_8 : List.drop 8 xm_c403 = xm_c403_8 := xm_dr d_403_7
theorem k_403_8 : xm_gi xm_c403 8 = some xm_e403_8 := xm_gt d_403_8
theorem d_403_9 : List.drop 9 xm_c403 = xm_c403_9 := xm_dr d_403_8
theorem k_403_9 : xm_gi xm_c403 9 = some xm_e403_9 := xm_gt d_403_9
theorem d_403_10 : List.drop 10 xm_c403 = xm_c403_10 := xm_dr d_403_9
theorem k_403_10 : xm_gi xm_c403 10 = some xm_e403_10 := xm_gt d_403_10
theorem d_403_11 : List.drop 11 xm_c403 = xm_c403_11 := xm_dr d_403_10
theorem k_403_11 : xm_gi xm_c403 11 = some xm_e403_11 := xm_gt d_403_11
theorem d_403_12 : List.drop 12 xm_c403 = xm_c403_12 := xm_dr d_403_11
theorem k_403_12 : xm_gi xm_c403 12 = some xm_e403_12 := xm_gt d_403_12
theorem d_403_13 : List.drop 13 xm_c403 = xm_c403_13 := xm_dr d_403_12
theorem k_403_13 : xm_gi xm_c403 13 = some xm_e403_13 := xm_gt d_403_13
theorem d_403_14 : List.drop 14 xm_c403 = xm_c403_14 := xm_dr d_403_13
theorem k_403_14 : xm_gi xm_c403 14 = some xm_e403_14 := xm_gt d_403_14
theorem d_403_15 : List.drop 15 xm_c403 = xm_c403_15 := xm_dr d_403_14
theorem k_403_15 : xm_gi xm_c403 15 = some xm_e403_15 := xm_gt d_403_15
theorem d_403_16 : List.drop 16 xm_c403 = xm_c403_16 := xm_dr d_403_15
theorem k_403_16 : xm_gi xm_c403 16 = some xm_e403_16 := xm_gt d_403_16
theorem d_403_17 : List.drop 17 xm_c403 = xm_c403_17 := xm_dr d_403_16
theorem k_403_17 : xm_gi xm_c403 17 = some xm_e403_17 := xm_gt d_403_17
theorem d_403_18 : List.drop 18 xm_c403 = xm_c403_18 := xm_dr d_403_17
theorem k_403_18 : xm_gi xm_c403 18 = some xm_e403_18 := xm_gt d_403_18
theorem xb_403_0 {sc : List Int} {f : Nat → List xm_V → xm_W → xm_R} {w : xm_W} {Q : Option xm_V × xm_W → Prop} {x0 : Nat} {x1 : Int}
  (h : xm_O (xm_fr (xm_old sc) w x0 2 0) (fun r1 => xm_O (xm_ints (xm_old sc) w r1) (fun l2 => xm_O (xm_at l2 x1) (fun z3 => if (z3 : Int) = 0 then (xm_O (xm_fi (xm_old sc) w x0 2 1) (fun z5 => Q (some (.inl (xm_w (9 + z5))), w))) else (if (z3 : Int) = 1 then (xm_O (xm_fi (xm_old sc) w x0 2 1) (fun z4 => Q (some (.inl (xm_w (4 + z4))), w))) else (if (z3 : Int) = 2 then (Q (some (.inl 1), w)) else (Q (some (.inl 0), w)))))))) :
  xm_EQ (xm_old sc) xm_sta f xm_c403 0 [some (.inr (.inl (some x0))), some (.inl x1)] [] w Q :=
  (xq_aload_n k_403_0 rfl (xq_getr k_403_1 rfl h (fun r1 h => (xq_iload_n k_403_2 rfl (xq_iaload k_403_3 h (fun l2 h => h) (fun l2 z3 h => (xq_tsw k_403_4 (xs_swc h (fun h => (xq_bipush k_403_5 (xq_aload_n k_403_6 rfl (xq_geti0 k_403_7 rfl h (fun z5 h => (xq_iadd k_403_8 (xq_ireturn k_403_9 h))))))) (fun h => (xs_swc h (fun h => (xq_iconst k_403_10 (xq_aload_n k_403_11 rfl (xq_geti0 k_403_12 rfl h (fun z4 h => (xq_iadd k_403_13 (xq_ireturn k_403_14 h))))))) (fun h => (xs_swc h (fun h => (xq_iconst k_403_15 (xq_ireturn k_403_16 h))) (fun h => (xq_iconst k_403_17 (xq_ireturn k_403_18 h)))))))))))))))
/-- ShodBackwards$Moor.passHours(I)V -/
theorem d_404_0 : List.drop 0 xm_c404 = xm_c404 := rfl
theorem k_404_0 : xm_gi xm_c404 0 = some xm_e404_0 := xm_gt d_404_0
theorem d_404_1 : List.drop 1 xm_c404 = xm_c404_1 := xm_dr d_404_0
theorem k_404_1 : xm_gi xm_c404 1 = some xm_e404_1 := xm_gt d_404_1
theorem d_404_2 : List.drop 2 xm_c404 = xm_c404_2 := xm_dr d_404_1
theorem k_404_2 : xm_gi xm_c404 2 = some xm_e404_2 := xm_gt d_404_2
theorem d_404_3 : List.drop 3 xm_c404 = xm_c404_3 := xm_dr d_404_2
theorem k_404_3 : xm_gi xm_c404 3 = some xm_e404_3 := xm_gt d_404_3
theorem d_404_4 : List.drop 4 xm_c404 = xm_c404_4 := xm_dr d_404_3
theorem k_404_4 : xm_gi xm_c404 4 = some xm_e404_4 := xm_gt d_404_4
theorem d_404_5 : List.drop 5 xm_c404 = xm_c404_5 := xm_dr d_404_4
theorem k_404_5 : xm_gi xm_c404 5 = some xm_e404_5 := xm_gt d_404_5
theorem d_404_6 : List.drop 6 xm_c404 = xm_c404_6 := xm_dr d_404_5
theorem k_404_6 : xm_gi xm_c404 6 = some xm_e404_6 := xm_gt d_404_6
theorem d_404_7 : List.drop 7 xm_c404 = xm_c404_7 := xm_dr d_404_6
theorem k_404_7 : xm_gi xm_c404 7 = some xm_e404_7 := xm_gt d_404_7
theorem d_404_8 : List.drop 8 xm_c404 = xm_c404_8 := xm_dr d_404_7
theorem k_404_8 : xm_gi xm_c404 8 = some xm_e404_8 := xm_gt d_404_8
theorem d_404_9 : List.drop 9 xm_c404 = xm_c404_9 := xm_dr d_404_8
theorem k_404_9 : xm_gi xm_c404 9 = some xm_e404_9 := xm_gt d_404_9
theorem xb_404_0 {sc : List Int} {f : Nat → List xm_V → xm_W → xm_R} {w : xm_W} {Q : Option xm_V × xm_W → Prop} {x0 : Nat} {x1 : Int}
  (h : xm_EQ (xm_old sc) xm_sta f xm_c404 2 [some (.inr (.inl (some x0))), some (.inl x1), some (.inl 0)] [] w Q) :
  xm_EQ (xm_old sc) xm_sta f xm_c404 0 [some (.inr (.inl (some x0))), some (.inl x1), none] [] w Q :=
  (xq_iconst k_404_0 (xq_istore_n k_404_1 rfl h))
theorem xb_404_2 {sc : List Int} {f : Nat → List xm_V → xm_W → xm_R} {w : xm_W} {Q : Option xm_V × xm_W → Prop} {x0 : Nat} {x1 : Int} {x2 : Int}
  (h : if (x2 : Int) < x1 then (xm_Ov (f 405 [.inr (.inl (some x0))] w) (fun w1 => xm_EQ (xm_old sc) xm_sta f xm_c404 2 [some (.inr (.inl (some x0))), some (.inl x1), some (.inl (xm_w (x2 + 1)))] [] w1 Q)) else (Q (none, w))) :
  xm_EQ (xm_old sc) xm_sta f xm_c404 2 [some (.inr (.inl (some x0))), some (.inl x1), some (.inl x2)] [] w Q :=
  (xq_iload_n k_404_2 rfl (xq_iload_n k_404_3 rfl (xq_ic_ge k_404_4 h (fun h => (xq_aload_n k_404_5 rfl (xq_invv0 k_404_6 xr_405 rfl rfl rfl h (fun w1 h => (xq_iinc k_404_7 rfl rfl (xq_goto k_404_8 h)))))) (fun h => (xq_return k_404_9 h)))))
/-- ShodBackwards$Moor.passHour()V -/
theorem d_405_0 : List.drop 0 xm_c405 = xm_c405 := rfl
theorem k_405_0 : xm_gi xm_c405 0 = some xm_e405_0 := xm_gt d_405_0
theorem d_405_1 : List.drop 1 xm_c405 = xm_c405_1 := xm_dr d_405_0
theorem k_405_1 : xm_gi xm_c405 1 = some xm_e405_1 := xm_gt d_405_1
theorem d_405_2 : List.drop 2 xm_c405 = xm_c405_2 := xm_dr d_405_1
theorem k_405_2 : xm_gi xm_c405 2 = some xm_e405_2 := xm_gt d_405_2
theorem d_405_3 : List.drop 3 xm_c405 = xm_c405_3 := xm_dr d_405_2
theorem k_405_3 : xm_gi xm_c405 3 = some xm_e405_3 := xm_gt d_405_3
theorem d_405_4 : List.drop 4 xm_c405 = xm_c405_4 := xm_dr d_405_3
theorem k_405_4 : xm_gi xm_c405 4 = some xm_e405_4 := xm_gt d_405_4
theorem d_405_5 : List.drop 5 xm_c405 = xm_c405_5 := xm_dr d_405_4
theorem k_405_5 : xm_gi xm_c405 5 = some xm_e405_5 := xm_gt d_405_5
theorem d_405_6 : List.drop 6 xm_c405 = xm_c405_6 := xm_dr d_405_5
theorem k_405_6 : xm_gi xm_c405 6 = some xm_e405_6 := xm_gt d_405_6
theorem d_405_7 : List.drop 7 xm_c405 = xm_c405_7 := xm_dr d_405_6
theorem k_405_7 : xm_gi xm_c405 7 = some xm_e405_7 := xm_gt d_405_7
theorem d_405_8 : List.drop 8 xm_c405 = xm_c405_8 := xm_dr d_405_7
theorem k_405_8 : xm_gi xm_c405 8 = some xm_e405_8 := xm_gt d_405_8
theorem d_405_9 : List.drop 9 xm_c405 = xm_c405_9 := xm_dr d_405_8
theorem k_405_9 : xm_gi xm_c405 9 = some xm_e405_9 := xm_gt d_405_9
theorem d_405_10 : List.drop 10 xm_c405 = xm_c405_10 := xm_dr d_405_9
theorem k_405_10 : xm_gi xm_c405 10 = some xm_e405_10 := xm_gt d_405_10
theorem d_405_11 : List.drop 11 xm_c405 = xm_c405_11 := xm_dr d_405_10
theorem k_405_11 : xm_gi xm_c405 11 = some xm_e405_11 := xm_gt d_405_11
theorem d_405_12 : List.drop 12 xm_c405 = xm_c405_12 := xm_dr d_405_11
theorem k_405_12 : xm_gi xm_c405 12 = some xm_e405_12 := xm_gt d_405_12
theorem d_405_13 : List.drop 13 xm_c405 = xm_c405_13 := xm_dr d_405_12
theorem k_405_13 : xm_gi xm_c405 13 = some xm_e405_13 := xm_gt d_405_13
theorem d_405_14 : List.drop 14 xm_c405 = xm_c405_14 := xm_dr d_405_13
theorem k_405_14 : xm_gi xm_c405 14 = some xm_e405_14 := xm_gt d_405_14
theorem d_405_15 : List.drop 15 xm_c405 = xm_c405_15 := xm_dr d_405_14
theorem k_405_15 : xm_gi xm_c405 15 = some xm_e405_15 := xm_gt d_405_15
theorem d_405_16 : List.drop 16 xm_c405 = xm_c405_16 := xm_dr d_405_15
theorem k_405_16 : xm_gi xm_c405 16 = some xm_e405_16 := xm_gt d_405_16
theorem d_405_17 : List.drop 17 xm_c405 = xm_c405_17 := xm_dr d_405_16
theorem k_405_17 : xm_gi xm_c405 17 = some xm_e405_17 := xm_gt d_405_17
theorem d_405_18 : List.drop 18 xm_c405 = xm_c405_18 := xm_dr d_405_17
theorem k_405_18 : xm_gi xm_c405 18 = some xm_e405_18 := xm_gt d_405_18
theorem d_405_19 : List.drop 19 xm_c405 = xm_c405_19 := xm_dr d_405_18
theorem k_405_19 : xm_gi xm_c405 19 = some xm_e405_19 := xm_gt d_405_19
theorem d_405_20 : List.drop 20 xm_c405 = xm_c405_20 := xm_dr d_405_19
theorem k_405_20 : xm_gi xm_c405 20 = some xm_e405_20 := xm_gt d_405_20
theorem d_405_21 : List.drop 21 xm_c405 = xm_c405_21 := xm_dr d_405_20
theorem k_405_21 : xm_gi xm_c405 21 = some xm_e405_21 := xm_gt d_405_21
theorem d_405_22 : List.drop 22 xm_c405 = xm_c405_22 := xm_dr d_405_21
theorem k_405_22 : xm_gi xm_c405 22 = some xm_e405_22 := xm_gt d_405_22
theorem d_405_23 : List.drop 23 xm_c405 = xm_c405_23 := xm_dr d_405_22
theorem k_405_23 : xm_gi xm_c405 23 = some xm_e405_23 := xm_gt d_405_23
theorem d_405_24 : List.drop 24 xm_c405 = xm_c405_24 := xm_dr d_405_23
theorem k_405_24 : xm_gi xm_c405 24 = some xm_e405_24 := xm_gt d_405_24
theorem d_405_25 : List.drop 25 xm_c405 = xm_c405_25 := xm_dr d_405_24
theorem k_405_25 : xm_gi xm_c405 25 = some xm_e405_25 := xm_gt d_405_25
theorem d_405_26 : List.drop 26 xm_c405 = xm_c405_26 := xm_dr d_405_25
theorem k_405_26 : xm_gi xm_c405 26 = some xm_e405_26 := xm_gt d_405_26
theorem d_405_27 : List.drop 27 xm_c405 = xm_c405_27 := xm_dr d_405_26
theorem k_405_27 : xm_gi xm_c405 27 = some xm_e405_27 := xm_gt d_405_27
theorem d_405_28 : List.drop 28 xm_c405 = xm_c405_28 := xm_dr d_405_27
theorem k_405_28 : xm_gi xm_c405 28 = some xm_e405_28 := xm_gt d_405_28
theorem d_405_29 : List.drop 29 xm_c405 = xm_c405_29 := xm_dr d_405_28
theorem k_405_29 : xm_gi xm_c405 29 = some xm_e405_29 := xm_gt d_405_29
theorem d_405_30 : List.drop 30 xm_c405 = xm_c405_30 := xm_dr d_405_29
theorem k_405_30 : xm_gi xm_c405 30 = some xm_e405_30 := xm_gt d_405_30
theorem d_405_31 : List.drop 31 xm_c405 = xm_c405_31 := xm_dr d_405_30
theorem k_405_31 : xm_gi xm_c405 31 = some xm_e405_31 := xm_gt d_405_31
theorem d_405_32 : List.drop 32 xm_c405 = xm_c405_32 := xm_dr d_405_31
theorem k_405_32 : xm_gi xm_c405 32 = some xm_e405_32 := xm_gt d_405_32
theorem d_405_33 : List.drop 33 xm_c405 = xm_c405_33 := xm_dr d_405_32
theorem k_405_33 : xm_gi xm_c405 33 = some xm_e405_33 := xm_gt d_405_33
theorem d_405_34 : List.drop 34 xm_c405 = xm_c405_34 := xm_dr d_405_33
theorem k_405_34 : xm_gi xm_c405 34 = some xm_e405_34 := xm_gt d_405_34
theorem xb_405_0 {sc : List Int} {f : Nat → List xm_V → xm_W → xm_R} {w : xm_W} {Q : Option xm_V × xm_W → Prop} {x0 : Nat}
  (h : xm_EQ (xm_old sc) xm_sta f xm_c405 2 [some (.inr (.inl (some x0))), some (.inl 0)] [] w Q) :
  xm_EQ (xm_old sc) xm_sta f xm_c405 0 [some (.inr (.inl (some x0))), none] [] w Q :=
  (xq_iconst k_405_0 (xq_istore_n k_405_1 rfl h))
theorem xb_405_2 {sc : List Int} {f : Nat → List xm_V → xm_W → xm_R} {w : xm_W} {Q : Option xm_V × xm_W → Prop} {x0 : Nat} {x1 : Int}
  (h : xm_O (xm_fi (xm_old sc) w x0 2 4) (fun z1 => if (x1 : Int) < z1 then (xm_O (xm_fr (xm_old sc) w x0 2 3) (fun r5 => xm_O (xm_refs (xm_old sc) w r5) (fun l6 => xm_O (xm_at l6 x1) (fun r7 => xm_O r7 (fun y8 => xm_O (xm_fi (xm_old sc) w y8 4 5) (fun z9 => xm_O (xm_fr (xm_old sc) w x0 2 3) (fun r10 => xm_O (xm_refs (xm_old sc) w r10) (fun l11 => xm_O (xm_at l11 x1) (fun r12 => xm_O r12 (fun y13 => xm_O (xm_fi (xm_old sc) w y13 4 4) (fun z14 => if (z9 : Int) < z14 then (xm_O (xm_fr (xm_old sc) w x0 2 3) (fun r15 => xm_O (xm_refs (xm_old sc) w r15) (fun l16 => xm_O (xm_at l16 x1) (fun r17 => xm_Ov (f 406 [.inr (.inl (some x0)), .inl x1, .inr (.inl r17)] w) (fun w18 => xm_EQ (xm_old sc) xm_sta f xm_c405 2 [some (.inr (.inl (some x0))), some (.inl (xm_w (x1 + 1)))] [] w18 Q))))) else (xm_EQ (xm_old sc) xm_sta f xm_c405 2 [some (.inr (.inl (some x0))), some (.inl (xm_w (x1 + 1)))] [] w Q)))))))))))) else (xm_O (xm_fi (xm_old sc) w x0 2 2) (fun z2 => xm_O (xm_setf w x0 2 2 0 (.inl (xm_w (z2 + 1)))) (fun w3 => xm_Ov (f 409 [.inr (.inl (some x0))] w3) (fun w4 => Q (none, w4))))))) :
  xm_EQ (xm_old sc) xm_sta f xm_c405 2 [some (.inr (.inl (some x0))), some (.inl x1)] [] w Q :=
  (xq_iload_n k_405_2 rfl (xq_aload_n k_405_3 rfl (xq_geti0 k_405_4 rfl h (fun z1 h => (xq_ic_ge k_405_5 h (fun h => (xq_aload_n k_405_6 rfl (xq_getr k_405_7 rfl h (fun r5 h => (xq_iload_n k_405_8 rfl (xq_aaload k_405_9 h (fun l6 h => h) (fun l6 r7 h => (match r7, h with
 | some y8, h => (xq_geti0 k_405_10 rfl h (fun z9 h => (xq_aload_n k_405_11 rfl (xq_getr k_405_12 rfl h (fun r10 h => (xq_iload_n k_405_13 rfl (xq_aaload k_405_14 h (fun l11 h => h) (fun l11 r12 h => (match r12, h with
 | some y13, h => (xq_geti0 k_405_15 rfl h (fun z14 h => (xq_ic_ge k_405_16 h (fun h => (xq_aload_n k_405_17 rfl (xq_iload_n k_405_18 rfl (xq_aload_n k_405_19 rfl (xq_getr k_405_20 rfl h (fun r15 h => (xq_iload_n k_405_21 rfl (xq_aaload k_405_22 h (fun l16 h => h) (fun l16 r17 h => (xq_invv0 k_405_23 xr_406 rfl rfl rfl h (fun w18 h => (xq_iinc k_405_24 rfl rfl (xq_goto k_405_25 h))))))))))))) (fun h => (xq_iinc k_405_24 rfl rfl (xq_goto k_405_25 h))))))
 | none, h => False.elim h)))))))))
 | none, h => False.elim h)))))))) (fun h => (xq_aload_n k_405_26 rfl (xq_dupr k_405_27 (xq_geti0 k_405_28 rfl h (fun z2 h => (xq_iconst k_405_29 (xq_iadd k_405_30 (xq_put k_405_31 rfl h (fun w3 h => (xq_aload_n k_405_32 rfl (xq_invv0 k_405_33 xr_409 rfl rfl rfl h (fun w4 h => (xq_return k_405_34 h))))))))))))))))))
/-- ShodBackwards$Moor.takeStep(ILShodBackwards$Rider;)V -/
theorem d_406_0 : List.drop 0 xm_c406 = xm_c406 := rfl
theorem k_406_0 : xm_gi xm_c406 0 = some xm_e406_0 := xm_gt d_406_0
theorem d_406_1 : List.drop 1 xm_c406 = xm_c406_1 := xm_dr d_406_0
theorem k_406_1 : xm_gi xm_c406 1 = some xm_e406_1 := xm_gt d_406_1
theorem d_406_2 : List.drop 2 xm_c406 = xm_c406_2 := xm_dr d_406_1
theorem k_406_2 : xm_gi xm_c406 2 = some xm_e406_2 := xm_gt d_406_2
theorem d_406_3 : List.drop 3 xm_c406 = xm_c406_3 := xm_dr d_406_2
theorem k_406_3 : xm_gi xm_c406 3 = some xm_e406_3 := xm_gt d_406_3
theorem d_406_4 : List.drop 4 xm_c406 = xm_c406_4 := xm_dr d_406_3
theorem k_406_4 : xm_gi xm_c406 4 = some xm_e406_4 := xm_gt d_406_4
theorem d_406_5 : List.drop 5 xm_c406 = xm_c406_5 := xm_dr d_406_4
theorem k_406_5 : xm_gi xm_c406 5 = some xm_e406_5 := xm_gt d_406_5
theorem d_406_6 : List.drop 6 xm_c406 = xm_c406_6 := xm_dr d_406_5
theorem k_406_6 : xm_gi xm_c406 6 = some xm_e406_6 := xm_gt d_406_6
theorem d_406_7 : List.drop 7 xm_c406 = xm_c406_7 := xm_dr d_406_6
theorem k_406_7 : xm_gi xm_c406 7 = some xm_e406_7 := xm_gt d_406_7
theorem d_406_8 : List.drop 8 xm_c406 = xm_c406_8 := xm_dr d_406_7
theorem k_406_8 : xm_gi xm_c406 8 = some xm_e406_8 := xm_gt d_406_8
theorem d_406_9 : List.drop 9 xm_c406 = xm_c406_9 := xm_dr d_406_8
theorem k_406_9 : xm_gi xm_c406 9 = some xm_e406_9 := xm_gt d_406_9
theorem d_406_10 : List.drop 10 xm_c406 = xm_c406_10 := xm_dr d_406_9
theorem k_406_10 : xm_gi xm_c406 10 = some xm_e406_10 := xm_gt d_406_10
theorem d_406_11 : List.drop 11 xm_c406 = xm_c406_11 := xm_dr d_406_10
theorem k_406_11 : xm_gi xm_c406 11 = some xm_e406_11 := xm_gt d_406_11
theorem d_406_12 : List.drop 12 xm_c406 = xm_c406_12 := xm_dr d_406_11
theorem k_406_12 : xm_gi xm_c406 12 = some xm_e406_12 := xm_gt d_406_12
theorem d_406_13 : List.drop 13 xm_c406 = xm_c406_13 := xm_dr d_406_12
theorem k_406_13 : xm_gi xm_c406 13 = some xm_e406_13 := xm_gt d_406_13
theorem d_406_14 : List.drop 14 xm_c406 = xm_c406_14 := xm_dr d_406_13
theorem k_406_14 : xm_gi xm_c406 14 = some xm_e406_14 := xm_gt d_406_14
theorem d_406_15 : List.drop 15 xm_c406 = xm_c406_15 := xm_dr d_406_14
theorem k_406_15 : xm_gi xm_c406 15 = some xm_e406_15 := xm_gt d_406_15
theorem d_406_16 : List.drop 16 xm_c406 = xm_c406_16 := xm_dr d_406_15
theorem k_406_16 : xm_gi xm_c406 16 = some xm_e406_16 := xm_gt d_406_16
theorem d_406_17 : List.drop 17 xm_c406 = xm_c406_17 := xm_dr d_406_16
theorem k_406_17 : xm_gi xm_c406 17 = some xm_e406_17 := xm_gt d_406_17
theorem d_406_18 : List.drop 18 xm_c406 = xm_c406_18 := xm_dr d_406_17
theorem k_406_18 : xm_gi xm_c406 18 = some xm_e406_18 := xm_gt d_406_18
theorem d_406_19 : List.drop 19 xm_c406 = xm_c406_19 := xm_dr d_406_18
theorem k_406_19 : xm_gi xm_c406 19 = some xm_e406_19 := xm_gt d_406_19
theorem d_406_20 : List.drop 20 xm_c406 = xm_c406_20 := xm_dr d_406_19
theorem k_406_20 : xm_gi xm_c406 20 = some xm_e406_20 := xm_gt d_406_20
theorem d_406_21 : List.drop 21 xm_c406 = xm_c406_21 := xm_dr d_406_20
theorem k_406_21 : xm_gi xm_c406 21 = some xm_e406_21 := xm_gt d_406_21
theorem d_406_22 : List.drop 22 xm_c406 = xm_c406_22 := xm_dr d_406_21
theorem k_406_22 : xm_gi xm_c406 22 = some xm_e406_22 := xm_gt d_406_22
theorem d_406_23 : List.drop 23 xm_c406 = xm_c406_23 := xm_dr d_406_22
theorem k_406_23 : xm_gi xm_c406 23 = some xm_e406_23 := xm_gt d_406_23
theorem d_406_24 : List.drop 24 xm_c406 = xm_c406_24 := xm_dr d_406_23
theorem k_406_24 : xm_gi xm_c406 24 = some xm_e406_24 := xm_gt d_406_24
theorem d_406_25 : List.drop 25 xm_c406 = xm_c406_25 := xm_dr d_406_24
theorem k_406_25 : xm_gi xm_c406 25 = some xm_e406_25 := xm_gt d_406_25
theorem d_406_26 : List.drop 26 xm_c406 = xm_c406_26 := xm_dr d_406_25
theorem k_406_26 : xm_gi xm_c406 26 = some xm_e406_26 := xm_gt d_406_26
theorem d_406_27 : List.drop 27 xm_c406 = xm_c406_27 := xm_dr d_406_26
theorem k_406_27 : xm_gi xm_c406 27 = some xm_e406_27 := xm_gt d_406_27
theorem d_406_28 : List.drop 28 xm_c406 = xm_c406_28 := xm_dr d_406_27
theorem k_406_28 : xm_gi xm_c406 28 = some xm_e406_28 := xm_gt d_406_28
theorem d_406_29 : List.drop 29 xm_c406 = xm_c406_29 := xm_dr d_406_28
theorem k_406_29 : xm_gi xm_c406 29 = some xm_e406_29 := xm_gt d_406_29
theorem d_406_30 : List.drop 30 xm_c406 = xm_c406_30 := xm_dr d_406_29
theorem k_406_30 : xm_gi xm_c406 30 = some xm_e406_30 := xm_gt d_406_30
theorem d_406_31 : List.drop 31 xm_c406 = xm_c406_31 := xm_dr d_406_30
theorem k_406_31 : xm_gi xm_c406 31 = some xm_e406_31 := xm_gt d_406_31
theorem d_406_32 : List.drop 32 xm_c406 = xm_c406_32 := xm_dr d_406_31
theorem k_406_32 : xm_gi xm_c406 32 = some xm_e406_32 := xm_gt d_406_32
theorem d_406_33 : List.drop 33 xm_c406 = xm_c406_33 := xm_dr d_406_32
theorem k_406_33 : xm_gi xm_c406 33 = some xm_e406_33 := xm_gt d_406_33
theorem d_406_34 : List.drop 34 xm_c406 = xm_c406_34 := xm_dr d_406_33
theorem k_406_34 : xm_gi xm_c406 34 = some xm_e406_34 := xm_gt d_406_34
theorem d_406_35 : List.drop 35 xm_c406 = xm_c406_35 := xm_dr d_406_34
theorem k_406_35 : xm_gi xm_c406 35 = some xm_e406_35 := xm_gt d_406_35
theorem d_406_36 : List.drop 36 xm_c406 = xm_c406_36 := xm_dr d_406_35
theorem k_406_36 : xm_gi xm_c406 36 = some xm_e406_36 := xm_gt d_406_36
theorem d_406_37 : List.drop 37 xm_c406 = xm_c406_37 := xm_dr d_406_36
theorem k_406_37 : xm_gi xm_c406 37 = some xm_e406_37 := xm_gt d_406_37
theorem d_406_38 : List.drop 38 xm_c406 = xm_c406_38 := xm_dr d_406_37
theorem k_406_38 : xm_gi xm_c406 38 = some xm_e406_38 := xm_gt d_406_38
theorem d_406_39 : List.drop 39 xm_c406 = xm_c406_39 := xm_dr d_406_38
theorem k_406_39 : xm_gi xm_c406 39 = some xm_e406_39 := xm_gt d_406_39
theorem d_406_40 : List.drop 40 xm_c406 = xm_c406_40 := xm_dr d_406_39
theorem k_406_40 : xm_gi xm_c406 40 = some xm_e406_40 := xm_gt d_406_40
theorem d_406_41 : List.drop 41 xm_c406 = xm_c406_41 := xm_dr d_406_40
theorem k_406_41 : xm_gi xm_c406 41 = some xm_e406_41 := xm_gt d_406_41
theorem d_406_42 : List.drop 42 xm_c406 = xm_c406_42 := xm_dr d_406_41
theorem k_406_42 : xm_gi xm_c406 42 = some xm_e406_42 := xm_gt d_406_42
theorem d_406_43 : List.drop 43 xm_c406 = xm_c406_43 := xm_dr d_406_42
theorem k_406_43 : xm_gi xm_c406 43 = some xm_e406_43 := xm_gt d_406_43
theorem d_406_44 : List.drop 44 xm_c406 = xm_c406_44 := xm_dr d_406_43
theorem k_406_44 : xm_gi xm_c406 44 = some xm_e406_44 := xm_gt d_406_44
theorem d_406_45 : List.drop 45 xm_c406 = xm_c406_45 := xm_dr d_406_44
theorem k_406_45 : xm_gi xm_c406 45 = some xm_e406_45 := xm_gt d_406_45
theorem d_406_46 : List.drop 46 xm_c406 = xm_c406_46 := xm_dr d_406_45
theorem k_406_46 : xm_gi xm_c406 46 = some xm_e406_46 := xm_gt d_406_46
theorem d_406_47 : List.drop 47 xm_c406 = xm_c406_47 := xm_dr d_406_46
theorem k_406_47 : xm_gi xm_c406 47 = some xm_e406_47 := xm_gt d_406_47
theorem d_406_48 : List.drop 48 xm_c406 = xm_c406_48 := xm_dr d_406_47
theorem k_406_48 : xm_gi xm_c406 48 = some xm_e406_48 := xm_gt d_406_48
theorem d_406_49 : List.drop 49 xm_c406 = xm_c406_49 := xm_dr d_406_48
theorem k_406_49 : xm_gi xm_c406 49 = some xm_e406_49 := xm_gt d_406_49
theorem d_406_50 : List.drop 50 xm_c406 = xm_c406_50 := xm_dr d_406_49
theorem k_406_50 : xm_gi xm_c406 50 = some xm_e406_50 := xm_gt d_406_50
theorem xb_406_0 {sc : List Int} {f : Nat → List xm_V → xm_W → xm_R} {w : xm_W} {Q : Option xm_V × xm_W → Prop} {x0 : Nat} {x1 : Int} {x2 : Nat}
  (h : xm_O (xm_fr (xm_old sc) w x2 4 6) (fun r1 => xm_O (xm_fi (xm_old sc) w x2 4 5) (fun z2 => xm_O (xm_ints (xm_old sc) w r1) (fun l3 => xm_O (xm_at l3 z2) (fun z4 => xm_O (xm_fi (xm_old sc) w x2 4 2) (fun z5 => xm_Oi (f 150 [.inl z5, .inl z4] w) (fun z7 w6 => if (z7 : Int) < 0 then (xm_O (xm_fi (xm_old sc) w6 x2 4 5) (fun z8 => xm_O (xm_setf w6 x2 4 5 0 (.inl (xm_w (z8 + 1)))) (fun w9 => Q (none, w9)))) else (xm_O (xm_fi (xm_old sc) w6 x2 4 0) (fun z10 => if (z10 : Int) = 6 then (xm_Oi (f 407 [.inr (.inl (some x0)), .inr (.inl (some x2)), .inl z4] w6) (fun z29 w28 => if (z29 : Int) < 0 then (xm_O (xm_setf w28 x2 4 2 0 (.inl z7)) (fun w30 => xm_O (xm_fi (xm_old sc) w30 x2 4 5) (fun z31 => xm_O (xm_setf w30 x2 4 5 0 (.inl (xm_w (z31 + 1)))) (fun w32 => Q (none, w32))))) else (xm_O (xm_fi (xm_old sc) w28 x2 4 2) (fun z33 => xm_Oi (f 403 [.inr (.inl (some x0)), .inl z33] w28) (fun z35 w34 => if (0 : Int) < z35 then (xm_Ov (f 408 [.inr (.inl (some x0)), .inl x1, .inr (.inl (some x2)), .inl z29] w34) (fun w39 => xm_O (xm_setf w39 x2 4 2 0 (.inl z7)) (fun w40 => xm_O (xm_fi (xm_old sc) w40 x2 4 5) (fun z41 => xm_O (xm_setf w40 x2 4 5 0 (.inl (xm_w (z41 + 1)))) (fun w42 => Q (none, w42)))))) else (xm_O (xm_setf w34 x2 4 2 0 (.inl z7)) (fun w36 => xm_O (xm_fi (xm_old sc) w36 x2 4 5) (fun z37 => xm_O (xm_setf w36 x2 4 5 0 (.inl (xm_w (z37 + 1)))) (fun w38 => Q (none, w38)))))))))) else (xm_O (xm_fi (xm_old sc) w6 x2 4 0) (fun z11 => xm_O (xm_fi (xm_old sc) w6 x2 4 5) (fun z12 => xm_Oi (f 152 [.inl z11, .inl z4, .inl z12] w6) (fun z14 w13 => if (z14 : Int) < 0 then (xm_O (xm_setf w13 x2 4 2 0 (.inl z7)) (fun w15 => xm_O (xm_fi (xm_old sc) w15 x2 4 5) (fun z16 => xm_O (xm_setf w15 x2 4 5 0 (.inl (xm_w (z16 + 1)))) (fun w17 => Q (none, w17))))) else (xm_O (xm_fi (xm_old sc) w13 x2 4 2) (fun z18 => xm_Oi (f 403 [.inr (.inl (some x0)), .inl z18] w13) (fun z20 w19 => if (0 : Int) < z20 then (xm_Ov (f 408 [.inr (.inl (some x0)), .inl x1, .inr (.inl (some x2)), .inl z14] w19) (fun w24 => xm_O (xm_setf w24 x2 4 2 0 (.inl z7)) (fun w25 => xm_O (xm_fi (xm_old sc) w25 x2 4 5) (fun z26 => xm_O (xm_setf w25 x2 4 5 0 (.inl (xm_w (z26 + 1)))) (fun w27 => Q (none, w27)))))) else (xm_O (xm_setf w19 x2 4 2 0 (.inl z7)) (fun w21 => xm_O (xm_fi (xm_old sc) w21 x2 4 5) (fun z22 => xm_O (xm_setf w21 x2 4 5 0 (.inl (xm_w (z22 + 1)))) (fun w23 => Q (none, w23))))))))))))))))))))) :
  xm_EQ (xm_old sc) xm_sta f xm_c406 0 [some (.inr (.inl (some x0))), some (.inl x1), some (.inr (.inl (some x2))), none, none, none] [] w Q :=
  (xq_aload_n k_406_0 rfl (xq_getr k_406_1 rfl h (fun r1 h => (xq_aload_n k_406_2 rfl (xq_geti0 k_406_3 rfl h (fun z2 h => (xq_iaload k_406_4 h (fun l3 h => h) (fun l3 z4 h => (xq_istore_n k_406_5 rfl (xq_aload_n k_406_6 rfl (xq_geti0 k_406_7 rfl h (fun z5 h => (xq_iload_n k_406_8 rfl (xq_invs1 k_406_9 xr_150 rfl rfl rfl h (fun z7 w6 h => (xq_istore k_406_10 rfl (xq_iload k_406_11 rfl (xq_if_lt k_406_12 h (fun h => (xq_aload_n k_406_44 rfl (xq_dupr k_406_45 (xq_geti0 k_406_46 rfl h (fun z8 h => (xq_iconst k_406_47 (xq_iadd k_406_48 (xq_put k_406_49 rfl h (fun w9 h => (xq_return k_406_50 h)))))))))) (fun h => (xq_aload_n k_406_13 rfl (xq_geti0 k_406_14 rfl h (fun z10 h => (xq_bipush k_406_15 (xq_ic_ne k_406_16 h (fun h => (xq_aload_n k_406_17 rfl (xq_aload_n k_406_18 rfl (xq_iload_n k_406_19 rfl (xq_invv1 k_406_20 xr_407 rfl rfl rfl h (fun z29 w28 h => (xq_goto k_406_21 (xq_istore k_406_28 rfl (xq_iload k_406_29 rfl (xq_if_lt k_406_30 h (fun h => (xq_aload_n k_406_41 rfl (xq_iload k_406_42 rfl (xq_put k_406_43 rfl h (fun w30 h => (xq_aload_n k_406_44 rfl (xq_dupr k_406_45 (xq_geti0 k_406_46 rfl h (fun z31 h => (xq_iconst k_406_47 (xq_iadd k_406_48 (xq_put k_406_49 rfl h (fun w32 h => (xq_return k_406_50 h)))))))))))))) (fun h => (xq_aload_n k_406_31 rfl (xq_aload_n k_406_32 rfl (xq_geti0 k_406_33 rfl h (fun z33 h => (xq_invv1 k_406_34 xr_403 rfl rfl rfl h (fun z35 w34 h => (xq_if_le k_406_35 h (fun h => (xq_aload_n k_406_36 rfl (xq_iload_n k_406_37 rfl (xq_aload_n k_406_38 rfl (xq_iload k_406_39 rfl (xq_invv0 k_406_40 xr_408 rfl rfl rfl h (fun w39 h => (xq_aload_n k_406_41 rfl (xq_iload k_406_42 rfl (xq_put k_406_43 rfl h (fun w40 h => (xq_aload_n k_406_44 rfl (xq_dupr k_406_45 (xq_geti0 k_406_46 rfl h (fun z41 h => (xq_iconst k_406_47 (xq_iadd k_406_48 (xq_put k_406_49 rfl h (fun w42 h => (xq_return k_406_50 h)))))))))))))))))))) (fun h => (xq_aload_n k_406_41 rfl (xq_iload k_406_42 rfl (xq_put k_406_43 rfl h (fun w36 h => (xq_aload_n k_406_44 rfl (xq_dupr k_406_45 (xq_geti0 k_406_46 rfl h (fun z37 h => (xq_iconst k_406_47 (xq_iadd k_406_48 (xq_put k_406_49 rfl h (fun w38 h => (xq_return k_406_50 h)))))))))))))))))))))))))))))))) (fun h => (xq_aload_n k_406_22 rfl (xq_geti0 k_406_23 rfl h (fun z11 h => (xq_iload_n k_406_24 rfl (xq_aload_n k_406_25 rfl (xq_geti0 k_406_26 rfl h (fun z12 h => (xq_invs1 k_406_27 xr_152 rfl rfl rfl h (fun z14 w13 h => (xq_istore k_406_28 rfl (xq_iload k_406_29 rfl (xq_if_lt k_406_30 h (fun h => (xq_aload_n k_406_41 rfl (xq_iload k_406_42 rfl (xq_put k_406_43 rfl h (fun w15 h => (xq_aload_n k_406_44 rfl (xq_dupr k_406_45 (xq_geti0 k_406_46 rfl h (fun z16 h => (xq_iconst k_406_47 (xq_iadd k_406_48 (xq_put k_406_49 rfl h (fun w17 h => (xq_return k_406_50 h)))))))))))))) (fun h => (xq_aload_n k_406_31 rfl (xq_aload_n k_406_32 rfl (xq_geti0 k_406_33 rfl h (fun z18 h => (xq_invv1 k_406_34 xr_403 rfl rfl rfl h (fun z20 w19 h => (xq_if_le k_406_35 h (fun h => (xq_aload_n k_406_36 rfl (xq_iload_n k_406_37 rfl (xq_aload_n k_406_38 rfl (xq_iload k_406_39 rfl (xq_invv0 k_406_40 xr_408 rfl rfl rfl h (fun w24 h => (xq_aload_n k_406_41 rfl (xq_iload k_406_42 rfl (xq_put k_406_43 rfl h (fun w25 h => (xq_aload_n k_406_44 rfl (xq_dupr k_406_45 (xq_geti0 k_406_46 rfl h (fun z26 h => (xq_iconst k_406_47 (xq_iadd k_406_48 (xq_put k_406_49 rfl h (fun w27 h => (xq_return k_406_50 h)))))))))))))))))))) (fun h => (xq_aload_n k_406_41 rfl (xq_iload k_406_42 rfl (xq_put k_406_43 rfl h (fun w21 h => (xq_aload_n k_406_44 rfl (xq_dupr k_406_45 (xq_geti0 k_406_46 rfl h (fun z22 h => (xq_iconst k_406_47 (xq_iadd k_406_48 (xq_put k_406_49 rfl h (fun w23 h => (xq_return k_406_50 h)))))))))))))))))))))))))))))))))))))))))))))))))))))))))))
/-- ShodBackwards$Moor.shownByShoes(LShodBackwards$Rider;I)I -/
theorem d_407_0 : List.drop 0 xm_c407 = xm_c407 := rfl
theorem k_407_0 : xm_gi xm_c407 0 = some xm_e407_0 := xm_gt d_407_0
theorem d_407_1 : List.drop 1 xm_c407 = xm_c407_1 := xm_dr d_407_0
theorem k_407_1 : xm_gi xm_c407 1 = some xm_e407_1 := xm_gt d_407_1
theorem d_407_2 : List.drop 2 xm_c407 = xm_c407_2 := xm_dr d_407_1
theorem k_407_2 : xm_gi xm_c407 2 = some xm_e407_2 := xm_gt d_407_2
theorem d_407_3 : List.drop 3 xm_c407 = xm_c407_3 := xm_dr d_407_2
theorem k_407_3 : xm_gi xm_c407 3 = some xm_e407_3 := xm_gt d_407_3
theorem d_407_4 : List.drop 4 xm_c407 = xm_c407_4 := xm_dr d_407_3
theorem k_407_4 : xm_gi xm_c407 4 = some xm_e407_4 := xm_gt d_407_4
theorem d_407_5 : List.drop 5 xm_c407 = xm_c407_5 := xm_dr d_407_4
theorem k_407_5 : xm_gi xm_c407 5 = some xm_e407_5 := xm_gt d_407_5
theorem d_407_6 : List.drop 6 xm_c407 = xm_c407_6 := xm_dr d_407_5
theorem k_407_6 : xm_gi xm_c407 6 = some xm_e407_6 := xm_gt d_407_6
theorem d_407_7 : List.drop 7 xm_c407 = xm_c407_7 := xm_dr d_407_6
theorem k_407_7 : xm_gi xm_c407 7 = some xm_e407_7 := xm_gt d_407_7
theorem d_407_8 : List.drop 8 xm_c407 = xm_c407_8 := xm_dr d_407_7
theorem k_407_8 : xm_gi xm_c407 8 = some xm_e407_8 := xm_gt d_407_8
theorem d_407_9 : List.drop 9 xm_c407 = xm_c407_9 := xm_dr d_407_8
theorem k_407_9 : xm_gi xm_c407 9 = some xm_e407_9 := xm_gt d_407_9
theorem d_407_10 : List.drop 10 xm_c407 = xm_c407_10 := xm_dr d_407_9
theorem k_407_10 : xm_gi xm_c407 10 = some xm_e407_10 := xm_gt d_407_10
theorem d_407_11 : List.drop 11 xm_c407 = xm_c407_11 := xm_dr d_407_10
theorem k_407_11 : xm_gi xm_c407 11 = some xm_e407_11 := xm_gt d_407_11
theorem d_407_12 : List.drop 12 xm_c407 = xm_c407_12 := xm_dr d_407_11
theorem k_407_12 : xm_gi xm_c407 12 = some xm_e407_12 := xm_gt d_407_12
theorem d_407_13 : List.drop 13 xm_c407 = xm_c407_13 := xm_dr d_407_12
theorem k_407_13 : xm_gi xm_c407 13 = some xm_e407_13 := xm_gt d_407_13
theorem d_407_14 : List.drop 14 xm_c407 = xm_c407_14 := xm_dr d_407_13
theorem k_407_14 : xm_gi xm_c407 14 = some xm_e407_14 := xm_gt d_407_14
theorem d_407_15 : List.drop 15 xm_c407 = xm_c407_15 := xm_dr d_407_14
theorem k_407_15 : xm_gi xm_c407 15 = some xm_e407_15 := xm_gt d_407_15
theorem d_407_16 : List.drop 16 xm_c407 = xm_c407_16 := xm_dr d_407_15
theorem k_407_16 : xm_gi xm_c407 16 = some xm_e407_16 := xm_gt d_407_16
theorem d_407_17 : List.drop 17 xm_c407 = xm_c407_17 := xm_dr d_407_16
theorem k_407_17 : xm_gi xm_c407 17 = some xm_e407_17 := xm_gt d_407_17
theorem d_407_18 : List.drop 18 xm_c407 = xm_c407_18 := xm_dr d_407_17
theorem k_407_18 : xm_gi xm_c407 18 = some xm_e407_18 := xm_gt d_407_18
theorem d_407_19 : List.drop 19 xm_c407 = xm_c407_19 := xm_dr d_407_18
theorem k_407_19 : xm_gi xm_c407 19 = some xm_e407_19 := xm_gt d_407_19
theorem d_407_20 : List.drop 20 xm_c407 = xm_c407_20 := xm_dr d_407_19
theorem k_407_20 : xm_gi xm_c407 20 = some xm_e407_20 := xm_gt d_407_20
theorem d_407_21 : List.drop 21 xm_c407 = xm_c407_21 := xm_dr d_407_20
theorem k_407_21 : xm_gi xm_c407 21 = some xm_e407_21 := xm_gt d_407_21
theorem d_407_22 : List.drop 22 xm_c407 = xm_c407_22 := xm_dr d_407_21
theorem k_407_22 : xm_gi xm_c407 22 = some xm_e407_22 := xm_gt d_407_22
theorem d_407_23 : List.drop 23 xm_c407 = xm_c407_23 := xm_dr d_407_22
theorem k_407_23 : xm_gi xm_c407 23 = some xm_e407_23 := xm_gt d_407_23
theorem d_407_24 : List.drop 24 xm_c407 = xm_c407_24 := xm_dr d_407_23
theorem k_407_24 : xm_gi xm_c407 24 = some xm_e407_24 := xm_gt d_407_24
theorem d_407_25 : List.drop 25 xm_c407 = xm_c407_25 := xm_dr d_407_24
theorem k_407_25 : xm_gi xm_c407 25 = some xm_e407_25 := xm_gt d_407_25
theorem d_407_26 : List.drop 26 xm_c407 = xm_c407_26 := xm_dr d_407_25
theorem k_407_26 : xm_gi xm_c407 26 = some xm_e407_26 := xm_gt d_407_26
theorem d_407_27 : List.drop 27 xm_c407 = xm_c407_27 := xm_dr d_407_26
theorem k_407_27 : xm_gi xm_c407 27 = some xm_e407_27 := xm_gt d_407_27
theorem d_407_28 : List.drop 28 xm_c407 = xm_c407_28 := xm_dr d_407_27
theorem k_407_28 : xm_gi xm_c407 28 = some xm_e407_28 := xm_gt d_407_28
theorem d_407_29 : List.drop 29 xm_c407 = xm_c407_29 := xm_dr d_407_28
theorem k_407_29 : xm_gi xm_c407 29 = some xm_e407_29 := xm_gt d_407_29
theorem d_407_30 : List.drop 30 xm_c407 = xm_c407_30 := xm_dr d_407_29
theorem k_407_30 : xm_gi xm_c407 30 = some xm_e407_30 := xm_gt d_407_30
theorem d_407_31 : List.drop 31 xm_c407 = xm_c407_31 := xm_dr d_407_30
theorem k_407_31 : xm_gi xm_c407 31 = some xm_e407_31 := xm_gt d_407_31
theorem d_407_32 : List.drop 32 xm_c407 = xm_c407_32 := xm_dr d_407_31
theorem k_407_32 : xm_gi xm_c407 32 = some xm_e407_32 := xm_gt d_407_32
theorem d_407_33 : List.drop 33 xm_c407 = xm_c407_33 := xm_dr d_407_32
theorem k_407_33 : xm_gi xm_c407 33 = some xm_e407_33 := xm_gt d_407_33
theorem d_407_34 : List.drop 34 xm_c407 = xm_c407_34 := xm_dr d_407_33
theorem k_407_34 : xm_gi xm_c407 34 = some xm_e407_34 := xm_gt d_407_34
theorem d_407_35 : List.drop 35 xm_c407 = xm_c407_35 := xm_dr d_407_34
theorem k_407_35 : xm_gi xm_c407 35 = some xm_e407_35 := xm_gt d_407_35
theorem d_407_36 : List.drop 36 xm_c407 = xm_c407_36 := xm_dr d_407_35
theorem k_407_36 : xm_gi xm_c407 36 = some xm_e407_36 := xm_gt d_407_36
theorem d_407_37 : List.drop 37 xm_c407 = xm_c407_37 := xm_dr d_407_36
theorem k_407_37 : xm_gi xm_c407 37 = some xm_e407_37 := xm_gt d_407_37
theorem d_407_38 : List.drop 38 xm_c407 = xm_c407_38 := xm_dr d_407_37
theorem k_407_38 : xm_gi xm_c407 38 = some xm_e407_38 := xm_gt d_407_38
theorem d_407_39 : List.drop 39 xm_c407 = xm_c407_39 := xm_dr d_407_38
theorem k_407_39 : xm_gi xm_c407 39 = some xm_e407_39 := xm_gt d_407_39
theorem d_407_40 : List.drop 40 xm_c407 = xm_c407_40 := xm_dr d_407_39
theorem k_407_40 : xm_gi xm_c407 40 = some xm_e407_40 := xm_gt d_407_40
theorem d_407_41 : List.drop 41 xm_c407 = xm_c407_41 := xm_dr d_407_40
theorem k_407_41 : xm_gi xm_c407 41 = some xm_e407_41 := xm_gt d_407_41
theorem d_407_42 : List.drop 42 xm_c407 = xm_c407_42 := xm_dr d_407_41
theorem k_407_42 : xm_gi xm_c407 42 = some xm_e407_42 := xm_gt d_407_42
theorem d_407_43 : List.drop 43 xm_c407 = xm_c407_43 := xm_dr d_407_42
theorem k_407_43 : xm_gi xm_c407 43 = some xm_e407_43 := xm_gt d_407_43
theorem d_407_44 : List.drop 44 xm_c407 = xm_c407_44 := xm_dr d_407_43
theorem k_407_44 : xm_gi xm_c407 44 = some xm_e407_44 := xm_gt d_407_44
theorem d_407_45 : List.drop 45 xm_c407 = xm_c407_45 := xm_dr d_407_44
theorem k_407_45 : xm_gi xm_c407 45 = some xm_e407_45 := xm_gt d_407_45
theorem d_407_46 : List.drop 46 xm_c407 = xm_c407_46 := xm_dr d_407_45
theorem k_407_46 : xm_gi xm_c407 46 = some xm_e407_46 := xm_gt d_407_46
theorem d_407_47 : List.drop 47 xm_c407 = xm_c407_47 := xm_dr d_407_46
theorem k_407_47 : xm_gi xm_c407 47 = some xm_e407_47 := xm_gt d_407_47
theorem d_407_48 : List.drop 48 xm_c407 = xm_c407_48 := xm_dr d_407_47
theorem k_407_48 : xm_gi xm_c407 48 = some xm_e407_48 := xm_gt d_407_48
theorem d_407_49 : List.drop 49 xm_c407 = xm_c407_49 := xm_dr d_407_48
theorem k_407_49 : xm_gi xm_c407 49 = some xm_e407_49 := xm_gt d_407_49
theorem d_407_50 : List.drop 50 xm_c407 = xm_c407_50 := xm_dr d_407_49
theorem k_407_50 : xm_gi xm_c407 50 = some xm_e407_50 := xm_gt d_407_50
theorem d_407_51 : List.drop 51 xm_c407 = xm_c407_51 := xm_dr d_407_50
theorem k_407_51 : xm_gi xm_c407 51 = some xm_e407_51 := xm_gt d_407_51
theorem d_407_52 : List.drop 52 xm_c407 = xm_c407_52 := xm_dr d_407_51
theorem k_407_52 : xm_gi xm_c407 52 = some xm_e407_52 := xm_gt d_407_52
theorem xb_407_0 {sc : List Int} {f : Nat → List xm_V → xm_W → xm_R} {w : xm_W} {Q : Option xm_V × xm_W → Prop} {x0 : Nat} {x1 : Nat} {x2 : Int}
  (h : xm_O (xm_fr (xm_old sc) w x0 2 7) (fun r1 => xm_O (xm_refs (xm_old sc) w r1) (fun l2 => xm_O (xm_at l2 0) (fun r3 => xm_O (xm_fi (xm_old sc) w x1 4 1) (fun z4 => if (r3 : Option Nat) = none then (if ((xm_w (x2 + z4)) : Int) < 0 then (Q (some (.inl (-1)), w)) else ((4 : Int) ≠ 0 ∧ (Q (some (.inl (Int.tmod (xm_w (x2 + z4)) 4)), w)))) else (xm_O (xm_fr (xm_old sc) w x0 2 8) (fun r5 => xm_O (xm_seti w r5 0 x2) (fun w6 => xm_O (xm_fr (xm_old sc) w6 x0 2 8) (fun r7 => xm_O (xm_fi (xm_old sc) w6 x1 4 5) (fun z8 => xm_O (xm_seti w6 r7 1 z8) (fun w9 => xm_O (xm_fr (xm_old sc) w9 x0 2 8) (fun r10 => xm_O (xm_fi (xm_old sc) w9 x1 4 1) (fun z11 => xm_O (xm_seti w9 r10 2 z11) (fun w12 => xm_O (xm_fr (xm_old sc) w12 x0 2 8) (fun r13 => xm_O (xm_fr (xm_old sc) w12 x0 2 0) (fun r14 => xm_O (xm_fi (xm_old sc) w12 x1 4 2) (fun z15 => xm_O (xm_ints (xm_old sc) w12 r14) (fun l16 => xm_O (xm_at l16 z15) (fun z17 => xm_O (xm_seti w12 r13 3 z17) (fun w18 => xm_O (xm_fr (xm_old sc) w18 x0 2 8) (fun r19 => xm_O (xm_fr (xm_old sc) w18 x0 2 9) (fun r20 => xm_Oi (f 902 [.inr (.inl r3), .inr (.inl (some r19)), .inr (.inl (some r20))] w18) (fun z22 w21 => if (z22 : Int) < 0 then (Q (some (.inl (-1)), w21)) else ((4 : Int) ≠ 0 ∧ (Q (some (.inl (Int.tmod z22 4)), w21)))))))))))))))))))))))))) :
  xm_EQ (xm_old sc) xm_sta f xm_c407 0 [some (.inr (.inl (some x0))), some (.inr (.inl (some x1))), some (.inl x2), none, none] [] w Q :=
  (xq_aload_n k_407_0 rfl (xq_getr k_407_1 rfl h (fun r1 h => (xq_iconst k_407_2 (xq_aaload k_407_3 h (fun l2 h => h) (fun l2 r3 h => (xq_astore_n k_407_4 rfl (xq_iload_n k_407_5 rfl (xq_aload_n k_407_6 rfl (xq_geti0 k_407_7 rfl h (fun z4 h => (xq_iadd k_407_8 (xq_istore k_407_9 rfl (xq_aload_n k_407_10 rfl (xq_ifnull k_407_11 h (fun h => (xq_iload k_407_45 rfl (xq_if_ge k_407_46 h (fun h => (xq_iconst k_407_47 (xq_goto k_407_48 (xq_ireturn k_407_52 h)))) (fun h => (xq_iload k_407_49 rfl (xq_iconst k_407_50 (xq_irem k_407_51 h (fun h => (xq_ireturn k_407_52 h))))))))) (fun h => (xq_aload_n k_407_12 rfl (xq_getr k_407_13 rfl h (fun r5 h => (xq_iconst k_407_14 (xq_iload_n k_407_15 rfl (xq_iastore k_407_16 h (fun w6 h => (xq_aload_n k_407_17 rfl (xq_getr k_407_18 rfl h (fun r7 h => (xq_iconst k_407_19 (xq_aload_n k_407_20 rfl (xq_geti0 k_407_21 rfl h (fun z8 h => (xq_iastore k_407_22 h (fun w9 h => (xq_aload_n k_407_23 rfl (xq_getr k_407_24 rfl h (fun r10 h => (xq_iconst k_407_25 (xq_aload_n k_407_26 rfl (xq_geti0 k_407_27 rfl h (fun z11 h => (xq_iastore k_407_28 h (fun w12 h => (xq_aload_n k_407_29 rfl (xq_getr k_407_30 rfl h (fun r13 h => (xq_iconst k_407_31 (xq_aload_n k_407_32 rfl (xq_getr k_407_33 rfl h (fun r14 h => (xq_aload_n k_407_34 rfl (xq_geti0 k_407_35 rfl h (fun z15 h => (xq_iaload k_407_36 h (fun l16 h => h) (fun l16 z17 h => (xq_iastore k_407_37 h (fun w18 h => (xq_aload_n k_407_38 rfl (xq_aload_n k_407_39 rfl (xq_getr k_407_40 rfl h (fun r19 h => (xq_aload_n k_407_41 rfl (xq_getr k_407_42 rfl h (fun r20 h => (xq_invv1 k_407_43 xr_902 rfl rfl rfl h (fun z22 w21 h => (xq_istore k_407_44 rfl (xq_iload k_407_45 rfl (xq_if_ge k_407_46 h (fun h => (xq_iconst k_407_47 (xq_goto k_407_48 (xq_ireturn k_407_52 h)))) (fun h => (xq_iload k_407_49 rfl (xq_iconst k_407_50 (xq_irem k_407_51 h (fun h => (xq_ireturn k_407_52 h)))))))))))))))))))))))))))))))))))))))))))))))))))))))))))))))))))))))))
/-- ShodBackwards$Moor.leave(ILShodBackwards$Rider;I)V -/
theorem d_408_0 : List.drop 0 xm_c408 = xm_c408 := rfl
theorem k_408_0 : xm_gi xm_c408 0 = some xm_e408_0 := xm_gt d_408_0
theorem d_408_1 : List.drop 1 xm_c408 = xm_c408_1 := xm_dr d_408_0
theorem k_408_1 : xm_gi xm_c408 1 = some xm_e408_1 := xm_gt d_408_1
theorem d_408_2 : List.drop 2 xm_c408 = xm_c408_2 := xm_dr d_408_1
theorem k_408_2 : xm_gi xm_c408 2 = some xm_e408_2 := xm_gt d_408_2
theorem d_408_3 : List.drop 3 xm_c408 = xm_c408_3 := xm_dr d_408_2
theorem k_408_3 : xm_gi xm_c408 3 = some xm_e408_3 := xm_gt d_408_3
theorem d_408_4 : List.drop 4 xm_c408 = xm_c408_4 := xm_dr d_408_3
theorem k_408_4 : xm_gi xm_c408 4 = some xm_e408_4 := xm_gt d_408_4
theorem d_408_5 : List.drop 5 xm_c408 = xm_c408_5 := xm_dr d_408_4
theorem k_408_5 : xm_gi xm_c408 5 = some xm_e408_5 := xm_gt d_408_5
theorem d_408_6 : List.drop 6 xm_c408 = xm_c408_6 := xm_dr d_408_5
theorem k_408_6 : xm_gi xm_c408 6 = some xm_e408_6 := xm_gt d_408_6
theorem d_408_7 : List.drop 7 xm_c408 = xm_c408_7 := xm_dr d_408_6
theorem k_408_7 : xm_gi xm_c408 7 = some xm_e408_7 := xm_gt d_408_7
theorem d_408_8 : List.drop 8 xm_c408 = xm_c408_8 := xm_dr d_408_7
theorem k_408_8 : xm_gi xm_c408 8 = some xm_e408_8 := xm_gt d_408_8
theorem d_408_9 : List.drop 9 xm_c408 = xm_c408_9 := xm_dr d_408_8
theorem k_408_9 : xm_gi xm_c408 9 = some xm_e408_9 := xm_gt d_408_9
theorem d_408_10 : List.drop 10 xm_c408 = xm_c408_10 := xm_dr d_408_9
theorem k_408_10 : xm_gi xm_c408 10 = some xm_e408_10 := xm_gt d_408_10
theorem d_408_11 : List.drop 11 xm_c408 = xm_c408_11 := xm_dr d_408_10
theorem k_408_11 : xm_gi xm_c408 11 = some xm_e408_11 := xm_gt d_408_11
theorem d_408_12 : List.drop 12 xm_c408 = xm_c408_12 := xm_dr d_408_11
theorem k_408_12 : xm_gi xm_c408 12 = some xm_e408_12 := xm_gt d_408_12
theorem d_408_13 : List.drop 13 xm_c408 = xm_c408_13 := xm_dr d_408_12
theorem k_408_13 : xm_gi xm_c408 13 = some xm_e408_13 := xm_gt d_408_13
theorem d_408_14 : List.drop 14 xm_c408 = xm_c408_14 := xm_dr d_408_13
theorem k_408_14 : xm_gi xm_c408 14 = some xm_e408_14 := xm_gt d_408_14
theorem d_408_15 : List.drop 15 xm_c408 = xm_c408_15 := xm_dr d_408_14
theorem k_408_15 : xm_gi xm_c408 15 = some xm_e408_15 := xm_gt d_408_15
theorem d_408_16 : List.drop 16 xm_c408 = xm_c408_16 := xm_dr d_408_15
theorem k_408_16 : xm_gi xm_c408 16 = some xm_e408_16 := xm_gt d_408_16
theorem d_408_17 : List.drop 17 xm_c408 = xm_c408_17 := xm_dr d_408_16
theorem k_408_17 : xm_gi xm_c408 17 = some xm_e408_17 := xm_gt d_408_17
theorem d_408_18 : List.drop 18 xm_c408 = xm_c408_18 := xm_dr d_408_17
theorem k_408_18 : xm_gi xm_c408 18 = some xm_e408_18 := xm_gt d_408_18
theorem d_408_19 : List.drop 19 xm_c408 = xm_c408_19 := xm_dr d_408_18
theorem k_408_19 : xm_gi xm_c408 19 = some xm_e408_19 := xm_gt d_408_19
theorem d_408_20 : List.drop 20 xm_c408 = xm_c408_20 := xm_dr d_408_19
theorem k_408_20 : xm_gi xm_c408 20 = some xm_e408_20 := xm_gt d_408_20
theorem d_408_21 : List.drop 21 xm_c408 = xm_c408_21 := xm_dr d_408_20
theorem k_408_21 : xm_gi xm_c408 21 = some xm_e408_21 := xm_gt d_408_21
theorem d_408_22 : List.drop 22 xm_c408 = xm_c408_22 := xm_dr d_408_21
theorem k_408_22 : xm_gi xm_c408 22 = some xm_e408_22 := xm_gt d_408_22
theorem d_408_23 : List.drop 23 xm_c408 = xm_c408_23 := xm_dr d_408_22
theorem k_408_23 : xm_gi xm_c408 23 = some xm_e408_23 := xm_gt d_408_23
theorem d_408_24 : List.drop 24 xm_c408 = xm_c408_24 := xm_dr d_408_23
theorem k_408_24 : xm_gi xm_c408 24 = some xm_e408_24 := xm_gt d_408_24
theorem d_408_25 : List.drop 25 xm_c408 = xm_c408_25 := xm_dr d_408_24
theorem k_408_25 : xm_gi xm_c408 25 = some xm_e408_25 := xm_gt d_408_25
theorem d_408_26 : List.drop 26 xm_c408 = xm_c408_26 := xm_dr d_408_25
theorem k_408_26 : xm_gi xm_c408 26 = some xm_e408_26 := xm_gt d_408_26
theorem d_408_27 : List.drop 27 xm_c408 = xm_c408_27 := xm_dr d_408_26
theorem k_408_27 : xm_gi xm_c408 27 = some xm_e408_27 := xm_gt d_408_27
theorem d_408_28 : List.drop 28 xm_c408 = xm_c408_28 := xm_dr d_408_27
theorem k_408_28 : xm_gi xm_c408 28 = some xm_e408_28 := xm_gt d_408_28
theorem d_408_29 : List.drop 29 xm_c408 = xm_c408_29 := xm_dr d_408_28
theorem k_408_29 : xm_gi xm_c408 29 = some xm_e408_29 := xm_gt d_408_29
theorem d_408_30 : List.drop 30 xm_c408 = xm_c408_30 := xm_dr d_408_29
theorem k_408_30 : xm_gi xm_c408 30 = some xm_e408_30 := xm_gt d_408_30
theorem d_408_31 : List.drop 31 xm_c408 = xm_c408_31 := xm_dr d_408_30
theorem k_408_31 : xm_gi xm_c408 31 = some xm_e408_31 := xm_gt d_408_31
theorem d_408_32 : List.drop 32 xm_c408 = xm_c408_32 := xm_dr d_408_31
theorem k_408_32 : xm_gi xm_c408 32 = some xm_e408_32 := xm_gt d_408_32
theorem d_408_33 : List.drop 33 xm_c408 = xm_c408_33 := xm_dr d_408_32
theorem k_408_33 : xm_gi xm_c408 33 = some xm_e408_33 := xm_gt d_408_33
theorem d_408_34 : List.drop 34 xm_c408 = xm_c408_34 := xm_dr d_408_33
theorem k_408_34 : xm_gi xm_c408 34 = some xm_e408_34 := xm_gt d_408_34
theorem d_408_35 : List.drop 35 xm_c408 = xm_c408_35 := xm_dr d_408_34
theorem k_408_35 : xm_gi xm_c408 35 = some xm_e408_35 := xm_gt d_408_35
theorem d_408_36 : List.drop 36 xm_c408 = xm_c408_36 := xm_dr d_408_35
theorem k_408_36 : xm_gi xm_c408 36 = some xm_e408_36 := xm_gt d_408_36
theorem d_408_37 : List.drop 37 xm_c408 = xm_c408_37 := xm_dr d_408_36
theorem k_408_37 : xm_gi xm_c408 37 = some xm_e408_37 := xm_gt d_408_37
theorem d_408_38 : List.drop 38 xm_c408 = xm_c408_38 := xm_dr d_408_37
theorem k_408_38 : xm_gi xm_c408 38 = some xm_e408_38 := xm_gt d_408_38
theorem d_408_39 : List.drop 39 xm_c408 = xm_c408_39 := xm_dr d_408_38
theorem k_408_39 : xm_gi xm_c408 39 = some xm_e408_39 := xm_gt d_408_39
theorem d_408_40 : List.drop 40 xm_c408 = xm_c408_40 := xm_dr d_408_39
theorem k_408_40 : xm_gi xm_c408 40 = some xm_e408_40 := xm_gt d_408_40
theorem d_408_41 : List.drop 41 xm_c408 = xm_c408_41 := xm_dr d_408_40
theorem k_408_41 : xm_gi xm_c408 41 = some xm_e408_41 := xm_gt d_408_41
theorem d_408_42 : List.drop 42 xm_c408 = xm_c408_42 := xm_dr d_408_41
theorem k_408_42 : xm_gi xm_c408 42 = some xm_e408_42 := xm_gt d_408_42
theorem d_408_43 : List.drop 43 xm_c408 = xm_c408_43 := xm_dr d_408_42
theorem k_408_43 : xm_gi xm_c408 43 = some xm_e408_43 := xm_gt d_408_43
theorem d_408_44 : List.drop 44 xm_c408 = xm_c408_44 := xm_dr d_408_43
theorem k_408_44 : xm_gi xm_c408 44 = some xm_e408_44 := xm_gt d_408_44
theorem d_408_45 : List.drop 45 xm_c408 = xm_c408_45 := xm_dr d_408_44
theorem k_408_45 : xm_gi xm_c408 45 = some xm_e408_45 := xm_gt d_408_45
theorem d_408_46 : List.drop 46 xm_c408 = xm_c408_46 := xm_dr d_408_45
theorem k_408_46 : xm_gi xm_c408 46 = some xm_e408_46 := xm_gt d_408_46
theorem d_408_47 : List.drop 47 xm_c408 = xm_c408_47 := xm_dr d_408_46
theorem k_408_47 : xm_gi xm_c408 47 = some xm_e408_47 := xm_gt d_408_47
theorem d_408_48 : List.drop 48 xm_c408 = xm_c408_48 := xm_dr d_408_47
theorem k_408_48 : xm_gi xm_c408 48 = some xm_e408_48 := xm_gt d_408_48
theorem d_408_49 : List.drop 49 xm_c408 = xm_c408_49 := xm_dr d_408_48
theorem k_408_49 : xm_gi xm_c408 49 = some xm_e408_49 := xm_gt d_408_49
theorem d_408_50 : List.drop 50 xm_c408 = xm_c408_50 := xm_dr d_408_49
theorem k_408_50 : xm_gi xm_c408 50 = some xm_e408_50 := xm_gt d_408_50
theorem d_408_51 : List.drop 51 xm_c408 = xm_c408_51 := xm_dr d_408_50
theorem k_408_51 : xm_gi xm_c408 51 = some xm_e408_51 := xm_gt d_408_51
theorem d_408_52 : List.drop 52 xm_c408 = xm_c408_52 := xm_dr d_408_51
theorem k_408_52 : xm_gi xm_c408 52 = some xm_e408_52 := xm_gt d_408_52
theorem d_408_53 : List.drop 53 xm_c408 = xm_c408_53 := xm_dr d_408_52
theorem k_408_53 : xm_gi xm_c408 53 = some xm_e408_53 := xm_gt d_408_53
theorem d_408_54 : List.drop 54 xm_c408 = xm_c408_54 := xm_dr d_408_53
theorem k_408_54 : xm_gi xm_c408 54 = some xm_e408_54 := xm_gt d_408_54
theorem d_408_55 : List.drop 55 xm_c408 = xm_c408_55 := xm_dr d_408_54
theorem k_408_55 : xm_gi xm_c408 55 = some xm_e408_55 := xm_gt d_408_55
theorem d_408_56 : List.drop 56 xm_c408 = xm_c408_56 := xm_dr d_408_55
theorem k_408_56 : xm_gi xm_c408 56 = some xm_e408_56 := xm_gt d_408_56
theorem d_408_57 : List.drop 57 xm_c408 = xm_c408_57 := xm_dr d_408_56
theorem k_408_57 : xm_gi xm_c408 57 = some xm_e408_57 := xm_gt d_408_57
theorem d_408_58 : List.drop 58 xm_c408 = xm_c408_58 := xm_dr d_408_57
theorem k_408_58 : xm_gi xm_c408 58 = some xm_e408_58 := xm_gt d_408_58
theorem d_408_59 : List.drop 59 xm_c408 = xm_c408_59 := xm_dr d_408_58
theorem k_408_59 : xm_gi xm_c408 59 = some xm_e408_59 := xm_gt d_408_59
theorem d_408_60 : List.drop 60 xm_c408 = xm_c408_60 := xm_dr d_408_59
theorem k_408_60 : xm_gi xm_c408 60 = some xm_e408_60 := xm_gt d_408_60
theorem d_408_61 : List.drop 61 xm_c408 = xm_c408_61 := xm_dr d_408_60
theorem k_408_61 : xm_gi xm_c408 61 = some xm_e408_61 := xm_gt d_408_61
theorem d_408_62 : List.drop 62 xm_c408 = xm_c408_62 := xm_dr d_408_61
theorem k_408_62 : xm_gi xm_c408 62 = some xm_e408_62 := xm_gt d_408_62
theorem d_408_63 : List.drop 63 xm_c408 = xm_c408_63 := xm_dr d_408_62
theorem k_408_63 : xm_gi xm_c408 63 = some xm_e408_63 := xm_gt d_408_63
theorem d_408_64 : List.drop 64 xm_c408 = xm_c408_64 := xm_dr d_408_63
theorem k_408_64 : xm_gi xm_c408 64 = some xm_e408_64 := xm_gt d_408_64
theorem d_408_65 : List.drop 65 xm_c408 = xm_c408_65 := xm_dr d_408_64
theorem k_408_65 : xm_gi xm_c408 65 = some xm_e408_65 := xm_gt d_408_65
theorem d_408_66 : List.drop 66 xm_c408 = xm_c408_66 := xm_dr d_408_65
theorem k_408_66 : xm_gi xm_c408 66 = some xm_e408_66 := xm_gt d_408_66
theorem d_408_67 : List.drop 67 xm_c408 = xm_c408_67 := xm_dr d_408_66
theorem k_408_67 : xm_gi xm_c408 67 = some xm_e408_67 := xm_gt d_408_67
theorem d_408_68 : List.drop 68 xm_c408 = xm_c408_68 := xm_dr d_408_67
theorem k_408_68 : xm_gi xm_c408 68 = some xm_e408_68 := xm_gt d_408_68
theorem d_408_69 : List.drop 69 xm_c408 = xm_c408_69 := xm_dr d_408_68
theorem k_408_69 : xm_gi xm_c408 69 = some xm_e408_69 := xm_gt d_408_69
theorem d_408_70 : List.drop 70 xm_c408 = xm_c408_70 := xm_dr d_408_69
theorem k_408_70 : xm_gi xm_c408 70 = some xm_e408_70 := xm_gt d_408_70
theorem d_408_71 : List.drop 71 xm_c408 = xm_c408_71 := xm_dr d_408_70
theorem k_408_71 : xm_gi xm_c408 71 = some xm_e408_71 := xm_gt d_408_71
theorem d_408_72 : List.drop 72 xm_c408 = xm_c408_72 := xm_dr d_408_71
theorem k_408_72 : xm_gi xm_c408 72 = some xm_e408_72 := xm_gt d_408_72
theorem xb_408_0 {sc : List Int} {f : Nat → List xm_V → xm_W → xm_R} {w : xm_W} {Q : Option xm_V × xm_W → Prop} {x0 : Nat} {x1 : Int} {x2 : Nat} {x3 : Int}
  (h : xm_O (xm_fi (xm_old sc) w x0 2 6) (fun z1 => if (z1 : Int) < 40 then (xm_O (xm_fi (xm_old sc) w x0 2 6) (fun z2 => xm_O (xm_fr (xm_old sc) w x0 2 5) (fun r3 => xm_O (xm_fi (xm_old sc) w x2 4 2) (fun z4 => xm_O (xm_seti w r3 (xm_w ((xm_w (z2 * 5)) + 0)) z4) (fun w5 => xm_O (xm_fr (xm_old sc) w5 x0 2 5) (fun r6 => xm_O (xm_seti w5 r6 (xm_w ((xm_w (z2 * 5)) + 1)) x3) (fun w7 => xm_O (xm_fr (xm_old sc) w7 x0 2 5) (fun r8 => xm_O (xm_fi (xm_old sc) w7 x2 4 0) (fun z9 => xm_O (xm_fi (xm_old sc) w7 x2 4 1) (fun z10 => xm_O (xm_fi (xm_old sc) w7 x2 4 3) (fun z11 => xm_Oi (f 153 [.inl z9, .inl z10, .inl z11] w7) (fun z13 w12 => xm_O (xm_seti w12 r8 (xm_w ((xm_w (z2 * 5)) + 2)) z13) (fun w14 => xm_O (xm_fr (xm_old sc) w14 x0 2 5) (fun r15 => xm_O (xm_fi (xm_old sc) w14 x0 2 2) (fun z16 => xm_O (xm_seti w14 r15 (xm_w ((xm_w (z2 * 5)) + 3)) z16) (fun w17 => xm_O (xm_fr (xm_old sc) w17 x0 2 5) (fun r18 => xm_O (xm_seti w17 r18 (xm_w ((xm_w (z2 * 5)) + 4)) x1) (fun w19 => xm_O (xm_fi (xm_old sc) w19 x0 2 6) (fun z20 => xm_O (xm_setf w19 x0 2 6 0 (.inl (xm_w (z20 + 1)))) (fun w21 => Q (none, w21))))))))))))))))))))) else (xm_O (xm_setf w x0 2 6 0 (.inl 39)) (fun w22 => xm_O (xm_fr (xm_old sc) w22 x0 2 5) (fun r23 => xm_O (xm_fr (xm_old sc) w22 x0 2 5) (fun r24 => xm_O (xm_fi (xm_old sc) w22 x0 2 6) (fun z25 => xm_O (xm_copy w22 r23 5 r24 0 (xm_w (z25 * 5))) (fun w26 => xm_O (xm_fi (xm_old sc) w26 x0 2 6) (fun z27 => xm_O (xm_fr (xm_old sc) w26 x0 2 5) (fun r28 => xm_O (xm_fi (xm_old sc) w26 x2 4 2) (fun z29 => xm_O (xm_seti w26 r28 (xm_w ((xm_w (z27 * 5)) + 0)) z29) (fun w30 => xm_O (xm_fr (xm_old sc) w30 x0 2 5) (fun r31 => xm_O (xm_seti w30 r31 (xm_w ((xm_w (z27 * 5)) + 1)) x3) (fun w32 => xm_O (xm_fr (xm_old sc) w32 x0 2 5) (fun r33 => xm_O (xm_fi (xm_old sc) w32 x2 4 0) (fun z34 => xm_O (xm_fi (xm_old sc) w32 x2 4 1) (fun z35 => xm_O (xm_fi (xm_old sc) w32 x2 4 3) (fun z36 => xm_Oi (f 153 [.inl z34, .inl z35, .inl z36] w32) (fun z38 w37 => xm_O (xm_seti w37 r33 (xm_w ((xm_w (z27 * 5)) + 2)) z38) (fun w39 => xm_O (xm_fr (xm_old sc) w39 x0 2 5) (fun r40 => xm_O (xm_fi (xm_old sc) w39 x0 2 2) (fun z41 => xm_O (xm_seti w39 r40 (xm_w ((xm_w (z27 * 5)) + 3)) z41) (fun w42 => xm_O (xm_fr (xm_old sc) w42 x0 2 5) (fun r43 => xm_O (xm_seti w42 r43 (xm_w ((xm_w (z27 * 5)) + 4)) x1) (fun w44 => xm_O (xm_fi (xm_old sc) w44 x0 2 6) (fun z45 => xm_O (xm_setf w44 x0 2 6 0 (.inl (xm_w (z45 + 1)))) (fun w46 => Q (none, w46)))))))))))))))))))))))))))) :
  xm_EQ (xm_old sc) xm_sta f xm_c408 0 [some (.inr (.inl (some x0))), some (.inl x1), some (.inr (.inl (some x2))), some (.inl x3), none] [] w Q :=
  (xq_aload_n k_408_0 rfl (xq_geti0 k_408_1 rfl h (fun z1 h => (xq_bipush k_408_2 (xq_ic_lt k_408_3 h (fun h => (xq_aload_n k_408_18 rfl (xq_geti0 k_408_19 rfl h (fun z2 h => (xq_iconst k_408_20 (xq_imul k_408_21 (xq_istore k_408_22 rfl (xq_aload_n k_408_23 rfl (xq_getr k_408_24 rfl h (fun r3 h => (xq_iload k_408_25 rfl (xq_iconst k_408_26 (xq_iadd k_408_27 (xq_aload_n k_408_28 rfl (xq_geti0 k_408_29 rfl h (fun z4 h => (xq_iastore k_408_30 h (fun w5 h => (xq_aload_n k_408_31 rfl (xq_getr k_408_32 rfl h (fun r6 h => (xq_iload k_408_33 rfl (xq_iconst k_408_34 (xq_iadd k_408_35 (xq_iload_n k_408_36 rfl (xq_iastore k_408_37 h (fun w7 h => (xq_aload_n k_408_38 rfl (xq_getr k_408_39 rfl h (fun r8 h => (xq_iload k_408_40 rfl (xq_iconst k_408_41 (xq_iadd k_408_42 (xq_aload_n k_408_43 rfl (xq_geti0 k_408_44 rfl h (fun z9 h => (xq_aload_n k_408_45 rfl (xq_geti0 k_408_46 rfl h (fun z10 h => (xq_aload_n k_408_47 rfl (xq_geti0 k_408_48 rfl h (fun z11 h => (xq_invs1 k_408_49 xr_153 rfl rfl rfl h (fun z13 w12 h => (xq_iastore k_408_50 h (fun w14 h => (xq_aload_n k_408_51 rfl (xq_getr k_408_52 rfl h (fun r15 h => (xq_iload k_408_53 rfl (xq_iconst k_408_54 (xq_iadd k_408_55 (xq_aload_n k_408_56 rfl (xq_geti0 k_408_57 rfl h (fun z16 h => (xq_iastore k_408_58 h (fun w17 h => (xq_aload_n k_408_59 rfl (xq_getr k_408_60 rfl h (fun r18 h => (xq_iload k_408_61 rfl (xq_iconst k_408_62 (xq_iadd k_408_63 (xq_iload_n k_408_64 rfl (xq_iastore k_408_65 h (fun w19 h => (xq_aload_n k_408_66 rfl (xq_dupr k_408_67 (xq_geti0 k_408_68 rfl h (fun z20 h => (xq_iconst k_408_69 (xq_iadd k_408_70 (xq_put k_408_71 rfl h (fun w21 h => (xq_return k_408_72 h))))))))))))))))))))))))))))))))))))))))))))))))))))))))))))))))))))))))))) (fun h => (xq_aload_n k_408_4 rfl (xq_bipush k_408_5 (xq_put k_408_6 rfl h (fun w22 h => (xq_aload_n k_408_7 rfl (xq_getr k_408_8 rfl h (fun r23 h => (xq_iconst k_408_9 (xq_aload_n k_408_10 rfl (xq_getr k_408_11 rfl h (fun r24 h => (xq_iconst k_408_12 (xq_aload_n k_408_13 rfl (xq_geti0 k_408_14 rfl h (fun z25 h => (xq_iconst k_408_15 (xq_imul k_408_16 (xq_copy k_408_17 rfl h (fun w26 h => (xq_aload_n k_408_18 rfl (xq_geti0 k_408_19 rfl h (fun z27 h => (xq_iconst k_408_20 (xq_imul k_408_21 (xq_istore k_408_22 rfl (xq_aload_n k_408_23 rfl (xq_getr k_408_24 rfl h (fun r28 h => (xq_iload k_408_25 rfl (xq_iconst k_408_26 (xq_iadd k_408_27 (xq_aload_n k_408_28 rfl (xq_geti0 k_408_29 rfl h (fun z29 h => (xq_iastore k_408_30 h (fun w30 h => (xq_aload_n k_408_31 rfl (xq_getr k_408_32 rfl h (fun r31 h => (xq_iload k_408_33 rfl (xq_iconst k_408_34 (xq_iadd k_408_35 (xq_iload_n k_408_36 rfl (xq_iastore k_408_37 h (fun w32 h => (xq_aload_n k_408_38 rfl (xq_getr k_408_39 rfl h (fun r33 h => (xq_iload k_408_40 rfl (xq_iconst k_408_41 (xq_iadd k_408_42 (xq_aload_n k_408_43 rfl (xq_geti0 k_408_44 rfl h (fun z34 h => (xq_aload_n k_408_45 rfl (xq_geti0 k_408_46 rfl h (fun z35 h => (xq_aload_n k_408_47 rfl (xq_geti0 k_408_48 rfl h (fun z36 h => (xq_invs1 k_408_49 xr_153 rfl rfl rfl h (fun z38 w37 h => (xq_iastore k_408_50 h (fun w39 h => (xq_aload_n k_408_51 rfl (xq_getr k_408_52 rfl h (fun r40 h => (xq_iload k_408_53 rfl (xq_iconst k_408_54 (xq_iadd k_408_55 (xq_aload_n k_408_56 rfl (xq_geti0 k_408_57 rfl h (fun z41 h => (xq_iastore k_408_58 h (fun w42 h => (xq_aload_n k_408_59 rfl (xq_getr k_408_60 rfl h (fun r43 h => (xq_iload k_408_61 rfl (xq_iconst k_408_62 (xq_iadd k_408_63 (xq_iload_n k_408_64 rfl (xq_iastore k_408_65 h (fun w44 h => (xq_aload_n k_408_66 rfl (xq_dupr k_408_67 (xq_geti0 k_408_68 rfl h (fun z45 h => (xq_iconst k_408_69 (xq_iadd k_408_70 (xq_put k_408_71 rfl h (fun w46 h => (xq_return k_408_72 h)))))))))))))))))))))))))))))))))))))))))))))))))))))))))))))))))))))))))))))))))))))))))))))))))))
/-- ShodBackwards$Moor.fade()V -/
theorem d_409_0 : List.drop 0 xm_c409 = xm_c409 := rfl
theorem k_409_0 : xm_gi xm_c409 0 = some xm_e409_0 := xm_gt d_409_0
theorem d_409_1 : List.drop 1 xm_c409 = xm_c409_1 := xm_dr d_409_0
theorem k_409_1 : xm_gi xm_c409 1 = some xm_e409_1 := xm_gt d_409_1
theorem d_409_2 : List.drop 2 xm_c409 = xm_c409_2 := xm_dr d_409_1
theorem k_409_2 : xm_gi xm_c409 2 = some xm_e409_2 := xm_gt d_409_2
theorem d_409_3 : List.drop 3 xm_c409 = xm_c409_3 := xm_dr d_409_2
theorem k_409_3 : xm_gi xm_c409 3 = some xm_e409_3 := xm_gt d_409_3
theorem d_409_4 : List.drop 4 xm_c409 = xm_c409_4 := xm_dr d_409_3
theorem k_409_4 : xm_gi xm_c409 4 = some xm_e409_4 := xm_gt d_409_4
theorem d_409_5 : List.drop 5 xm_c409 = xm_c409_5 := xm_dr d_409_4
theorem k_409_5 : xm_gi xm_c409 5 = some xm_e409_5 := xm_gt d_409_5
theorem d_409_6 : List.drop 6 xm_c409 = xm_c409_6 := xm_dr d_409_5
theorem k_409_6 : xm_gi xm_c409 6 = some xm_e409_6 := xm_gt d_409_6
theorem d_409_7 : List.drop 7 xm_c409 = xm_c409_7 := xm_dr d_409_6
theorem k_409_7 : xm_gi xm_c409 7 = some xm_e409_7 := xm_gt d_409_7
theorem d_409_8 : List.drop 8 xm_c409 = xm_c409_8 := xm_dr d_409_7
theorem k_409_8 : xm_gi xm_c409 8 = some xm_e409_8 := xm_gt d_409_8
theorem d_409_9 : List.drop 9 xm_c409 = xm_c409_9 := xm_dr d_409_8
theorem k_409_9 : xm_gi xm_c409 9 = some xm_e409_9 := xm_gt d_409_9
theorem d_409_10 : List.drop 10 xm_c409 = xm_c409_10 := xm_dr d_409_9
theorem k_409_10 : xm_gi xm_c409 10 = some xm_e409_10 := xm_gt d_409_10
theorem d_409_11 : List.drop 11 xm_c409 = xm_c409_11 := xm_dr d_409_10
theorem k_409_11 : xm_gi xm_c409 11 = some xm_e409_11 := xm_gt d_409_11
theorem d_409_12 : List.drop 12 xm_c409 = xm_c409_12 := xm_dr d_409_11
theorem k_409_12 : xm_gi xm_c409 12 = some xm_e409_12 := xm_gt d_409_12
theorem d_409_13 : List.drop 13 xm_c409 = xm_c409_13 := xm_dr d_409_12
theorem k_409_13 : xm_gi xm_c409 13 = some xm_e409_13 := xm_gt d_409_13
theorem d_409_14 : List.drop 14 xm_c409 = xm_c409_14 := xm_dr d_409_13
theorem k_409_14 : xm_gi xm_c409 14 = some xm_e409_14 := xm_gt d_409_14
theorem d_409_15 : List.drop 15 xm_c409 = xm_c409_15 := xm_dr d_409_14
theorem k_409_15 : xm_gi xm_c409 15 = some xm_e409_15 := xm_gt d_409_15
theorem d_409_16 : List.drop 16 xm_c409 = xm_c409_16 := xm_dr d_409_15
theorem k_409_16 : xm_gi xm_c409 16 = some xm_e409_16 := xm_gt d_409_16
theorem d_409_17 : List.drop 17 xm_c409 = xm_c409_17 := xm_dr d_409_16
theorem k_409_17 : xm_gi xm_c409 17 = some xm_e409_17 := xm_gt d_409_17
theorem d_409_18 : List.drop 18 xm_c409 = xm_c409_18 := xm_dr d_409_17
theorem k_409_18 : xm_gi xm_c409 18 = some xm_e409_18 := xm_gt d_409_18
theorem d_409_19 : List.drop 19 xm_c409 = xm_c409_19 := xm_dr d_409_18
theorem k_409_19 : xm_gi xm_c409 19 = some xm_e409_19 := xm_gt d_409_19
theorem d_409_20 : List.drop 20 xm_c409 = xm_c409_20 := xm_dr d_409_19
theorem k_409_20 : xm_gi xm_c409 20 = some xm_e409_20 := xm_gt d_409_20
theorem d_409_21 : List.drop 21 xm_c409 = xm_c409_21 := xm_dr d_409_20
theorem k_409_21 : xm_gi xm_c409 21 = some xm_e409_21 := xm_gt d_409_21
theorem d_409_22 : List.drop 22 xm_c409 = xm_c409_22 := xm_dr d_409_21
theorem k_409_22 : xm_gi xm_c409 22 = some xm_e409_22 := xm_gt d_409_22
theorem d_409_23 : List.drop 23 xm_c409 = xm_c409_23 := xm_dr d_409_22
theorem k_409_23 : xm_gi xm_c409 23 = some xm_e409_23 := xm_gt d_409_23
theorem d_409_24 : List.drop 24 xm_c409 = xm_c409_24 := xm_dr d_409_23
theorem k_409_24 : xm_gi xm_c409 24 = some xm_e409_24 := xm_gt d_409_24
theorem d_409_25 : List.drop 25 xm_c409 = xm_c409_25 := xm_dr d_409_24
theorem k_409_25 : xm_gi xm_c409 25 = some xm_e409_25 := xm_gt d_409_25
theorem d_409_26 : List.drop 26 xm_c409 = xm_c409_26 := xm_dr d_409_25
theorem k_409_26 : xm_gi xm_c409 26 = some xm_e409_26 := xm_gt d_409_26
theorem d_409_27 : List.drop 27 xm_c409 = xm_c409_27 := xm_dr d_409_26
theorem k_409_27 : xm_gi xm_c409 27 = some xm_e409_27 := xm_gt d_409_27
theorem d_409_28 : List.drop 28 xm_c409 = xm_c409_28 := xm_dr d_409_27
theorem k_409_28 : xm_gi xm_c409 28 = some xm_e409_28 := xm_gt d_409_28
theorem d_409_29 : List.drop 29 xm_c409 = xm_c409_29 := xm_dr d_409_28
theorem k_409_29 : xm_gi xm_c409 29 = some xm_e409_29 := xm_gt d_409_29
theorem d_409_30 : List.drop 30 xm_c409 = xm_c409_30 := xm_dr d_409_29
theorem k_409_30 : xm_gi xm_c409 30 = some xm_e409_30 := xm_gt d_409_30
theorem d_409_31 : List.drop 31 xm_c409 = xm_c409_31 := xm_dr d_409_30
theorem k_409_31 : xm_gi xm_c409 31 = some xm_e409_31 := xm_gt d_409_31
theorem d_409_32 : List.drop 32 xm_c409 = xm_c409_32 := xm_dr d_409_31
theorem k_409_32 : xm_gi xm_c409 32 = some xm_e409_32 := xm_gt d_409_32
theorem d_409_33 : List.drop 33 xm_c409 = xm_c409_33 := xm_dr d_409_32
theorem k_409_33 : xm_gi xm_c409 33 = some xm_e409_33 := xm_gt d_409_33
theorem d_409_34 : List.drop 34 xm_c409 = xm_c409_34 := xm_dr d_409_33
theorem k_409_34 : xm_gi xm_c409 34 = some xm_e409_34 := xm_gt d_409_34
theorem d_409_35 : List.drop 35 xm_c409 = xm_c409_35 := xm_dr d_409_34
theorem k_409_35 : xm_gi xm_c409 35 = some xm_e409_35 := xm_gt d_409_35
theorem d_409_36 : List.drop 36 xm_c409 = xm_c409_36 := xm_dr d_409_35
theorem k_409_36 : xm_gi xm_c409 36 = some xm_e409_36 := xm_gt d_409_36
theorem d_409_37 : List.drop 37 xm_c409 = xm_c409_37 := xm_dr d_409_36
theorem k_409_37 : xm_gi xm_c409 37 = some xm_e409_37 := xm_gt d_409_37
theorem d_409_38 : List.drop 38 xm_c409 = xm_c409_38 := xm_dr d_409_37
theorem k_409_38 : xm_gi xm_c409 38 = some xm_e409_38 := xm_gt d_409_38
theorem d_409_39 : List.drop 39 xm_c409 = xm_c409_39 := xm_dr d_409_38
theorem k_409_39 : xm_gi xm_c409 39 = some xm_e409_39 := xm_gt d_409_39
theorem d_409_40 : List.drop 40 xm_c409 = xm_c409_40 := xm_dr d_409_39
theorem k_409_40 : xm_gi xm_c409 40 = some xm_e409_40 := xm_gt d_409_40
theorem d_409_41 : List.drop 41 xm_c409 = xm_c409_41 := xm_dr d_409_40
theorem k_409_41 : xm_gi xm_c409 41 = some xm_e409_41 := xm_gt d_409_41
theorem d_409_42 : List.drop 42 xm_c409 = xm_c409_42 := xm_dr d_409_41
theorem k_409_42 : xm_gi xm_c409 42 = some xm_e409_42 := xm_gt d_409_42
theorem xb_409_0 {sc : List Int} {f : Nat → List xm_V → xm_W → xm_R} {w : xm_W} {Q : Option xm_V × xm_W → Prop} {x0 : Nat}
  (h : xm_EQ (xm_old sc) xm_sta f xm_c409 4 [some (.inr (.inl (some x0))), some (.inl 0), some (.inl 0), none] [] w Q) :
  xm_EQ (xm_old sc) xm_sta f xm_c409 0 [some (.inr (.inl (some x0))), none, none, none] [] w Q :=
  (xq_iconst k_409_0 (xq_istore_n k_409_1 rfl (xq_iconst k_409_2 (xq_istore_n k_409_3 rfl h))))
theorem xb_409_4 {sc : List Int} {f : Nat → List xm_V → xm_W → xm_R} {w : xm_W} {Q : Option xm_V × xm_W → Prop} {x0 : Nat} {x1 : Int} {x2 : Int} {u3 : Option xm_V}
  (h : xm_O (xm_fi (xm_old sc) w x0 2 6) (fun z1 => if (x2 : Int) < z1 then (xm_O (xm_fr (xm_old sc) w x0 2 5) (fun r3 => xm_O (xm_ints (xm_old sc) w r3) (fun l4 => xm_O (xm_at l4 (xm_w ((xm_w (x2 * 5)) + 0))) (fun z5 => xm_O (xm_fi (xm_old sc) w x0 2 2) (fun z6 => xm_O (xm_fr (xm_old sc) w x0 2 5) (fun r7 => xm_O (xm_ints (xm_old sc) w r7) (fun l8 => xm_O (xm_at l8 (xm_w ((xm_w (x2 * 5)) + 3))) (fun z9 => xm_Oi (f 403 [.inr (.inl (some x0)), .inl z5] w) (fun z11 w10 => if ((xm_w (z9 + z11)) : Int) < z6 then (xm_EQ (xm_old sc) xm_sta f xm_c409 4 [some (.inr (.inl (some x0))), some (.inl x1), some (.inl (xm_w (x2 + 1))), some (.inl z5)] [] w10 Q) else (xm_Ov (f 411 [.inr (.inl (some x0)), .inl x2, .inl x1] w10) (fun w12 => xm_EQ (xm_old sc) xm_sta f xm_c409 4 [some (.inr (.inl (some x0))), some (.inl (xm_w (x1 + 1))), some (.inl (xm_w (x2 + 1))), some (.inl z5)] [] w12 Q))))))))))) else (xm_O (xm_setf w x0 2 6 0 (.inl x1)) (fun w2 => Q (none, w2))))) :
  xm_EQ (xm_old sc) xm_sta f xm_c409 4 [some (.inr (.inl (some x0))), some (.inl x1), some (.inl x2), u3] [] w Q :=
  (xq_iload_n k_409_4 rfl (xq_aload_n k_409_5 rfl (xq_geti0 k_409_6 rfl h (fun z1 h => (xq_ic_ge k_409_7 h (fun h => (xq_aload_n k_409_8 rfl (xq_getr k_409_9 rfl h (fun r3 h => (xq_iload_n k_409_10 rfl (xq_iconst k_409_11 (xq_imul k_409_12 (xq_iconst k_409_13 (xq_iadd k_409_14 (xq_iaload k_409_15 h (fun l4 h => h) (fun l4 z5 h => (xq_istore_n k_409_16 rfl (xq_aload_n k_409_17 rfl (xq_geti0 k_409_18 rfl h (fun z6 h => (xq_aload_n k_409_19 rfl (xq_getr k_409_20 rfl h (fun r7 h => (xq_iload_n k_409_21 rfl (xq_iconst k_409_22 (xq_imul k_409_23 (xq_iconst k_409_24 (xq_iadd k_409_25 (xq_iaload k_409_26 h (fun l8 h => h) (fun l8 z9 h => (xq_aload_n k_409_27 rfl (xq_iload_n k_409_28 rfl (xq_invv1 k_409_29 xr_403 rfl rfl rfl h (fun z11 w10 h => (xq_iadd k_409_30 (xq_ic_gt k_409_31 h (fun h => (xq_iinc k_409_37 rfl rfl (xq_goto k_409_38 h))) (fun h => (xq_aload_n k_409_32 rfl (xq_iload_n k_409_33 rfl (xq_iload_n k_409_34 rfl (xq_invv0 k_409_35 xr_411 rfl rfl rfl h (fun w12 h => (xq_iinc k_409_36 rfl rfl (xq_iinc k_409_37 rfl rfl (xq_goto k_409_38 h)))))))))))))))))))))))))))))))))))))))) (fun h => (xq_aload_n k_409_39 rfl (xq_iload_n k_409_40 rfl (xq_put k_409_41 rfl h (fun w2 h => (xq_return k_409_42 h)))))))))))
/-- ShodBackwards$Moor.tread(I)V -/
theorem d_410_0 : List.drop 0 xm_c410 = xm_c410 := rfl
theorem k_410_0 : xm_gi xm_c410 0 = some xm_e410_0 := xm_gt d_410_0
theorem d_410_1 : List.drop 1 xm_c410 = xm_c410_1 := xm_dr d_410_0
theorem k_410_1 : xm_gi xm_c410 1 = some xm_e410_1 := xm_gt d_410_1
theorem d_410_2 : List.drop 2 xm_c410 = xm_c410_2 := xm_dr d_410_1
theorem k_410_2 : xm_gi xm_c410 2 = some xm_e410_2 := xm_gt d_410_2
theorem d_410_3 : List.drop 3 xm_c410 = xm_c410_3 := xm_dr d_410_2
theorem k_410_3 : xm_gi xm_c410 3 = some xm_e410_3 := xm_gt d_410_3
theorem d_410_4 : List.drop 4 xm_c410 = xm_c410_4 := xm_dr d_410_3
theorem k_410_4 : xm_gi xm_c410 4 = some xm_e410_4 := xm_gt d_410_4
theorem d_410_5 : List.drop 5 xm_c410 = xm_c410_5 := xm_dr d_410_4
theorem k_410_5 : xm_gi xm_c410 5 = some xm_e410_5 := xm_gt d_410_5
theorem d_410_6 : List.drop 6 xm_c410 = xm_c410_6 := xm_dr d_410_5
theorem k_410_6 : xm_gi xm_c410 6 = some xm_e410_6 := xm_gt d_410_6
theorem d_410_7 : List.drop 7 xm_c410 = xm_c410_7 := xm_dr d_410_6
theorem k_410_7 : xm_gi xm_c410 7 = some xm_e410_7 := xm_gt d_410_7
theorem d_410_8 : List.drop 8 xm_c410 = xm_c410_8 := xm_dr d_410_7
theorem k_410_8 : xm_gi xm_c410 8 = some xm_e410_8 := xm_gt d_410_8
theorem d_410_9 : List.drop 9 xm_c410 = xm_c410_9 := xm_dr d_410_8
theorem k_410_9 : xm_gi xm_c410 9 = some xm_e410_9 := xm_gt d_410_9
theorem d_410_10 : List.drop 10 xm_c410 = xm_c410_10 := xm_dr d_410_9
theorem k_410_10 : xm_gi xm_c410 10 = some xm_e410_10 := xm_gt d_410_10
theorem d_410_11 : List.drop 11 xm_c410 = xm_c410_11 := xm_dr d_410_10
theorem k_410_11 : xm_gi xm_c410 11 = some xm_e410_11 := xm_gt d_410_11
theorem d_410_12 : List.drop 12 xm_c410 = xm_c410_12 := xm_dr d_410_11
theorem k_410_12 : xm_gi xm_c410 12 = some xm_e410_12 := xm_gt d_410_12
theorem d_410_13 : List.drop 13 xm_c410 = xm_c410_13 := xm_dr d_410_12
theorem k_410_13 : xm_gi xm_c410 13 = some xm_e410_13 := xm_gt d_410_13
theorem d_410_14 : List.drop 14 xm_c410 = xm_c410_14 := xm_dr d_410_13
theorem k_410_14 : xm_gi xm_c410 14 = some xm_e410_14 := xm_gt d_410_14
theorem d_410_15 : List.drop 15 xm_c410 = xm_c410_15 := xm_dr d_410_14
theorem k_410_15 : xm_gi xm_c410 15 = some xm_e410_15 := xm_gt d_410_15
theorem d_410_16 : List.drop 16 xm_c410 = xm_c410_16 := xm_dr d_410_15
theorem k_410_16 : xm_gi xm_c410 16 = some xm_e410_16 := xm_gt d_410_16
theorem d_410_17 : List.drop 17 xm_c410 = xm_c410_17 := xm_dr d_410_16
theorem k_410_17 : xm_gi xm_c410 17 = some xm_e410_17 := xm_gt d_410_17
theorem d_410_18 : List.drop 18 xm_c410 = xm_c410_18 := xm_dr d_410_17
theorem k_410_18 : xm_gi xm_c410 18 = some xm_e410_18 := xm_gt d_410_18
theorem d_410_19 : List.drop 19 xm_c410 = xm_c410_19 := xm_dr d_410_18
theorem k_410_19 : xm_gi xm_c410 19 = some xm_e410_19 := xm_gt d_410_19
theorem d_410_20 : List.drop 20 xm_c410 = xm_c410_20 := xm_dr d_410_19
theorem k_410_20 : xm_gi xm_c410 20 = some xm_e410_20 := xm_gt d_410_20
theorem d_410_21 : List.drop 21 xm_c410 = xm_c410_21 := xm_dr d_410_20
theorem k_410_21 : xm_gi xm_c410 21 = some xm_e410_21 := xm_gt d_410_21
theorem d_410_22 : List.drop 22 xm_c410 = xm_c410_22 := xm_dr d_410_21
theorem k_410_22 : xm_gi xm_c410 22 = some xm_e410_22 := xm_gt d_410_22
theorem d_410_23 : List.drop 23 xm_c410 = xm_c410_23 := xm_dr d_410_22
theorem k_410_23 : xm_gi xm_c410 23 = some xm_e410_23 := xm_gt d_410_23
theorem d_410_24 : List.drop 24 xm_c410 = xm_c410_24 := xm_dr d_410_23
theorem k_410_24 : xm_gi xm_c410 24 = some xm_e410_24 := xm_gt d_410_24
theorem d_410_25 : List.drop 25 xm_c410 = xm_c410_25 := xm_dr d_410_24
theorem k_410_25 : xm_gi xm_c410 25 = some xm_e410_25 := xm_gt d_410_25
theorem d_410_26 : List.drop 26 xm_c410 = xm_c410_26 := xm_dr d_410_25
theorem k_410_26 : xm_gi xm_c410 26 = some xm_e410_26 := xm_gt d_410_26
theorem d_410_27 : List.drop 27 xm_c410 = xm_c410_27 := xm_dr d_410_26
theorem k_410_27 : xm_gi xm_c410 27 = some xm_e410_27 := xm_gt d_410_27
theorem d_410_28 : List.drop 28 xm_c410 = xm_c410_28 := xm_dr d_410_27
theorem k_410_28 : xm_gi xm_c410 28 = some xm_e410_28 := xm_gt d_410_28
theorem xb_410_0 {sc : List Int} {f : Nat → List xm_V → xm_W → xm_R} {w : xm_W} {Q : Option xm_V × xm_W → Prop} {x0 : Nat} {x1 : Int}
  (h : xm_EQ (xm_old sc) xm_sta f xm_c410 4 [some (.inr (.inl (some x0))), some (.inl x1), some (.inl 0), some (.inl 0)] [] w Q) :
  xm_EQ (xm_old sc) xm_sta f xm_c410 0 [some (.inr (.inl (some x0))), some (.inl x1), none, none] [] w Q :=
  (xq_iconst k_410_0 (xq_istore_n k_410_1 rfl (xq_iconst k_410_2 (xq_istore_n k_410_3 rfl h))))
theorem xb_410_4 {sc : List Int} {f : Nat → List xm_V → xm_W → xm_R} {w : xm_W} {Q : Option xm_V × xm_W → Prop} {x0 : Nat} {x1 : Int} {x2 : Int} {x3 : Int}
  (h : xm_O (xm_fi (xm_old sc) w x0 2 6) (fun z1 => if (x3 : Int) < z1 then (xm_O (xm_fr (xm_old sc) w x0 2 5) (fun r3 => xm_O (xm_ints (xm_old sc) w r3) (fun l4 => xm_O (xm_at l4 (xm_w ((xm_w (x3 * 5)) + 0))) (fun z5 => if (z5 : Int) = x1 then (xm_EQ (xm_old sc) xm_sta f xm_c410 4 [some (.inr (.inl (some x0))), some (.inl x1), some (.inl x2), some (.inl (xm_w (x3 + 1)))] [] w Q) else (xm_Ov (f 411 [.inr (.inl (some x0)), .inl x3, .inl x2] w) (fun w6 => xm_EQ (xm_old sc) xm_sta f xm_c410 4 [some (.inr (.inl (some x0))), some (.inl x1), some (.inl (xm_w (x2 + 1))), some (.inl (xm_w (x3 + 1)))] [] w6 Q)))))) else (xm_O (xm_setf w x0 2 6 0 (.inl x2)) (fun w2 => Q (none, w2))))) :
  xm_EQ (xm_old sc) xm_sta f xm_c410 4 [some (.inr (.inl (some x0))), some (.inl x1), some (.inl x2), some (.inl x3)] [] w Q :=
  (xq_iload_n k_410_4 rfl (xq_aload_n k_410_5 rfl (xq_geti0 k_410_6 rfl h (fun z1 h => (xq_ic_ge k_410_7 h (fun h => (xq_aload_n k_410_8 rfl (xq_getr k_410_9 rfl h (fun r3 h => (xq_iload_n k_410_10 rfl (xq_iconst k_410_11 (xq_imul k_410_12 (xq_iconst k_410_13 (xq_iadd k_410_14 (xq_iaload k_410_15 h (fun l4 h => h) (fun l4 z5 h => (xq_iload_n k_410_16 rfl (xq_ic_eq k_410_17 h (fun h => (xq_iinc k_410_23 rfl rfl (xq_goto k_410_24 h))) (fun h => (xq_aload_n k_410_18 rfl (xq_iload_n k_410_19 rfl (xq_iload_n k_410_20 rfl (xq_invv0 k_410_21 xr_411 rfl rfl rfl h (fun w6 h => (xq_iinc k_410_22 rfl rfl (xq_iinc k_410_23 rfl rfl (xq_goto k_410_24 h)))))))))))))))))))))) (fun h => (xq_aload_n k_410_25 rfl (xq_iload_n k_410_26 rfl (xq_put k_410_27 rfl h (fun w2 h => (xq_return k_410_28 h)))))))))))
/-- ShodBackwards$Moor.keepPrint(II)V -/
theorem d_411_0 : List.drop 0 xm_c411 = xm_c411 := rfl
theorem k_411_0 : xm_gi xm_c411 0 = some xm_e411_0 := xm_gt d_411_0
theorem d_411_1 : List.drop 1 xm_c411 = xm_c411_1 := xm_dr d_411_0
theorem k_411_1 : xm_gi xm_c411 1 = some xm_e411_1 := xm_gt d_411_1
theorem d_411_2 : List.drop 2 xm_c411 = xm_c411_2 := xm_dr d_411_1
theorem k_411_2 : xm_gi xm_c411 2 = some xm_e411_2 := xm_gt d_411_2
theorem d_411_3 : List.drop 3 xm_c411 = xm_c411_3 := xm_dr d_411_2
theorem k_411_3 : xm_gi xm_c411 3 = some xm_e411_3 := xm_gt d_411_3
theorem d_411_4 : List.drop 4 xm_c411 = xm_c411_4 := xm_dr d_411_3
theorem k_411_4 : xm_gi xm_c411 4 = some xm_e411_4 := xm_gt d_411_4
theorem d_411_5 : List.drop 5 xm_c411 = xm_c411_5 := xm_dr d_411_4
theorem k_411_5 : xm_gi xm_c411 5 = some xm_e411_5 := xm_gt d_411_5
theorem d_411_6 : List.drop 6 xm_c411 = xm_c411_6 := xm_dr d_411_5
theorem k_411_6 : xm_gi xm_c411 6 = some xm_e411_6 := xm_gt d_411_6
theorem d_411_7 : List.drop 7 xm_c411 = xm_c411_7 := xm_dr d_411_6
theorem k_411_7 : xm_gi xm_c411 7 = some xm_e411_7 := xm_gt d_411_7
theorem d_411_8 : List.drop 8 xm_c411 = xm_c411_8 := xm_dr d_411_7
theorem k_411_8 : xm_gi xm_c411 8 = some xm_e411_8 := xm_gt d_411_8
theorem d_411_9 : List.drop 9 xm_c411 = xm_c411_9 := xm_dr d_411_8
theorem k_411_9 : xm_gi xm_c411 9 = some xm_e411_9 := xm_gt d_411_9
theorem d_411_10 : List.drop 10 xm_c411 = xm_c411_10 := xm_dr d_411_9
theorem k_411_10 : xm_gi xm_c411 10 = some xm_e411_10 := xm_gt d_411_10
theorem d_411_11 : List.drop 11 xm_c411 = xm_c411_11 := xm_dr d_411_10
theorem k_411_11 : xm_gi xm_c411 11 = some xm_e411_11 := xm_gt d_411_11
theorem d_411_12 : List.drop 12 xm_c411 = xm_c411_12 := xm_dr d_411_11
theorem k_411_12 : xm_gi xm_c411 12 = some xm_e411_12 := xm_gt d_411_12
theorem xb_411_0 {sc : List Int} {f : Nat → List xm_V → xm_W → xm_R} {w : xm_W} {Q : Option xm_V × xm_W → Prop} {x0 : Nat} {x1 : Int} {x2 : Int}
  (h : xm_O (xm_fr (xm_old sc) w x0 2 5) (fun r1 => xm_O (xm_fr (xm_old sc) w x0 2 5) (fun r2 => xm_O (xm_copy w r1 (xm_w (x1 * 5)) r2 (xm_w (x2 * 5)) 5) (fun w3 => Q (none, w3))))) :
  xm_EQ (xm_old sc) xm_sta f xm_c411 0 [some (.inr (.inl (some x0))), some (.inl x1), some (.inl x2)] [] w Q :=
  (xq_aload_n k_411_0 rfl (xq_getr k_411_1 rfl h (fun r1 h => (xq_iload_n k_411_2 rfl (xq_iconst k_411_3 (xq_imul k_411_4 (xq_aload_n k_411_5 rfl (xq_getr k_411_6 rfl h (fun r2 h => (xq_iload_n k_411_7 rfl (xq_iconst k_411_8 (xq_imul k_411_9 (xq_iconst k_411_10 (xq_copy k_411_11 rfl h (fun w3 h => (xq_return k_411_12 h))))))))))))))))
/-- ShodBackwards$Moor.riderFact(II)I -/
theorem d_412_0 : List.drop 0 xm_c412 = xm_c412 := rfl
theorem k_412_0 : xm_gi xm_c412 0 = some xm_e412_0 := xm_gt d_412_0
theorem d_412_1 : List.drop 1 xm_c412 = xm_c412_1 := xm_dr d_412_0
theorem k_412_1 : xm_gi xm_c412 1 = some xm_e412_1 := xm_gt d_412_1
theorem d_412_2 : List.drop 2 xm_c412 = xm_c412_2 := xm_dr d_412_1
theorem k_412_2 : xm_gi xm_c412 2 = some xm_e412_2 := xm_gt d_412_2
theorem d_412_3 : List.drop 3 xm_c412 = xm_c412_3 := xm_dr d_412_2
theorem k_412_3 : xm_gi xm_c412 3 = some xm_e412_3 := xm_gt d_412_3
theorem d_412_4 : List.drop 4 xm_c412 = xm_c412_4 := xm_dr d_412_3
theorem k_412_4 : xm_gi xm_c412 4 = some xm_e412_4 := xm_gt d_412_4
theorem d_412_5 : List.drop 5 xm_c412 = xm_c412_5 := xm_dr d_412_4
theorem k_412_5 : xm_gi xm_c412 5 = some xm_e412_5 := xm_gt d_412_5
theorem d_412_6 : List.drop 6 xm_c412 = xm_c412_6 := xm_dr d_412_5
theorem k_412_6 : xm_gi xm_c412 6 = some xm_e412_6 := xm_gt d_412_6
theorem d_412_7 : List.drop 7 xm_c412 = xm_c412_7 := xm_dr d_412_6
theorem k_412_7 : xm_gi xm_c412 7 = some xm_e412_7 := xm_gt d_412_7
theorem d_412_8 : List.drop 8 xm_c412 = xm_c412_8 := xm_dr d_412_7
theorem k_412_8 : xm_gi xm_c412 8 = some xm_e412_8 := xm_gt d_412_8
theorem d_412_9 : List.drop 9 xm_c412 = xm_c412_9 := xm_dr d_412_8
theorem k_412_9 : xm_gi xm_c412 9 = some xm_e412_9 := xm_gt d_412_9
theorem d_412_10 : List.drop 10 xm_c412 = xm_c412_10 := xm_dr d_412_9
theorem k_412_10 : xm_gi xm_c412 10 = some xm_e412_10 := xm_gt d_412_10
theorem d_412_11 : List.drop 11 xm_c412 = xm_c412_11 := xm_dr d_412_10
theorem k_412_11 : xm_gi xm_c412 11 = some xm_e412_11 := xm_gt d_412_11
theorem d_412_12 : List.drop 12 xm_c412 = xm_c412_12 := xm_dr d_412_11
theorem k_412_12 : xm_gi xm_c412 12 = some xm_e412_12 := xm_gt d_412_12
theorem d_412_13 : List.drop 13 xm_c412 = xm_c412_13 := xm_dr d_412_12
theorem k_412_13 : xm_gi xm_c412 13 = some xm_e412_13 := xm_gt d_412_13
theorem d_412_14 : List.drop 14 xm_c412 = xm_c412_14 := xm_dr d_412_13
theorem k_412_14 : xm_gi xm_c412 14 = some xm_e412_14 := xm_gt d_412_14
theorem xb_412_0 {sc : List Int} {f : Nat → List xm_V → xm_W → xm_R} {w : xm_W} {Q : Option xm_V × xm_W → Prop} {x0 : Nat} {x1 : Int} {x2 : Int}
  (h : if (x2 : Int) = 7 then (xm_Oi (f 414 [.inr (.inl (some x0)), .inl 4, .inl x1] w) (fun z7 w6 => Q (some (.inl z7), w6))) else (xm_O (xm_fr (xm_old sc) w x0 2 3) (fun r1 => xm_O (xm_refs (xm_old sc) w r1) (fun l2 => xm_O (xm_at l2 x1) (fun r3 => xm_Oi (f 607 [.inr (.inl r3), .inl x2] w) (fun z5 w4 => Q (some (.inl z5), w4))))))) :
  xm_EQ (xm_old sc) xm_sta f xm_c412 0 [some (.inr (.inl (some x0))), some (.inl x1), some (.inl x2)] [] w Q :=
  (xq_iload_n k_412_0 rfl (xq_bipush k_412_1 (xq_ic_ne k_412_2 h (fun h => (xq_aload_n k_412_3 rfl (xq_iconst k_412_4 (xq_iload_n k_412_5 rfl (xq_invv1 k_412_6 xr_414 rfl rfl rfl h (fun z7 w6 h => (xq_goto k_412_7 (xq_ireturn k_412_14 h)))))))) (fun h => (xq_aload_n k_412_8 rfl (xq_getr k_412_9 rfl h (fun r1 h => (xq_iload_n k_412_10 rfl (xq_aaload k_412_11 h (fun l2 h => h) (fun l2 r3 h => (xq_iload_n k_412_12 rfl (xq_invv1 k_412_13 xr_607 rfl rfl rfl h (fun z5 w4 h => (xq_ireturn k_412_14 h))))))))))))))
/-- ShodBackwards$Moor.cellFact(II)I -/
theorem d_413_0 : List.drop 0 xm_c413 = xm_c413 := rfl
theorem k_413_0 : xm_gi xm_c413 0 = some xm_e413_0 := xm_gt d_413_0
theorem d_413_1 : List.drop 1 xm_c413 = xm_c413_1 := xm_dr d_413_0
theorem k_413_1 : xm_gi xm_c413 1 = some xm_e413_1 := xm_gt d_413_1
theorem d_413_2 : List.drop 2 xm_c413 = xm_c413_2 := xm_dr d_413_1
theorem k_413_2 : xm_gi xm_c413 2 = some xm_e413_2 := xm_gt d_413_2
theorem d_413_3 : List.drop 3 xm_c413 = xm_c413_3 := xm_dr d_413_2
theorem k_413_3 : xm_gi xm_c413 3 = some xm_e413_3 := xm_gt d_413_3
theorem d_413_4 : List.drop 4 xm_c413 = xm_c413_4 := xm_dr d_413_3
theorem k_413_4 : xm_gi xm_c413 4 = some xm_e413_4 := xm_gt d_413_4
theorem d_413_5 : List.drop 5 xm_c413 = xm_c413_5 := xm_dr d_413_4
theorem k_413_5 : xm_gi xm_c413 5 = some xm_e413_5 := xm_gt d_413_5
theorem d_413_6 : List.drop 6 xm_c413 = xm_c413_6 := xm_dr d_413_5
theorem k_413_6 : xm_gi xm_c413 6 = some xm_e413_6 := xm_gt d_413_6
theorem d_413_7 : List.drop 7 xm_c413 = xm_c413_7 := xm_dr d_413_6
theorem k_413_7 : xm_gi xm_c413 7 = some xm_e413_7 := xm_gt d_413_7
theorem d_413_8 : List.drop 8 xm_c413 = xm_c413_8 := xm_dr d_413_7
theorem k_413_8 : xm_gi xm_c413 8 = some xm_e413_8 := xm_gt d_413_8
theorem d_413_9 : List.drop 9 xm_c413 = xm_c413_9 := xm_dr d_413_8
theorem k_413_9 : xm_gi xm_c413 9 = some xm_e413_9 := xm_gt d_413_9
theorem d_413_10 : List.drop 10 xm_c413 = xm_c413_10 := xm_dr d_413_9
theorem k_413_10 : xm_gi xm_c413 10 = some xm_e413_10 := xm_gt d_413_10
theorem d_413_11 : List.drop 11 xm_c413 = xm_c413_11 := xm_dr d_413_10
theorem k_413_11 : xm_gi xm_c413 11 = some xm_e413_11 := xm_gt d_413_11
theorem d_413_12 : List.drop 12 xm_c413 = xm_c413_12 := xm_dr d_413_11
theorem k_413_12 : xm_gi xm_c413 12 = some xm_e413_12 := xm_gt d_413_12
theorem d_413_13 : List.drop 13 xm_c413 = xm_c413_13 := xm_dr d_413_12
theorem k_413_13 : xm_gi xm_c413 13 = some xm_e413_13 := xm_gt d_413_13
theorem d_413_14 : List.drop 14 xm_c413 = xm_c413_14 := xm_dr d_413_13
theorem k_413_14 : xm_gi xm_c413 14 = some xm_e413_14 := xm_gt d_413_14
theorem d_413_15 : List.drop 15 xm_c413 = xm_c413_15 := xm_dr d_413_14
theorem k_413_15 : xm_gi xm_c413 15 = some xm_e413_15 := xm_gt d_413_15
theorem d_413_16 : List.drop 16 xm_c413 = xm_c413_16 := xm_dr d_413_15
theorem k_413_16 : xm_gi xm_c413 16 = some xm_e413_16 := xm_gt d_413_16
theorem d_413_17 : List.drop 17 xm_c413 = xm_c413_17 := xm_dr d_413_16
theorem k_413_17 : xm_gi xm_c413 17 = some xm_e413_17 := xm_gt d_413_17
theorem d_413_18 : List.drop 18 xm_c413 = xm_c413_18 := xm_dr d_413_17
theorem k_413_18 : xm_gi xm_c413 18 = some xm_e413_18 := xm_gt d_413_18
theorem d_413_19 : List.drop 19 xm_c413 = xm_c413_19 := xm_dr d_413_18
theorem k_413_19 : xm_gi xm_c413 19 = some xm_e413_19 := xm_gt d_413_19
theorem d_413_20 : List.drop 20 xm_c413 = xm_c413_20 := xm_dr d_413_19
theorem k_413_20 : xm_gi xm_c413 20 = some xm_e413_20 := xm_gt d_413_20
theorem d_413_21 : List.drop 21 xm_c413 = xm_c413_21 := xm_dr d_413_20
theorem k_413_21 : xm_gi xm_c413 21 = some xm_e413_21 := xm_gt d_413_21
theorem d_413_22 : List.drop 22 xm_c413 = xm_c413_22 := xm_dr d_413_21
theorem k_413_22 : xm_gi xm_c413 22 = some xm_e413_22 := xm_gt d_413_22
theorem d_413_23 : List.drop 23 xm_c413 = xm_c413_23 := xm_dr d_413_22
theorem k_413_23 : xm_gi xm_c413 23 = some xm_e413_23 := xm_gt d_413_23
theorem d_413_24 : List.drop 24 xm_c413 = xm_c413_24 := xm_dr d_413_23
theorem k_413_24 : xm_gi xm_c413 24 = some xm_e413_24 := xm_gt d_413_24
theorem d_413_25 : List.drop 25 xm_c413 = xm_c413_25 := xm_dr d_413_24
theorem k_413_25 : xm_gi xm_c413 25 = some xm_e413_25 := xm_gt d_413_25
theorem d_413_26 : List.drop 26 xm_c413 = xm_c413_26 := xm_dr d_413_25
theorem k_413_26 : xm_gi xm_c413 26 = some xm_e413_26 := xm_gt d_413_26
theorem d_413_27 : List.drop 27 xm_c413 = xm_c413_27 := xm_dr d_413_26
theorem k_413_27 : xm_gi xm_c413 27 = some xm_e413_27 := xm_gt d_413_27
theorem d_413_28 : List.drop 28 xm_c413 = xm_c413_28 := xm_dr d_413_27
theorem k_413_28 : xm_gi xm_c413 28 = some xm_e413_28 := xm_gt d_413_28
theorem d_413_29 : List.drop 29 xm_c413 = xm_c413_29 := xm_dr d_413_28
theorem k_413_29 : xm_gi xm_c413 29 = some xm_e413_29 := xm_gt d_413_29
theorem d_413_30 : List.drop 30 xm_c413 = xm_c413_30 := xm_dr d_413_29
theorem k_413_30 : xm_gi xm_c413 30 = some xm_e413_30 := xm_gt d_413_30
theorem d_413_31 : List.drop 31 xm_c413 = xm_c413_31 := xm_dr d_413_30
theorem k_413_31 : xm_gi xm_c413 31 = some xm_e413_31 := xm_gt d_413_31
theorem d_413_32 : List.drop 32 xm_c413 = xm_c413_32 := xm_dr d_413_31
theorem k_413_32 : xm_gi xm_c413 32 = some xm_e413_32 := xm_gt d_413_32
theorem d_413_33 : List.drop 33 xm_c413 = xm_c413_33 := xm_dr d_413_32
theorem k_413_33 : xm_gi xm_c413 33 = some xm_e413_33 := xm_gt d_413_33
theorem d_413_34 : List.drop 34 xm_c413 = xm_c413_34 := xm_dr d_413_33
theorem k_413_34 : xm_gi xm_c413 34 = some xm_e413_34 := xm_gt d_413_34
theorem d_413_35 : List.drop 35 xm_c413 = xm_c413_35 := xm_dr d_413_34
theorem k_413_35 : xm_gi xm_c413 35 = some xm_e413_35 := xm_gt d_413_35
theorem d_413_36 : List.drop 36 xm_c413 = xm_c413_36 := xm_dr d_413_35
theorem k_413_36 : xm_gi xm_c413 36 = some xm_e413_36 := xm_gt d_413_36
theorem xb_413_0 {sc : List Int} {f : Nat → List xm_V → xm_W → xm_R} {w : xm_W} {Q : Option xm_V × xm_W → Prop} {x0 : Nat} {x1 : Int} {x2 : Int}
  (h : if (x2 : Int) = 0 then (xm_O (xm_fr (xm_old sc) w x0 2 0) (fun r12 => xm_O (xm_ints (xm_old sc) w r12) (fun l13 => xm_O (xm_at l13 x1) (fun z14 => Q (some (.inl z14), w))))) else (if (x2 : Int) = 1 then (xm_Oi (f 414 [.inr (.inl (some x0)), .inl 0, .inl x1] w) (fun z11 w10 => Q (some (.inl z11), w10))) else (if (x2 : Int) = 2 then (xm_Oi (f 415 [.inr (.inl (some x0)), .inl x1] w) (fun z6 w5 => if (z6 : Int) < 0 then (Q (some (.inl (-1)), w5)) else (xm_O (xm_fr (xm_old sc) w5 x0 2 5) (fun r7 => xm_O (xm_ints (xm_old sc) w5 r7) (fun l8 => xm_O (xm_at l8 (xm_w ((xm_w (z6 * 5)) + 1))) (fun z9 => Q (some (.inl z9), w5))))))) else (if (x2 : Int) = 3 then (xm_Oi (f 416 [.inr (.inl (some x0)), .inl x1] w) (fun z4 w3 => Q (some (.inl z4), w3))) else (xm_Oi (f 417 [.inr (.inl (some x0)), .inl x1] w) (fun z2 w1 => Q (some (.inl z2), w1))))))) :
  xm_EQ (xm_old sc) xm_sta f xm_c413 0 [some (.inr (.inl (some x0))), some (.inl x1), some (.inl x2), none] [] w Q :=
  (xq_iload_n k_413_0 rfl (xq_tsw k_413_1 (xs_swc h (fun h => (xq_aload_n k_413_2 rfl (xq_getr k_413_3 rfl h (fun r12 h => (xq_iload_n k_413_4 rfl (xq_iaload k_413_5 h (fun l13 h => h) (fun l13 z14 h => (xq_ireturn k_413_6 h)))))))) (fun h => (xs_swc h (fun h => (xq_aload_n k_413_7 rfl (xq_iconst k_413_8 (xq_iload_n k_413_9 rfl (xq_invv1 k_413_10 xr_414 rfl rfl rfl h (fun z11 w10 h => (xq_ireturn k_413_11 h))))))) (fun h => (xs_swc h (fun h => (xq_aload_n k_413_12 rfl (xq_iload_n k_413_13 rfl (xq_invv1 k_413_14 xr_415 rfl rfl rfl h (fun z6 w5 h => (xq_istore_n k_413_15 rfl (xq_iload_n k_413_16 rfl (xq_if_ge k_413_17 h (fun h => (xq_iconst k_413_18 (xq_goto k_413_19 (xq_ireturn k_413_28 h)))) (fun h => (xq_aload_n k_413_20 rfl (xq_getr k_413_21 rfl h (fun r7 h => (xq_iload_n k_413_22 rfl (xq_iconst k_413_23 (xq_imul k_413_24 (xq_iconst k_413_25 (xq_iadd k_413_26 (xq_iaload k_413_27 h (fun l8 h => h) (fun l8 z9 h => (xq_ireturn k_413_28 h)))))))))))))))))))) (fun h => (xs_swc h (fun h => (xq_aload_n k_413_29 rfl (xq_iload_n k_413_30 rfl (xq_invv1 k_413_31 xr_416 rfl rfl rfl h (fun z4 w3 h => (xq_ireturn k_413_32 h)))))) (fun h => (xq_aload_n k_413_33 rfl (xq_iload_n k_413_34 rfl (xq_invv1 k_413_35 xr_417 rfl rfl rfl h (fun z2 w1 h => (xq_ireturn k_413_36 h)))))))))))))))
/-- ShodBackwards$Moor.printsWith(II)I -/
theorem d_414_0 : List.drop 0 xm_c414 = xm_c414 := rfl
theorem k_414_0 : xm_gi xm_c414 0 = some xm_e414_0 := xm_gt d_414_0
theorem d_414_1 : List.drop 1 xm_c414 = xm_c414_1 := xm_dr d_414_0
theorem k_414_1 : xm_gi xm_c414 1 = some xm_e414_1 := xm_gt d_414_1
theorem d_414_2 : List.drop 2 xm_c414 = xm_c414_2 := xm_dr d_414_1
theorem k_414_2 : xm_gi xm_c414 2 = some xm_e414_2 := xm_gt d_414_2
theorem d_414_3 : List.drop 3 xm_c414 = xm_c414_3 := xm_dr d_414_2
theorem k_414_3 : xm_gi xm_c414 3 = some xm_e414_3 := xm_gt d_414_3
theorem d_414_4 : List.drop 4 xm_c414 = xm_c414_4 := xm_dr d_414_3
theorem k_414_4 : xm_gi xm_c414 4 = some xm_e414_4 := xm_gt d_414_4
theorem d_414_5 : List.drop 5 xm_c414 = xm_c414_5 := xm_dr d_414_4
theorem k_414_5 : xm_gi xm_c414 5 = some xm_e414_5 := xm_gt d_414_5
theorem d_414_6 : List.drop 6 xm_c414 = xm_c414_6 := xm_dr d_414_5
theorem k_414_6 : xm_gi xm_c414 6 = some xm_e414_6 := xm_gt d_414_6
theorem d_414_7 : List.drop 7 xm_c414 = xm_c414_7 := xm_dr d_414_6
theorem k_414_7 : xm_gi xm_c414 7 = some xm_e414_7 := xm_gt d_414_7
theorem d_414_8 : List.drop 8 xm_c414 = xm_c414_8 := xm_dr d_414_7
theorem k_414_8 : xm_gi xm_c414 8 = some xm_e414_8 := xm_gt d_414_8
theorem d_414_9 : List.drop 9 xm_c414 = xm_c414_9 := xm_dr d_414_8
theorem k_414_9 : xm_gi xm_c414 9 = some xm_e414_9 := xm_gt d_414_9
theorem d_414_10 : List.drop 10 xm_c414 = xm_c414_10 := xm_dr d_414_9
theorem k_414_10 : xm_gi xm_c414 10 = some xm_e414_10 := xm_gt d_414_10
theorem d_414_11 : List.drop 11 xm_c414 = xm_c414_11 := xm_dr d_414_10
theorem k_414_11 : xm_gi xm_c414 11 = some xm_e414_11 := xm_gt d_414_11
theorem d_414_12 : List.drop 12 xm_c414 = xm_c414_12 := xm_dr d_414_11
theorem k_414_12 : xm_gi xm_c414 12 = some xm_e414_12 := xm_gt d_414_12
theorem d_414_13 : List.drop 13 xm_c414 = xm_c414_13 := xm_dr d_414_12
theorem k_414_13 : xm_gi xm_c414 13 = some xm_e414_13 := xm_gt d_414_13
theorem d_414_14 : List.drop 14 xm_c414 = xm_c414_14 := xm_dr d_414_13
theorem k_414_14 : xm_gi xm_c414 14 = some xm_e414_14 := xm_gt d_414_14
theorem d_414_15 : List.drop 15 xm_c414 = xm_c414_15 := xm_dr d_414_14
theorem k_414_15 : xm_gi xm_c414 15 = some xm_e414_15 := xm_gt d_414_15
theorem d_414_16 : List.drop 16 xm_c414 = xm_c414_16 := xm_dr d_414_15
theorem k_414_16 : xm_gi xm_c414 16 = some xm_e414_16 := xm_gt d_414_16
theorem d_414_17 : List.drop 17 xm_c414 = xm_c414_17 := xm_dr d_414_16
theorem k_414_17 : xm_gi xm_c414 17 = some xm_e414_17 := xm_gt d_414_17
theorem d_414_18 : List.drop 18 xm_c414 = xm_c414_18 := xm_dr d_414_17
theorem k_414_18 : xm_gi xm_c414 18 = some xm_e414_18 := xm_gt d_414_18
theorem d_414_19 : List.drop 19 xm_c414 = xm_c414_19 := xm_dr d_414_18
theorem k_414_19 : xm_gi xm_c414 19 = some xm_e414_19 := xm_gt d_414_19
theorem d_414_20 : List.drop 20 xm_c414 = xm_c414_20 := xm_dr d_414_19
theorem k_414_20 : xm_gi xm_c414 20 = some xm_e414_20 := xm_gt d_414_20
theorem d_414_21 : List.drop 21 xm_c414 = xm_c414_21 := xm_dr d_414_20
theorem k_414_21 : xm_gi xm_c414 21 = some xm_e414_21 := xm_gt d_414_21
theorem d_414_22 : List.drop 22 xm_c414 = xm_c414_22 := xm_dr d_414_21
theorem k_414_22 : xm_gi xm_c414 22 = some xm_e414_22 := xm_gt d_414_22
theorem xb_414_0 {sc : List Int} {f : Nat → List xm_V → xm_W → xm_R} {w : xm_W} {Q : Option xm_V × xm_W → Prop} {x0 : Nat} {x1 : Int} {x2 : Int}
  (h : xm_EQ (xm_old sc) xm_sta f xm_c414 4 [some (.inr (.inl (some x0))), some (.inl x1), some (.inl x2), some (.inl 0), some (.inl 0)] [] w Q) :
  xm_EQ (xm_old sc) xm_sta f xm_c414 0 [some (.inr (.inl (some x0))), some (.inl x1), some (.inl x2), none, none] [] w Q :=
  (xq_iconst k_414_0 (xq_istore_n k_414_1 rfl (xq_iconst k_414_2 (xq_istore k_414_3 rfl h))))
theorem xb_414_4 {sc : List Int} {f : Nat → List xm_V → xm_W → xm_R} {w : xm_W} {Q : Option xm_V × xm_W → Prop} {x0 : Nat} {x1 : Int} {x2 : Int} {x3 : Int} {x4 : Int}
  (h : xm_O (xm_fi (xm_old sc) w x0 2 6) (fun z1 => if (x4 : Int) < z1 then (xm_O (xm_fr (xm_old sc) w x0 2 5) (fun r2 => xm_O (xm_ints (xm_old sc) w r2) (fun l3 => xm_O (xm_at l3 (xm_w ((xm_w (x4 * 5)) + x1))) (fun z4 => if (z4 : Int) = x2 then (xm_EQ (xm_old sc) xm_sta f xm_c414 4 [some (.inr (.inl (some x0))), some (.inl x1), some (.inl x2), some (.inl (xm_w (x3 + 1))), some (.inl (xm_w (x4 + 1)))] [] w Q) else (xm_EQ (xm_old sc) xm_sta f xm_c414 4 [some (.inr (.inl (some x0))), some (.inl x1), some (.inl x2), some (.inl x3), some (.inl (xm_w (x4 + 1)))] [] w Q))))) else (Q (some (.inl x3), w)))) :
  xm_EQ (xm_old sc) xm_sta f xm_c414 4 [some (.inr (.inl (some x0))), some (.inl x1), some (.inl x2), some (.inl x3), some (.inl x4)] [] w Q :=
  (xq_iload k_414_4 rfl (xq_aload_n k_414_5 rfl (xq_geti0 k_414_6 rfl h (fun z1 h => (xq_ic_ge k_414_7 h (fun h => (xq_aload_n k_414_8 rfl (xq_getr k_414_9 rfl h (fun r2 h => (xq_iload k_414_10 rfl (xq_iconst k_414_11 (xq_imul k_414_12 (xq_iload_n k_414_13 rfl (xq_iadd k_414_14 (xq_iaload k_414_15 h (fun l3 h => h) (fun l3 z4 h => (xq_iload_n k_414_16 rfl (xq_ic_ne k_414_17 h (fun h => (xq_iinc k_414_18 rfl rfl (xq_iinc k_414_19 rfl rfl (xq_goto k_414_20 h)))) (fun h => (xq_iinc k_414_19 rfl rfl (xq_goto k_414_20 h)))))))))))))))) (fun h => (xq_iload_n k_414_21 rfl (xq_ireturn k_414_22 h))))))))
/-- ShodBackwards$Moor.latestAt(I)I -/
theorem d_415_0 : List.drop 0 xm_c415 = xm_c415 := rfl
theorem k_415_0 : xm_gi xm_c415 0 = some xm_e415_0 := xm_gt d_415_0
theorem d_415_1 : List.drop 1 xm_c415 = xm_c415_1 := xm_dr d_415_0
theorem k_415_1 : xm_gi xm_c415 1 = some xm_e415_1 := xm_gt d_415_1
theorem d_415_2 : List.drop 2 xm_c415 = xm_c415_2 := xm_dr d_415_1
theorem k_415_2 : xm_gi xm_c415 2 = some xm_e415_2 := xm_gt d_415_2
theorem d_415_3 : List.drop 3 xm_c415 = xm_c415_3 := xm_dr d_415_2
theorem k_415_3 : xm_gi xm_c415 3 = some xm_e415_3 := xm_gt d_415_3
theorem d_415_4 : List.drop 4 xm_c415 = xm_c415_4 := xm_dr d_415_3
theorem k_415_4 : xm_gi xm_c415 4 = some xm_e415_4 := xm_gt d_415_4
theorem d_415_5 : List.drop 5 xm_c415 = xm_c415_5 := xm_dr d_415_4
theorem k_415_5 : xm_gi xm_c415 5 = some xm_e415_5 := xm_gt d_415_5
theorem d_415_6 : List.drop 6 xm_c415 = xm_c415_6 := xm_dr d_415_5
theorem k_415_6 : xm_gi xm_c415 6 = some xm_e415_6 := xm_gt d_415_6
theorem d_415_7 : List.drop 7 xm_c415 = xm_c415_7 := xm_dr d_415_6
theorem k_415_7 : xm_gi xm_c415 7 = some xm_e415_7 := xm_gt d_415_7
theorem d_415_8 : List.drop 8 xm_c415 = xm_c415_8 := xm_dr d_415_7
theorem k_415_8 : xm_gi xm_c415 8 = some xm_e415_8 := xm_gt d_415_8
theorem d_415_9 : List.drop 9 xm_c415 = xm_c415_9 := xm_dr d_415_8
theorem k_415_9 : xm_gi xm_c415 9 = some xm_e415_9 := xm_gt d_415_9
theorem d_415_10 : List.drop 10 xm_c415 = xm_c415_10 := xm_dr d_415_9
theorem k_415_10 : xm_gi xm_c415 10 = some xm_e415_10 := xm_gt d_415_10
theorem d_415_11 : List.drop 11 xm_c415 = xm_c415_11 := xm_dr d_415_10
theorem k_415_11 : xm_gi xm_c415 11 = some xm_e415_11 := xm_gt d_415_11
theorem d_415_12 : List.drop 12 xm_c415 = xm_c415_12 := xm_dr d_415_11
theorem k_415_12 : xm_gi xm_c415 12 = some xm_e415_12 := xm_gt d_415_12
theorem d_415_13 : List.drop 13 xm_c415 = xm_c415_13 := xm_dr d_415_12
theorem k_415_13 : xm_gi xm_c415 13 = some xm_e415_13 := xm_gt d_415_13
theorem d_415_14 : List.drop 14 xm_c415 = xm_c415_14 := xm_dr d_415_13
theorem k_415_14 : xm_gi xm_c415 14 = some xm_e415_14 := xm_gt d_415_14
theorem d_415_15 : List.drop 15 xm_c415 = xm_c415_15 := xm_dr d_415_14
theorem k_415_15 : xm_gi xm_c415 15 = some xm_e415_15 := xm_gt d_415_15
theorem d_415_16 : List.drop 16 xm_c415 = xm_c415_16 := xm_dr d_415_15
theorem k_415_16 : xm_gi xm_c415 16 = some xm_e415_16 := xm_gt d_415_16
theorem d_415_17 : List.drop 17 xm_c415 = xm_c415_17 := xm_dr d_415_16
theorem k_415_17 : xm_gi xm_c415 17 = some xm_e415_17 := xm_gt d_415_17
theorem d_415_18 : List.drop 18 xm_c415 = xm_c415_18 := xm_dr d_415_17
theorem k_415_18 : xm_gi xm_c415 18 = some xm_e415_18 := xm_gt d_415_18
theorem d_415_19 : List.drop 19 xm_c415 = xm_c415_19 := xm_dr d_415_18
theorem k_415_19 : xm_gi xm_c415 19 = some xm_e415_19 := xm_gt d_415_19
theorem d_415_20 : List.drop 20 xm_c415 = xm_c415_20 := xm_dr d_415_19
theorem k_415_20 : xm_gi xm_c415 20 = some xm_e415_20 := xm_gt d_415_20
theorem d_415_21 : List.drop 21 xm_c415 = xm_c415_21 := xm_dr d_415_20
theorem k_415_21 : xm_gi xm_c415 21 = some xm_e415_21 := xm_gt d_415_21
theorem d_415_22 : List.drop 22 xm_c415 = xm_c415_22 := xm_dr d_415_21
theorem k_415_22 : xm_gi xm_c415 22 = some xm_e415_22 := xm_gt d_415_22
theorem d_415_23 : List.drop 23 xm_c415 = xm_c415_23 := xm_dr d_415_22
theorem k_415_23 : xm_gi xm_c415 23 = some xm_e415_23 := xm_gt d_415_23
theorem xb_415_0 {sc : List Int} {f : Nat → List xm_V → xm_W → xm_R} {w : xm_W} {Q : Option xm_V × xm_W → Prop} {x0 : Nat} {x1 : Int}
  (h : xm_EQ (xm_old sc) xm_sta f xm_c415 4 [some (.inr (.inl (some x0))), some (.inl x1), some (.inl (-1)), some (.inl 0)] [] w Q) :
  xm_EQ (xm_old sc) xm_sta f xm_c415 0 [some (.inr (.inl (some x0))), some (.inl x1), none, none] [] w Q :=
  (xq_iconst k_415_0 (xq_istore_n k_415_1 rfl (xq_iconst k_415_2 (xq_istore_n k_415_3 rfl h))))
theorem xb_415_4 {sc : List Int} {f : Nat → List xm_V → xm_W → xm_R} {w : xm_W} {Q : Option xm_V × xm_W → Prop} {x0 : Nat} {x1 : Int} {x2 : Int} {x3 : Int}
  (h : xm_O (xm_fi (xm_old sc) w x0 2 6) (fun z1 => if (x3 : Int) < z1 then (xm_O (xm_fr (xm_old sc) w x0 2 5) (fun r2 => xm_O (xm_ints (xm_old sc) w r2) (fun l3 => xm_O (xm_at l3 (xm_w ((xm_w (x3 * 5)) + 0))) (fun z4 => if (z4 : Int) = x1 then (xm_EQ (xm_old sc) xm_sta f xm_c415 4 [some (.inr (.inl (some x0))), some (.inl x1), some (.inl x3), some (.inl (xm_w (x3 + 1)))] [] w Q) else (xm_EQ (xm_old sc) xm_sta f xm_c415 4 [some (.inr (.inl (some x0))), some (.inl x1), some (.inl x2), some (.inl (xm_w (x3 + 1)))] [] w Q))))) else (Q (some (.inl x2), w)))) :
  xm_EQ (xm_old sc) xm_sta f xm_c415 4 [some (.inr (.inl (some x0))), some (.inl x1), some (.inl x2), some (.inl x3)] [] w Q :=
  (xq_iload_n k_415_4 rfl (xq_aload_n k_415_5 rfl (xq_geti0 k_415_6 rfl h (fun z1 h => (xq_ic_ge k_415_7 h (fun h => (xq_aload_n k_415_8 rfl (xq_getr k_415_9 rfl h (fun r2 h => (xq_iload_n k_415_10 rfl (xq_iconst k_415_11 (xq_imul k_415_12 (xq_iconst k_415_13 (xq_iadd k_415_14 (xq_iaload k_415_15 h (fun l3 h => h) (fun l3 z4 h => (xq_iload_n k_415_16 rfl (xq_ic_ne k_415_17 h (fun h => (xq_iload_n k_415_18 rfl (xq_istore_n k_415_19 rfl (xq_iinc k_415_20 rfl rfl (xq_goto k_415_21 h))))) (fun h => (xq_iinc k_415_20 rfl rfl (xq_goto k_415_21 h)))))))))))))))) (fun h => (xq_iload_n k_415_22 rfl (xq_ireturn k_415_23 h))))))))
/-- ShodBackwards$Moor.deepestAt(I)I -/
theorem d_416_0 : List.drop 0 xm_c416 = xm_c416 := rfl
theorem k_416_0 : xm_gi xm_c416 0 = some xm_e416_0 := xm_gt d_416_0
theorem d_416_1 : List.drop 1 xm_c416 = xm_c416_1 := xm_dr d_416_0
theorem k_416_1 : xm_gi xm_c416 1 = some xm_e416_1 := xm_gt d_416_1
theorem d_416_2 : List.drop 2 xm_c416 = xm_c416_2 := xm_dr d_416_1
theorem k_416_2 : xm_gi xm_c416 2 = some xm_e416_2 := xm_gt d_416_2
theorem d_416_3 : List.drop 3 xm_c416 = xm_c416_3 := xm_dr d_416_2
theorem k_416_3 : xm_gi xm_c416 3 = some xm_e416_3 := xm_gt d_416_3
theorem d_416_4 : List.drop 4 xm_c416 = xm_c416_4 := xm_dr d_416_3
theorem k_416_4 : xm_gi xm_c416 4 = some xm_e416_4 := xm_gt d_416_4
theorem d_416_5 : List.drop 5 xm_c416 = xm_c416_5 := xm_dr d_416_4
theorem k_416_5 : xm_gi xm_c416 5 = some xm_e416_5 := xm_gt d_416_5
theorem d_416_6 : List.drop 6 xm_c416 = xm_c416_6 := xm_dr d_416_5
theorem k_416_6 : xm_gi xm_c416 6 = some xm_e416_6 := xm_gt d_416_6
theorem d_416_7 : List.drop 7 xm_c416 = xm_c416_7 := xm_dr d_416_6
theorem k_416_7 : xm_gi xm_c416 7 = some xm_e416_7 := xm_gt d_416_7
theorem d_416_8 : List.drop 8 xm_c416 = xm_c416_8 := xm_dr d_416_7
theorem k_416_8 : xm_gi xm_c416 8 = some xm_e416_8 := xm_gt d_416_8
theorem d_416_9 : List.drop 9 xm_c416 = xm_c416_9 := xm_dr d_416_8
theorem k_416_9 : xm_gi xm_c416 9 = some xm_e416_9 := xm_gt d_416_9
theorem d_416_10 : List.drop 10 xm_c416 = xm_c416_10 := xm_dr d_416_9
theorem k_416_10 : xm_gi xm_c416 10 = some xm_e416_10 := xm_gt d_416_10
theorem d_416_11 : List.drop 11 xm_c416 = xm_c416_11 := xm_dr d_416_10
theorem k_416_11 : xm_gi xm_c416 11 = some xm_e416_11 := xm_gt d_416_11
theorem d_416_12 : List.drop 12 xm_c416 = xm_c416_12 := xm_dr d_416_11
theorem k_416_12 : xm_gi xm_c416 12 = some xm_e416_12 := xm_gt d_416_12
theorem d_416_13 : List.drop 13 xm_c416 = xm_c416_13 := xm_dr d_416_12
theorem k_416_13 : xm_gi xm_c416 13 = some xm_e416_13 := xm_gt d_416_13
theorem d_416_14 : List.drop 14 xm_c416 = xm_c416_14 := xm_dr d_416_13
theorem k_416_14 : xm_gi xm_c416 14 = some xm_e416_14 := xm_gt d_416_14
theorem d_416_15 : List.drop 15 xm_c416 = xm_c416_15 := xm_dr d_416_14
theorem k_416_15 : xm_gi xm_c416 15 = some xm_e416_15 := xm_gt d_416_15
theorem d_416_16 : List.drop 16 xm_c416 = xm_c416_16 := xm_dr d_416_15
theorem k_416_16 : xm_gi xm_c416 16 = some xm_e416_16 := xm_gt d_416_16
theorem d_416_17 : List.drop 17 xm_c416 = xm_c416_17 := xm_dr d_416_16
theorem k_416_17 : xm_gi xm_c416 17 = some xm_e416_17 := xm_gt d_416_17
theorem d_416_18 : List.drop 18 xm_c416 = xm_c416_18 := xm_dr d_416_17
theorem k_416_18 : xm_gi xm_c416 18 = some xm_e416_18 := xm_gt d_416_18
theorem d_416_19 : List.drop 19 xm_c416 = xm_c416_19 := xm_dr d_416_18
theorem k_416_19 : xm_gi xm_c416 19 = some xm_e416_19 := xm_gt d_416_19
theorem d_416_20 : List.drop 20 xm_c416 = xm_c416_20 := xm_dr d_416_19
theorem k_416_20 : xm_gi xm_c416 20 = some xm_e416_20 := xm_gt d_416_20
theorem d_416_21 : List.drop 21 xm_c416 = xm_c416_21 := xm_dr d_416_20
theorem k_416_21 : xm_gi xm_c416 21 = some xm_e416_21 := xm_gt d_416_21
theorem d_416_22 : List.drop 22 xm_c416 = xm_c416_22 := xm_dr d_416_21
theorem k_416_22 : xm_gi xm_c416 22 = some xm_e416_22 := xm_gt d_416_22
theorem d_416_23 : List.drop 23 xm_c416 = xm_c416_23 := xm_dr d_416_22
theorem k_416_23 : xm_gi xm_c416 23 = some xm_e416_23 := xm_gt d_416_23
theorem d_416_24 : List.drop 24 xm_c416 = xm_c416_24 := xm_dr d_416_23
theorem k_416_24 : xm_gi xm_c416 24 = some xm_e416_24 := xm_gt d_416_24
theorem d_416_25 : List.drop 25 xm_c416 = xm_c416_25 := xm_dr d_416_24
theorem k_416_25 : xm_gi xm_c416 25 = some xm_e416_25 := xm_gt d_416_25
theorem d_416_26 : List.drop 26 xm_c416 = xm_c416_26 := xm_dr d_416_25
theorem k_416_26 : xm_gi xm_c416 26 = some xm_e416_26 := xm_gt d_416_26
theorem d_416_27 : List.drop 27 xm_c416 = xm_c416_27 := xm_dr d_416_26
theorem k_416_27 : xm_gi xm_c416 27 = some xm_e416_27 := xm_gt d_416_27
theorem d_416_28 : List.drop 28 xm_c416 = xm_c416_28 := xm_dr d_416_27
theorem k_416_28 : xm_gi xm_c416 28 = some xm_e416_28 := xm_gt d_416_28
theorem d_416_29 : List.drop 29 xm_c416 = xm_c416_29 := xm_dr d_416_28
theorem k_416_29 : xm_gi xm_c416 29 = some xm_e416_29 := xm_gt d_416_29
theorem d_416_30 : List.drop 30 xm_c416 = xm_c416_30 := xm_dr d_416_29
theorem k_416_30 : xm_gi xm_c416 30 = some xm_e416_30 := xm_gt d_416_30
theorem d_416_31 : List.drop 31 xm_c416 = xm_c416_31 := xm_dr d_416_30
theorem k_416_31 : xm_gi xm_c416 31 = some xm_e416_31 := xm_gt d_416_31
theorem d_416_32 : List.drop 32 xm_c416 = xm_c416_32 := xm_dr d_416_31
theorem k_416_32 : xm_gi xm_c416 32 = some xm_e416_32 := xm_gt d_416_32
theorem xb_416_0 {sc : List Int} {f : Nat → List xm_V → xm_W → xm_R} {w : xm_W} {Q : Option xm_V × xm_W → Prop} {x0 : Nat} {x1 : Int}
  (h : xm_EQ (xm_old sc) xm_sta f xm_c416 4 [some (.inr (.inl (some x0))), some (.inl x1), some (.inl 0), some (.inl 0)] [] w Q) :
  xm_EQ (xm_old sc) xm_sta f xm_c416 0 [some (.inr (.inl (some x0))), some (.inl x1), none, none] [] w Q :=
  (xq_iconst k_416_0 (xq_istore_n k_416_1 rfl (xq_iconst k_416_2 (xq_istore_n k_416_3 rfl h))))
theorem xb_416_4 {sc : List Int} {f : Nat → List xm_V → xm_W → xm_R} {w : xm_W} {Q : Option xm_V × xm_W → Prop} {x0 : Nat} {x1 : Int} {x2 : Int} {x3 : Int}
  (h : xm_O (xm_fi (xm_old sc) w x0 2 6) (fun z1 => if (x3 : Int) < z1 then (xm_O (xm_fr (xm_old sc) w x0 2 5) (fun r2 => xm_O (xm_ints (xm_old sc) w r2) (fun l3 => xm_O (xm_at l3 (xm_w ((xm_w (x3 * 5)) + 0))) (fun z4 => if (z4 : Int) = x1 then (xm_O (xm_fr (xm_old sc) w x0 2 5) (fun r5 => xm_O (xm_ints (xm_old sc) w r5) (fun l6 => xm_O (xm_at l6 (xm_w ((xm_w (x3 * 5)) + 2))) (fun z7 => xm_EQ (xm_old sc) xm_sta f xm_c416 4 [some (.inr (.inl (some x0))), some (.inl x1), some (.inl (if x2 < z7 then z7 else x2)), some (.inl (xm_w (x3 + 1)))] [] w Q)))) else (xm_EQ (xm_old sc) xm_sta f xm_c416 4 [some (.inr (.inl (some x0))), some (.inl x1), some (.inl x2), some (.inl (xm_w (x3 + 1)))] [] w Q))))) else (Q (some (.inl x2), w)))) :
  xm_EQ (xm_old sc) xm_sta f xm_c416 4 [some (.inr (.inl (some x0))), some (.inl x1), some (.inl x2), some (.inl x3)] [] w Q :=
  (xq_iload_n k_416_4 rfl (xq_aload_n k_416_5 rfl (xq_geti0 k_416_6 rfl h (fun z1 h => (xq_ic_ge k_416_7 h (fun h => (xq_aload_n k_416_8 rfl (xq_getr k_416_9 rfl h (fun r2 h => (xq_iload_n k_416_10 rfl (xq_iconst k_416_11 (xq_imul k_416_12 (xq_iconst k_416_13 (xq_iadd k_416_14 (xq_iaload k_416_15 h (fun l3 h => h) (fun l3 z4 h => (xq_iload_n k_416_16 rfl (xq_ic_ne k_416_17 h (fun h => (xq_iload_n k_416_18 rfl (xq_aload_n k_416_19 rfl (xq_getr k_416_20 rfl h (fun r5 h => (xq_iload_n k_416_21 rfl (xq_iconst k_416_22 (xq_imul k_416_23 (xq_iconst k_416_24 (xq_iadd k_416_25 (xq_iaload k_416_26 h (fun l6 h => h) (fun l6 z7 h => (xq_max k_416_27 rfl (xq_istore_n k_416_28 rfl (xq_iinc k_416_29 rfl rfl (xq_goto k_416_30 h)))))))))))))))) (fun h => (xq_iinc k_416_29 rfl rfl (xq_goto k_416_30 h)))))))))))))))) (fun h => (xq_iload_n k_416_31 rfl (xq_ireturn k_416_32 h))))))))
/-- ShodBackwards$Moor.doubtOf(I)I -/
theorem d_417_0 : List.drop 0 xm_c417 = xm_c417 := rfl
theorem k_417_0 : xm_gi xm_c417 0 = some xm_e417_0 := xm_gt d_417_0
theorem d_417_1 : List.drop 1 xm_c417 = xm_c417_1 := xm_dr d_417_0
theorem k_417_1 : xm_gi xm_c417 1 = some xm_e417_1 := xm_gt d_417_1
theorem d_417_2 : List.drop 2 xm_c417 = xm_c417_2 := xm_dr d_417_1
theorem k_417_2 : xm_gi xm_c417 2 = some xm_e417_2 := xm_gt d_417_2
theorem d_417_3 : List.drop 3 xm_c417 = xm_c417_3 := xm_dr d_417_2
theorem k_417_3 : xm_gi xm_c417 3 = some xm_e417_3 := xm_gt d_417_3
theorem d_417_4 : List.drop 4 xm_c417 = xm_c417_4 := xm_dr d_417_3
theorem k_417_4 : xm_gi xm_c417 4 = some xm_e417_4 := xm_gt d_417_4
theorem d_417_5 : List.drop 5 xm_c417 = xm_c417_5 := xm_dr d_417_4
theorem k_417_5 : xm_gi xm_c417 5 = some xm_e417_5 := xm_gt d_417_5
theorem d_417_6 : List.drop 6 xm_c417 = xm_c417_6 := xm_dr d_417_5
theorem k_417_6 : xm_gi xm_c417 6 = some xm_e417_6 := xm_gt d_417_6
theorem d_417_7 : List.drop 7 xm_c417 = xm_c417_7 := xm_dr d_417_6
theorem k_417_7 : xm_gi xm_c417 7 = some xm_e417_7 := xm_gt d_417_7
theorem d_417_8 : List.drop 8 xm_c417 = xm_c417_8 := xm_dr d_417_7
theorem k_417_8 : xm_gi xm_c417 8 = some xm_e417_8 := xm_gt d_417_8
theorem d_417_9 : List.drop 9 xm_c417 = xm_c417_9 := xm_dr d_417_8
theorem k_417_9 : xm_gi xm_c417 9 = some xm_e417_9 := xm_gt d_417_9
theorem d_417_10 : List.drop 10 xm_c417 = xm_c417_10 := xm_dr d_417_9
theorem k_417_10 : xm_gi xm_c417 10 = some xm_e417_10 := xm_gt d_417_10
theorem d_417_11 : List.drop 11 xm_c417 = xm_c417_11 := xm_dr d_417_10
theorem k_417_11 : xm_gi xm_c417 11 = some xm_e417_11 := xm_gt d_417_11
theorem d_417_12 : List.drop 12 xm_c417 = xm_c417_12 := xm_dr d_417_11
theorem k_417_12 : xm_gi xm_c417 12 = some xm_e417_12 := xm_gt d_417_12
theorem d_417_13 : List.drop 13 xm_c417 = xm_c417_13 := xm_dr d_417_12
theorem k_417_13 : xm_gi xm_c417 13 = some xm_e417_13 := xm_gt d_417_13
theorem d_417_14 : List.drop 14 xm_c417 = xm_c417_14 := xm_dr d_417_13
theorem k_417_14 : xm_gi xm_c417 14 = some xm_e417_14 := xm_gt d_417_14
theorem d_417_15 : List.drop 15 xm_c417 = xm_c417_15 := xm_dr d_417_14
theorem k_417_15 : xm_gi xm_c417 15 = some xm_e417_15 := xm_gt d_417_15
theorem d_417_16 : List.drop 16 xm_c417 = xm_c417_16 := xm_dr d_417_15
theorem k_417_16 : xm_gi xm_c417 16 = some xm_e417_16 := xm_gt d_417_16
theorem d_417_17 : List.drop 17 xm_c417 = xm_c417_17 := xm_dr d_417_16
theorem k_417_17 : xm_gi xm_c417 17 = some xm_e417_17 := xm_gt d_417_17
theorem d_417_18 : List.drop 18 xm_c417 = xm_c417_18 := xm_dr d_417_17
theorem k_417_18 : xm_gi xm_c417 18 = some xm_e417_18 := xm_gt d_417_18
theorem d_417_19 : List.drop 19 xm_c417 = xm_c417_19 := xm_dr d_417_18
theorem k_417_19 : xm_gi xm_c417 19 = some xm_e417_19 := xm_gt d_417_19
theorem d_417_20 : List.drop 20 xm_c417 = xm_c417_20 := xm_dr d_417_19
theorem k_417_20 : xm_gi xm_c417 20 = some xm_e417_20 := xm_gt d_417_20
theorem d_417_21 : List.drop 21 xm_c417 = xm_c417_21 := xm_dr d_417_20
theorem k_417_21 : xm_gi xm_c417 21 = some xm_e417_21 := xm_gt d_417_21
theorem d_417_22 : List.drop 22 xm_c417 = xm_c417_22 := xm_dr d_417_21
theorem k_417_22 : xm_gi xm_c417 22 = some xm_e417_22 := xm_gt d_417_22
theorem d_417_23 : List.drop 23 xm_c417 = xm_c417_23 := xm_dr d_417_22
theorem k_417_23 : xm_gi xm_c417 23 = some xm_e417_23 := xm_gt d_417_23
theorem d_417_24 : List.drop 24 xm_c417 = xm_c417_24 := xm_dr d_417_23
theorem k_417_24 : xm_gi xm_c417 24 = some xm_e417_24 := xm_gt d_417_24
theorem d_417_25 : List.drop 25 xm_c417 = xm_c417_25 := xm_dr d_417_24
theorem k_417_25 : xm_gi xm_c417 25 = some xm_e417_25 := xm_gt d_417_25
theorem d_417_26 : List.drop 26 xm_c417 = xm_c417_26 := xm_dr d_417_25
theorem k_417_26 : xm_gi xm_c417 26 = some xm_e417_26 := xm_gt d_417_26
theorem d_417_27 : List.drop 27 xm_c417 = xm_c417_27 := xm_dr d_417_26
theorem k_417_27 : xm_gi xm_c417 27 = some xm_e417_27 := xm_gt d_417_27
theorem d_417_28 : List.drop 28 xm_c417 = xm_c417_28 := xm_dr d_417_27
theorem k_417_28 : xm_gi xm_c417 28 = some xm_e417_28 := xm_gt d_417_28
theorem d_417_29 : List.drop 29 xm_c417 = xm_c417_29 := xm_dr d_417_28
theorem k_417_29 : xm_gi xm_c417 29 = some xm_e417_29 := xm_gt d_417_29
theorem d_417_30 : List.drop 30 xm_c417 = xm_c417_30 := xm_dr d_417_29
theorem k_417_30 : xm_gi xm_c417 30 = some xm_e417_30 := xm_gt d_417_30
theorem d_417_31 : List.drop 31 xm_c417 = xm_c417_31 := xm_dr d_417_30
theorem k_417_31 : xm_gi xm_c417 31 = some xm_e417_31 := xm_gt d_417_31
theorem d_417_32 : List.drop 32 xm_c417 = xm_c417_32 := xm_dr d_417_31
theorem k_417_32 : xm_gi xm_c417 32 = some xm_e417_32 := xm_gt d_417_32
theorem d_417_33 : List.drop 33 xm_c417 = xm_c417_33 := xm_dr d_417_32
theorem k_417_33 : xm_gi xm_c417 33 = some xm_e417_33 := xm_gt d_417_33
theorem d_417_34 : List.drop 34 xm_c417 = xm_c417_34 := xm_dr d_417_33
theorem k_417_34 : xm_gi xm_c417 34 = some xm_e417_34 := xm_gt d_417_34
theorem d_417_35 : List.drop 35 xm_c417 = xm_c417_35 := xm_dr d_417_34
theorem k_417_35 : xm_gi xm_c417 35 = some xm_e417_35 := xm_gt d_417_35
theorem d_417_36 : List.drop 36 xm_c417 = xm_c417_36 := xm_dr d_417_35
theorem k_417_36 : xm_gi xm_c417 36 = some xm_e417_36 := xm_gt d_417_36
theorem d_417_37 : List.drop 37 xm_c417 = xm_c417_37 := xm_dr d_417_36
theorem k_417_37 : xm_gi xm_c417 37 = some xm_e417_37 := xm_gt d_417_37
theorem d_417_38 : List.drop 38 xm_c417 = xm_c417_38 := xm_dr d_417_37
theorem k_417_38 : xm_gi xm_c417 38 = some xm_e417_38 := xm_gt d_417_38
theorem d_417_39 : List.drop 39 xm_c417 = xm_c417_39 := xm_dr d_417_38
theorem k_417_39 : xm_gi xm_c417 39 = some xm_e417_39 := xm_gt d_417_39
theorem d_417_40 : List.drop 40 xm_c417 = xm_c417_40 := xm_dr d_417_39
theorem k_417_40 : xm_gi xm_c417 40 = some xm_e417_40 := xm_gt d_417_40
theorem d_417_41 : List.drop 41 xm_c417 = xm_c417_41 := xm_dr d_417_40
theorem k_417_41 : xm_gi xm_c417 41 = some xm_e417_41 := xm_gt d_417_41
theorem d_417_42 : List.drop 42 xm_c417 = xm_c417_42 := xm_dr d_417_41
theorem k_417_42 : xm_gi xm_c417 42 = some xm_e417_42 := xm_gt d_417_42
theorem d_417_43 : List.drop 43 xm_c417 = xm_c417_43 := xm_dr d_417_42
theorem k_417_43 : xm_gi xm_c417 43 = some xm_e417_43 := xm_gt d_417_43
theorem d_417_44 : List.drop 44 xm_c417 = xm_c417_44 := xm_dr d_417_43
theorem k_417_44 : xm_gi xm_c417 44 = some xm_e417_44 := xm_gt d_417_44
theorem d_417_45 : List.drop 45 xm_c417 = xm_c417_45 := xm_dr d_417_44
theorem k_417_45 : xm_gi xm_c417 45 = some xm_e417_45 := xm_gt d_417_45
theorem d_417_46 : List.drop 46 xm_c417 = xm_c417_46 := xm_dr d_417_45
theorem k_417_46 : xm_gi xm_c417 46 = some xm_e417_46 := xm_gt d_417_46
theorem d_417_47 : List.drop 47 xm_c417 = xm_c417_47 := xm_dr d_417_46
theorem k_417_47 : xm_gi xm_c417 47 = some xm_e417_47 := xm_gt d_417_47
theorem d_417_48 : List.drop 48 xm_c417 = xm_c417_48 := xm_dr d_417_47
theorem k_417_48 : xm_gi xm_c417 48 = some xm_e417_48 := xm_gt d_417_48
theorem d_417_49 : List.drop 49 xm_c417 = xm_c417_49 := xm_dr d_417_48
theorem k_417_49 : xm_gi xm_c417 49 = some xm_e417_49 := xm_gt d_417_49
theorem d_417_50 : List.drop 50 xm_c417 = xm_c417_50 := xm_dr d_417_49
theorem k_417_50 : xm_gi xm_c417 50 = some xm_e417_50 := xm_gt d_417_50
theorem d_417_51 : List.drop 51 xm_c417 = xm_c417_51 := xm_dr d_417_50
theorem k_417_51 : xm_gi xm_c417 51 = some xm_e417_51 := xm_gt d_417_51
theorem d_417_52 : List.drop 52 xm_c417 = xm_c417_52 := xm_dr d_417_51
theorem k_417_52 : xm_gi xm_c417 52 = some xm_e417_52 := xm_gt d_417_52
theorem d_417_53 : List.drop 53 xm_c417 = xm_c417_53 := xm_dr d_417_52
theorem k_417_53 : xm_gi xm_c417 53 = some xm_e417_53 := xm_gt d_417_53
theorem d_417_54 : List.drop 54 xm_c417 = xm_c417_54 := xm_dr d_417_53
theorem k_417_54 : xm_gi xm_c417 54 = some xm_e417_54 := xm_gt d_417_54
theorem d_417_55 : List.drop 55 xm_c417 = xm_c417_55 := xm_dr d_417_54
theorem k_417_55 : xm_gi xm_c417 55 = some xm_e417_55 := xm_gt d_417_55
theorem d_417_56 : List.drop 56 xm_c417 = xm_c417_56 := xm_dr d_417_55
theorem k_417_56 : xm_gi xm_c417 56 = some xm_e417_56 := xm_gt d_417_56
theorem d_417_57 : List.drop 57 xm_c417 = xm_c417_57 := xm_dr d_417_56
theorem k_417_57 : xm_gi xm_c417 57 = some xm_e417_57 := xm_gt d_417_57
theorem d_417_58 : List.drop 58 xm_c417 = xm_c417_58 := xm_dr d_417_57
theorem k_417_58 : xm_gi xm_c417 58 = some xm_e417_58 := xm_gt d_417_58
theorem d_417_59 : List.drop 59 xm_c417 = xm_c417_59 := xm_dr d_417_58
theorem k_417_59 : xm_gi xm_c417 59 = some xm_e417_59 := xm_gt d_417_59
theorem xb_417_0 {sc : List Int} {f : Nat → List xm_V → xm_W → xm_R} {w : xm_W} {Q : Option xm_V × xm_W → Prop} {x0 : Nat} {x1 : Int}
  (h : xm_Oi (f 415 [.inr (.inl (some x0)), .inl x1] w) (fun z2 w1 => if (z2 : Int) < 0 then (xm_O (xm_fr (xm_old sc) w1 x0 2 7) (fun r24 => xm_O (xm_refs (xm_old sc) w1 r24) (fun l25 => xm_O (xm_at l25 1) (fun r26 => if (r26 : Option Nat) = none then (Q (some (.inl 99), w1)) else (xm_O (xm_fr (xm_old sc) w1 x0 2 8) (fun r27 => xm_Oi (f 414 [.inr (.inl (some x0)), .inl 0, .inl x1] w1) (fun z29 w28 => xm_O (xm_seti w28 r27 0 z29) (fun w30 => xm_O (xm_fr (xm_old sc) w30 x0 2 8) (fun r31 => xm_Oi (f 416 [.inr (.inl (some x0)), .inl x1] w30) (fun z33 w32 => xm_O (xm_seti w32 r31 1 z33) (fun w34 => xm_O (xm_fr (xm_old sc) w34 x0 2 8) (fun r35 => xm_O (xm_seti w34 r35 2 99) (fun w36 => xm_O (xm_fr (xm_old sc) w36 x0 2 8) (fun r37 => xm_O (xm_fr (xm_old sc) w36 x0 2 9) (fun r38 => xm_Oi (f 902 [.inr (.inl r26), .inr (.inl (some r37)), .inr (.inl (some r38))] w36) (fun z40 w39 => Q (some (.inl (if 0 < (if z40 < 99 then z40 else 99) then (if z40 < 99 then z40 else 99) else 0)), w39))))))))))))))))) else (xm_O (xm_fi (xm_old sc) w1 x0 2 2) (fun z3 => xm_O (xm_fr (xm_old sc) w1 x0 2 5) (fun r4 => xm_O (xm_ints (xm_old sc) w1 r4) (fun l5 => xm_O (xm_at l5 (xm_w ((xm_w (z2 * 5)) + 3))) (fun z6 => xm_O (xm_fr (xm_old sc) w1 x0 2 7) (fun r7 => xm_O (xm_refs (xm_old sc) w1 r7) (fun l8 => xm_O (xm_at l8 1) (fun r9 => if (r9 : Option Nat) = none then (Q (some (.inl (xm_w (z3 - z6))), w1)) else (xm_O (xm_fr (xm_old sc) w1 x0 2 8) (fun r10 => xm_Oi (f 414 [.inr (.inl (some x0)), .inl 0, .inl x1] w1) (fun z12 w11 => xm_O (xm_seti w11 r10 0 z12) (fun w13 => xm_O (xm_fr (xm_old sc) w13 x0 2 8) (fun r14 => xm_Oi (f 416 [.inr (.inl (some x0)), .inl x1] w13) (fun z16 w15 => xm_O (xm_seti w15 r14 1 z16) (fun w17 => xm_O (xm_fr (xm_old sc) w17 x0 2 8) (fun r18 => xm_O (xm_seti w17 r18 2 (xm_w (z3 - z6))) (fun w19 => xm_O (xm_fr (xm_old sc) w19 x0 2 8) (fun r20 => xm_O (xm_fr (xm_old sc) w19 x0 2 9) (fun r21 => xm_Oi (f 902 [.inr (.inl r9), .inr (.inl (some r20)), .inr (.inl (some r21))] w19) (fun z23 w22 => Q (some (.inl (if 0 < (if z23 < 99 then z23 else 99) then (if z23 < 99 then z23 else 99) else 0)), w22))))))))))))))))))))))) :
  xm_EQ (xm_old sc) xm_sta f xm_c417 0 [some (.inr (.inl (some x0))), some (.inl x1), none, none, none] [] w Q :=
  (xq_aload_n k_417_0 rfl (xq_iload_n k_417_1 rfl (xq_invv1 k_417_2 xr_415 rfl rfl rfl h (fun z2 w1 h => (xq_istore_n k_417_3 rfl (xq_iload_n k_417_4 rfl (xq_if_ge k_417_5 h (fun h => (xq_bipush k_417_6 (xq_goto k_417_7 (xq_istore_n k_417_19 rfl (xq_aload_n k_417_20 rfl (xq_getr k_417_21 rfl h (fun r24 h => (xq_iconst k_417_22 (xq_aaload k_417_23 h (fun l25 h => h) (fun l25 r26 h => (xq_astore k_417_24 rfl (xq_aload k_417_25 rfl (xq_ifnonnull k_417_26 h (fun h => (xq_iload_n k_417_27 rfl (xq_ireturn k_417_28 h))) (fun h => (xq_aload_n k_417_29 rfl (xq_getr k_417_30 rfl h (fun r27 h => (xq_iconst k_417_31 (xq_aload_n k_417_32 rfl (xq_iconst k_417_33 (xq_iload_n k_417_34 rfl (xq_invv1 k_417_35 xr_414 rfl rfl rfl h (fun z29 w28 h => (xq_iastore k_417_36 h (fun w30 h => (xq_aload_n k_417_37 rfl (xq_getr k_417_38 rfl h (fun r31 h => (xq_iconst k_417_39 (xq_aload_n k_417_40 rfl (xq_iload_n k_417_41 rfl (xq_invv1 k_417_42 xr_416 rfl rfl rfl h (fun z33 w32 h => (xq_iastore k_417_43 h (fun w34 h => (xq_aload_n k_417_44 rfl (xq_getr k_417_45 rfl h (fun r35 h => (xq_iconst k_417_46 (xq_iload_n k_417_47 rfl (xq_iastore k_417_48 h (fun w36 h => (xq_iconst k_417_49 (xq_bipush k_417_50 (xq_aload k_417_51 rfl (xq_aload_n k_417_52 rfl (xq_getr k_417_53 rfl h (fun r37 h => (xq_aload_n k_417_54 rfl (xq_getr k_417_55 rfl h (fun r38 h => (xq_invv1 k_417_56 xr_902 rfl rfl rfl h (fun z40 w39 h => (xq_min k_417_57 rfl (xq_max k_417_58 rfl (xq_ireturn k_417_59 h)))))))))))))))))))))))))))))))))))))))))))))))))))))))) (fun h => (xq_aload_n k_417_8 rfl (xq_geti0 k_417_9 rfl h (fun z3 h => (xq_aload_n k_417_10 rfl (xq_getr k_417_11 rfl h (fun r4 h => (xq_iload_n k_417_12 rfl (xq_iconst k_417_13 (xq_imul k_417_14 (xq_iconst k_417_15 (xq_iadd k_417_16 (xq_iaload k_417_17 h (fun l5 h => h) (fun l5 z6 h => (xq_isub k_417_18 (xq_istore_n k_417_19 rfl (xq_aload_n k_417_20 rfl (xq_getr k_417_21 rfl h (fun r7 h => (xq_iconst k_417_22 (xq_aaload k_417_23 h (fun l8 h => h) (fun l8 r9 h => (xq_astore k_417_24 rfl (xq_aload k_417_25 rfl (xq_ifnonnull k_417_26 h (fun h => (xq_iload_n k_417_27 rfl (xq_ireturn k_417_28 h))) (fun h => (xq_aload_n k_417_29 rfl (xq_getr k_417_30 rfl h (fun r10 h => (xq_iconst k_417_31 (xq_aload_n k_417_32 rfl (xq_iconst k_417_33 (xq_iload_n k_417_34 rfl (xq_invv1 k_417_35 xr_414 rfl rfl rfl h (fun z12 w11 h => (xq_iastore k_417_36 h (fun w13 h => (xq_aload_n k_417_37 rfl (xq_getr k_417_38 rfl h (fun r14 h => (xq_iconst k_417_39 (xq_aload_n k_417_40 rfl (xq_iload_n k_417_41 rfl (xq_invv1 k_417_42 xr_416 rfl rfl rfl h (fun z16 w15 h => (xq_iastore k_417_43 h (fun w17 h => (xq_aload_n k_417_44 rfl (xq_getr k_417_45 rfl h (fun r18 h => (xq_iconst k_417_46 (xq_iload_n k_417_47 rfl (xq_iastore k_417_48 h (fun w19 h => (xq_iconst k_417_49 (xq_bipush k_417_50 (xq_aload k_417_51 rfl (xq_aload_n k_417_52 rfl (xq_getr k_417_53 rfl h (fun r20 h => (xq_aload_n k_417_54 rfl (xq_getr k_417_55 rfl h (fun r21 h => (xq_invv1 k_417_56 xr_902 rfl rfl rfl h (fun z23 w22 h => (xq_min k_417_57 rfl (xq_max k_417_58 rfl (xq_ireturn k_417_59 h)))))))))))))))))))))))))))))))))))))))))))))))))))))))))))))))))))))))))))
/-- ShodBackwards$Moor.trail(IIII)I -/
theorem d_418_0 : List.drop 0 xm_c418 = xm_c418 := rfl
theorem k_418_0 : xm_gi xm_c418 0 = some xm_e418_0 := xm_gt d_418_0
theorem d_418_1 : List.drop 1 xm_c418 = xm_c418_1 := xm_dr d_418_0
theorem k_418_1 : xm_gi xm_c418 1 = some xm_e418_1 := xm_gt d_418_1
theorem d_418_2 : List.drop 2 xm_c418 = xm_c418_2 := xm_dr d_418_1
theorem k_418_2 : xm_gi xm_c418 2 = some xm_e418_2 := xm_gt d_418_2
theorem d_418_3 : List.drop 3 xm_c418 = xm_c418_3 := xm_dr d_418_2
theorem k_418_3 : xm_gi xm_c418 3 = some xm_e418_3 := xm_gt d_418_3
theorem d_418_4 : List.drop 4 xm_c418 = xm_c418_4 := xm_dr d_418_3
theorem k_418_4 : xm_gi xm_c418 4 = some xm_e418_4 := xm_gt d_418_4
theorem d_418_5 : List.drop 5 xm_c418 = xm_c418_5 := xm_dr d_418_4
theorem k_418_5 : xm_gi xm_c418 5 = some xm_e418_5 := xm_gt d_418_5
theorem d_418_6 : List.drop 6 xm_c418 = xm_c418_6 := xm_dr d_418_5
theorem k_418_6 : xm_gi xm_c418 6 = some xm_e418_6 := xm_gt d_418_6
theorem d_418_7 : List.drop 7 xm_c418 = xm_c418_7 := xm_dr d_418_6
theorem k_418_7 : xm_gi xm_c418 7 = some xm_e418_7 := xm_gt d_418_7
theorem d_418_8 : List.drop 8 xm_c418 = xm_c418_8 := xm_dr d_418_7
theorem k_418_8 : xm_gi xm_c418 8 = some xm_e418_8 := xm_gt d_418_8
theorem d_418_9 : List.drop 9 xm_c418 = xm_c418_9 := xm_dr d_418_8
theorem k_418_9 : xm_gi xm_c418 9 = some xm_e418_9 := xm_gt d_418_9
theorem d_418_10 : List.drop 10 xm_c418 = xm_c418_10 := xm_dr d_418_9
theorem k_418_10 : xm_gi xm_c418 10 = some xm_e418_10 := xm_gt d_418_10
theorem d_418_11 : List.drop 11 xm_c418 = xm_c418_11 := xm_dr d_418_10
theorem k_418_11 : xm_gi xm_c418 11 = some xm_e418_11 := xm_gt d_418_11
theorem d_418_12 : List.drop 12 xm_c418 = xm_c418_12 := xm_dr d_418_11
theorem k_418_12 : xm_gi xm_c418 12 = some xm_e418_12 := xm_gt d_418_12
theorem d_418_13 : List.drop 13 xm_c418 = xm_c418_13 := xm_dr d_418_12
theorem k_418_13 : xm_gi xm_c418 13 = some xm_e418_13 := xm_gt d_418_13
theorem d_418_14 : List.drop 14 xm_c418 = xm_c418_14 := xm_dr d_418_13
theorem k_418_14 : xm_gi xm_c418 14 = some xm_e418_14 := xm_gt d_418_14
theorem d_418_15 : List.drop 15 xm_c418 = xm_c418_15 := xm_dr d_418_14
theorem k_418_15 : xm_gi xm_c418 15 = some xm_e418_15 := xm_gt d_418_15
theorem d_418_16 : List.drop 16 xm_c418 = xm_c418_16 := xm_dr d_418_15
theorem k_418_16 : xm_gi xm_c418 16 = some xm_e418_16 := xm_gt d_418_16
theorem d_418_17 : List.drop 17 xm_c418 = xm_c418_17 := xm_dr d_418_16
theorem k_418_17 : xm_gi xm_c418 17 = some xm_e418_17 := xm_gt d_418_17
theorem d_418_18 : List.drop 18 xm_c418 = xm_c418_18 := xm_dr d_418_17
theorem k_418_18 : xm_gi xm_c418 18 = some xm_e418_18 := xm_gt d_418_18
theorem d_418_19 : List.drop 19 xm_c418 = xm_c418_19 := xm_dr d_418_18
theorem k_418_19 : xm_gi xm_c418 19 = some xm_e418_19 := xm_gt d_418_19
theorem d_418_20 : List.drop 20 xm_c418 = xm_c418_20 := xm_dr d_418_19
theorem k_418_20 : xm_gi xm_c418 20 = some xm_e418_20 := xm_gt d_418_20
theorem d_418_21 : List.drop 21 xm_c418 = xm_c418_21 := xm_dr d_418_20
theorem k_418_21 : xm_gi xm_c418 21 = some xm_e418_21 := xm_gt d_418_21
theorem d_418_22 : List.drop 22 xm_c418 = xm_c418_22 := xm_dr d_418_21
theorem k_418_22 : xm_gi xm_c418 22 = some xm_e418_22 := xm_gt d_418_22
theorem d_418_23 : List.drop 23 xm_c418 = xm_c418_23 := xm_dr d_418_22
theorem k_418_23 : xm_gi xm_c418 23 = some xm_e418_23 := xm_gt d_418_23
theorem d_418_24 : List.drop 24 xm_c418 = xm_c418_24 := xm_dr d_418_23
theorem k_418_24 : xm_gi xm_c418 24 = some xm_e418_24 := xm_gt d_418_24
theorem d_418_25 : List.drop 25 xm_c418 = xm_c418_25 := xm_dr d_418_24
theorem k_418_25 : xm_gi xm_c418 25 = some xm_e418_25 := xm_gt d_418_25
theorem d_418_26 : List.drop 26 xm_c418 = xm_c418_26 := xm_dr d_418_25
theorem k_418_26 : xm_gi xm_c418 26 = some xm_e418_26 := xm_gt d_418_26
theorem d_418_27 : List.drop 27 xm_c418 = xm_c418_27 := xm_dr d_418_26
theorem k_418_27 : xm_gi xm_c418 27 = some xm_e418_27 := xm_gt d_418_27
theorem d_418_28 : List.drop 28 xm_c418 = xm_c418_28 := xm_dr d_418_27
theorem k_418_28 : xm_gi xm_c418 28 = some xm_e418_28 := xm_gt d_418_28
theorem d_418_29 : List.drop 29 xm_c418 = xm_c418_29 := xm_dr d_418_28
theorem k_418_29 : xm_gi xm_c418 29 = some xm_e418_29 := xm_gt d_418_29
theorem d_418_30 : List.drop 30 xm_c418 = xm_c418_30 := xm_dr d_418_29
theorem k_418_30 : xm_gi xm_c418 30 = some xm_e418_30 := xm_gt d_418_30
theorem d_418_31 : List.drop 31 xm_c418 = xm_c418_31 := xm_dr d_418_30
theorem k_418_31 : xm_gi xm_c418 31 = some xm_e418_31 := xm_gt d_418_31
theorem d_418_32 : List.drop 32 xm_c418 = xm_c418_32 := xm_dr d_418_31
theorem k_418_32 : xm_gi xm_c418 32 = some xm_e418_32 := xm_gt d_418_32
theorem d_418_33 : List.drop 33 xm_c418 = xm_c418_33 := xm_dr d_418_32
theorem k_418_33 : xm_gi xm_c418 33 = some xm_e418_33 := xm_gt d_418_33
theorem d_418_34 : List.drop 34 xm_c418 = xm_c418_34 := xm_dr d_418_33
theorem k_418_34 : xm_gi xm_c418 34 = some xm_e418_34 := xm_gt d_418_34
theorem d_418_35 : List.drop 35 xm_c418 = xm_c418_35 := xm_dr d_418_34
theorem k_418_35 : xm_gi xm_c418 35 = some xm_e418_35 := xm_gt d_418_35
theorem d_418_36 : List.drop 36 xm_c418 = xm_c418_36 := xm_dr d_418_35
theorem k_418_36 : xm_gi xm_c418 36 = some xm_e418_36 := xm_gt d_418_36
theorem d_418_37 : List.drop 37 xm_c418 = xm_c418_37 := xm_dr d_418_36
theorem k_418_37 : xm_gi xm_c418 37 = some xm_e418_37 := xm_gt d_418_37
theorem d_418_38 : List.drop 38 xm_c418 = xm_c418_38 := xm_dr d_418_37
theorem k_418_38 : xm_gi xm_c418 38 = some xm_e418_38 := xm_gt d_418_38
theorem d_418_39 : List.drop 39 xm_c418 = xm_c418_39 := xm_dr d_418_38
theorem k_418_39 : xm_gi xm_c418 39 = some xm_e418_39 := xm_gt d_418_39
theorem d_418_40 : List.drop 40 xm_c418 = xm_c418_40 := xm_dr d_418_39
theorem k_418_40 : xm_gi xm_c418 40 = some xm_e418_40 := xm_gt d_418_40
theorem d_418_41 : List.drop 41 xm_c418 = xm_c418_41 := xm_dr d_418_40
theorem k_418_41 : xm_gi xm_c418 41 = some xm_e418_41 := xm_gt d_418_41
theorem d_418_42 : List.drop 42 xm_c418 = xm_c418_42 := xm_dr d_418_41
theorem k_418_42 : xm_gi xm_c418 42 = some xm_e418_42 := xm_gt d_418_42
theorem d_418_43 : List.drop 43 xm_c418 = xm_c418_43 := xm_dr d_418_42
theorem k_418_43 : xm_gi xm_c418 43 = some xm_e418_43 := xm_gt d_418_43
theorem d_418_44 : List.drop 44 xm_c418 = xm_c418_44 := xm_dr d_418_43
theorem k_418_44 : xm_gi xm_c418 44 = some xm_e418_44 := xm_gt d_418_44
theorem xb_418_0 {sc : List Int} {f : Nat → List xm_V → xm_W → xm_R} {w : xm_W} {Q : Option xm_V × xm_W → Prop} {x0 : Nat} {x1 : Int} {x2 : Int} {x3 : Int} {x4 : Int}
  (h : xm_EQ (xm_old sc) xm_sta f xm_c418 4 [some (.inr (.inl (some x0))), some (.inl x1), some (.inl x2), some (.inl x3), some (.inl x4), some (.inl x1), some (.inl 0), none, none, none] [] w Q) :
  xm_EQ (xm_old sc) xm_sta f xm_c418 0 [some (.inr (.inl (some x0))), some (.inl x1), some (.inl x2), some (.inl x3), some (.inl x4), none, none, none, none, none] [] w Q :=
  (xq_iload_n k_418_0 rfl (xq_istore k_418_1 rfl (xq_iconst k_418_2 (xq_istore k_418_3 rfl h))))
theorem xb_418_4 {sc : List Int} {f : Nat → List xm_V → xm_W → xm_R} {w : xm_W} {Q : Option xm_V × xm_W → Prop} {x0 : Nat} {x1 : Int} {x2 : Int} {x3 : Int} {x4 : Int} {x5 : Int} {x6 : Int} {u7 : Option xm_V} {u8 : Option xm_V} {u9 : Option xm_V}
  (h : if (x6 : Int) < x3 then (xm_Oi (f 415 [.inr (.inl (some x0)), .inl x5] w) (fun z2 w1 => if (z2 : Int) < 0 then (if (x4 : Int) = 0 then (Q (some (.inl x5), w1)) else (Q (some (.inl x6), w1))) else (xm_O (xm_fr (xm_old sc) w1 x0 2 5) (fun r3 => xm_O (xm_ints (xm_old sc) w1 r3) (fun l4 => xm_O (xm_at l4 (xm_w ((xm_w (z2 * 5)) + 1))) (fun z5 => if (x2 : Int) = 0 then (xm_Oi (f 150 [.inl x5, .inl z5] w1) (fun z11 w10 => if (z11 : Int) < 0 then (if (x4 : Int) = 0 then (Q (some (.inl x5), w10)) else (Q (some (.inl x6), w10))) else (xm_EQ (xm_old sc) xm_sta f xm_c418 4 [some (.inr (.inl (some x0))), some (.inl x1), some (.inl x2), some (.inl x3), some (.inl x4), some (.inl z11), some (.inl (xm_w (x6 + 1))), some (.inl z2), some (.inl z5), some (.inl z11)] [] w10 Q))) else (xm_Oi (f 151 [.inl z5] w1) (fun z7 w6 => xm_Oi (f 150 [.inl x5, .inl z7] w6) (fun z9 w8 => if (z9 : Int) < 0 then (if (x4 : Int) = 0 then (Q (some (.inl x5), w8)) else (Q (some (.inl x6), w8))) else (xm_EQ (xm_old sc) xm_sta f xm_c418 4 [some (.inr (.inl (some x0))), some (.inl x1), some (.inl x2), some (.inl x3), some (.inl x4), some (.inl z9), some (.inl (xm_w (x6 + 1))), some (.inl z2), some (.inl z5), some (.inl z9)] [] w8 Q)))))))))) else (if (x4 : Int) = 0 then (Q (some (.inl x5), w)) else (Q (some (.inl x6), w)))) :
  xm_EQ (xm_old sc) xm_sta f xm_c418 4 [some (.inr (.inl (some x0))), some (.inl x1), some (.inl x2), some (.inl x3), some (.inl x4), some (.inl x5), some (.inl x6), u7, u8, u9] [] w Q :=
  (xq_iload k_418_4 rfl (xq_iload_n k_418_5 rfl (xq_ic_ge k_418_6 h (fun h => (xq_aload_n k_418_7 rfl (xq_iload k_418_8 rfl (xq_invv1 k_418_9 xr_415 rfl rfl rfl h (fun z2 w1 h => (xq_istore k_418_10 rfl (xq_iload k_418_11 rfl (xq_if_ge k_418_12 h (fun h => (xq_goto k_418_13 (xq_iload k_418_39 rfl (xq_if_ne k_418_40 h (fun h => (xq_iload k_418_41 rfl (xq_goto k_418_42 (xq_ireturn k_418_44 h)))) (fun h => (xq_iload k_418_43 rfl (xq_ireturn k_418_44 h))))))) (fun h => (xq_aload_n k_418_14 rfl (xq_getr k_418_15 rfl h (fun r3 h => (xq_iload k_418_16 rfl (xq_iconst k_418_17 (xq_imul k_418_18 (xq_iconst k_418_19 (xq_iadd k_418_20 (xq_iaload k_418_21 h (fun l4 h => h) (fun l4 z5 h => (xq_istore k_418_22 rfl (xq_iload k_418_23 rfl (xq_iload_n k_418_24 rfl (xq_if_ne k_418_25 h (fun h => (xq_iload k_418_26 rfl (xq_goto k_418_27 (xq_invs1 k_418_30 xr_150 rfl rfl rfl h (fun z11 w10 h => (xq_istore k_418_31 rfl (xq_iload k_418_32 rfl (xq_if_ge k_418_33 h (fun h => (xq_goto k_418_34 (xq_iload k_418_39 rfl (xq_if_ne k_418_40 h (fun h => (xq_iload k_418_41 rfl (xq_goto k_418_42 (xq_ireturn k_418_44 h)))) (fun h => (xq_iload k_418_43 rfl (xq_ireturn k_418_44 h))))))) (fun h => (xq_iload k_418_35 rfl (xq_istore k_418_36 rfl (xq_iinc k_418_37 rfl rfl (xq_goto k_418_38 h))))))))))))) (fun h => (xq_iload k_418_28 rfl (xq_invs1 k_418_29 xr_151 rfl rfl rfl h (fun z7 w6 h => (xq_invs1 k_418_30 xr_150 rfl rfl rfl h (fun z9 w8 h => (xq_istore k_418_31 rfl (xq_iload k_418_32 rfl (xq_if_ge k_418_33 h (fun h => (xq_goto k_418_34 (xq_iload k_418_39 rfl (xq_if_ne k_418_40 h (fun h => (xq_iload k_418_41 rfl (xq_goto k_418_42 (xq_ireturn k_418_44 h)))) (fun h => (xq_iload k_418_43 rfl (xq_ireturn k_418_44 h))))))) (fun h => (xq_iload k_418_35 rfl (xq_istore k_418_36 rfl (xq_iinc k_418_37 rfl rfl (xq_goto k_418_38 h))))))))))))))))))))))))))))))))))))) (fun h => (xq_iload k_418_39 rfl (xq_if_ne k_418_40 h (fun h => (xq_iload k_418_41 rfl (xq_goto k_418_42 (xq_ireturn k_418_44 h)))) (fun h => (xq_iload k_418_43 rfl (xq_ireturn k_418_44 h)))))))))
/-- ShodBackwards$Moor.wouldLeaveAll(IIII)Z -/
theorem d_419_0 : List.drop 0 xm_c419 = xm_c419 := rfl
theorem k_419_0 : xm_gi xm_c419 0 = some xm_e419_0 := xm_gt d_419_0
theorem d_419_1 : List.drop 1 xm_c419 = xm_c419_1 := xm_dr d_419_0
theorem k_419_1 : xm_gi xm_c419 1 = some xm_e419_1 := xm_gt d_419_1
theorem d_419_2 : List.drop 2 xm_c419 = xm_c419_2 := xm_dr d_419_1
theorem k_419_2 : xm_gi xm_c419 2 = some xm_e419_2 := xm_gt d_419_2
theorem d_419_3 : List.drop 3 xm_c419 = xm_c419_3 := xm_dr d_419_2
theorem k_419_3 : xm_gi xm_c419 3 = some xm_e419_3 := xm_gt d_419_3
theorem d_419_4 : List.drop 4 xm_c419 = xm_c419_4 := xm_dr d_419_3
theorem k_419_4 : xm_gi xm_c419 4 = some xm_e419_4 := xm_gt d_419_4
theorem d_419_5 : List.drop 5 xm_c419 = xm_c419_5 := xm_dr d_419_4
theorem k_419_5 : xm_gi xm_c419 5 = some xm_e419_5 := xm_gt d_419_5
theorem d_419_6 : List.drop 6 xm_c419 = xm_c419_6 := xm_dr d_419_5
theorem k_419_6 : xm_gi xm_c419 6 = some xm_e419_6 := xm_gt d_419_6
theorem d_419_7 : List.drop 7 xm_c419 = xm_c419_7 := xm_dr d_419_6
theorem k_419_7 : xm_gi xm_c419 7 = some xm_e419_7 := xm_gt d_419_7
theorem d_419_8 : List.drop 8 xm_c419 = xm_c419_8 := xm_dr d_419_7
theorem k_419_8 : xm_gi xm_c419 8 = some xm_e419_8 := xm_gt d_419_8
theorem d_419_9 : List.drop 9 xm_c419 = xm_c419_9 := xm_dr d_419_8
theorem k_419_9 : xm_gi xm_c419 9 = some xm_e419_9 := xm_gt d_419_9
theorem d_419_10 : List.drop 10 xm_c419 = xm_c419_10 := xm_dr d_419_9
theorem k_419_10 : xm_gi xm_c419 10 = some xm_e419_10 := xm_gt d_419_10
theorem d_419_11 : List.drop 11 xm_c419 = xm_c419_11 := xm_dr d_419_10
theorem k_419_11 : xm_gi xm_c419 11 = some xm_e419_11 := xm_gt d_419_11
theorem d_419_12 : List.drop 12 xm_c419 = xm_c419_12 := xm_dr d_419_11
theorem k_419_12 : xm_gi xm_c419 12 = some xm_e419_12 := xm_gt d_419_12
theorem d_419_13 : List.drop 13 xm_c419 = xm_c419_13 := xm_dr d_419_12
theorem k_419_13 : xm_gi xm_c419 13 = some xm_e419_13 := xm_gt d_419_13
theorem d_419_14 : List.drop 14 xm_c419 = xm_c419_14 := xm_dr d_419_13
theorem k_419_14 : xm_gi xm_c419 14 = some xm_e419_14 := xm_gt d_419_14
theorem d_419_15 : List.drop 15 xm_c419 = xm_c419_15 := xm_dr d_419_14
theorem k_419_15 : xm_gi xm_c419 15 = some xm_e419_15 := xm_gt d_419_15
theorem d_419_16 : List.drop 16 xm_c419 = xm_c419_16 := xm_dr d_419_15
theorem k_419_16 : xm_gi xm_c419 16 = some xm_e419_16 := xm_gt d_419_16
theorem d_419_17 : List.drop 17 xm_c419 = xm_c419_17 := xm_dr d_419_16
theorem k_419_17 : xm_gi xm_c419 17 = some xm_e419_17 := xm_gt d_419_17
theorem d_419_18 : List.drop 18 xm_c419 = xm_c419_18 := xm_dr d_419_17
theorem k_419_18 : xm_gi xm_c419 18 = some xm_e419_18 := xm_gt d_419_18
theorem d_419_19 : List.drop 19 xm_c419 = xm_c419_19 := xm_dr d_419_18
theorem k_419_19 : xm_gi xm_c419 19 = some xm_e419_19 := xm_gt d_419_19
theorem d_419_20 : List.drop 20 xm_c419 = xm_c419_20 := xm_dr d_419_19
theorem k_419_20 : xm_gi xm_c419 20 = some xm_e419_20 := xm_gt d_419_20
theorem d_419_21 : List.drop 21 xm_c419 = xm_c419_21 := xm_dr d_419_20
theorem k_419_21 : xm_gi xm_c419 21 = some xm_e419_21 := xm_gt d_419_21
theorem d_419_22 : List.drop 22 xm_c419 = xm_c419_22 := xm_dr d_419_21
theorem k_419_22 : xm_gi xm_c419 22 = some xm_e419_22 := xm_gt d_419_22
theorem d_419_23 : List.drop 23 xm_c419 = xm_c419_23 := xm_dr d_419_22
theorem k_419_23 : xm_gi xm_c419 23 = some xm_e419_23 := xm_gt d_419_23
theorem d_419_24 : List.drop 24 xm_c419 = xm_c419_24 := xm_dr d_419_23
theorem k_419_24 : xm_gi xm_c419 24 = some xm_e419_24 := xm_gt d_419_24
theorem d_419_25 : List.drop 25 xm_c419 = xm_c419_25 := xm_dr d_419_24
theorem k_419_25 : xm_gi xm_c419 25 = some xm_e419_25 := xm_gt d_419_25
theorem d_419_26 : List.drop 26 xm_c419 = xm_c419_26 := xm_dr d_419_25
theorem k_419_26 : xm_gi xm_c419 26 = some xm_e419_26 := xm_gt d_419_26
theorem d_419_27 : List.drop 27 xm_c419 = xm_c419_27 := xm_dr d_419_26
theorem k_419_27 : xm_gi xm_c419 27 = some xm_e419_27 := xm_gt d_419_27
theorem d_419_28 : List.drop 28 xm_c419 = xm_c419_28 := xm_dr d_419_27
theorem k_419_28 : xm_gi xm_c419 28 = some xm_e419_28 := xm_gt d_419_28
theorem d_419_29 : List.drop 29 xm_c419 = xm_c419_29 := xm_dr d_419_28
theorem k_419_29 : xm_gi xm_c419 29 = some xm_e419_29 := xm_gt d_419_29
theorem d_419_30 : List.drop 30 xm_c419 = xm_c419_30 := xm_dr d_419_29
theorem k_419_30 : xm_gi xm_c419 30 = some xm_e419_30 := xm_gt d_419_30
theorem d_419_31 : List.drop 31 xm_c419 = xm_c419_31 := xm_dr d_419_30
theorem k_419_31 : xm_gi xm_c419 31 = some xm_e419_31 := xm_gt d_419_31
theorem d_419_32 : List.drop 32 xm_c419 = xm_c419_32 := xm_dr d_419_31
theorem k_419_32 : xm_gi xm_c419 32 = some xm_e419_32 := xm_gt d_419_32
theorem d_419_33 : List.drop 33 xm_c419 = xm_c419_33 := xm_dr d_419_32
theorem k_419_33 : xm_gi xm_c419 33 = some xm_e419_33 := xm_gt d_419_33
theorem d_419_34 : List.drop 34 xm_c419 = xm_c419_34 := xm_dr d_419_33
theorem k_419_34 : xm_gi xm_c419 34 = some xm_e419_34 := xm_gt d_419_34
theorem d_419_35 : List.drop 35 xm_c419 = xm_c419_35 := xm_dr d_419_34
theorem k_419_35 : xm_gi xm_c419 35 = some xm_e419_35 := xm_gt d_419_35
theorem d_419_36 : List.drop 36 xm_c419 = xm_c419_36 := xm_dr d_419_35
theorem k_419_36 : xm_gi xm_c419 36 = some xm_e419_36 := xm_gt d_419_36
theorem d_419_37 : List.drop 37 xm_c419 = xm_c419_37 := xm_dr d_419_36
theorem k_419_37 : xm_gi xm_c419 37 = some xm_e419_37 := xm_gt d_419_37
theorem d_419_38 : List.drop 38 xm_c419 = xm_c419_38 := xm_dr d_419_37
theorem k_419_38 : xm_gi xm_c419 38 = some xm_e419_38 := xm_gt d_419_38
theorem d_419_39 : List.drop 39 xm_c419 = xm_c419_39 := xm_dr d_419_38
theorem k_419_39 : xm_gi xm_c419 39 = some xm_e419_39 := xm_gt d_419_39
theorem d_419_40 : List.drop 40 xm_c419 = xm_c419_40 := xm_dr d_419_39
theorem k_419_40 : xm_gi xm_c419 40 = some xm_e419_40 := xm_gt d_419_40
theorem d_419_41 : List.drop 41 xm_c419 = xm_c419_41 := xm_dr d_419_40
theorem k_419_41 : xm_gi xm_c419 41 = some xm_e419_41 := xm_gt d_419_41
theorem d_419_42 : List.drop 42 xm_c419 = xm_c419_42 := xm_dr d_419_41
theorem k_419_42 : xm_gi xm_c419 42 = some xm_e419_42 := xm_gt d_419_42
theorem d_419_43 : List.drop 43 xm_c419 = xm_c419_43 := xm_dr d_419_42
theorem k_419_43 : xm_gi xm_c419 43 = some xm_e419_43 := xm_gt d_419_43
theorem d_419_44 : List.drop 44 xm_c419 = xm_c419_44 := xm_dr d_419_43
theorem k_419_44 : xm_gi xm_c419 44 = some xm_e419_44 := xm_gt d_419_44
theorem d_419_45 : List.drop 45 xm_c419 = xm_c419_45 := xm_dr d_419_44
theorem k_419_45 : xm_gi xm_c419 45 = some xm_e419_45 := xm_gt d_419_45
theorem d_419_46 : List.drop 46 xm_c419 = xm_c419_46 := xm_dr d_419_45
theorem k_419_46 : xm_gi xm_c419 46 = some xm_e419_46 := xm_gt d_419_46
theorem d_419_47 : List.drop 47 xm_c419 = xm_c419_47 := xm_dr d_419_46
theorem k_419_47 : xm_gi xm_c419 47 = some xm_e419_47 := xm_gt d_419_47
theorem d_419_48 : List.drop 48 xm_c419 = xm_c419_48 := xm_dr d_419_47
theorem k_419_48 : xm_gi xm_c419 48 = some xm_e419_48 := xm_gt d_419_48
theorem d_419_49 : List.drop 49 xm_c419 = xm_c419_49 := xm_dr d_419_48
theorem k_419_49 : xm_gi xm_c419 49 = some xm_e419_49 := xm_gt d_419_49
theorem d_419_50 : List.drop 50 xm_c419 = xm_c419_50 := xm_dr d_419_49
theorem k_419_50 : xm_gi xm_c419 50 = some xm_e419_50 := xm_gt d_419_50
theorem d_419_51 : List.drop 51 xm_c419 = xm_c419_51 := xm_dr d_419_50
theorem k_419_51 : xm_gi xm_c419 51 = some xm_e419_51 := xm_gt d_419_51
theorem d_419_52 : List.drop 52 xm_c419 = xm_c419_52 := xm_dr d_419_51
theorem k_419_52 : xm_gi xm_c419 52 = some xm_e419_52 := xm_gt d_419_52
theorem d_419_53 : List.drop 53 xm_c419 = xm_c419_53 := xm_dr d_419_52
theorem k_419_53 : xm_gi xm_c419 53 = some xm_e419_53 := xm_gt d_419_53
theorem d_419_54 : List.drop 54 xm_c419 = xm_c419_54 := xm_dr d_419_53
theorem k_419_54 : xm_gi xm_c419 54 = some xm_e419_54 := xm_gt d_419_54
theorem d_419_55 : List.drop 55 xm_c419 = xm_c419_55 := xm_dr d_419_54
theorem k_419_55 : xm_gi xm_c419 55 = some xm_e419_55 := xm_gt d_419_55
theorem d_419_56 : List.drop 56 xm_c419 = xm_c419_56 := xm_dr d_419_55
theorem k_419_56 : xm_gi xm_c419 56 = some xm_e419_56 := xm_gt d_419_56
theorem d_419_57 : List.drop 57 xm_c419 = xm_c419_57 := xm_dr d_419_56
theorem k_419_57 : xm_gi xm_c419 57 = some xm_e419_57 := xm_gt d_419_57
theorem d_419_58 : List.drop 58 xm_c419 = xm_c419_58 := xm_dr d_419_57
theorem k_419_58 : xm_gi xm_c419 58 = some xm_e419_58 := xm_gt d_419_58
theorem d_419_59 : List.drop 59 xm_c419 = xm_c419_59 := xm_dr d_419_58
theorem k_419_59 : xm_gi xm_c419 59 = some xm_e419_59 := xm_gt d_419_59
theorem d_419_60 : List.drop 60 xm_c419 = xm_c419_60 := xm_dr d_419_59
theorem k_419_60 : xm_gi xm_c419 60 = some xm_e419_60 := xm_gt d_419_60
theorem d_419_61 : List.drop 61 xm_c419 = xm_c419_61 := xm_dr d_419_60
theorem k_419_61 : xm_gi xm_c419 61 = some xm_e419_61 := xm_gt d_419_61
theorem d_419_62 : List.drop 62 xm_c419 = xm_c419_62 := xm_dr d_419_61
theorem k_419_62 : xm_gi xm_c419 62 = some xm_e419_62 := xm_gt d_419_62
theorem d_419_63 : List.drop 63 xm_c419 = xm_c419_63 := xm_dr d_419_62
theorem k_419_63 : xm_gi xm_c419 63 = some xm_e419_63 := xm_gt d_419_63
theorem d_419_64 : List.drop 64 xm_c419 = xm_c419_64 := xm_dr d_419_63
theorem k_419_64 : xm_gi xm_c419 64 = some xm_e419_64 := xm_gt d_419_64
theorem d_419_65 : List.drop 65 xm_c419 = xm_c419_65 := xm_dr d_419_64
theorem k_419_65 : xm_gi xm_c419 65 = some xm_e419_65 := xm_gt d_419_65
theorem d_419_66 : List.drop 66 xm_c419 = xm_c419_66 := xm_dr d_419_65
theorem k_419_66 : xm_gi xm_c419 66 = some xm_e419_66 := xm_gt d_419_66
theorem d_419_67 : List.drop 67 xm_c419 = xm_c419_67 := xm_dr d_419_66
theorem k_419_67 : xm_gi xm_c419 67 = some xm_e419_67 := xm_gt d_419_67
theorem d_419_68 : List.drop 68 xm_c419 = xm_c419_68 := xm_dr d_419_67
theorem k_419_68 : xm_gi xm_c419 68 = some xm_e419_68 := xm_gt d_419_68
theorem d_419_69 : List.drop 69 xm_c419 = xm_c419_69 := xm_dr d_419_68
theorem k_419_69 : xm_gi xm_c419 69 = some xm_e419_69 := xm_gt d_419_69
theorem d_419_70 : List.drop 70 xm_c419 = xm_c419_70 := xm_dr d_419_69
theorem k_419_70 : xm_gi xm_c419 70 = some xm_e419_70 := xm_gt d_419_70
theorem d_419_71 : List.drop 71 xm_c419 = xm_c419_71 := xm_dr d_419_70
theorem k_419_71 : xm_gi xm_c419 71 = some xm_e419_71 := xm_gt d_419_71
theorem d_419_72 : List.drop 72 xm_c419 = xm_c419_72 := xm_dr d_419_71
theorem k_419_72 : xm_gi xm_c419 72 = some xm_e419_72 := xm_gt d_419_72
theorem d_419_73 : List.drop 73 xm_c419 = xm_c419_73 := xm_dr d_419_72
theorem k_419_73 : xm_gi xm_c419 73 = some xm_e419_73 := xm_gt d_419_73
theorem d_419_74 : List.drop 74 xm_c419 = xm_c419_74 := xm_dr d_419_73
theorem k_419_74 : xm_gi xm_c419 74 = some xm_e419_74 := xm_gt d_419_74
theorem d_419_75 : List.drop 75 xm_c419 = xm_c419_75 := xm_dr d_419_74
theorem k_419_75 : xm_gi xm_c419 75 = some xm_e419_75 := xm_gt d_419_75
theorem d_419_76 : List.drop 76 xm_c419 = xm_c419_76 := xm_dr d_419_75
theorem k_419_76 : xm_gi xm_c419 76 = some xm_e419_76 := xm_gt d_419_76
theorem d_419_77 : List.drop 77 xm_c419 = xm_c419_77 := xm_dr d_419_76
theorem k_419_77 : xm_gi xm_c419 77 = some xm_e419_77 := xm_gt d_419_77
theorem d_419_78 : List.drop 78 xm_c419 = xm_c419_78 := xm_dr d_419_77
theorem k_419_78 : xm_gi xm_c419 78 = some xm_e419_78 := xm_gt d_419_78
theorem d_419_79 : List.drop 79 xm_c419 = xm_c419_79 := xm_dr d_419_78
theorem k_419_79 : xm_gi xm_c419 79 = some xm_e419_79 := xm_gt d_419_79
theorem d_419_80 : List.drop 80 xm_c419 = xm_c419_80 := xm_dr d_419_79
theorem k_419_80 : xm_gi xm_c419 80 = some xm_e419_80 := xm_gt d_419_80
theorem d_419_81 : List.drop 81 xm_c419 = xm_c419_81 := xm_dr d_419_80
theorem k_419_81 : xm_gi xm_c419 81 = some xm_e419_81 := xm_gt d_419_81
theorem d_419_82 : List.drop 82 xm_c419 = xm_c419_82 := xm_dr d_419_81
theorem k_419_82 : xm_gi xm_c419 82 = some xm_e419_82 := xm_gt d_419_82
theorem d_419_83 : List.drop 83 xm_c419 = xm_c419_83 := xm_dr d_419_82
theorem k_419_83 : xm_gi xm_c419 83 = some xm_e419_83 := xm_gt d_419_83
theorem d_419_84 : List.drop 84 xm_c419 = xm_c419_84 := xm_dr d_419_83
theorem k_419_84 : xm_gi xm_c419 84 = some xm_e419_84 := xm_gt d_419_84
theorem d_419_85 : List.drop 85 xm_c419 = xm_c419_85 := xm_dr d_419_84
theorem k_419_85 : xm_gi xm_c419 85 = some xm_e419_85 := xm_gt d_419_85
theorem d_419_86 : List.drop 86 xm_c419 = xm_c419_86 := xm_dr d_419_85
theorem k_419_86 : xm_gi xm_c419 86 = some xm_e419_86 := xm_gt d_419_86
theorem d_419_87 : List.drop 87 xm_c419 = xm_c419_87 := xm_dr d_419_86
theorem k_419_87 : xm_gi xm_c419 87 = some xm_e419_87 := xm_gt d_419_87
theorem d_419_88 : List.drop 88 xm_c419 = xm_c419_88 := xm_dr d_419_87
theorem k_419_88 : xm_gi xm_c419 88 = some xm_e419_88 := xm_gt d_419_88
theorem d_419_89 : List.drop 89 xm_c419 = xm_c419_89 := xm_dr d_419_88
theorem k_419_89 : xm_gi xm_c419 89 = some xm_e419_89 := xm_gt d_419_89
theorem d_419_90 : List.drop 90 xm_c419 = xm_c419_90 := xm_dr d_419_89
theorem k_419_90 : xm_gi xm_c419 90 = some xm_e419_90 := xm_gt d_419_90
theorem xb_419_0 {sc : List Int} {f : Nat → List xm_V → xm_W → xm_R} {w : xm_W} {Q : Option xm_V × xm_W → Prop} {x0 : Nat} {x1 : Int} {x2 : Int} {x3 : Int} {x4 : Int}
  (h : xm_O (xm_fr (xm_old sc) w x0 2 3) (fun r1 => xm_O (xm_refs (xm_old sc) w r1) (fun l2 => xm_O (xm_at l2 x1) (fun r3 => xm_O r3 (fun y4 => xm_O (xm_fi (xm_old sc) w y4 4 1) (fun z5 => xm_O (xm_fi (xm_old sc) w y4 4 3) (fun z6 => xm_Oi (f 153 [.inl x2, .inl z5, .inl z6] w) (fun z8 w7 => xm_Oi (f 420 [.inr (.inl (some x0)), .inl x1, .inl 0] w7) (fun z10 w9 => xm_EQ (xm_old sc) xm_sta f xm_c419 21 [some (.inr (.inl (some x0))), some (.inl x1), some (.inl x2), some (.inl x3), some (.inl x4), some (.inr (.inl (some y4))), some (.inl z8), some (.inl x3), some (.inl z10), some (.inl 0), none, none, none] [] w9 Q))))))))) :
  xm_EQ (xm_old sc) xm_sta f xm_c419 0 [some (.inr (.inl (some x0))), some (.inl x1), some (.inl x2), some (.inl x3), some (.inl x4), none, none, none, none, none, none, none, none] [] w Q :=
  (xq_aload_n k_419_0 rfl (xq_getr k_419_1 rfl h (fun r1 h => (xq_iload_n k_419_2 rfl (xq_aaload k_419_3 h (fun l2 h => h) (fun l2 r3 h => (xq_astore k_419_4 rfl (xq_iload_n k_419_5 rfl (xq_aload k_419_6 rfl (match r3, h with
 | some y4, h => (xq_geti0 k_419_7 rfl h (fun z5 h => (xq_aload k_419_8 rfl (xq_geti0 k_419_9 rfl h (fun z6 h => (xq_invs1 k_419_10 xr_153 rfl rfl rfl h (fun z8 w7 h => (xq_istore k_419_11 rfl (xq_iload_n k_419_12 rfl (xq_istore k_419_13 rfl (xq_aload_n k_419_14 rfl (xq_iload_n k_419_15 rfl (xq_iconst k_419_16 (xq_invv1 k_419_17 xr_420 rfl rfl rfl h (fun z10 w9 h => (xq_istore k_419_18 rfl (xq_iconst k_419_19 (xq_istore k_419_20 rfl h))))))))))))))))))
 | none, h => False.elim h))))))))))
theorem xb_419_21 {sc : List Int} {f : Nat → List xm_V → xm_W → xm_R} {w : xm_W} {Q : Option xm_V × xm_W → Prop} {x0 : Nat} {x1 : Int} {x2 : Int} {x3 : Int} {x4 : Int} {x5 : Option Nat} {x6 : Int} {x7 : Int} {x8 : Int} {x9 : Int} {u10 : Option xm_V} {u11 : Option xm_V} {u12 : Option xm_V}
  (h : xm_O x5 (fun y1 => xm_O (xm_fi (xm_old sc) w y1 4 4) (fun z2 => if (x9 : Int) < z2 then (xm_O (xm_fi (xm_old sc) w x0 2 2) (fun z3 => if ((xm_w (x4 + x9)) : Int) < z3 then (xm_O (xm_fr (xm_old sc) w y1 4 6) (fun r4 => xm_O (xm_ints (xm_old sc) w r4) (fun l5 => xm_O (xm_at l5 x9) (fun z6 => xm_Oi (f 150 [.inl x7, .inl z6] w) (fun z8 w7 => if (z8 : Int) < 0 then (xm_EQ (xm_old sc) xm_sta f xm_c419 21 [some (.inr (.inl (some x0))), some (.inl x1), some (.inl x2), some (.inl x3), some (.inl x4), some (.inr (.inl (some y1))), some (.inl x6), some (.inl x7), some (.inl x8), some (.inl (xm_w (x9 + 1))), some (.inl z6), some (.inl z8), u12] [] w7 Q) else (xm_Oi (f 152 [.inl x2, .inl z6, .inl x9] w7) (fun z10 w9 => if (z10 : Int) < 0 then (xm_EQ (xm_old sc) xm_sta f xm_c419 21 [some (.inr (.inl (some x0))), some (.inl x1), some (.inl x2), some (.inl x3), some (.inl x4), some (.inr (.inl (some y1))), some (.inl x6), some (.inl z8), some (.inl x8), some (.inl (xm_w (x9 + 1))), some (.inl z6), some (.inl z8), some (.inl z10)] [] w9 Q) else (xm_O (xm_fi (xm_old sc) w9 x0 2 2) (fun z11 => xm_Oi (f 403 [.inr (.inl (some x0)), .inl x7] w9) (fun z13 w12 => if ((xm_w ((xm_w (x4 + x9)) + z13)) : Int) < z11 then (xm_EQ (xm_old sc) xm_sta f xm_c419 21 [some (.inr (.inl (some x0))), some (.inl x1), some (.inl x2), some (.inl x3), some (.inl x4), some (.inr (.inl (some y1))), some (.inl x6), some (.inl z8), some (.inl x8), some (.inl (xm_w (x9 + 1))), some (.inl z6), some (.inl z8), some (.inl z10)] [] w12 Q) else (if (x8 : Int) < 0 then (Q (some (.inl 0), w12)) else (xm_Oi (f 421 [.inr (.inl (some x0)), .inl x8, .inl x7, .inl z10, .inl x6, .inl (xm_w (x4 + x9))] w12) (fun z15 w14 => if (z15 : Int) = 0 then (Q (some (.inl 0), w14)) else (xm_Oi (f 420 [.inr (.inl (some x0)), .inl x1, .inl (xm_w (x8 + 1))] w14) (fun z17 w16 => xm_EQ (xm_old sc) xm_sta f xm_c419 21 [some (.inr (.inl (some x0))), some (.inl x1), some (.inl x2), some (.inl x3), some (.inl x4), some (.inr (.inl (some y1))), some (.inl x6), some (.inl z8), some (.inl z17), some (.inl (xm_w (x9 + 1))), some (.inl z6), some (.inl z8), some (.inl z10)] [] w16 Q))))))))))))))) else (if (x8 : Int) < 0 then (Q (some (.inl 1), w)) else (Q (some (.inl 0), w))))) else (if (x8 : Int) < 0 then (Q (some (.inl 1), w)) else (Q (some (.inl 0), w)))))) :
  xm_EQ (xm_old sc) xm_sta f xm_c419 21 [some (.inr (.inl (some x0))), some (.inl x1), some (.inl x2), some (.inl x3), some (.inl x4), some (.inr (.inl x5)), some (.inl x6), some (.inl x7), some (.inl x8), some (.inl x9), u10, u11, u12] [] w Q :=
  (xq_iload k_419_21 rfl (xq_aload k_419_22 rfl (match x5, h with
 | some y1, h => (xq_geti0 k_419_23 rfl h (fun z2 h => (xq_ic_ge k_419_24 h (fun h => (xq_iload k_419_25 rfl (xq_iload k_419_26 rfl (xq_iadd k_419_27 (xq_aload_n k_419_28 rfl (xq_geti0 k_419_29 rfl h (fun z3 h => (xq_ic_ge k_419_30 h (fun h => (xq_aload k_419_31 rfl (xq_getr k_419_32 rfl h (fun r4 h => (xq_iload k_419_33 rfl (xq_iaload k_419_34 h (fun l5 h => h) (fun l5 z6 h => (xq_istore k_419_35 rfl (xq_iload k_419_36 rfl (xq_iload k_419_37 rfl (xq_invs1 k_419_38 xr_150 rfl rfl rfl h (fun z8 w7 h => (xq_istore k_419_39 rfl (xq_iload k_419_40 rfl (xq_if_ge k_419_41 h (fun h => (xq_goto k_419_42 (xq_iinc k_419_83 rfl rfl (xq_goto k_419_84 h)))) (fun h => (xq_iload_n k_419_43 rfl (xq_iload k_419_44 rfl (xq_iload k_419_45 rfl (xq_invs1 k_419_46 xr_152 rfl rfl rfl h (fun z10 w9 h => (xq_istore k_419_47 rfl (xq_iload k_419_48 rfl (xq_if_lt k_419_49 h (fun h => (xq_iload k_419_81 rfl (xq_istore k_419_82 rfl (xq_iinc k_419_83 rfl rfl (xq_goto k_419_84 h))))) (fun h => (xq_aload_n k_419_50 rfl (xq_geti0 k_419_51 rfl h (fun z11 h => (xq_iload k_419_52 rfl (xq_iload k_419_53 rfl (xq_iadd k_419_54 (xq_aload_n k_419_55 rfl (xq_iload k_419_56 rfl (xq_invv1 k_419_57 xr_403 rfl rfl rfl h (fun z13 w12 h => (xq_iadd k_419_58 (xq_ic_gt k_419_59 h (fun h => (xq_iload k_419_81 rfl (xq_istore k_419_82 rfl (xq_iinc k_419_83 rfl rfl (xq_goto k_419_84 h))))) (fun h => (xq_iload k_419_60 rfl (xq_if_lt k_419_61 h (fun h => (xq_iconst k_419_72 (xq_ireturn k_419_73 h))) (fun h => (xq_aload_n k_419_62 rfl (xq_iload k_419_63 rfl (xq_iload k_419_64 rfl (xq_iload k_419_65 rfl (xq_iload k_419_66 rfl (xq_iload k_419_67 rfl (xq_iload k_419_68 rfl (xq_iadd k_419_69 (xq_invv2 k_419_70 xr_421 rfl rfl rfl h (fun z15 w14 h => (xq_if_ne k_419_71 h (fun h => (xq_iconst k_419_72 (xq_ireturn k_419_73 h))) (fun h => (xq_aload_n k_419_74 rfl (xq_iload_n k_419_75 rfl (xq_iload k_419_76 rfl (xq_iconst k_419_77 (xq_iadd k_419_78 (xq_invv1 k_419_79 xr_420 rfl rfl rfl h (fun z17 w16 h => (xq_istore k_419_80 rfl (xq_iload k_419_81 rfl (xq_istore k_419_82 rfl (xq_iinc k_419_83 rfl rfl (xq_goto k_419_84 h))))))))))))))))))))))))))))))))))))))))))))))))))))))))))))))))) (fun h => (xq_iload k_419_85 rfl (xq_if_ge k_419_86 h (fun h => (xq_iconst k_419_87 (xq_goto k_419_88 (xq_ireturn k_419_90 h)))) (fun h => (xq_iconst k_419_89 (xq_ireturn k_419_90 h)))))))))))))) (fun h => (xq_iload k_419_85 rfl (xq_if_ge k_419_86 h (fun h => (xq_iconst k_419_87 (xq_goto k_419_88 (xq_ireturn k_419_90 h)))) (fun h => (xq_iconst k_419_89 (xq_ireturn k_419_90 h)))))))))
 | none, h => False.elim h)))
/-- ShodBackwards$Moor.printOf(II)I -/
theorem d_420_0 : List.drop 0 xm_c420 = xm_c420 := rfl
theorem k_420_0 : xm_gi xm_c420 0 = some xm_e420_0 := xm_gt d_420_0
theorem d_420_1 : List.drop 1 xm_c420 = xm_c420_1 := xm_dr d_420_0
theorem k_420_1 : xm_gi xm_c420 1 = some xm_e420_1 := xm_gt d_420_1
theorem d_420_2 : List.drop 2 xm_c420 = xm_c420_2 := xm_dr d_420_1
theorem k_420_2 : xm_gi xm_c420 2 = some xm_e420_2 := xm_gt d_420_2
theorem d_420_3 : List.drop 3 xm_c420 = xm_c420_3 := xm_dr d_420_2
theorem k_420_3 : xm_gi xm_c420 3 = some xm_e420_3 := xm_gt d_420_3
theorem d_420_4 : List.drop 4 xm_c420 = xm_c420_4 := xm_dr d_420_3
theorem k_420_4 : xm_gi xm_c420 4 = some xm_e420_4 := xm_gt d_420_4
theorem d_420_5 : List.drop 5 xm_c420 = xm_c420_5 := xm_dr d_420_4
theorem k_420_5 : xm_gi xm_c420 5 = some xm_e420_5 := xm_gt d_420_5
theorem d_420_6 : List.drop 6 xm_c420 = xm_c420_6 := xm_dr d_420_5
theorem k_420_6 : xm_gi xm_c420 6 = some xm_e420_6 := xm_gt d_420_6
theorem d_420_7 : List.drop 7 xm_c420 = xm_c420_7 := xm_dr d_420_6
theorem k_420_7 : xm_gi xm_c420 7 = some xm_e420_7 := xm_gt d_420_7
theorem d_420_8 : List.drop 8 xm_c420 = xm_c420_8 := xm_dr d_420_7
theorem k_420_8 : xm_gi xm_c420 8 = some xm_e420_8 := xm_gt d_420_8
theorem d_420_9 : List.drop 9 xm_c420 = xm_c420_9 := xm_dr d_420_8
theorem k_420_9 : xm_gi xm_c420 9 = some xm_e420_9 := xm_gt d_420_9
theorem d_420_10 : List.drop 10 xm_c420 = xm_c420_10 := xm_dr d_420_9
theorem k_420_10 : xm_gi xm_c420 10 = some xm_e420_10 := xm_gt d_420_10
theorem d_420_11 : List.drop 11 xm_c420 = xm_c420_11 := xm_dr d_420_10
theorem k_420_11 : xm_gi xm_c420 11 = some xm_e420_11 := xm_gt d_420_11
theorem d_420_12 : List.drop 12 xm_c420 = xm_c420_12 := xm_dr d_420_11
theorem k_420_12 : xm_gi xm_c420 12 = some xm_e420_12 := xm_gt d_420_12
theorem d_420_13 : List.drop 13 xm_c420 = xm_c420_13 := xm_dr d_420_12
theorem k_420_13 : xm_gi xm_c420 13 = some xm_e420_13 := xm_gt d_420_13
theorem d_420_14 : List.drop 14 xm_c420 = xm_c420_14 := xm_dr d_420_13
theorem k_420_14 : xm_gi xm_c420 14 = some xm_e420_14 := xm_gt d_420_14
theorem d_420_15 : List.drop 15 xm_c420 = xm_c420_15 := xm_dr d_420_14
theorem k_420_15 : xm_gi xm_c420 15 = some xm_e420_15 := xm_gt d_420_15
theorem d_420_16 : List.drop 16 xm_c420 = xm_c420_16 := xm_dr d_420_15
theorem k_420_16 : xm_gi xm_c420 16 = some xm_e420_16 := xm_gt d_420_16
theorem d_420_17 : List.drop 17 xm_c420 = xm_c420_17 := xm_dr d_420_16
theorem k_420_17 : xm_gi xm_c420 17 = some xm_e420_17 := xm_gt d_420_17
theorem d_420_18 : List.drop 18 xm_c420 = xm_c420_18 := xm_dr d_420_17
theorem k_420_18 : xm_gi xm_c420 18 = some xm_e420_18 := xm_gt d_420_18
theorem d_420_19 : List.drop 19 xm_c420 = xm_c420_19 := xm_dr d_420_18
theorem k_420_19 : xm_gi xm_c420 19 = some xm_e420_19 := xm_gt d_420_19
theorem d_420_20 : List.drop 20 xm_c420 = xm_c420_20 := xm_dr d_420_19
theorem k_420_20 : xm_gi xm_c420 20 = some xm_e420_20 := xm_gt d_420_20
theorem d_420_21 : List.drop 21 xm_c420 = xm_c420_21 := xm_dr d_420_20
theorem k_420_21 : xm_gi xm_c420 21 = some xm_e420_21 := xm_gt d_420_21
theorem xb_420_0 {sc : List Int} {f : Nat → List xm_V → xm_W → xm_R} {w : xm_W} {Q : Option xm_V × xm_W → Prop} {x0 : Nat} {x1 : Int} {x2 : Int}
  (h : xm_EQ (xm_old sc) xm_sta f xm_c420 2 [some (.inr (.inl (some x0))), some (.inl x1), some (.inl x2), some (.inl x2)] [] w Q) :
  xm_EQ (xm_old sc) xm_sta f xm_c420 0 [some (.inr (.inl (some x0))), some (.inl x1), some (.inl x2), none] [] w Q :=
  (xq_iload_n k_420_0 rfl (xq_istore_n k_420_1 rfl h))
theorem xb_420_2 {sc : List Int} {f : Nat → List xm_V → xm_W → xm_R} {w : xm_W} {Q : Option xm_V × xm_W → Prop} {x0 : Nat} {x1 : Int} {x2 : Int} {x3 : Int}
  (h : xm_O (xm_fi (xm_old sc) w x0 2 6) (fun z1 => if (x3 : Int) < z1 then (xm_O (xm_fr (xm_old sc) w x0 2 5) (fun r2 => xm_O (xm_ints (xm_old sc) w r2) (fun l3 => xm_O (xm_at l3 (xm_w ((xm_w (x3 * 5)) + 4))) (fun z4 => if (z4 : Int) = x1 then (Q (some (.inl x3), w)) else (xm_EQ (xm_old sc) xm_sta f xm_c420 2 [some (.inr (.inl (some x0))), some (.inl x1), some (.inl x2), some (.inl (xm_w (x3 + 1)))] [] w Q))))) else (Q (some (.inl (-1)), w)))) :
  xm_EQ (xm_old sc) xm_sta f xm_c420 2 [some (.inr (.inl (some x0))), some (.inl x1), some (.inl x2), some (.inl x3)] [] w Q :=
  (xq_iload_n k_420_2 rfl (xq_aload_n k_420_3 rfl (xq_geti0 k_420_4 rfl h (fun z1 h => (xq_ic_ge k_420_5 h (fun h => (xq_aload_n k_420_6 rfl (xq_getr k_420_7 rfl h (fun r2 h => (xq_iload_n k_420_8 rfl (xq_iconst k_420_9 (xq_imul k_420_10 (xq_iconst k_420_11 (xq_iadd k_420_12 (xq_iaload k_420_13 h (fun l3 h => h) (fun l3 z4 h => (xq_iload_n k_420_14 rfl (xq_ic_ne k_420_15 h (fun h => (xq_iload_n k_420_16 rfl (xq_ireturn k_420_17 h))) (fun h => (xq_iinc k_420_18 rfl rfl (xq_goto k_420_19 h)))))))))))))))) (fun h => (xq_iconst k_420_20 (xq_ireturn k_420_21 h))))))))
/-- ShodBackwards$Moor.isPrint(IIIII)Z -/
theorem d_421_0 : List.drop 0 xm_c421 = xm_c421 := rfl
theorem k_421_0 : xm_gi xm_c421 0 = some xm_e421_0 := xm_gt d_421_0
theorem d_421_1 : List.drop 1 xm_c421 = xm_c421_1 := xm_dr d_421_0
theorem k_421_1 : xm_gi xm_c421 1 = some xm_e421_1 := xm_gt d_421_1
theorem d_421_2 : List.drop 2 xm_c421 = xm_c421_2 := xm_dr d_421_1
theorem k_421_2 : xm_gi xm_c421 2 = some xm_e421_2 := xm_gt d_421_2
theorem d_421_3 : List.drop 3 xm_c421 = xm_c421_3 := xm_dr d_421_2
theorem k_421_3 : xm_gi xm_c421 3 = some xm_e421_3 := xm_gt d_421_3
theorem d_421_4 : List.drop 4 xm_c421 = xm_c421_4 := xm_dr d_421_3
theorem k_421_4 : xm_gi xm_c421 4 = some xm_e421_4 := xm_gt d_421_4
theorem d_421_5 : List.drop 5 xm_c421 = xm_c421_5 := xm_dr d_421_4
theorem k_421_5 : xm_gi xm_c421 5 = some xm_e421_5 := xm_gt d_421_5
theorem d_421_6 : List.drop 6 xm_c421 = xm_c421_6 := xm_dr d_421_5
theorem k_421_6 : xm_gi xm_c421 6 = some xm_e421_6 := xm_gt d_421_6
theorem d_421_7 : List.drop 7 xm_c421 = xm_c421_7 := xm_dr d_421_6
theorem k_421_7 : xm_gi xm_c421 7 = some xm_e421_7 := xm_gt d_421_7
theorem d_421_8 : List.drop 8 xm_c421 = xm_c421_8 := xm_dr d_421_7
theorem k_421_8 : xm_gi xm_c421 8 = some xm_e421_8 := xm_gt d_421_8
theorem d_421_9 : List.drop 9 xm_c421 = xm_c421_9 := xm_dr d_421_8
theorem k_421_9 : xm_gi xm_c421 9 = some xm_e421_9 := xm_gt d_421_9
theorem d_421_10 : List.drop 10 xm_c421 = xm_c421_10 := xm_dr d_421_9
theorem k_421_10 : xm_gi xm_c421 10 = some xm_e421_10 := xm_gt d_421_10
theorem d_421_11 : List.drop 11 xm_c421 = xm_c421_11 := xm_dr d_421_10
theorem k_421_11 : xm_gi xm_c421 11 = some xm_e421_11 := xm_gt d_421_11
theorem d_421_12 : List.drop 12 xm_c421 = xm_c421_12 := xm_dr d_421_11
theorem k_421_12 : xm_gi xm_c421 12 = some xm_e421_12 := xm_gt d_421_12
theorem d_421_13 : List.drop 13 xm_c421 = xm_c421_13 := xm_dr d_421_12
theorem k_421_13 : xm_gi xm_c421 13 = some xm_e421_13 := xm_gt d_421_13
theorem d_421_14 : List.drop 14 xm_c421 = xm_c421_14 := xm_dr d_421_13
theorem k_421_14 : xm_gi xm_c421 14 = some xm_e421_14 := xm_gt d_421_14
theorem d_421_15 : List.drop 15 xm_c421 = xm_c421_15 := xm_dr d_421_14
theorem k_421_15 : xm_gi xm_c421 15 = some xm_e421_15 := xm_gt d_421_15
theorem d_421_16 : List.drop 16 xm_c421 = xm_c421_16 := xm_dr d_421_15
theorem k_421_16 : xm_gi xm_c421 16 = some xm_e421_16 := xm_gt d_421_16
theorem d_421_17 : List.drop 17 xm_c421 = xm_c421_17 := xm_dr d_421_16
theorem k_421_17 : xm_gi xm_c421 17 = some xm_e421_17 := xm_gt d_421_17
theorem d_421_18 : List.drop 18 xm_c421 = xm_c421_18 := xm_dr d_421_17
theorem k_421_18 : xm_gi xm_c421 18 = some xm_e421_18 := xm_gt d_421_18
theorem d_421_19 : List.drop 19 xm_c421 = xm_c421_19 := xm_dr d_421_18
theorem k_421_19 : xm_gi xm_c421 19 = some xm_e421_19 := xm_gt d_421_19
theorem d_421_20 : List.drop 20 xm_c421 = xm_c421_20 := xm_dr d_421_19
theorem k_421_20 : xm_gi xm_c421 20 = some xm_e421_20 := xm_gt d_421_20
theorem d_421_21 : List.drop 21 xm_c421 = xm_c421_21 := xm_dr d_421_20
theorem k_421_21 : xm_gi xm_c421 21 = some xm_e421_21 := xm_gt d_421_21
theorem d_421_22 : List.drop 22 xm_c421 = xm_c421_22 := xm_dr d_421_21
theorem k_421_22 : xm_gi xm_c421 22 = some xm_e421_22 := xm_gt d_421_22
theorem d_421_23 : List.drop 23 xm_c421 = xm_c421_23 := xm_dr d_421_22
theorem k_421_23 : xm_gi xm_c421 23 = some xm_e421_23 := xm_gt d_421_23
theorem d_421_24 : List.drop 24 xm_c421 = xm_c421_24 := xm_dr d_421_23
theorem k_421_24 : xm_gi xm_c421 24 = some xm_e421_24 := xm_gt d_421_24
theorem d_421_25 : List.drop 25 xm_c421 = xm_c421_25 := xm_dr d_421_24
theorem k_421_25 : xm_gi xm_c421 25 = some xm_e421_25 := xm_gt d_421_25
theorem d_421_26 : List.drop 26 xm_c421 = xm_c421_26 := xm_dr d_421_25
theorem k_421_26 : xm_gi xm_c421 26 = some xm_e421_26 := xm_gt d_421_26
theorem d_421_27 : List.drop 27 xm_c421 = xm_c421_27 := xm_dr d_421_26
theorem k_421_27 : xm_gi xm_c421 27 = some xm_e421_27 := xm_gt d_421_27
theorem d_421_28 : List.drop 28 xm_c421 = xm_c421_28 := xm_dr d_421_27
theorem k_421_28 : xm_gi xm_c421 28 = some xm_e421_28 := xm_gt d_421_28
theorem d_421_29 : List.drop 29 xm_c421 = xm_c421_29 := xm_dr d_421_28
theorem k_421_29 : xm_gi xm_c421 29 = some xm_e421_29 := xm_gt d_421_29
theorem d_421_30 : List.drop 30 xm_c421 = xm_c421_30 := xm_dr d_421_29
theorem k_421_30 : xm_gi xm_c421 30 = some xm_e421_30 := xm_gt d_421_30
theorem d_421_31 : List.drop 31 xm_c421 = xm_c421_31 := xm_dr d_421_30
theorem k_421_31 : xm_gi xm_c421 31 = some xm_e421_31 := xm_gt d_421_31
theorem d_421_32 : List.drop 32 xm_c421 = xm_c421_32 := xm_dr d_421_31
theorem k_421_32 : xm_gi xm_c421 32 = some xm_e421_32 := xm_gt d_421_32
theorem d_421_33 : List.drop 33 xm_c421 = xm_c421_33 := xm_dr d_421_32
theorem k_421_33 : xm_gi xm_c421 33 = some xm_e421_33 := xm_gt d_421_33
theorem d_421_34 : List.drop 34 xm_c421 = xm_c421_34 := xm_dr d_421_33
theorem k_421_34 : xm_gi xm_c421 34 = some xm_e421_34 := xm_gt d_421_34
theorem d_421_35 : List.drop 35 xm_c421 = xm_c421_35 := xm_dr d_421_34
theorem k_421_35 : xm_gi xm_c421 35 = some xm_e421_35 := xm_gt d_421_35
theorem d_421_36 : List.drop 36 xm_c421 = xm_c421_36 := xm_dr d_421_35
theorem k_421_36 : xm_gi xm_c421 36 = some xm_e421_36 := xm_gt d_421_36
theorem d_421_37 : List.drop 37 xm_c421 = xm_c421_37 := xm_dr d_421_36
theorem k_421_37 : xm_gi xm_c421 37 = some xm_e421_37 := xm_gt d_421_37
theorem d_421_38 : List.drop 38 xm_c421 = xm_c421_38 := xm_dr d_421_37
theorem k_421_38 : xm_gi xm_c421 38 = some xm_e421_38 := xm_gt d_421_38
theorem d_421_39 : List.drop 39 xm_c421 = xm_c421_39 := xm_dr d_421_38
theorem k_421_39 : xm_gi xm_c421 39 = some xm_e421_39 := xm_gt d_421_39
theorem xb_421_0 {sc : List Int} {f : Nat → List xm_V → xm_W → xm_R} {w : xm_W} {Q : Option xm_V × xm_W → Prop} {x0 : Nat} {x1 : Int} {x2 : Int} {x3 : Int} {x4 : Int} {x5 : Int}
  (h : xm_O (xm_fr (xm_old sc) w x0 2 5) (fun r1 => xm_O (xm_ints (xm_old sc) w r1) (fun l2 => xm_O (xm_at l2 (xm_w ((xm_w (x1 * 5)) + 0))) (fun z3 => if (z3 : Int) = x2 then (xm_O (xm_fr (xm_old sc) w x0 2 5) (fun r4 => xm_O (xm_ints (xm_old sc) w r4) (fun l5 => xm_O (xm_at l5 (xm_w ((xm_w (x1 * 5)) + 1))) (fun z6 => if (z6 : Int) = x3 then (xm_O (xm_fr (xm_old sc) w x0 2 5) (fun r7 => xm_O (xm_ints (xm_old sc) w r7) (fun l8 => xm_O (xm_at l8 (xm_w ((xm_w (x1 * 5)) + 2))) (fun z9 => if (z9 : Int) = x4 then (xm_O (xm_fr (xm_old sc) w x0 2 5) (fun r10 => xm_O (xm_ints (xm_old sc) w r10) (fun l11 => xm_O (xm_at l11 (xm_w ((xm_w (x1 * 5)) + 3))) (fun z12 => if (z12 : Int) = x5 then (Q (some (.inl 1), w)) else (Q (some (.inl 0), w)))))) else (Q (some (.inl 0), w)))))) else (Q (some (.inl 0), w)))))) else (Q (some (.inl 0), w)))))) :
  xm_EQ (xm_old sc) xm_sta f xm_c421 0 [some (.inr (.inl (some x0))), some (.inl x1), some (.inl x2), some (.inl x3), some (.inl x4), some (.inl x5), none] [] w Q :=
  (xq_iload_n k_421_0 rfl (xq_iconst k_421_1 (xq_imul k_421_2 (xq_istore k_421_3 rfl (xq_aload_n k_421_4 rfl (xq_getr k_421_5 rfl h (fun r1 h => (xq_iload k_421_6 rfl (xq_iconst k_421_7 (xq_iadd k_421_8 (xq_iaload k_421_9 h (fun l2 h => h) (fun l2 z3 h => (xq_iload_n k_421_10 rfl (xq_ic_ne k_421_11 h (fun h => (xq_aload_n k_421_12 rfl (xq_getr k_421_13 rfl h (fun r4 h => (xq_iload k_421_14 rfl (xq_iconst k_421_15 (xq_iadd k_421_16 (xq_iaload k_421_17 h (fun l5 h => h) (fun l5 z6 h => (xq_iload_n k_421_18 rfl (xq_ic_ne k_421_19 h (fun h => (xq_aload_n k_421_20 rfl (xq_getr k_421_21 rfl h (fun r7 h => (xq_iload k_421_22 rfl (xq_iconst k_421_23 (xq_iadd k_421_24 (xq_iaload k_421_25 h (fun l8 h => h) (fun l8 z9 h => (xq_iload k_421_26 rfl (xq_ic_ne k_421_27 h (fun h => (xq_aload_n k_421_28 rfl (xq_getr k_421_29 rfl h (fun r10 h => (xq_iload k_421_30 rfl (xq_iconst k_421_31 (xq_iadd k_421_32 (xq_iaload k_421_33 h (fun l11 h => h) (fun l11 z12 h => (xq_iload k_421_34 rfl (xq_ic_ne k_421_35 h (fun h => (xq_iconst k_421_36 (xq_goto k_421_37 (xq_ireturn k_421_39 h)))) (fun h => (xq_iconst k_421_38 (xq_ireturn k_421_39 h)))))))))))))) (fun h => (xq_iconst k_421_38 (xq_ireturn k_421_39 h)))))))))))))) (fun h => (xq_iconst k_421_38 (xq_ireturn k_421_39 h)))))))))))))) (fun h => (xq_iconst k_421_38 (xq_ireturn k_421_39 h)))))))))))))))))
